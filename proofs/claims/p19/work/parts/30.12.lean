theorem dX9_measureFrom_0 : decode cX9_measureFrom 0 = .ok (.iload_n 1, 1) := by decide +kernel
theorem dX9_measureFrom_1 : decode cX9_measureFrom 1 = .ok (.bipush 10, 2) := by decide +kernel
theorem dX9_measureFrom_100 : decode cX9_measureFrom 100 = .ok (.istore 6, 2) := by decide +kernel
theorem dX9_measureFrom_102 : decode cX9_measureFrom 102 = .ok (.iinc 7 1, 3) := by decide +kernel
theorem dX9_measureFrom_105 : decode cX9_measureFrom 105 = .ok (.goto (-45), 3) := by decide +kernel
theorem dX9_measureFrom_108 : decode cX9_measureFrom 108 = .ok (.iload_n 3, 1) := by decide +kernel
theorem dX9_measureFrom_109 : decode cX9_measureFrom 109 = .ok (.iload 4, 2) := by decide +kernel
theorem dX9_measureFrom_111 : decode cX9_measureFrom 111 = .ok (.ior, 1) := by decide +kernel
theorem dX9_measureFrom_112 : decode cX9_measureFrom 112 = .ok (.istore_n 3, 1) := by decide +kernel
theorem dX9_measureFrom_113 : decode cX9_measureFrom 113 = .ok (.iload 6, 2) := by decide +kernel
theorem dX9_measureFrom_115 : decode cX9_measureFrom 115 = .ok (.iload_n 3, 1) := by decide +kernel
theorem dX9_measureFrom_116 : decode cX9_measureFrom 116 = .ok (.iconst (-1), 1) := by decide +kernel
theorem dX9_measureFrom_117 : decode cX9_measureFrom 117 = .ok (.ixor, 1) := by decide +kernel
theorem dX9_measureFrom_118 : decode cX9_measureFrom 118 = .ok (.iand, 1) := by decide +kernel
theorem dX9_measureFrom_119 : decode cX9_measureFrom 119 = .ok (.istore 4, 2) := by decide +kernel
theorem dX9_measureFrom_12 : decode cX9_measureFrom 12 = .ok (.if_icmp .ge 18, 3) := by decide +kernel
theorem dX9_measureFrom_121 : decode cX9_measureFrom 121 = .ok (.iinc 5 1, 3) := by decide +kernel
theorem dX9_measureFrom_124 : decode cX9_measureFrom 124 = .ok (.goto (-84), 3) := by decide +kernel
theorem dX9_measureFrom_127 : decode cX9_measureFrom 127 = .ok (.return_, 1) := by decide +kernel
theorem dX9_measureFrom_15 : decode cX9_measureFrom 15 = .ok (.aload_n 0, 1) := by decide +kernel
theorem dX9_measureFrom_16 : decode cX9_measureFrom 16 = .ok (.getfield 18, 3) := by decide +kernel
theorem dX9_measureFrom_19 : decode cX9_measureFrom 19 = .ok (.iload_n 2, 1) := by decide +kernel
theorem dX9_measureFrom_20 : decode cX9_measureFrom 20 = .ok (.iload_n 3, 1) := by decide +kernel
theorem dX9_measureFrom_21 : decode cX9_measureFrom 21 = .ok (.iadd, 1) := by decide +kernel
theorem dX9_measureFrom_22 : decode cX9_measureFrom 22 = .ok (.iconst (-1), 1) := by decide +kernel
theorem dX9_measureFrom_23 : decode cX9_measureFrom 23 = .ok (.iastore, 1) := by decide +kernel
theorem dX9_measureFrom_24 : decode cX9_measureFrom 24 = .ok (.iinc 3 1, 3) := by decide +kernel
theorem dX9_measureFrom_27 : decode cX9_measureFrom 27 = .ok (.goto (-20), 3) := by decide +kernel
theorem dX9_measureFrom_3 : decode cX9_measureFrom 3 = .ok (.imul, 1) := by decide +kernel
theorem dX9_measureFrom_30 : decode cX9_measureFrom 30 = .ok (.iconst 0, 1) := by decide +kernel
theorem dX9_measureFrom_31 : decode cX9_measureFrom 31 = .ok (.istore_n 3, 1) := by decide +kernel
theorem dX9_measureFrom_32 : decode cX9_measureFrom 32 = .ok (.iconst 1, 1) := by decide +kernel
theorem dX9_measureFrom_33 : decode cX9_measureFrom 33 = .ok (.iload_n 1, 1) := by decide +kernel
theorem dX9_measureFrom_34 : decode cX9_measureFrom 34 = .ok (.ishl, 1) := by decide +kernel
theorem dX9_measureFrom_35 : decode cX9_measureFrom 35 = .ok (.istore 4, 2) := by decide +kernel
theorem dX9_measureFrom_37 : decode cX9_measureFrom 37 = .ok (.iconst 0, 1) := by decide +kernel
theorem dX9_measureFrom_38 : decode cX9_measureFrom 38 = .ok (.istore 5, 2) := by decide +kernel
theorem dX9_measureFrom_4 : decode cX9_measureFrom 4 = .ok (.istore_n 2, 1) := by decide +kernel
theorem dX9_measureFrom_40 : decode cX9_measureFrom 40 = .ok (.iload 5, 2) := by decide +kernel
theorem dX9_measureFrom_42 : decode cX9_measureFrom 42 = .ok (.aload_n 0, 1) := by decide +kernel
theorem dX9_measureFrom_43 : decode cX9_measureFrom 43 = .ok (.getfield 56, 3) := by decide +kernel
theorem dX9_measureFrom_46 : decode cX9_measureFrom 46 = .ok (.if_icmp .ge 81, 3) := by decide +kernel
theorem dX9_measureFrom_49 : decode cX9_measureFrom 49 = .ok (.iload 4, 2) := by decide +kernel
theorem dX9_measureFrom_5 : decode cX9_measureFrom 5 = .ok (.iconst 0, 1) := by decide +kernel
theorem dX9_measureFrom_51 : decode cX9_measureFrom 51 = .ok (.ifCond .eq 76, 3) := by decide +kernel
theorem dX9_measureFrom_54 : decode cX9_measureFrom 54 = .ok (.iconst 0, 1) := by decide +kernel
theorem dX9_measureFrom_55 : decode cX9_measureFrom 55 = .ok (.istore 6, 2) := by decide +kernel
theorem dX9_measureFrom_57 : decode cX9_measureFrom 57 = .ok (.iconst 0, 1) := by decide +kernel
theorem dX9_measureFrom_58 : decode cX9_measureFrom 58 = .ok (.istore 7, 2) := by decide +kernel
theorem dX9_measureFrom_6 : decode cX9_measureFrom 6 = .ok (.istore_n 3, 1) := by decide +kernel
theorem dX9_measureFrom_60 : decode cX9_measureFrom 60 = .ok (.iload 7, 2) := by decide +kernel
theorem dX9_measureFrom_62 : decode cX9_measureFrom 62 = .ok (.aload_n 0, 1) := by decide +kernel
theorem dX9_measureFrom_63 : decode cX9_measureFrom 63 = .ok (.getfield 56, 3) := by decide +kernel
theorem dX9_measureFrom_66 : decode cX9_measureFrom 66 = .ok (.if_icmp .ge 42, 3) := by decide +kernel
theorem dX9_measureFrom_69 : decode cX9_measureFrom 69 = .ok (.iload 4, 2) := by decide +kernel
theorem dX9_measureFrom_7 : decode cX9_measureFrom 7 = .ok (.iload_n 3, 1) := by decide +kernel
theorem dX9_measureFrom_71 : decode cX9_measureFrom 71 = .ok (.iload 7, 2) := by decide +kernel
theorem dX9_measureFrom_73 : decode cX9_measureFrom 73 = .ok (.invokestatic 97, 3) := by decide +kernel
theorem dX9_measureFrom_76 : decode cX9_measureFrom 76 = .ok (.ifCond .eq 26, 3) := by decide +kernel
theorem dX9_measureFrom_79 : decode cX9_measureFrom 79 = .ok (.aload_n 0, 1) := by decide +kernel
theorem dX9_measureFrom_8 : decode cX9_measureFrom 8 = .ok (.aload_n 0, 1) := by decide +kernel
theorem dX9_measureFrom_80 : decode cX9_measureFrom 80 = .ok (.getfield 18, 3) := by decide +kernel
theorem dX9_measureFrom_83 : decode cX9_measureFrom 83 = .ok (.iload_n 2, 1) := by decide +kernel
theorem dX9_measureFrom_84 : decode cX9_measureFrom 84 = .ok (.iload 7, 2) := by decide +kernel
theorem dX9_measureFrom_86 : decode cX9_measureFrom 86 = .ok (.iadd, 1) := by decide +kernel
theorem dX9_measureFrom_87 : decode cX9_measureFrom 87 = .ok (.iload 5, 2) := by decide +kernel
theorem dX9_measureFrom_89 : decode cX9_measureFrom 89 = .ok (.iastore, 1) := by decide +kernel
theorem dX9_measureFrom_9 : decode cX9_measureFrom 9 = .ok (.getfield 56, 3) := by decide +kernel
theorem dX9_measureFrom_90 : decode cX9_measureFrom 90 = .ok (.iload 6, 2) := by decide +kernel
theorem dX9_measureFrom_92 : decode cX9_measureFrom 92 = .ok (.aload_n 0, 1) := by decide +kernel
theorem dX9_measureFrom_93 : decode cX9_measureFrom 93 = .ok (.getfield 9, 3) := by decide +kernel
theorem dX9_measureFrom_96 : decode cX9_measureFrom 96 = .ok (.iload 7, 2) := by decide +kernel
theorem dX9_measureFrom_98 : decode cX9_measureFrom 98 = .ok (.iaload, 1) := by decide +kernel
theorem dX9_measureFrom_99 : decode cX9_measureFrom 99 = .ok (.ior, 1) := by decide +kernel
theorem dX9_settle_0 : decode cX9_settle 0 = .ok (.iconst 0, 1) := by decide +kernel
theorem dX9_settle_1 : decode cX9_settle 1 = .ok (.istore_n 1, 1) := by decide +kernel
theorem dX9_settle_10 : decode cX9_settle 10 = .ok (.aload_n 0, 1) := by decide +kernel
theorem dX9_settle_11 : decode cX9_settle 11 = .ok (.iload_n 1, 1) := by decide +kernel
theorem dX9_settle_12 : decode cX9_settle 12 = .ok (.invokevirtual 105, 3) := by decide +kernel
theorem dX9_settle_15 : decode cX9_settle 15 = .ok (.iinc 1 1, 3) := by decide +kernel
theorem dX9_settle_18 : decode cX9_settle 18 = .ok (.goto (-16), 3) := by decide +kernel
theorem dX9_settle_2 : decode cX9_settle 2 = .ok (.iload_n 1, 1) := by decide +kernel
theorem dX9_settle_21 : decode cX9_settle 21 = .ok (.iconst 0, 1) := by decide +kernel
theorem dX9_settle_22 : decode cX9_settle 22 = .ok (.istore_n 1, 1) := by decide +kernel
theorem dX9_settle_23 : decode cX9_settle 23 = .ok (.iload_n 1, 1) := by decide +kernel
theorem dX9_settle_24 : decode cX9_settle 24 = .ok (.aload_n 0, 1) := by decide +kernel
theorem dX9_settle_25 : decode cX9_settle 25 = .ok (.getfield 65, 3) := by decide +kernel
theorem dX9_settle_28 : decode cX9_settle 28 = .ok (.if_icmp .ge 64, 3) := by decide +kernel
theorem dX9_settle_3 : decode cX9_settle 3 = .ok (.aload_n 0, 1) := by decide +kernel
theorem dX9_settle_31 : decode cX9_settle 31 = .ok (.iload_n 1, 1) := by decide +kernel
theorem dX9_settle_32 : decode cX9_settle 32 = .ok (.istore_n 2, 1) := by decide +kernel
theorem dX9_settle_33 : decode cX9_settle 33 = .ok (.iload_n 2, 1) := by decide +kernel
theorem dX9_settle_34 : decode cX9_settle 34 = .ok (.ifCond .le 45, 3) := by decide +kernel
theorem dX9_settle_37 : decode cX9_settle 37 = .ok (.aload_n 0, 1) := by decide +kernel
theorem dX9_settle_38 : decode cX9_settle 38 = .ok (.getfield 33, 3) := by decide +kernel
theorem dX9_settle_4 : decode cX9_settle 4 = .ok (.getfield 56, 3) := by decide +kernel
theorem dX9_settle_41 : decode cX9_settle 41 = .ok (.aload_n 0, 1) := by decide +kernel
theorem dX9_settle_42 : decode cX9_settle 42 = .ok (.getfield 42, 3) := by decide +kernel
theorem dX9_settle_45 : decode cX9_settle 45 = .ok (.iload_n 2, 1) := by decide +kernel
theorem dX9_settle_46 : decode cX9_settle 46 = .ok (.iconst 1, 1) := by decide +kernel
theorem dX9_settle_47 : decode cX9_settle 47 = .ok (.isub, 1) := by decide +kernel
theorem dX9_settle_48 : decode cX9_settle 48 = .ok (.iaload, 1) := by decide +kernel
theorem dX9_settle_49 : decode cX9_settle 49 = .ok (.iaload, 1) := by decide +kernel
theorem dX9_settle_50 : decode cX9_settle 50 = .ok (.aload_n 0, 1) := by decide +kernel
theorem dX9_settle_51 : decode cX9_settle 51 = .ok (.getfield 33, 3) := by decide +kernel
theorem dX9_settle_54 : decode cX9_settle 54 = .ok (.iload_n 1, 1) := by decide +kernel
theorem dX9_settle_55 : decode cX9_settle 55 = .ok (.iaload, 1) := by decide +kernel
theorem dX9_settle_56 : decode cX9_settle 56 = .ok (.if_icmp .le 23, 3) := by decide +kernel
theorem dX9_settle_59 : decode cX9_settle 59 = .ok (.aload_n 0, 1) := by decide +kernel
theorem dX9_settle_60 : decode cX9_settle 60 = .ok (.getfield 42, 3) := by decide +kernel
theorem dX9_settle_63 : decode cX9_settle 63 = .ok (.iload_n 2, 1) := by decide +kernel
theorem dX9_settle_64 : decode cX9_settle 64 = .ok (.aload_n 0, 1) := by decide +kernel
theorem dX9_settle_65 : decode cX9_settle 65 = .ok (.getfield 42, 3) := by decide +kernel
theorem dX9_settle_68 : decode cX9_settle 68 = .ok (.iload_n 2, 1) := by decide +kernel
theorem dX9_settle_69 : decode cX9_settle 69 = .ok (.iconst 1, 1) := by decide +kernel
theorem dX9_settle_7 : decode cX9_settle 7 = .ok (.if_icmp .ge 14, 3) := by decide +kernel
theorem dX9_settle_70 : decode cX9_settle 70 = .ok (.isub, 1) := by decide +kernel
theorem dX9_settle_71 : decode cX9_settle 71 = .ok (.iaload, 1) := by decide +kernel
theorem dX9_settle_72 : decode cX9_settle 72 = .ok (.iastore, 1) := by decide +kernel
theorem dX9_settle_73 : decode cX9_settle 73 = .ok (.iinc 2 (-1), 3) := by decide +kernel
theorem dX9_settle_76 : decode cX9_settle 76 = .ok (.goto (-43), 3) := by decide +kernel
theorem dX9_settle_79 : decode cX9_settle 79 = .ok (.aload_n 0, 1) := by decide +kernel
theorem dX9_settle_80 : decode cX9_settle 80 = .ok (.getfield 42, 3) := by decide +kernel
theorem dX9_settle_83 : decode cX9_settle 83 = .ok (.iload_n 2, 1) := by decide +kernel
theorem dX9_settle_84 : decode cX9_settle 84 = .ok (.iload_n 1, 1) := by decide +kernel
theorem dX9_settle_85 : decode cX9_settle 85 = .ok (.iastore, 1) := by decide +kernel
theorem dX9_settle_86 : decode cX9_settle 86 = .ok (.iinc 1 1, 3) := by decide +kernel
theorem dX9_settle_89 : decode cX9_settle 89 = .ok (.goto (-66), 3) := by decide +kernel
theorem dX9_settle_92 : decode cX9_settle 92 = .ok (.return_, 1) := by decide +kernel
set_option maxRecDepth 4000 in
theorem k_X9_copy_26_9 (l : Launch) (M : Mem) (hJ : Iw M) : CV l yX9_copy cX9_copy 2 none 1 (fun ad => [.ref (ad 26), .ref (ad 9)]) M (fun M' => Fr [9] M M' ∧ (∀ j : Nat, j < 8 → M' 9 j = M 26 j)) := by
  obtain ⟨hI, hW⟩ := hJ
  have hF : Fr [9] M M := Fr.rf
  refine en_v (by decide +kernel) (fun ad => by exact Nat.le_of_ble_eq_true rfl) (fun D cy ad A p e s m args below meth c Q F hret => ?_)
  refine z_eq (ls' := [(0, .ref (ad 26)), (1, .ref (ad 9))]) rfl rfl rfl ?_
  refine z_aload_n F dX9_copy_0 rfl (q := 0) rfl ?_
  refine z_iconst F dX9_copy_1 ?_
  refine z_aload_n F dX9_copy_2 rfl (q := 1) rfl ?_
  refine z_iconst F dX9_copy_3 ?_
  refine z_aload_n F dX9_copy_4 rfl (q := 0) rfl ?_
  refine z_alen (x := 8) F gs_26 rfl rfl dX9_copy_5 ?_
  refine z_aload_n F dX9_copy_6 rfl (q := 1) rfl ?_
  refine z_alen (x := 8) F gs_9 rfl rfl dX9_copy_7 ?_
  refine z_min F mm_X9_85 (Nat.le_of_ble_eq_true rfl) dX9_copy_8 (by omega) (by omega) (fun v1 ev1 => ?_)
  refine z_copyE F (by decide) ac_X9_91 hI gs_26 gs_9 (by omega) (by omega) (by omega) (by omega) (by omega) (by decide) (by decide) (fun i hi => rfl) (Nat.le_of_ble_eq_true rfl) dX9_copy_11 (fun M3 hI g2 kg2 => ?_)
  have hF := hF.call g2 (by decide)
  have hW : WFk M3 := hW.fr g2 (by decide) (by decide)
  exact hret _ 14 _ ⟨hI, hW⟩ ⟨hF, (cp_at (f := M3 9) (g := M 26) (h := M 9) 8 kg2 (by omega))⟩ dX9_copy_14
set_option maxRecDepth 4000 in
theorem k_X9_copy_27_10 (l : Launch) (M : Mem) (hJ : Iw M) : CV l yX9_copy cX9_copy 2 none 1 (fun ad => [.ref (ad 27), .ref (ad 10)]) M (fun M' => Fr [10] M M' ∧ (∀ j : Nat, j < 6 → M' 10 j = M 27 j)) := by
  obtain ⟨hI, hW⟩ := hJ
  have hF : Fr [10] M M := Fr.rf
  refine en_v (by decide +kernel) (fun ad => by exact Nat.le_of_ble_eq_true rfl) (fun D cy ad A p e s m args below meth c Q F hret => ?_)
  refine z_eq (ls' := [(0, .ref (ad 27)), (1, .ref (ad 10))]) rfl rfl rfl ?_
  refine z_aload_n F dX9_copy_0 rfl (q := 0) rfl ?_
  refine z_iconst F dX9_copy_1 ?_
  refine z_aload_n F dX9_copy_2 rfl (q := 1) rfl ?_
  refine z_iconst F dX9_copy_3 ?_
  refine z_aload_n F dX9_copy_4 rfl (q := 0) rfl ?_
  refine z_alen (x := 6) F gs_27 rfl rfl dX9_copy_5 ?_
  refine z_aload_n F dX9_copy_6 rfl (q := 1) rfl ?_
  refine z_alen (x := 6) F gs_10 rfl rfl dX9_copy_7 ?_
  refine z_min F mm_X9_85 (Nat.le_of_ble_eq_true rfl) dX9_copy_8 (by omega) (by omega) (fun v1 ev1 => ?_)
  refine z_copyE F (by decide) ac_X9_91 hI gs_27 gs_10 (by omega) (by omega) (by omega) (by omega) (by omega) (by decide) (by decide) (fun i hi => rfl) (Nat.le_of_ble_eq_true rfl) dX9_copy_11 (fun M3 hI g2 kg2 => ?_)
  have hF := hF.call g2 (by decide)
  have hW : WFk M3 := hW.fr g2 (by decide) (by decide)
  exact hret _ 14 _ ⟨hI, hW⟩ ⟨hF, (cp_at (f := M3 10) (g := M 27) (h := M 10) 6 kg2 (by omega))⟩ dX9_copy_14
set_option maxRecDepth 4000 in
theorem k_X9_copy_28_11 (l : Launch) (M : Mem) (hJ : Iw M) : CV l yX9_copy cX9_copy 2 none 1 (fun ad => [.ref (ad 28), .ref (ad 11)]) M (fun M' => Fr [11] M M' ∧ (∀ j : Nat, j < 6 → M' 11 j = M 28 j)) := by
  obtain ⟨hI, hW⟩ := hJ
  have hF : Fr [11] M M := Fr.rf
  refine en_v (by decide +kernel) (fun ad => by exact Nat.le_of_ble_eq_true rfl) (fun D cy ad A p e s m args below meth c Q F hret => ?_)
  refine z_eq (ls' := [(0, .ref (ad 28)), (1, .ref (ad 11))]) rfl rfl rfl ?_
  refine z_aload_n F dX9_copy_0 rfl (q := 0) rfl ?_
  refine z_iconst F dX9_copy_1 ?_
  refine z_aload_n F dX9_copy_2 rfl (q := 1) rfl ?_
  refine z_iconst F dX9_copy_3 ?_
  refine z_aload_n F dX9_copy_4 rfl (q := 0) rfl ?_
  refine z_alen (x := 6) F gs_28 rfl rfl dX9_copy_5 ?_
  refine z_aload_n F dX9_copy_6 rfl (q := 1) rfl ?_
  refine z_alen (x := 6) F gs_11 rfl rfl dX9_copy_7 ?_
  refine z_min F mm_X9_85 (Nat.le_of_ble_eq_true rfl) dX9_copy_8 (by omega) (by omega) (fun v1 ev1 => ?_)
  refine z_copyE F (by decide) ac_X9_91 hI gs_28 gs_11 (by omega) (by omega) (by omega) (by omega) (by omega) (by decide) (by decide) (fun i hi => rfl) (Nat.le_of_ble_eq_true rfl) dX9_copy_11 (fun M3 hI g2 kg2 => ?_)
  have hF := hF.call g2 (by decide)
  have hW : WFk M3 := hW.fr g2 (by decide) (by decide)
  exact hret _ 14 _ ⟨hI, hW⟩ ⟨hF, (cp_at (f := M3 11) (g := M 28) (h := M 11) 6 kg2 (by omega))⟩ dX9_copy_14
set_option maxRecDepth 4000 in
theorem k_X9_copy_29_12 (l : Launch) (M : Mem) (hJ : Iw M) : CV l yX9_copy cX9_copy 2 none 1 (fun ad => [.ref (ad 29), .ref (ad 12)]) M (fun M' => Fr [12] M M' ∧ (∀ j : Nat, j < 6 → M' 12 j = M 29 j)) := by
  obtain ⟨hI, hW⟩ := hJ
  have hF : Fr [12] M M := Fr.rf
  refine en_v (by decide +kernel) (fun ad => by exact Nat.le_of_ble_eq_true rfl) (fun D cy ad A p e s m args below meth c Q F hret => ?_)
  refine z_eq (ls' := [(0, .ref (ad 29)), (1, .ref (ad 12))]) rfl rfl rfl ?_
  refine z_aload_n F dX9_copy_0 rfl (q := 0) rfl ?_
  refine z_iconst F dX9_copy_1 ?_
  refine z_aload_n F dX9_copy_2 rfl (q := 1) rfl ?_
  refine z_iconst F dX9_copy_3 ?_
  refine z_aload_n F dX9_copy_4 rfl (q := 0) rfl ?_
  refine z_alen (x := 6) F gs_29 rfl rfl dX9_copy_5 ?_
  refine z_aload_n F dX9_copy_6 rfl (q := 1) rfl ?_
  refine z_alen (x := 6) F gs_12 rfl rfl dX9_copy_7 ?_
  refine z_min F mm_X9_85 (Nat.le_of_ble_eq_true rfl) dX9_copy_8 (by omega) (by omega) (fun v1 ev1 => ?_)
  refine z_copyE F (by decide) ac_X9_91 hI gs_29 gs_12 (by omega) (by omega) (by omega) (by omega) (by omega) (by decide) (by decide) (fun i hi => rfl) (Nat.le_of_ble_eq_true rfl) dX9_copy_11 (fun M3 hI g2 kg2 => ?_)
  have hF := hF.call g2 (by decide)
  have hW : WFk M3 := hW.fr g2 (by decide) (by decide)
  exact hret _ 14 _ ⟨hI, hW⟩ ⟨hF, (cp_at (f := M3 12) (g := M 29) (h := M 12) 6 kg2 (by omega))⟩ dX9_copy_14
set_option maxRecDepth 4000 in
theorem k_X9_copy_30_13 (l : Launch) (M : Mem) (hJ : Iw M) : CV l yX9_copy cX9_copy 2 none 1 (fun ad => [.ref (ad 30), .ref (ad 13)]) M (fun M' => Fr [13] M M' ∧ (∀ j : Nat, j < 6 → M' 13 j = M 30 j)) := by
  obtain ⟨hI, hW⟩ := hJ
  have hF : Fr [13] M M := Fr.rf
  refine en_v (by decide +kernel) (fun ad => by exact Nat.le_of_ble_eq_true rfl) (fun D cy ad A p e s m args below meth c Q F hret => ?_)
  refine z_eq (ls' := [(0, .ref (ad 30)), (1, .ref (ad 13))]) rfl rfl rfl ?_
  refine z_aload_n F dX9_copy_0 rfl (q := 0) rfl ?_
  refine z_iconst F dX9_copy_1 ?_
  refine z_aload_n F dX9_copy_2 rfl (q := 1) rfl ?_
  refine z_iconst F dX9_copy_3 ?_
  refine z_aload_n F dX9_copy_4 rfl (q := 0) rfl ?_
  refine z_alen (x := 6) F gs_30 rfl rfl dX9_copy_5 ?_
  refine z_aload_n F dX9_copy_6 rfl (q := 1) rfl ?_
  refine z_alen (x := 6) F gs_13 rfl rfl dX9_copy_7 ?_
  refine z_min F mm_X9_85 (Nat.le_of_ble_eq_true rfl) dX9_copy_8 (by omega) (by omega) (fun v1 ev1 => ?_)
  refine z_copyE F (by decide) ac_X9_91 hI gs_30 gs_13 (by omega) (by omega) (by omega) (by omega) (by omega) (by decide) (by decide) (fun i hi => rfl) (Nat.le_of_ble_eq_true rfl) dX9_copy_11 (fun M3 hI g2 kg2 => ?_)
  have hF := hF.call g2 (by decide)
  have hW : WFk M3 := hW.fr g2 (by decide) (by decide)
  exact hret _ 14 _ ⟨hI, hW⟩ ⟨hF, (cp_at (f := M3 13) (g := M 30) (h := M 13) 6 kg2 (by omega))⟩ dX9_copy_14
set_option maxRecDepth 4000 in
theorem k_X2_copyFrom_14_31 (l : Launch) (M : Mem) (hJ : Iw M) : CV l yX2_copyFrom cX2_copyFrom 2 none 1 (fun ad => [.ref (ad 14), .ref (ad 31)]) M (fun M' => Fr [14, 15] M M') := by
  obtain ⟨hI, hW⟩ := hJ
  have hF : Fr [14, 15] M M := Fr.rf
  refine en_v (by decide +kernel) (fun ad => by exact Nat.le_of_ble_eq_true rfl) (fun D cy ad A p e s m args below meth c Q F hret => ?_)
  refine z_eq (ls' := [(0, .ref (ad 14)), (1, .ref (ad 31))]) rfl rfl rfl ?_
  refine z_aload_n F dX2_copyFrom_0 rfl (q := 0) rfl ?_
  refine z_aload_n F dX2_copyFrom_1 rfl (q := 1) rfl ?_
  refine gf_X2_15 F hI gs_31 rfl bd_31_2 dX2_copyFrom_2 (fun v1 ev1 av1 bv1 => ?_)
  refine pf_X2_15 F hI gs_14 rfl bd_14_2 rfl rfl dX2_copyFrom_5 (by omega) (by omega) (fun M3 hI sf2 f2 => ?_)
  have hF := hF.wr f2 (by decide) (by decide)
  have hW : WFk M3 := hW.site f2 (by decide)
  refine z_aload_n F dX2_copyFrom_8 rfl (q := 0) rfl ?_
  refine z_aload_n F dX2_copyFrom_9 rfl (q := 1) rfl ?_
  refine gf_X2_25 F hI gs_31 rfl bd_31_1 dX2_copyFrom_10 (fun v4 ev4 av4 bv4 => ?_)
  refine pf_X2_25 F hI gs_14 rfl bd_14_1 rfl rfl dX2_copyFrom_13 (by omega) (by omega) (fun M6 hI sf5 f5 => ?_)
  have hF := hF.wr f5 (by decide) (by decide)
  have hW : WFk M6 := hW.site f5 (by decide)
  refine z_aload_n F dX2_copyFrom_16 rfl (q := 1) rfl ?_
  refine rf_X2_9 F gs_31 rfl dX2_copyFrom_17 ?_
  refine z_iconst F dX2_copyFrom_20 ?_
  refine z_aload_n F dX2_copyFrom_21 rfl (q := 0) rfl ?_
  refine rf_X2_9 F gs_14 rfl dX2_copyFrom_22 ?_
  refine z_iconst F dX2_copyFrom_25 ?_
  refine z_aload_n F dX2_copyFrom_26 rfl (q := 1) rfl ?_
  refine gf_X2_25 F hI gs_31 rfl bd_31_1 dX2_copyFrom_27 (fun v7 ev7 av7 bv7 => ?_)
  have q8 : v4 = M6 31 1 := ev4.trans (f5 31 1 (fun q => absurd q.1 (by decide))).symm
  have zv7 : v4 = v7 := q8.trans ev7.symm
  subst zv7
  refine z_copy F (by decide) ac_X2_28 hI gs_32 gs_15 (by omega) (by omega) (by omega) (by omega) (by omega) (by decide) (by decide) (fun i hi => rfl) (Nat.le_of_ble_eq_true rfl) dX2_copyFrom_30 (fun M10 hI g9 => ?_)
  have hF := hF.call g9 (by decide)
  have hW : WFk M10 := hW.fr g9 (by decide) (by decide)
  exact hret _ 33 _ ⟨hI, hW⟩ hF dX2_copyFrom_33
set_option maxRecDepth 4000 in
theorem k_X9_copyFrom_2_19 (l : Launch) (M : Mem) (hJ : Iw M) : CV l yX9_copyFrom cX9_copyFrom 2 none 2 (fun ad => [.ref (ad 2), .ref (ad 19)]) M (fun M' => Fr [2, 3, 4, 5, 6, 7, 8, 9, 10, 11, 12, 13, 14, 15] M M' ∧ (M' 2 0 = M 19 0) ∧ (Cp 19 2 M M')) := by
  obtain ⟨hI, hW⟩ := hJ
  have hF : Fr [2, 3, 4, 5, 6, 7, 8, 9, 10, 11, 12, 13, 14, 15] M M := Fr.rf
  have hI0 := hI
  have hW0 := hW
  refine en_v (by decide +kernel) (fun ad => by exact Nat.le_of_ble_eq_true rfl) (fun D cy ad A p e s m args below meth c Q F hret => ?_)
  refine z_eq (ls' := [(0, .ref (ad 2)), (1, .ref (ad 19))]) rfl rfl rfl ?_
  refine z_aload_n F dX9_copyFrom_0 rfl (q := 0) rfl ?_
  refine z_aload_n F dX9_copyFrom_1 rfl (q := 1) rfl ?_
  refine gf_X9_52 F hI gs_19 rfl bd_19_0 dX9_copyFrom_2 (fun v1 ev1 av1 bv1 => ?_)
  refine pf_X9_52 F hI gs_2 rfl bd_2_0 rfl rfl dX9_copyFrom_5 (by omega) (by omega) (fun M3 hI sf2 f2 => ?_)
  have hF := hF.wr f2 (by decide) (by decide)
  have hW : WFk M3 := hW.site f2 (by decide)
  refine z_aload_n F dX9_copyFrom_8 rfl (q := 0) rfl ?_
  refine z_aload_n F dX9_copyFrom_9 rfl (q := 1) rfl ?_
  refine gf_X9_56 F hI gs_19 rfl bd_19_1 dX9_copyFrom_10 (fun v4 ev4 av4 bv4 => ?_)
  refine pf_X9_56 F hI gs_2 rfl bd_2_1 rfl rfl dX9_copyFrom_13 (by omega) (by omega) (fun M6 hI sf5 f5 => ?_)
  have hF := hF.wr f5 (by decide) (by decide)
  have hW : WFk M6 := hW.site f5 (by decide)
  refine z_aload_n F dX9_copyFrom_16 rfl (q := 0) rfl ?_
  refine z_aload_n F dX9_copyFrom_17 rfl (q := 1) rfl ?_
  refine gf_X9_59 F hI gs_19 rfl bd_19_2 dX9_copyFrom_18 (fun v7 ev7 av7 bv7 => ?_)
  refine pf_X9_59 F hI gs_2 rfl bd_2_2 rfl rfl dX9_copyFrom_21 (by omega) (by omega) (fun M9 hI sf8 f8 => ?_)
  have hF := hF.wr f8 (by decide) (by decide)
  have hW : WFk M9 := hW.site f8 (by decide)
  refine z_aload_n F dX9_copyFrom_24 rfl (q := 0) rfl ?_
  refine z_aload_n F dX9_copyFrom_25 rfl (q := 1) rfl ?_
  refine gf_X9_62 F hI gs_19 rfl bd_19_3 dX9_copyFrom_26 (fun v10 ev10 av10 bv10 => ?_)
  refine pf_X9_62 F hI gs_2 rfl bd_2_3 rfl rfl dX9_copyFrom_29 (by omega) (by omega) (fun M12 hI sf11 f11 => ?_)
  have hF := hF.wr f11 (by decide) (by decide)
  have hW : WFk M12 := hW.site f11 (by decide)
  refine z_aload_n F dX9_copyFrom_32 rfl (q := 0) rfl ?_
  refine z_aload_n F dX9_copyFrom_33 rfl (q := 1) rfl ?_
  refine gf_X9_65 F hI gs_19 rfl bd_19_4 dX9_copyFrom_34 (fun v13 ev13 av13 bv13 => ?_)
  refine pf_X9_65 F hI gs_2 rfl bd_2_4 rfl rfl dX9_copyFrom_37 (by omega) (by omega) (fun M15 hI sf14 f14 => ?_)
  have hF := hF.wr f14 (by decide) (by decide)
  have hW : WFk M15 := hW.site f14 (by decide)
  refine z_aload_n F dX9_copyFrom_40 rfl (q := 0) rfl ?_
  refine z_aload_n F dX9_copyFrom_41 rfl (q := 1) rfl ?_
  refine gf_X9_68 F hI gs_19 rfl bd_19_12 dX9_copyFrom_42 (fun v16 ev16 av16 bv16 => ?_)
  refine pf_X9_68 F hI gs_2 rfl bd_2_12 rfl rfl dX9_copyFrom_45 (by omega) (by omega) (fun M18 hI sf17 f17 => ?_)
  have hF := hF.wr f17 (by decide) (by decide)
  have hW : WFk M18 := hW.site f17 (by decide)
  refine z_aload_n F dX9_copyFrom_48 rfl (q := 1) rfl ?_
  refine rf_X9_9 F gs_19 rfl dX9_copyFrom_49 ?_
  refine z_aload_n F dX9_copyFrom_52 rfl (q := 0) rfl ?_
  refine rf_X9_9 F gs_2 rfl dX9_copyFrom_53 ?_
  refine zs_v (rest := []) F (k_X9_copy_20_3 l M18 ⟨hI, hW⟩) cs_X9_77 (by decide) (by decide) rfl rfl rfl (Nat.le_of_ble_eq_true rfl) dX9_copyFrom_56 (fun M19 hI p20 => ?_)
  obtain ⟨hI, hW⟩ := hI
  obtain ⟨fp20, yp20⟩ := p20
  have hF := hF.call fp20 (by decide)
  refine z_aload_n F dX9_copyFrom_59 rfl (q := 1) rfl ?_
  refine rf_X9_15 F gs_19 rfl dX9_copyFrom_60 ?_
  refine z_aload_n F dX9_copyFrom_63 rfl (q := 0) rfl ?_
  refine rf_X9_15 F gs_2 rfl dX9_copyFrom_64 ?_
  refine zs_v (rest := []) F (k_X9_copy_21_4 l M19 ⟨hI, hW⟩) cs_X9_77 (by decide) (by decide) rfl rfl rfl (Nat.le_of_ble_eq_true rfl) dX9_copyFrom_67 (fun M21 hI p22 => ?_)
  obtain ⟨hI, hW⟩ := hI
  obtain ⟨fp22, yp22⟩ := p22
  have hF := hF.call fp22 (by decide)
  refine z_aload_n F dX9_copyFrom_70 rfl (q := 1) rfl ?_
  refine rf_X9_18 F gs_19 rfl dX9_copyFrom_71 ?_
  refine z_aload_n F dX9_copyFrom_74 rfl (q := 0) rfl ?_
  refine rf_X9_18 F gs_2 rfl dX9_copyFrom_75 ?_
  refine zs_v (rest := []) F (k_X9_copy_22_5 l M21 ⟨hI, hW⟩) cs_X9_77 (by decide) (by decide) rfl rfl rfl (Nat.le_of_ble_eq_true rfl) dX9_copyFrom_78 (fun M23 hI p24 => ?_)
  obtain ⟨hI, hW⟩ := hI
  obtain ⟨fp24, yp24⟩ := p24
  have hF := hF.call fp24 (by decide)
  refine z_aload_n F dX9_copyFrom_81 rfl (q := 1) rfl ?_
  refine rf_X9_21 F gs_19 rfl dX9_copyFrom_82 ?_
  refine z_aload_n F dX9_copyFrom_85 rfl (q := 0) rfl ?_
  refine rf_X9_21 F gs_2 rfl dX9_copyFrom_86 ?_
  refine zs_v (rest := []) F (k_X9_copy_23_6 l M23 ⟨hI, hW⟩) cs_X9_77 (by decide) (by decide) rfl rfl rfl (Nat.le_of_ble_eq_true rfl) dX9_copyFrom_89 (fun M25 hI p26 => ?_)
  obtain ⟨hI, hW⟩ := hI
  obtain ⟨fp26, yp26⟩ := p26
  have hF := hF.call fp26 (by decide)
  refine z_aload_n F dX9_copyFrom_92 rfl (q := 1) rfl ?_
  refine rf_X9_24 F gs_19 rfl dX9_copyFrom_93 ?_
  refine z_aload_n F dX9_copyFrom_96 rfl (q := 0) rfl ?_
  refine rf_X9_24 F gs_2 rfl dX9_copyFrom_97 ?_
  refine zs_v (rest := []) F (k_X9_copy_24_7 l M25 ⟨hI, hW⟩) cs_X9_77 (by decide) (by decide) rfl rfl rfl (Nat.le_of_ble_eq_true rfl) dX9_copyFrom_100 (fun M27 hI p28 => ?_)
  obtain ⟨hI, hW⟩ := hI
  obtain ⟨fp28, yp28⟩ := p28
  have hF := hF.call fp28 (by decide)
  refine z_aload_n F dX9_copyFrom_103 rfl (q := 1) rfl ?_
  refine rf_X9_27 F gs_19 rfl dX9_copyFrom_104 ?_
  refine z_aload_n F dX9_copyFrom_107 rfl (q := 0) rfl ?_
  refine rf_X9_27 F gs_2 rfl dX9_copyFrom_108 ?_
  refine zs_v (rest := []) F (k_X9_copy_25_8 l M27 ⟨hI, hW⟩) cs_X9_77 (by decide) (by decide) rfl rfl rfl (Nat.le_of_ble_eq_true rfl) dX9_copyFrom_111 (fun M29 hI p30 => ?_)
  obtain ⟨hI, hW⟩ := hI
  obtain ⟨fp30, yp30⟩ := p30
  have hF := hF.call fp30 (by decide)
  refine z_aload_n F dX9_copyFrom_114 rfl (q := 1) rfl ?_
  refine rf_X9_30 F gs_19 rfl dX9_copyFrom_115 ?_
  refine z_aload_n F dX9_copyFrom_118 rfl (q := 0) rfl ?_
  refine rf_X9_30 F gs_2 rfl dX9_copyFrom_119 ?_
  refine zs_v (rest := []) F (k_X9_copy_26_9 l M29 ⟨hI, hW⟩) cs_X9_77 (by decide) (by decide) rfl rfl rfl (Nat.le_of_ble_eq_true rfl) dX9_copyFrom_122 (fun M31 hI p32 => ?_)
  obtain ⟨hI, hW⟩ := hI
  obtain ⟨fp32, yp32⟩ := p32
  have hF := hF.call fp32 (by decide)
  refine z_aload_n F dX9_copyFrom_125 rfl (q := 1) rfl ?_
  refine rf_X9_33 F gs_19 rfl dX9_copyFrom_126 ?_
  refine z_aload_n F dX9_copyFrom_129 rfl (q := 0) rfl ?_
  refine rf_X9_33 F gs_2 rfl dX9_copyFrom_130 ?_
  refine zs_v (rest := []) F (k_X9_copy_27_10 l M31 ⟨hI, hW⟩) cs_X9_77 (by decide) (by decide) rfl rfl rfl (Nat.le_of_ble_eq_true rfl) dX9_copyFrom_133 (fun M33 hI p34 => ?_)
  obtain ⟨hI, hW⟩ := hI
  obtain ⟨fp34, yp34⟩ := p34
  have hF := hF.call fp34 (by decide)
  refine z_aload_n F dX9_copyFrom_136 rfl (q := 1) rfl ?_
  refine rf_X9_36 F gs_19 rfl dX9_copyFrom_137 ?_
  refine z_aload_n F dX9_copyFrom_140 rfl (q := 0) rfl ?_
  refine rf_X9_36 F gs_2 rfl dX9_copyFrom_141 ?_
  refine zs_v (rest := []) F (k_X9_copy_28_11 l M33 ⟨hI, hW⟩) cs_X9_77 (by decide) (by decide) rfl rfl rfl (Nat.le_of_ble_eq_true rfl) dX9_copyFrom_144 (fun M35 hI p36 => ?_)
  obtain ⟨hI, hW⟩ := hI
  obtain ⟨fp36, yp36⟩ := p36
  have hF := hF.call fp36 (by decide)
  refine z_aload_n F dX9_copyFrom_147 rfl (q := 1) rfl ?_
  refine rf_X9_39 F gs_19 rfl dX9_copyFrom_148 ?_
  refine z_aload_n F dX9_copyFrom_151 rfl (q := 0) rfl ?_
  refine rf_X9_39 F gs_2 rfl dX9_copyFrom_152 ?_
  refine zs_v (rest := []) F (k_X9_copy_29_12 l M35 ⟨hI, hW⟩) cs_X9_77 (by decide) (by decide) rfl rfl rfl (Nat.le_of_ble_eq_true rfl) dX9_copyFrom_155 (fun M37 hI p38 => ?_)
  obtain ⟨hI, hW⟩ := hI
  obtain ⟨fp38, yp38⟩ := p38
  have hF := hF.call fp38 (by decide)
  refine z_aload_n F dX9_copyFrom_158 rfl (q := 1) rfl ?_
  refine rf_X9_42 F gs_19 rfl dX9_copyFrom_159 ?_
  refine z_aload_n F dX9_copyFrom_162 rfl (q := 0) rfl ?_
  refine rf_X9_42 F gs_2 rfl dX9_copyFrom_163 ?_
  refine zs_v (rest := []) F (k_X9_copy_30_13 l M37 ⟨hI, hW⟩) cs_X9_77 (by decide) (by decide) rfl rfl rfl (Nat.le_of_ble_eq_true rfl) dX9_copyFrom_166 (fun M39 hI p40 => ?_)
  obtain ⟨hI, hW⟩ := hI
  obtain ⟨fp40, yp40⟩ := p40
  have hF := hF.call fp40 (by decide)
  refine z_aload_n F dX9_copyFrom_169 rfl (q := 0) rfl ?_
  refine rf_X9_48 F gs_2 rfl dX9_copyFrom_170 ?_
  refine z_aload_n F dX9_copyFrom_173 rfl (q := 1) rfl ?_
  refine rf_X9_48 F gs_19 rfl dX9_copyFrom_174 ?_
  refine zv_v (rest := []) F (k_X2_copyFrom_14_31 l M39 ⟨hI, hW⟩) cs_X9_81 (T := TX2) (N := 5) (ci := 2) rfl gs_14 (by decide) (by decide) rfl rfl rfl (Nat.le_of_ble_eq_true rfl) dX9_copyFrom_177 (fun M41 hI p42 => ?_)
  obtain ⟨hI, hW⟩ := hI
  have fp42 := p42
  have hF := hF.call fp42 (by decide)
  have q43 : v1 = M6 2 0 := sf2.symm.trans (f5 2 0 (fun q => absurd q.2 (by decide))).symm
  have q44 : v1 = M9 2 0 := q43.trans (f8 2 0 (fun q => absurd q.2 (by decide))).symm
  have q45 : v1 = M12 2 0 := q44.trans (f11 2 0 (fun q => absurd q.2 (by decide))).symm
  have q46 : v1 = M15 2 0 := q45.trans (f14 2 0 (fun q => absurd q.2 (by decide))).symm
  have q47 : v1 = M18 2 0 := q46.trans (f17 2 0 (fun q => absurd q.2 (by decide))).symm
  have q48 : v1 = M19 2 0 := q47.trans ((fp20.at (by decide)) : M19 2 0 = _).symm
  have q49 : v1 = M21 2 0 := q48.trans ((fp22.at (by decide)) : M21 2 0 = _).symm
  have q50 : v1 = M23 2 0 := q49.trans ((fp24.at (by decide)) : M23 2 0 = _).symm
  have q51 : v1 = M25 2 0 := q50.trans ((fp26.at (by decide)) : M25 2 0 = _).symm
  have q52 : v1 = M27 2 0 := q51.trans ((fp28.at (by decide)) : M27 2 0 = _).symm
  have q53 : v1 = M29 2 0 := q52.trans ((fp30.at (by decide)) : M29 2 0 = _).symm
  have q54 : v1 = M31 2 0 := q53.trans ((fp32.at (by decide)) : M31 2 0 = _).symm
  have q55 : v1 = M33 2 0 := q54.trans ((fp34.at (by decide)) : M33 2 0 = _).symm
  have q56 : v1 = M35 2 0 := q55.trans ((fp36.at (by decide)) : M35 2 0 = _).symm
  have q57 : v1 = M37 2 0 := q56.trans ((fp38.at (by decide)) : M37 2 0 = _).symm
  have q58 : v1 = M39 2 0 := q57.trans ((fp40.at (by decide)) : M39 2 0 = _).symm
  have q59 : v1 = M41 2 0 := q58.trans ((fp42.at (by decide)) : M41 2 0 = _).symm
  have q60 : v4 = M9 2 1 := sf5.symm.trans (f8 2 1 (fun q => absurd q.2 (by decide))).symm
  have q61 : v4 = M12 2 1 := q60.trans (f11 2 1 (fun q => absurd q.2 (by decide))).symm
  have q62 : v4 = M15 2 1 := q61.trans (f14 2 1 (fun q => absurd q.2 (by decide))).symm
  have q63 : v4 = M18 2 1 := q62.trans (f17 2 1 (fun q => absurd q.2 (by decide))).symm
  have q64 : v4 = M19 2 1 := q63.trans ((fp20.at (by decide)) : M19 2 1 = _).symm
  have q65 : v4 = M21 2 1 := q64.trans ((fp22.at (by decide)) : M21 2 1 = _).symm
  have q66 : v4 = M23 2 1 := q65.trans ((fp24.at (by decide)) : M23 2 1 = _).symm
  have q67 : v4 = M25 2 1 := q66.trans ((fp26.at (by decide)) : M25 2 1 = _).symm
  have q68 : v4 = M27 2 1 := q67.trans ((fp28.at (by decide)) : M27 2 1 = _).symm
  have q69 : v4 = M29 2 1 := q68.trans ((fp30.at (by decide)) : M29 2 1 = _).symm
  have q70 : v4 = M31 2 1 := q69.trans ((fp32.at (by decide)) : M31 2 1 = _).symm
  have q71 : v4 = M33 2 1 := q70.trans ((fp34.at (by decide)) : M33 2 1 = _).symm
  have q72 : v4 = M35 2 1 := q71.trans ((fp36.at (by decide)) : M35 2 1 = _).symm
  have q73 : v4 = M37 2 1 := q72.trans ((fp38.at (by decide)) : M37 2 1 = _).symm
  have q74 : v4 = M39 2 1 := q73.trans ((fp40.at (by decide)) : M39 2 1 = _).symm
  have q75 : v4 = M41 2 1 := q74.trans ((fp42.at (by decide)) : M41 2 1 = _).symm
  have q76 : v10 = M15 2 3 := sf11.symm.trans (f14 2 3 (fun q => absurd q.2 (by decide))).symm
  have q77 : v10 = M18 2 3 := q76.trans (f17 2 3 (fun q => absurd q.2 (by decide))).symm
  have q78 : v10 = M19 2 3 := q77.trans ((fp20.at (by decide)) : M19 2 3 = _).symm
  have q79 : v10 = M21 2 3 := q78.trans ((fp22.at (by decide)) : M21 2 3 = _).symm
  have q80 : v10 = M23 2 3 := q79.trans ((fp24.at (by decide)) : M23 2 3 = _).symm
  have q81 : v10 = M25 2 3 := q80.trans ((fp26.at (by decide)) : M25 2 3 = _).symm
  have q82 : v10 = M27 2 3 := q81.trans ((fp28.at (by decide)) : M27 2 3 = _).symm
  have q83 : v10 = M29 2 3 := q82.trans ((fp30.at (by decide)) : M29 2 3 = _).symm
  have q84 : v10 = M31 2 3 := q83.trans ((fp32.at (by decide)) : M31 2 3 = _).symm
  have q85 : v10 = M33 2 3 := q84.trans ((fp34.at (by decide)) : M33 2 3 = _).symm
  have q86 : v10 = M35 2 3 := q85.trans ((fp36.at (by decide)) : M35 2 3 = _).symm
  have q87 : v10 = M37 2 3 := q86.trans ((fp38.at (by decide)) : M37 2 3 = _).symm
  have q88 : v10 = M39 2 3 := q87.trans ((fp40.at (by decide)) : M39 2 3 = _).symm
  have q89 : v10 = M41 2 3 := q88.trans ((fp42.at (by decide)) : M41 2 3 = _).symm
  have q90 : v13 = M18 2 4 := sf14.symm.trans (f17 2 4 (fun q => absurd q.2 (by decide))).symm
  have q91 : v13 = M19 2 4 := q90.trans ((fp20.at (by decide)) : M19 2 4 = _).symm
  have q92 : v13 = M21 2 4 := q91.trans ((fp22.at (by decide)) : M21 2 4 = _).symm
  have q93 : v13 = M23 2 4 := q92.trans ((fp24.at (by decide)) : M23 2 4 = _).symm
  have q94 : v13 = M25 2 4 := q93.trans ((fp26.at (by decide)) : M25 2 4 = _).symm
  have q95 : v13 = M27 2 4 := q94.trans ((fp28.at (by decide)) : M27 2 4 = _).symm
  have q96 : v13 = M29 2 4 := q95.trans ((fp30.at (by decide)) : M29 2 4 = _).symm
  have q97 : v13 = M31 2 4 := q96.trans ((fp32.at (by decide)) : M31 2 4 = _).symm
  have q98 : v13 = M33 2 4 := q97.trans ((fp34.at (by decide)) : M33 2 4 = _).symm
  have q99 : v13 = M35 2 4 := q98.trans ((fp36.at (by decide)) : M35 2 4 = _).symm
  have q100 : v13 = M37 2 4 := q99.trans ((fp38.at (by decide)) : M37 2 4 = _).symm
  have q101 : v13 = M39 2 4 := q100.trans ((fp40.at (by decide)) : M39 2 4 = _).symm
  have q102 : v13 = M41 2 4 := q101.trans ((fp42.at (by decide)) : M41 2 4 = _).symm
  exact hret _ 180 _ ⟨hI, hW⟩ ⟨hF, (Eq.trans (Eq.symm q59) ev1), (cp_i (sC_eq (hI0.at (show Bd 19 1 = (0, 10) from rfl)).2 (hI0.at (show Bd 19 4 = (0, 6) from rfl)).2 (q75.symm.trans (ev4.trans (f2 19 1 (fun q => absurd q.1 (by decide))))) (q89.symm.trans (ev10.trans ((f8 19 3 (fun q => absurd q.1 (by decide))).trans ((f5 19 3 (fun q => absurd q.1 (by decide))).trans (f2 19 3 (fun q => absurd q.1 (by decide))))))) (q102.symm.trans (ev13.trans ((f11 19 4 (fun q => absurd q.1 (by decide))).trans ((f8 19 4 (fun q => absurd q.1 (by decide))).trans ((f5 19 4 (fun q => absurd q.1 (by decide))).trans (f2 19 4 (fun q => absurd q.1 (by decide)))))))) (fun j h => ((fp42.at (by decide) : M41 3 j = _).trans ((fp40.at (by decide) : M39 3 j = _).trans ((fp38.at (by decide) : M37 3 j = _).trans ((fp36.at (by decide) : M35 3 j = _).trans ((fp34.at (by decide) : M33 3 j = _).trans ((fp32.at (by decide) : M31 3 j = _).trans ((fp30.at (by decide) : M29 3 j = _).trans ((fp28.at (by decide) : M27 3 j = _).trans ((fp26.at (by decide) : M25 3 j = _).trans ((fp24.at (by decide) : M23 3 j = _).trans (fp22.at (by decide) : M21 3 j = _))))))))))).trans ((yp20 j h).trans ((f17 20 j (fun q => absurd q.1 (by decide))).trans ((f14 20 j (fun q => absurd q.1 (by decide))).trans ((f11 20 j (fun q => absurd q.1 (by decide))).trans ((f8 20 j (fun q => absurd q.1 (by decide))).trans ((f5 20 j (fun q => absurd q.1 (by decide))).trans (f2 20 j (fun q => absurd q.1 (by decide)))))))))) (fun j h => ((fp42.at (by decide) : M41 10 j = _).trans ((fp40.at (by decide) : M39 10 j = _).trans ((fp38.at (by decide) : M37 10 j = _).trans (fp36.at (by decide) : M35 10 j = _)))).trans ((yp34 j h).trans ((fp32.at (by decide) : M31 27 j = _).trans ((fp30.at (by decide) : M29 27 j = _).trans ((fp28.at (by decide) : M27 27 j = _).trans ((fp26.at (by decide) : M25 27 j = _).trans ((fp24.at (by decide) : M23 27 j = _).trans ((fp22.at (by decide) : M21 27 j = _).trans ((fp20.at (by decide) : M19 27 j = _).trans ((f17 27 j (fun q => absurd q.1 (by decide))).trans ((f14 27 j (fun q => absurd q.1 (by decide))).trans ((f11 27 j (fun q => absurd q.1 (by decide))).trans ((f8 27 j (fun q => absurd q.1 (by decide))).trans ((f5 27 j (fun q => absurd q.1 (by decide))).trans (f2 27 j (fun q => absurd q.1 (by decide))))))))))))))))) (fun j h => ((fp42.at (by decide) : M41 11 j = _).trans ((fp40.at (by decide) : M39 11 j = _).trans (fp38.at (by decide) : M37 11 j = _))).trans ((yp36 j h).trans ((fp34.at (by decide) : M33 28 j = _).trans ((fp32.at (by decide) : M31 28 j = _).trans ((fp30.at (by decide) : M29 28 j = _).trans ((fp28.at (by decide) : M27 28 j = _).trans ((fp26.at (by decide) : M25 28 j = _).trans ((fp24.at (by decide) : M23 28 j = _).trans ((fp22.at (by decide) : M21 28 j = _).trans ((fp20.at (by decide) : M19 28 j = _).trans ((f17 28 j (fun q => absurd q.1 (by decide))).trans ((f14 28 j (fun q => absurd q.1 (by decide))).trans ((f11 28 j (fun q => absurd q.1 (by decide))).trans ((f8 28 j (fun q => absurd q.1 (by decide))).trans ((f5 28 j (fun q => absurd q.1 (by decide))).trans (f2 28 j (fun q => absurd q.1 (by decide)))))))))))))))))) (fun j h => ((fp42.at (by decide) : M41 12 j = _).trans (fp40.at (by decide) : M39 12 j = _)).trans ((yp38 j h).trans ((fp36.at (by decide) : M35 29 j = _).trans ((fp34.at (by decide) : M33 29 j = _).trans ((fp32.at (by decide) : M31 29 j = _).trans ((fp30.at (by decide) : M29 29 j = _).trans ((fp28.at (by decide) : M27 29 j = _).trans ((fp26.at (by decide) : M25 29 j = _).trans ((fp24.at (by decide) : M23 29 j = _).trans ((fp22.at (by decide) : M21 29 j = _).trans ((fp20.at (by decide) : M19 29 j = _).trans ((f17 29 j (fun q => absurd q.1 (by decide))).trans ((f14 29 j (fun q => absurd q.1 (by decide))).trans ((f11 29 j (fun q => absurd q.1 (by decide))).trans ((f8 29 j (fun q => absurd q.1 (by decide))).trans ((f5 29 j (fun q => absurd q.1 (by decide))).trans (f2 29 j (fun q => absurd q.1 (by decide)))))))))))))))))))) (fun j h => ((fp42.at (by decide) : M41 5 j = _).trans ((fp40.at (by decide) : M39 5 j = _).trans ((fp38.at (by decide) : M37 5 j = _).trans ((fp36.at (by decide) : M35 5 j = _).trans ((fp34.at (by decide) : M33 5 j = _).trans ((fp32.at (by decide) : M31 5 j = _).trans ((fp30.at (by decide) : M29 5 j = _).trans ((fp28.at (by decide) : M27 5 j = _).trans (fp26.at (by decide) : M25 5 j = _))))))))).trans ((yp24 j h).trans ((fp22.at (by decide) : M21 22 j = _).trans ((fp20.at (by decide) : M19 22 j = _).trans ((f17 22 j (fun q => absurd q.1 (by decide))).trans ((f14 22 j (fun q => absurd q.1 (by decide))).trans ((f11 22 j (fun q => absurd q.1 (by decide))).trans ((f8 22 j (fun q => absurd q.1 (by decide))).trans ((f5 22 j (fun q => absurd q.1 (by decide))).trans (f2 22 j (fun q => absurd q.1 (by decide)))))))))))))⟩ dX9_copyFrom_180
set_option maxRecDepth 4000 in
theorem k_X9_measureFrom_19 (l : Launch) (M : Mem) (hJ : Iw M) (x0 : Int) (hx0a : 0 ≤ x0) (hx0b : x0 ≤ 9) : CV l yX9_measureFrom cX9_measureFrom 8 none 2 (fun ad => [.ref (ad 19), ii x0]) M (fun M' => Fr [22] M M') := by
  obtain ⟨hI, hW⟩ := hJ
  have hF : Fr [22] M M := Fr.rf
  refine en_v (by decide +kernel) (fun ad => by exact Nat.le_of_ble_eq_true rfl) (fun D cy ad A p e s m args below meth c Q F hret => ?_)
  refine z_eq (ls' := [(0, .ref (ad 19)), (1, ii x0)]) rfl rfl rfl ?_
  refine z_iload_n F dX9_measureFrom_0 rfl (q := 1) rfl ?_
  refine z_bipush F dX9_measureFrom_1 (by decide +kernel) ?_
  refine z_imul F dX9_measureFrom_3 ?_
  refine z_nm (fun v1 ev1 => ?_)
  refine z_istore_n F dX9_measureFrom_4 rfl (by decide) (ls' := [(2, ii v1), (0, .ref (ad 19)), (1, ii x0)]) rfl ?_
  refine z_iconst F dX9_measureFrom_5 ?_
  refine z_istore_n F dX9_measureFrom_6 rfl (by decide) (ls' := [(3, ii 0), (2, ii v1), (0, .ref (ad 19)), (1, ii x0)]) rfl ?_
  refine z_loc [2, 3, 1, 0] (ls' := [(0, .ref (ad 19)), (1, ii x0), (2, ii v1), (3, ii 0)]) rfl ?_
  suffices key7 : ∀ (n : Nat) (y3 : Int) (M2 : Mem), Inv M2 → WFk M2 → Fr [22] M M2 → 0 ≤ y3 → y3 ≤ 10 → 10 - y3 < (n : Int) → Z D cy ad p l e (RMh 2) s m args below meth c A 8 0 0 Q 7 [(0, .ref (ad 19)), (1, ii x0), (2, ii v1), (3, ii y3)] [] M2 from key7 11 0 M hI hW hF (by omega) (by omega) (by omega)
  intro n7
  induction n7 with
  | zero => intro y3 M2 hI hW hF ay3 by3 hn7; exfalso; omega
  | succ n7 ih7 =>
    intro y3 M2 hI hW hF ay3 by3 hn7
    refine z_iload_n F dX9_measureFrom_7 rfl (q := 3) rfl ?_
    refine z_aload_n F dX9_measureFrom_8 rfl (q := 0) rfl ?_
    refine gf_X9_56 F hI gs_19 rfl bd_19_1 dX9_measureFrom_9 (fun v4 ev4 av4 bv4 => ?_)
    refine z_icmp_ge (tgt := 30) F dX9_measureFrom_12 (by decide +kernel) (by omega) (by omega) (fun c5 => ?_) (fun c5 => ?_)
    · refine z_iconst F dX9_measureFrom_30 ?_
      refine z_istore_n F dX9_measureFrom_31 rfl (by decide) (ls' := [(3, ii 0), (0, .ref (ad 19)), (1, ii x0), (2, ii v1)]) rfl ?_
      refine z_iconst F dX9_measureFrom_32 ?_
      refine z_iload_n F dX9_measureFrom_33 rfl (q := 2) rfl ?_
      refine z_shl1 (k := 9) F dX9_measureFrom_34 (by decide) (by omega) (by omega) (fun v6 ev6 av6 bv6 => ?_)
      refine z_istore F dX9_measureFrom_35 (by decide) (ls' := [(4, ii v6), (3, ii 0), (0, .ref (ad 19)), (1, ii x0), (2, ii v1)]) rfl ?_
      refine z_iconst F dX9_measureFrom_37 ?_
      refine z_istore F dX9_measureFrom_38 (by decide) (ls' := [(5, ii 0), (4, ii v6), (3, ii 0), (0, .ref (ad 19)), (1, ii x0), (2, ii v1)]) rfl ?_
      refine z_loc [3, 5, 2, 1, 0] (ls' := [(0, .ref (ad 19)), (2, ii v1), (3, ii 0), (4, ii v6), (5, ii 0)]) rfl ?_
      suffices key40 : ∀ (n : Nat) (y8 : Int) (y9 : Int) (y10 : Int) (M7 : Mem), Inv M7 → WFk M7 → Fr [22] M M7 → (-2147483648) ≤ y8 → y8 ≤ 2147483647 → (-2147483648) ≤ y9 → y9 ≤ 2147483647 → 0 ≤ y10 → y10 ≤ 10 → 10 - y10 < (n : Int) → Z D cy ad p l e (RMh 2) s m args below meth c A 8 0 0 Q 40 [(0, .ref (ad 19)), (2, ii v1), (3, ii y8), (4, ii y9), (5, ii y10)] [] M7 from key40 11 0 v6 0 M2 hI hW hF (by omega) (by omega) (by omega) (by omega) (by omega) (by omega) (by omega)
      intro n40
      induction n40 with
      | zero => intro y8 y9 y10 M7 hI hW hF ay8 by8 ay9 by9 ay10 by10 hn40; exfalso; omega
      | succ n40 ih40 =>
        intro y8 y9 y10 M7 hI hW hF ay8 by8 ay9 by9 ay10 by10 hn40
        refine z_iload F dX9_measureFrom_40 (q := 4) rfl ?_
        refine z_aload_n F dX9_measureFrom_42 rfl (q := 0) rfl ?_
        refine gf_X9_56 F hI gs_19 rfl bd_19_1 dX9_measureFrom_43 (fun v11 ev11 av11 bv11 => ?_)
        refine z_icmp_ge (tgt := 127) F dX9_measureFrom_46 (by decide +kernel) (by omega) (by omega) (fun c12 => ?_) (fun c12 => ?_)
        · exact hret _ 127 _ ⟨hI, hW⟩ hF dX9_measureFrom_127
        · refine z_iload F dX9_measureFrom_49 (q := 3) rfl ?_
          refine z_if_eq (tgt := 127) F dX9_measureFrom_51 (by decide +kernel) (by omega) (fun c13 => ?_) (fun c13 => ?_)
          · exact hret _ 127 _ ⟨hI, hW⟩ hF dX9_measureFrom_127
          · refine z_iconst F dX9_measureFrom_54 ?_
            refine z_istore F dX9_measureFrom_55 (by decide) (ls' := [(6, ii 0), (0, .ref (ad 19)), (2, ii v1), (3, ii y8), (4, ii y9), (5, ii y10)]) rfl ?_
            refine z_iconst F dX9_measureFrom_57 ?_
            refine z_istore F dX9_measureFrom_58 (by decide) (ls' := [(7, ii 0), (6, ii 0), (0, .ref (ad 19)), (2, ii v1), (3, ii y8), (4, ii y9), (5, ii y10)]) rfl ?_
            refine z_loc [2, 3, 4, 5, 6, 1, 0] (ls' := [(0, .ref (ad 19)), (2, ii v1), (3, ii y8), (4, ii y9), (5, ii y10), (6, ii 0), (7, ii 0)]) rfl ?_
            suffices key60 : ∀ (n : Nat) (y15 : Int) (y16 : Int) (M14 : Mem), Inv M14 → WFk M14 → Fr [22] M M14 → (-2147483648) ≤ y15 → y15 ≤ 2147483647 → 0 ≤ y16 → y16 ≤ 10 → 10 - y16 < (n : Int) → Z D cy ad p l e (RMh 2) s m args below meth c A 8 0 0 Q 60 [(0, .ref (ad 19)), (2, ii v1), (3, ii y8), (4, ii y9), (5, ii y10), (6, ii y15), (7, ii y16)] [] M14 from key60 11 0 0 M7 hI hW hF (by omega) (by omega) (by omega) (by omega) (by omega)
            intro n60
            induction n60 with
            | zero => intro y15 y16 M14 hI hW hF ay15 by15 ay16 by16 hn60; exfalso; omega
            | succ n60 ih60 =>
              intro y15 y16 M14 hI hW hF ay15 by15 ay16 by16 hn60
              refine z_iload F dX9_measureFrom_60 (q := 6) rfl ?_
              refine z_aload_n F dX9_measureFrom_62 rfl (q := 0) rfl ?_
              refine gf_X9_56 F hI gs_19 rfl bd_19_1 dX9_measureFrom_63 (fun v17 ev17 av17 bv17 => ?_)
              refine z_icmp_ge (tgt := 108) F dX9_measureFrom_66 (by decide +kernel) (by omega) (by omega) (fun c18 => ?_) (fun c18 => ?_)
              · refine z_iload_n F dX9_measureFrom_108 rfl (q := 2) rfl ?_
                refine z_iload F dX9_measureFrom_109 (q := 3) rfl ?_
                refine z_ior0 F dX9_measureFrom_111 (fun v19 ev19 rv19 => ?_)
                refine z_istore_n F dX9_measureFrom_112 rfl (by decide) (ls' := [(3, ii v19), (0, .ref (ad 19)), (2, ii v1), (4, ii y9), (5, ii y10), (6, ii y15), (7, ii y16)]) rfl ?_
                refine z_iload F dX9_measureFrom_113 (q := 5) rfl ?_
                refine z_iload_n F dX9_measureFrom_115 rfl (q := 0) rfl ?_
                refine z_iconst F dX9_measureFrom_116 ?_
                refine z_ixor0 F dX9_measureFrom_117 (fun v20 ev20 rv20 => ?_)
                refine z_iand0 F dX9_measureFrom_118 (fun v21 ev21 rv21 => ?_)
                refine z_istore F dX9_measureFrom_119 (by decide) (ls' := [(4, ii v21), (3, ii v19), (0, .ref (ad 19)), (2, ii v1), (5, ii y10), (6, ii y15), (7, ii y16)]) rfl ?_
                refine z_iincN F dX9_measureFrom_121 (q := 4) rfl (by decide) (fun v22 ev22 => ?_)
                refine z_eq (ls' := [(5, ii v22), (4, ii v21), (3, ii v19), (0, .ref (ad 19)), (2, ii v1), (6, ii y15), (7, ii y16)]) rfl rfl rfl ?_
                refine z_goto (tgt := 40) F dX9_measureFrom_124 (by decide +kernel) ?_
                refine z_loc [3, 4, 2, 1, 0] (ls' := [(0, .ref (ad 19)), (2, ii v1), (3, ii v19), (4, ii v21), (5, ii v22)]) rfl ?_
                exact ih40 v19 v21 v22 M14 hI hW hF (by omega) (by omega) (by omega) (by omega) (by omega) (by omega) (by omega)
              · refine z_iload F dX9_measureFrom_69 (q := 3) rfl ?_
                refine z_iload F dX9_measureFrom_71 (q := 6) rfl ?_
                refine zn_i (rest := []) F (k_X11_isIn l M14 ⟨hI, hW⟩ y9 (by omega) (by omega) y16 (by omega) (by omega)) cs_X9_97 (by decide) (by decide) rfl rfl rfl (Nat.le_of_ble_eq_true rfl) dX9_measureFrom_73 (fun v23 M24 rv23 hI p25 => ?_)
                obtain ⟨hI, hW⟩ := hI
                obtain ⟨⟨av23, bv23⟩, rfl, xp25⟩ := p25
                have hbqy16 := xp25
                refine z_if_eq (tgt := 102) F dX9_measureFrom_76 (by decide +kernel) (by omega) (fun c26 => ?_) (fun c26 => ?_)
                · refine z_iincN F dX9_measureFrom_102 (q := 6) rfl (by decide) (fun v27 ev27 => ?_)
                  refine z_eq (ls' := [(7, ii v27), (0, .ref (ad 19)), (2, ii v1), (3, ii y8), (4, ii y9), (5, ii y10), (6, ii y15)]) rfl rfl rfl ?_
                  refine z_goto (tgt := 60) F dX9_measureFrom_105 (by decide +kernel) ?_
                  refine z_loc [1, 2, 3, 4, 5, 6, 0] (ls' := [(0, .ref (ad 19)), (2, ii v1), (3, ii y8), (4, ii y9), (5, ii y10), (6, ii y15), (7, ii v27)]) rfl ?_
                  exact ih60 y15 v27 M14 hI hW hF (by omega) (by omega) (by omega) (by omega) (by omega)
                · refine z_aload_n F dX9_measureFrom_79 rfl (q := 0) rfl ?_
                  refine rf_X9_18 F gs_19 rfl dX9_measureFrom_80 ?_
                  refine z_iload_n F dX9_measureFrom_83 rfl (q := 1) rfl ?_
                  refine z_iload F dX9_measureFrom_84 (q := 6) rfl ?_
                  refine z_iadd F dX9_measureFrom_86 ?_
                  refine z_iload F dX9_measureFrom_87 (q := 4) rfl ?_
                  refine z_iast F hI gs_22 (by omega) (by omega) (by decide) bd_22 dX9_measureFrom_89 (by omega) (by omega) (fun M29 hI sf28 f28 => ?_)
                  have hF := hF.wr f28 (by decide) (by decide)
                  have hW : WFk M29 := hW.site f28 (by decide)
                  refine z_iload F dX9_measureFrom_90 (q := 5) rfl ?_
                  refine z_aload_n F dX9_measureFrom_92 rfl (q := 0) rfl ?_
                  refine rf_X9_9 F gs_19 rfl dX9_measureFrom_93 ?_
                  refine z_iload F dX9_measureFrom_96 (q := 6) rfl ?_
                  refine z_iald F hI gs_20 (by omega) (by omega) (by decide) bd_20 dX9_measureFrom_98 (fun v30 (ev30 : v30 = M29 20 _) av30 bv30 => ?_)
                  refine z_ior0 F dX9_measureFrom_99 (fun v31 ev31 rv31 => ?_)
                  refine z_istore F dX9_measureFrom_100 (by decide) (ls' := [(6, ii v31), (0, .ref (ad 19)), (2, ii v1), (3, ii y8), (4, ii y9), (5, ii y10), (7, ii y16)]) rfl ?_
                  refine z_iincN F dX9_measureFrom_102 (q := 6) rfl (by decide) (fun v32 ev32 => ?_)
                  refine z_eq (ls' := [(7, ii v32), (6, ii v31), (0, .ref (ad 19)), (2, ii v1), (3, ii y8), (4, ii y9), (5, ii y10)]) rfl rfl rfl ?_
                  refine z_goto (tgt := 60) F dX9_measureFrom_105 (by decide +kernel) ?_
                  refine z_loc [2, 3, 4, 5, 6, 1, 0] (ls' := [(0, .ref (ad 19)), (2, ii v1), (3, ii y8), (4, ii y9), (5, ii y10), (6, ii v31), (7, ii v32)]) rfl ?_
                  exact ih60 v31 v32 M29 hI hW hF (by omega) (by omega) (by omega) (by omega) (by omega)
    · refine z_aload_n F dX9_measureFrom_15 rfl (q := 0) rfl ?_
      refine rf_X9_18 F gs_19 rfl dX9_measureFrom_16 ?_
      refine z_iload_n F dX9_measureFrom_19 rfl (q := 2) rfl ?_
      refine z_iload_n F dX9_measureFrom_20 rfl (q := 3) rfl ?_
      refine z_iadd F dX9_measureFrom_21 ?_
      refine z_iconst F dX9_measureFrom_22 ?_
      refine z_iast F hI gs_22 (by omega) (by omega) (by decide) bd_22 dX9_measureFrom_23 (by omega) (by omega) (fun M34 hI sf33 f33 => ?_)
      have hF := hF.wr f33 (by decide) (by decide)
      have hW : WFk M34 := hW.site f33 (by decide)
      refine z_iincN F dX9_measureFrom_24 (q := 3) rfl (by decide) (fun v35 ev35 => ?_)
      refine z_eq (ls' := [(3, ii v35), (0, .ref (ad 19)), (1, ii x0), (2, ii v1)]) rfl rfl rfl ?_
      refine z_goto (tgt := 7) F dX9_measureFrom_27 (by decide +kernel) ?_
      refine z_loc [1, 2, 3, 0] (ls' := [(0, .ref (ad 19)), (1, ii x0), (2, ii v1), (3, ii v35)]) rfl ?_
      exact ih7 v35 M34 hI hW hF (by omega) (by omega) (by omega)
set_option maxRecDepth 4000 in
theorem k_X9_settle_19 (l : Launch) (M : Mem) (hJ : Iw M) : CV l yX9_settle cX9_settle 3 none 3 (fun ad => [.ref (ad 19)]) M (fun M' => Fr [22, 30] M M' ∧ (aCx 19 M' = aCx 19 M)) := by
  obtain ⟨hI, hW⟩ := hJ
  have hF : Fr [22, 30] M M := Fr.rf
  refine en_v (by decide +kernel) (fun ad => by exact Nat.le_of_ble_eq_true rfl) (fun D cy ad A p e s m args below meth c Q F hret => ?_)
  refine z_eq (ls' := [(0, .ref (ad 19))]) rfl rfl rfl ?_
  refine z_iconst F dX9_settle_0 ?_
  refine z_istore_n F dX9_settle_1 rfl (by decide) (ls' := [(1, ii 0), (0, .ref (ad 19))]) rfl ?_
  refine z_loc [1, 0] (ls' := [(0, .ref (ad 19)), (1, ii 0)]) rfl ?_
  suffices key2 : ∀ (n : Nat) (y2 : Int) (M1 : Mem), Inv M1 → WFk M1 → Fr [22, 30] M M1 → 0 ≤ y2 → y2 ≤ 10 → 10 - y2 < (n : Int) → Z D cy ad p l e (RMh 3) s m args below meth c A 3 0 0 Q 2 [(0, .ref (ad 19)), (1, ii y2)] [] M1 from key2 11 0 M hI hW hF (by omega) (by omega) (by omega)
  intro n2
  induction n2 with
  | zero => intro y2 M1 hI hW hF ay2 by2 hn2; exfalso; omega
  | succ n2 ih2 =>
    intro y2 M1 hI hW hF ay2 by2 hn2
    refine z_iload_n F dX9_settle_2 rfl (q := 1) rfl ?_
    refine z_aload_n F dX9_settle_3 rfl (q := 0) rfl ?_
    refine gf_X9_56 F hI gs_19 rfl bd_19_1 dX9_settle_4 (fun v3 ev3 av3 bv3 => ?_)
    refine z_icmp_ge (tgt := 21) F dX9_settle_7 (by decide +kernel) (by omega) (by omega) (fun c4 => ?_) (fun c4 => ?_)
    · refine z_iconst F dX9_settle_21 ?_
      refine z_istore_n F dX9_settle_22 rfl (by decide) (ls' := [(1, ii 0), (0, .ref (ad 19))]) rfl ?_
      refine z_loc [1, 0] (ls' := [(0, .ref (ad 19)), (1, ii 0)]) rfl ?_
      suffices key23 : ∀ (n : Nat) (y6 : Int) (M5 : Mem), Inv M5 → WFk M5 → Fr [22, 30] M M5 → 0 ≤ y6 → y6 ≤ 6 → 6 - y6 < (n : Int) → Z D cy ad p l e (RMh 3) s m args below meth c A 3 0 0 Q 23 [(0, .ref (ad 19)), (1, ii y6)] [] M5 from key23 7 0 M1 hI hW hF (by omega) (by omega) (by omega)
      intro n23
      induction n23 with
      | zero => intro y6 M5 hI hW hF ay6 by6 hn23; exfalso; omega
      | succ n23 ih23 =>
        intro y6 M5 hI hW hF ay6 by6 hn23
        refine z_iload_n F dX9_settle_23 rfl (q := 1) rfl ?_
        refine z_aload_n F dX9_settle_24 rfl (q := 0) rfl ?_
        refine gf_X9_65 F hI gs_19 rfl bd_19_4 dX9_settle_25 (fun v7 ev7 av7 bv7 => ?_)
        refine z_icmp_ge (tgt := 92) F dX9_settle_28 (by decide +kernel) (by omega) (by omega) (fun c8 => ?_) (fun c8 => ?_)
        · exact hret _ 92 _ ⟨hI, hW⟩ ⟨hF, (aCx_fr hF (by decide) (by decide))⟩ dX9_settle_92
        · refine z_iload_n F dX9_settle_31 rfl (q := 1) rfl ?_
          refine z_istore_n F dX9_settle_32 rfl (by decide) (ls' := [(2, ii y6), (0, .ref (ad 19)), (1, ii y6)]) rfl ?_
          refine z_loc [1, 2, 0] (ls' := [(0, .ref (ad 19)), (1, ii y6), (2, ii y6)]) rfl ?_
          suffices key33 : ∀ (n : Nat) (y10 : Int) (M9 : Mem), Inv M9 → WFk M9 → Fr [22, 30] M M9 → 0 ≤ y10 → y10 ≤ 5 → y10 - 0 < (n : Int) → Z D cy ad p l e (RMh 3) s m args below meth c A 3 0 0 Q 33 [(0, .ref (ad 19)), (1, ii y6), (2, ii y10)] [] M9 from key33 6 y6 M5 hI hW hF (by omega) (by omega) (by omega)
          intro n33
          induction n33 with
          | zero => intro y10 M9 hI hW hF ay10 by10 hn33; exfalso; omega
          | succ n33 ih33 =>
            intro y10 M9 hI hW hF ay10 by10 hn33
            refine z_iload_n F dX9_settle_33 rfl (q := 2) rfl ?_
            refine z_if_le (tgt := 79) F dX9_settle_34 (by decide +kernel) (by omega) (fun c11 => ?_) (fun c11 => ?_)
            · refine z_aload_n F dX9_settle_79 rfl (q := 0) rfl ?_
              refine rf_X9_42 F gs_19 rfl dX9_settle_80 ?_
              refine z_iload_n F dX9_settle_83 rfl (q := 2) rfl ?_
              refine z_iload_n F dX9_settle_84 rfl (q := 1) rfl ?_
              refine z_iast F hI gs_30 (by omega) (by omega) (by decide) bd_30 dX9_settle_85 (by omega) (by omega) (fun M13 hI sf12 f12 => ?_)
              have hF := hF.wr f12 (by decide) (by decide)
              have hW : WFk M13 := hW.site f12 (by decide)
              refine z_iincN F dX9_settle_86 (q := 1) rfl (by decide) (fun v14 ev14 => ?_)
              refine z_eq (ls' := [(1, ii v14), (0, .ref (ad 19)), (2, ii y10)]) rfl rfl rfl ?_
              refine z_goto (tgt := 23) F dX9_settle_89 (by decide +kernel) ?_
              refine z_loc [1, 0] (ls' := [(0, .ref (ad 19)), (1, ii v14)]) rfl ?_
              exact ih23 v14 M13 hI hW hF (by omega) (by omega) (by omega)
            · refine z_aload_n F dX9_settle_37 rfl (q := 0) rfl ?_
              refine rf_X9_33 F gs_19 rfl dX9_settle_38 ?_
              refine z_aload_n F dX9_settle_41 rfl (q := 0) rfl ?_
              refine rf_X9_42 F gs_19 rfl dX9_settle_42 ?_
              refine z_iload_n F dX9_settle_45 rfl (q := 2) rfl ?_
              refine z_iconst F dX9_settle_46 ?_
              refine z_isub F dX9_settle_47 ?_
              refine z_iald F hI gs_30 (by omega) (by omega) (by decide) bd_30 dX9_settle_48 (fun v15 (ev15 : v15 = M9 30 _) av15 bv15 => ?_)
              refine z_iald F hI gs_27 (by omega) (by omega) (by decide) bd_27 dX9_settle_49 (fun v16 (ev16 : v16 = M9 27 _) av16 bv16 => ?_)
              refine z_aload_n F dX9_settle_50 rfl (q := 0) rfl ?_
              refine rf_X9_33 F gs_19 rfl dX9_settle_51 ?_
              refine z_iload_n F dX9_settle_54 rfl (q := 1) rfl ?_
              refine z_iald F hI gs_27 (by omega) (by omega) (by decide) bd_27 dX9_settle_55 (fun v17 (ev17 : v17 = M9 27 _) av17 bv17 => ?_)
              refine z_icmp_le (tgt := 79) F dX9_settle_56 (by decide +kernel) (by omega) (by omega) (fun c18 => ?_) (fun c18 => ?_)
              · refine z_aload_n F dX9_settle_79 rfl (q := 0) rfl ?_
                refine rf_X9_42 F gs_19 rfl dX9_settle_80 ?_
                refine z_iload_n F dX9_settle_83 rfl (q := 2) rfl ?_
                refine z_iload_n F dX9_settle_84 rfl (q := 1) rfl ?_
                refine z_iast F hI gs_30 (by omega) (by omega) (by decide) bd_30 dX9_settle_85 (by omega) (by omega) (fun M20 hI sf19 f19 => ?_)
                have hF := hF.wr f19 (by decide) (by decide)
                have hW : WFk M20 := hW.site f19 (by decide)
                refine z_iincN F dX9_settle_86 (q := 1) rfl (by decide) (fun v21 ev21 => ?_)
                refine z_eq (ls' := [(1, ii v21), (0, .ref (ad 19)), (2, ii y10)]) rfl rfl rfl ?_
                refine z_goto (tgt := 23) F dX9_settle_89 (by decide +kernel) ?_
                refine z_loc [1, 0] (ls' := [(0, .ref (ad 19)), (1, ii v21)]) rfl ?_
                exact ih23 v21 M20 hI hW hF (by omega) (by omega) (by omega)
              · refine z_aload_n F dX9_settle_59 rfl (q := 0) rfl ?_
                refine rf_X9_42 F gs_19 rfl dX9_settle_60 ?_
                refine z_iload_n F dX9_settle_63 rfl (q := 2) rfl ?_
                refine z_aload_n F dX9_settle_64 rfl (q := 0) rfl ?_
                refine rf_X9_42 F gs_19 rfl dX9_settle_65 ?_
                refine z_iload_n F dX9_settle_68 rfl (q := 2) rfl ?_
                refine z_iconst F dX9_settle_69 ?_
                refine z_isub F dX9_settle_70 ?_
                refine z_iald F hI gs_30 (by omega) (by omega) (by decide) bd_30 dX9_settle_71 (fun v22 (ev22 : v22 = M9 30 _) av22 bv22 => ?_)
                have zv22 : v15 = v22 := ev15.trans ev22.symm
                subst zv22
                refine z_iast F hI gs_30 (by omega) (by omega) (by decide) bd_30 dX9_settle_72 (by omega) (by omega) (fun M24 hI sf23 f23 => ?_)
                have hF := hF.wr f23 (by decide) (by decide)
                have hW : WFk M24 := hW.site f23 (by decide)
                refine z_iincN F dX9_settle_73 (q := 2) rfl (by decide) (fun v25 ev25 => ?_)
                refine z_eq (ls' := [(2, ii v25), (0, .ref (ad 19)), (1, ii y6)]) rfl rfl rfl ?_
                refine z_goto (tgt := 33) F dX9_settle_76 (by decide +kernel) ?_
                refine z_loc [1, 2, 0] (ls' := [(0, .ref (ad 19)), (1, ii y6), (2, ii v25)]) rfl ?_
                exact ih33 v25 M24 hI hW hF (by omega) (by omega) (by omega)
    · refine z_aload_n F dX9_settle_10 rfl (q := 0) rfl ?_
      refine z_iload_n F dX9_settle_11 rfl (q := 1) rfl ?_
      refine zv_v (rest := []) F (k_X9_measureFrom_19 l M1 ⟨hI, hW⟩ y2 (by omega) (by omega)) cs_X9_105 (T := TX9) (N := 18) (ci := 9) rfl gs_19 (by decide) (by decide) rfl rfl rfl (Nat.le_of_ble_eq_true rfl) dX9_settle_12 (fun M26 hI p27 => ?_)
      obtain ⟨hI, hW⟩ := hI
      have fp27 := p27
      have hF := hF.call fp27 (by decide)
      refine z_iincN F dX9_settle_15 (q := 1) rfl (by decide) (fun v28 ev28 => ?_)
      refine z_eq (ls' := [(1, ii v28), (0, .ref (ad 19))]) rfl rfl rfl ?_
      refine z_goto (tgt := 2) F dX9_settle_18 (by decide +kernel) ?_
      refine z_loc [1, 0] (ls' := [(0, .ref (ad 19)), (1, ii v28)]) rfl ?_
      exact ih2 v28 M26 hI hW hF (by omega) (by omega) (by omega)
