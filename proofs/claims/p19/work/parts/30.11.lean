theorem dX11_count_0 : decode cX11_count 0 = .ok (.iload_n 1, 1) := by decide +kernel
theorem dX11_count_1 : decode cX11_count 1 = .ok (.tableswitch 163 0 10 #[59, 67, 75, 83, 91, 99, 107, 115, 123, 128, 147], 59) := by decide +kernel
theorem dX11_count_100 : decode cX11_count 100 = .ok (.aload_n 0, 1) := by decide +kernel
theorem dX11_count_101 : decode cX11_count 101 = .ok (.getfield 34, 3) := by decide +kernel
theorem dX11_count_104 : decode cX11_count 104 = .ok (.getfield 255, 3) := by decide +kernel
theorem dX11_count_107 : decode cX11_count 107 = .ok (.ireturn, 1) := by decide +kernel
theorem dX11_count_108 : decode cX11_count 108 = .ok (.aload_n 0, 1) := by decide +kernel
theorem dX11_count_109 : decode cX11_count 109 = .ok (.getfield 34, 3) := by decide +kernel
theorem dX11_count_112 : decode cX11_count 112 = .ok (.getfield 233, 3) := by decide +kernel
theorem dX11_count_115 : decode cX11_count 115 = .ok (.ireturn, 1) := by decide +kernel
theorem dX11_count_116 : decode cX11_count 116 = .ok (.aload_n 0, 1) := by decide +kernel
theorem dX11_count_117 : decode cX11_count 117 = .ok (.getfield 41, 3) := by decide +kernel
theorem dX11_count_120 : decode cX11_count 120 = .ok (.getfield 239, 3) := by decide +kernel
theorem dX11_count_123 : decode cX11_count 123 = .ok (.ireturn, 1) := by decide +kernel
theorem dX11_count_124 : decode cX11_count 124 = .ok (.aload_n 0, 1) := by decide +kernel
theorem dX11_count_125 : decode cX11_count 125 = .ok (.getfield 93, 3) := by decide +kernel
theorem dX11_count_128 : decode cX11_count 128 = .ok (.ireturn, 1) := by decide +kernel
theorem dX11_count_129 : decode cX11_count 129 = .ok (.aload_n 0, 1) := by decide +kernel
theorem dX11_count_130 : decode cX11_count 130 = .ok (.getfield 16, 3) := by decide +kernel
theorem dX11_count_133 : decode cX11_count 133 = .ok (.getfield 151, 3) := by decide +kernel
theorem dX11_count_136 : decode cX11_count 136 = .ok (.invokevirtual 495, 3) := by decide +kernel
theorem dX11_count_139 : decode cX11_count 139 = .ok (.ifCond .eq 7, 3) := by decide +kernel
theorem dX11_count_142 : decode cX11_count 142 = .ok (.iconst 1, 1) := by decide +kernel
theorem dX11_count_143 : decode cX11_count 143 = .ok (.goto 4, 3) := by decide +kernel
theorem dX11_count_146 : decode cX11_count 146 = .ok (.iconst 0, 1) := by decide +kernel
theorem dX11_count_147 : decode cX11_count 147 = .ok (.ireturn, 1) := by decide +kernel
theorem dX11_count_148 : decode cX11_count 148 = .ok (.aload_n 0, 1) := by decide +kernel
theorem dX11_count_149 : decode cX11_count 149 = .ok (.getfield 16, 3) := by decide +kernel
theorem dX11_count_152 : decode cX11_count 152 = .ok (.getfield 304, 3) := by decide +kernel
theorem dX11_count_155 : decode cX11_count 155 = .ok (.aload_n 0, 1) := by decide +kernel
theorem dX11_count_156 : decode cX11_count 156 = .ok (.getfield 16, 3) := by decide +kernel
theorem dX11_count_159 : decode cX11_count 159 = .ok (.getfield 286, 3) := by decide +kernel
theorem dX11_count_162 : decode cX11_count 162 = .ok (.isub, 1) := by decide +kernel
theorem dX11_count_163 : decode cX11_count 163 = .ok (.ireturn, 1) := by decide +kernel
theorem dX11_count_164 : decode cX11_count 164 = .ok (.iconst (-1), 1) := by decide +kernel
theorem dX11_count_165 : decode cX11_count 165 = .ok (.ireturn, 1) := by decide +kernel
theorem dX11_count_60 : decode cX11_count 60 = .ok (.aload_n 0, 1) := by decide +kernel
theorem dX11_count_61 : decode cX11_count 61 = .ok (.getfield 16, 3) := by decide +kernel
theorem dX11_count_64 : decode cX11_count 64 = .ok (.getfield 126, 3) := by decide +kernel
theorem dX11_count_67 : decode cX11_count 67 = .ok (.ireturn, 1) := by decide +kernel
theorem dX11_count_68 : decode cX11_count 68 = .ok (.aload_n 0, 1) := by decide +kernel
theorem dX11_count_69 : decode cX11_count 69 = .ok (.getfield 16, 3) := by decide +kernel
theorem dX11_count_72 : decode cX11_count 72 = .ok (.getfield 304, 3) := by decide +kernel
theorem dX11_count_75 : decode cX11_count 75 = .ok (.ireturn, 1) := by decide +kernel
theorem dX11_count_76 : decode cX11_count 76 = .ok (.aload_n 0, 1) := by decide +kernel
theorem dX11_count_77 : decode cX11_count 77 = .ok (.getfield 16, 3) := by decide +kernel
theorem dX11_count_80 : decode cX11_count 80 = .ok (.getfield 286, 3) := by decide +kernel
theorem dX11_count_83 : decode cX11_count 83 = .ok (.ireturn, 1) := by decide +kernel
theorem dX11_count_84 : decode cX11_count 84 = .ok (.aload_n 0, 1) := by decide +kernel
theorem dX11_count_85 : decode cX11_count 85 = .ok (.getfield 16, 3) := by decide +kernel
theorem dX11_count_88 : decode cX11_count 88 = .ok (.getfield 492, 3) := by decide +kernel
theorem dX11_count_91 : decode cX11_count 91 = .ok (.ireturn, 1) := by decide +kernel
theorem dX11_count_92 : decode cX11_count 92 = .ok (.aload_n 0, 1) := by decide +kernel
theorem dX11_count_93 : decode cX11_count 93 = .ok (.getfield 16, 3) := by decide +kernel
theorem dX11_count_96 : decode cX11_count 96 = .ok (.getfield 363, 3) := by decide +kernel
theorem dX11_count_99 : decode cX11_count 99 = .ok (.ireturn, 1) := by decide +kernel
theorem dX11_restore_0 : decode cX11_restore 0 = .ok (.aload_n 0, 1) := by decide +kernel
theorem dX11_restore_1 : decode cX11_restore 1 = .ok (.iload_n 1, 1) := by decide +kernel
theorem dX11_restore_10 : decode cX11_restore 10 = .ok (.aaload, 1) := by decide +kernel
theorem dX11_restore_11 : decode cX11_restore 11 = .ok (.getfield 481, 3) := by decide +kernel
theorem dX11_restore_14 : decode cX11_restore 14 = .ok (.ifCond .ne 14, 3) := by decide +kernel
theorem dX11_restore_17 : decode cX11_restore 17 = .ok (.new 289, 3) := by decide +kernel
theorem dX11_restore_2 : decode cX11_restore 2 = .ok (.invokevirtual 474, 3) := by decide +kernel
theorem dX11_restore_20 : decode cX11_restore 20 = .ok (.dup, 1) := by decide +kernel
theorem dX11_restore_21 : decode cX11_restore 21 = .ok (.ldc_w 485, 3) := by decide +kernel
theorem dX11_restore_24 : decode cX11_restore 24 = .ok (.invokespecial 293, 3) := by decide +kernel
theorem dX11_restore_27 : decode cX11_restore 27 = .ok (.athrow, 1) := by decide +kernel
theorem dX11_restore_28 : decode cX11_restore 28 = .ok (.aload_n 0, 1) := by decide +kernel
theorem dX11_restore_29 : decode cX11_restore 29 = .ok (.getfield 51, 3) := by decide +kernel
theorem dX11_restore_32 : decode cX11_restore 32 = .ok (.iload_n 1, 1) := by decide +kernel
theorem dX11_restore_33 : decode cX11_restore 33 = .ok (.aaload, 1) := by decide +kernel
theorem dX11_restore_34 : decode cX11_restore 34 = .ok (.aload_n 0, 1) := by decide +kernel
theorem dX11_restore_35 : decode cX11_restore 35 = .ok (.getfield 16, 3) := by decide +kernel
theorem dX11_restore_38 : decode cX11_restore 38 = .ok (.aload_n 0, 1) := by decide +kernel
theorem dX11_restore_39 : decode cX11_restore 39 = .ok (.getfield 34, 3) := by decide +kernel
theorem dX11_restore_42 : decode cX11_restore 42 = .ok (.aload_n 0, 1) := by decide +kernel
theorem dX11_restore_43 : decode cX11_restore 43 = .ok (.getfield 41, 3) := by decide +kernel
theorem dX11_restore_46 : decode cX11_restore 46 = .ok (.invokevirtual 487, 3) := by decide +kernel
theorem dX11_restore_49 : decode cX11_restore 49 = .ok (.return_, 1) := by decide +kernel
theorem dX11_restore_5 : decode cX11_restore 5 = .ok (.aload_n 0, 1) := by decide +kernel
theorem dX11_restore_6 : decode cX11_restore 6 = .ok (.getfield 51, 3) := by decide +kernel
theorem dX11_restore_9 : decode cX11_restore 9 = .ok (.iload_n 1, 1) := by decide +kernel
theorem dX4_forget_0 : decode cX4_forget 0 = .ok (.aload_n 0, 1) := by decide +kernel
theorem dX4_forget_1 : decode cX4_forget 1 = .ok (.iconst 0, 1) := by decide +kernel
theorem dX4_forget_2 : decode cX4_forget 2 = .ok (.putfield 17, 3) := by decide +kernel
theorem dX4_forget_5 : decode cX4_forget 5 = .ok (.return_, 1) := by decide +kernel
theorem dX7_settleIn_0 : decode cX7_settleIn 0 = .ok (.iconst 0, 1) := by decide +kernel
theorem dX7_settleIn_1 : decode cX7_settleIn 1 = .ok (.istore_n 1, 1) := by decide +kernel
theorem dX7_settleIn_10 : decode cX7_settleIn 10 = .ok (.if_icmp .ge 53, 3) := by decide +kernel
theorem dX7_settleIn_13 : decode cX7_settleIn 13 = .ok (.aload_n 0, 1) := by decide +kernel
theorem dX7_settleIn_14 : decode cX7_settleIn 14 = .ok (.getfield 9, 3) := by decide +kernel
theorem dX7_settleIn_17 : decode cX7_settleIn 17 = .ok (.iload_n 1, 1) := by decide +kernel
theorem dX7_settleIn_18 : decode cX7_settleIn 18 = .ok (.aload_n 0, 1) := by decide +kernel
theorem dX7_settleIn_19 : decode cX7_settleIn 19 = .ok (.getfield 24, 3) := by decide +kernel
theorem dX7_settleIn_2 : decode cX7_settleIn 2 = .ok (.iload_n 1, 1) := by decide +kernel
theorem dX7_settleIn_22 : decode cX7_settleIn 22 = .ok (.getfield 34, 3) := by decide +kernel
theorem dX7_settleIn_25 : decode cX7_settleIn 25 = .ok (.iload_n 1, 1) := by decide +kernel
theorem dX7_settleIn_26 : decode cX7_settleIn 26 = .ok (.iaload, 1) := by decide +kernel
theorem dX7_settleIn_27 : decode cX7_settleIn 27 = .ok (.iastore, 1) := by decide +kernel
theorem dX7_settleIn_28 : decode cX7_settleIn 28 = .ok (.aload_n 0, 1) := by decide +kernel
theorem dX7_settleIn_29 : decode cX7_settleIn 29 = .ok (.getfield 15, 3) := by decide +kernel
theorem dX7_settleIn_3 : decode cX7_settleIn 3 = .ok (.aload_n 0, 1) := by decide +kernel
theorem dX7_settleIn_32 : decode cX7_settleIn 32 = .ok (.iload_n 1, 1) := by decide +kernel
theorem dX7_settleIn_33 : decode cX7_settleIn 33 = .ok (.aload_n 0, 1) := by decide +kernel
theorem dX7_settleIn_34 : decode cX7_settleIn 34 = .ok (.getfield 24, 3) := by decide +kernel
theorem dX7_settleIn_37 : decode cX7_settleIn 37 = .ok (.getfield 37, 3) := by decide +kernel
theorem dX7_settleIn_4 : decode cX7_settleIn 4 = .ok (.getfield 24, 3) := by decide +kernel
theorem dX7_settleIn_40 : decode cX7_settleIn 40 = .ok (.iload_n 1, 1) := by decide +kernel
theorem dX7_settleIn_41 : decode cX7_settleIn 41 = .ok (.iaload, 1) := by decide +kernel
theorem dX7_settleIn_42 : decode cX7_settleIn 42 = .ok (.iastore, 1) := by decide +kernel
theorem dX7_settleIn_43 : decode cX7_settleIn 43 = .ok (.aload_n 0, 1) := by decide +kernel
theorem dX7_settleIn_44 : decode cX7_settleIn 44 = .ok (.getfield 18, 3) := by decide +kernel
theorem dX7_settleIn_47 : decode cX7_settleIn 47 = .ok (.iload_n 1, 1) := by decide +kernel
theorem dX7_settleIn_48 : decode cX7_settleIn 48 = .ok (.iconst 0, 1) := by decide +kernel
theorem dX7_settleIn_49 : decode cX7_settleIn 49 = .ok (.iastore, 1) := by decide +kernel
theorem dX7_settleIn_50 : decode cX7_settleIn 50 = .ok (.aload_n 0, 1) := by decide +kernel
theorem dX7_settleIn_51 : decode cX7_settleIn 51 = .ok (.getfield 21, 3) := by decide +kernel
theorem dX7_settleIn_54 : decode cX7_settleIn 54 = .ok (.iload_n 1, 1) := by decide +kernel
theorem dX7_settleIn_55 : decode cX7_settleIn 55 = .ok (.iconst 0, 1) := by decide +kernel
theorem dX7_settleIn_56 : decode cX7_settleIn 56 = .ok (.iastore, 1) := by decide +kernel
theorem dX7_settleIn_57 : decode cX7_settleIn 57 = .ok (.iinc 1 1, 3) := by decide +kernel
theorem dX7_settleIn_60 : decode cX7_settleIn 60 = .ok (.goto (-58), 3) := by decide +kernel
theorem dX7_settleIn_63 : decode cX7_settleIn 63 = .ok (.iconst 0, 1) := by decide +kernel
theorem dX7_settleIn_64 : decode cX7_settleIn 64 = .ok (.istore_n 1, 1) := by decide +kernel
theorem dX7_settleIn_65 : decode cX7_settleIn 65 = .ok (.iload_n 1, 1) := by decide +kernel
theorem dX7_settleIn_66 : decode cX7_settleIn 66 = .ok (.aload_n 0, 1) := by decide +kernel
theorem dX7_settleIn_67 : decode cX7_settleIn 67 = .ok (.getfield 24, 3) := by decide +kernel
theorem dX7_settleIn_7 : decode cX7_settleIn 7 = .ok (.getfield 28, 3) := by decide +kernel
theorem dX7_settleIn_70 : decode cX7_settleIn 70 = .ok (.getfield 28, 3) := by decide +kernel
theorem dX7_settleIn_73 : decode cX7_settleIn 73 = .ok (.if_icmp .ge 14, 3) := by decide +kernel
theorem dX7_settleIn_76 : decode cX7_settleIn 76 = .ok (.aload_n 0, 1) := by decide +kernel
theorem dX7_settleIn_77 : decode cX7_settleIn 77 = .ok (.iload_n 1, 1) := by decide +kernel
theorem dX7_settleIn_78 : decode cX7_settleIn 78 = .ok (.invokevirtual 40, 3) := by decide +kernel
theorem dX7_settleIn_81 : decode cX7_settleIn 81 = .ok (.iinc 1 1, 3) := by decide +kernel
theorem dX7_settleIn_84 : decode cX7_settleIn 84 = .ok (.goto (-19), 3) := by decide +kernel
theorem dX7_settleIn_87 : decode cX7_settleIn 87 = .ok (.aload_n 0, 1) := by decide +kernel
theorem dX7_settleIn_88 : decode cX7_settleIn 88 = .ok (.iconst 0, 1) := by decide +kernel
theorem dX7_settleIn_89 : decode cX7_settleIn 89 = .ok (.putfield 44, 3) := by decide +kernel
theorem dX7_settleIn_92 : decode cX7_settleIn 92 = .ok (.aload_n 0, 1) := by decide +kernel
theorem dX7_settleIn_93 : decode cX7_settleIn 93 = .ok (.iconst 0, 1) := by decide +kernel
theorem dX7_settleIn_94 : decode cX7_settleIn 94 = .ok (.putfield 47, 3) := by decide +kernel
theorem dX7_settleIn_97 : decode cX7_settleIn 97 = .ok (.return_, 1) := by decide +kernel
set_option maxRecDepth 4000 in
theorem k_X9_copy_107_5 (l : Launch) (M : Mem) (hJ : Iw M) : CV l yX9_copy cX9_copy 2 none 1 (fun ad => [.ref (ad 107), .ref (ad 5)]) M (fun M' => Fr [5] M M' ∧ (∀ j : Nat, j < 100 → M' 5 j = M 107 j)) := by
  obtain ⟨hI, hW⟩ := hJ
  have hF : Fr [5] M M := Fr.rf
  refine en_v (by decide +kernel) (fun ad => by exact Nat.le_of_ble_eq_true rfl) (fun D cy ad A p e s m args below meth c Q F hret => ?_)
  refine z_eq (ls' := [(0, .ref (ad 107)), (1, .ref (ad 5))]) rfl rfl rfl ?_
  refine z_aload_n F dX9_copy_0 rfl (q := 0) rfl ?_
  refine z_iconst F dX9_copy_1 ?_
  refine z_aload_n F dX9_copy_2 rfl (q := 1) rfl ?_
  refine z_iconst F dX9_copy_3 ?_
  refine z_aload_n F dX9_copy_4 rfl (q := 0) rfl ?_
  refine z_alen (x := 100) F gs_107 rfl rfl dX9_copy_5 ?_
  refine z_aload_n F dX9_copy_6 rfl (q := 1) rfl ?_
  refine z_alen (x := 100) F gs_5 rfl rfl dX9_copy_7 ?_
  refine z_min F mm_X9_85 (Nat.le_of_ble_eq_true rfl) dX9_copy_8 (by omega) (by omega) (fun v1 ev1 => ?_)
  refine z_copyE F (by decide) ac_X9_91 hI gs_107 gs_5 (by omega) (by omega) (by omega) (by omega) (by omega) (by decide) (by decide) (fun i hi => rfl) (Nat.le_of_ble_eq_true rfl) dX9_copy_11 (fun M3 hI g2 kg2 => ?_)
  have hF := hF.call g2 (by decide)
  have hW : WFk M3 := hW.fr g2 (by decide) (by decide)
  exact hret _ 14 _ ⟨hI, hW⟩ ⟨hF, (cp_at (f := M3 5) (g := M 107) (h := M 5) 100 kg2 (by omega))⟩ dX9_copy_14
set_option maxRecDepth 4000 in
theorem k_X9_copy_108_6 (l : Launch) (M : Mem) (hJ : Iw M) : CV l yX9_copy cX9_copy 2 none 1 (fun ad => [.ref (ad 108), .ref (ad 6)]) M (fun M' => Fr [6] M M' ∧ (∀ j : Nat, j < 8 → M' 6 j = M 108 j)) := by
  obtain ⟨hI, hW⟩ := hJ
  have hF : Fr [6] M M := Fr.rf
  refine en_v (by decide +kernel) (fun ad => by exact Nat.le_of_ble_eq_true rfl) (fun D cy ad A p e s m args below meth c Q F hret => ?_)
  refine z_eq (ls' := [(0, .ref (ad 108)), (1, .ref (ad 6))]) rfl rfl rfl ?_
  refine z_aload_n F dX9_copy_0 rfl (q := 0) rfl ?_
  refine z_iconst F dX9_copy_1 ?_
  refine z_aload_n F dX9_copy_2 rfl (q := 1) rfl ?_
  refine z_iconst F dX9_copy_3 ?_
  refine z_aload_n F dX9_copy_4 rfl (q := 0) rfl ?_
  refine z_alen (x := 8) F gs_108 rfl rfl dX9_copy_5 ?_
  refine z_aload_n F dX9_copy_6 rfl (q := 1) rfl ?_
  refine z_alen (x := 8) F gs_6 rfl rfl dX9_copy_7 ?_
  refine z_min F mm_X9_85 (Nat.le_of_ble_eq_true rfl) dX9_copy_8 (by omega) (by omega) (fun v1 ev1 => ?_)
  refine z_copyE F (by decide) ac_X9_91 hI gs_108 gs_6 (by omega) (by omega) (by omega) (by omega) (by omega) (by decide) (by decide) (fun i hi => rfl) (Nat.le_of_ble_eq_true rfl) dX9_copy_11 (fun M3 hI g2 kg2 => ?_)
  have hF := hF.call g2 (by decide)
  have hW : WFk M3 := hW.fr g2 (by decide) (by decide)
  exact hret _ 14 _ ⟨hI, hW⟩ ⟨hF, (cp_at (f := M3 6) (g := M 108) (h := M 6) 8 kg2 (by omega))⟩ dX9_copy_14
set_option maxRecDepth 4000 in
theorem k_X9_copy_109_7 (l : Launch) (M : Mem) (hJ : Iw M) : CV l yX9_copy cX9_copy 2 none 1 (fun ad => [.ref (ad 109), .ref (ad 7)]) M (fun M' => Fr [7] M M' ∧ (∀ j : Nat, j < 8 → M' 7 j = M 109 j)) := by
  obtain ⟨hI, hW⟩ := hJ
  have hF : Fr [7] M M := Fr.rf
  refine en_v (by decide +kernel) (fun ad => by exact Nat.le_of_ble_eq_true rfl) (fun D cy ad A p e s m args below meth c Q F hret => ?_)
  refine z_eq (ls' := [(0, .ref (ad 109)), (1, .ref (ad 7))]) rfl rfl rfl ?_
  refine z_aload_n F dX9_copy_0 rfl (q := 0) rfl ?_
  refine z_iconst F dX9_copy_1 ?_
  refine z_aload_n F dX9_copy_2 rfl (q := 1) rfl ?_
  refine z_iconst F dX9_copy_3 ?_
  refine z_aload_n F dX9_copy_4 rfl (q := 0) rfl ?_
  refine z_alen (x := 8) F gs_109 rfl rfl dX9_copy_5 ?_
  refine z_aload_n F dX9_copy_6 rfl (q := 1) rfl ?_
  refine z_alen (x := 8) F gs_7 rfl rfl dX9_copy_7 ?_
  refine z_min F mm_X9_85 (Nat.le_of_ble_eq_true rfl) dX9_copy_8 (by omega) (by omega) (fun v1 ev1 => ?_)
  refine z_copyE F (by decide) ac_X9_91 hI gs_109 gs_7 (by omega) (by omega) (by omega) (by omega) (by omega) (by decide) (by decide) (fun i hi => rfl) (Nat.le_of_ble_eq_true rfl) dX9_copy_11 (fun M3 hI g2 kg2 => ?_)
  have hF := hF.call g2 (by decide)
  have hW : WFk M3 := hW.fr g2 (by decide) (by decide)
  exact hret _ 14 _ ⟨hI, hW⟩ ⟨hF, (cp_at (f := M3 7) (g := M 109) (h := M 7) 8 kg2 (by omega))⟩ dX9_copy_14
set_option maxRecDepth 4000 in
theorem k_X9_copy_110_8 (l : Launch) (M : Mem) (hJ : Iw M) : CV l yX9_copy cX9_copy 2 none 1 (fun ad => [.ref (ad 110), .ref (ad 8)]) M (fun M' => Fr [8] M M' ∧ (∀ j : Nat, j < 8 → M' 8 j = M 110 j)) := by
  obtain ⟨hI, hW⟩ := hJ
  have hF : Fr [8] M M := Fr.rf
  refine en_v (by decide +kernel) (fun ad => by exact Nat.le_of_ble_eq_true rfl) (fun D cy ad A p e s m args below meth c Q F hret => ?_)
  refine z_eq (ls' := [(0, .ref (ad 110)), (1, .ref (ad 8))]) rfl rfl rfl ?_
  refine z_aload_n F dX9_copy_0 rfl (q := 0) rfl ?_
  refine z_iconst F dX9_copy_1 ?_
  refine z_aload_n F dX9_copy_2 rfl (q := 1) rfl ?_
  refine z_iconst F dX9_copy_3 ?_
  refine z_aload_n F dX9_copy_4 rfl (q := 0) rfl ?_
  refine z_alen (x := 8) F gs_110 rfl rfl dX9_copy_5 ?_
  refine z_aload_n F dX9_copy_6 rfl (q := 1) rfl ?_
  refine z_alen (x := 8) F gs_8 rfl rfl dX9_copy_7 ?_
  refine z_min F mm_X9_85 (Nat.le_of_ble_eq_true rfl) dX9_copy_8 (by omega) (by omega) (fun v1 ev1 => ?_)
  refine z_copyE F (by decide) ac_X9_91 hI gs_110 gs_8 (by omega) (by omega) (by omega) (by omega) (by omega) (by decide) (by decide) (fun i hi => rfl) (Nat.le_of_ble_eq_true rfl) dX9_copy_11 (fun M3 hI g2 kg2 => ?_)
  have hF := hF.call g2 (by decide)
  have hW : WFk M3 := hW.fr g2 (by decide) (by decide)
  exact hret _ 14 _ ⟨hI, hW⟩ ⟨hF, (cp_at (f := M3 8) (g := M 110) (h := M 8) 8 kg2 (by omega))⟩ dX9_copy_14
set_option maxRecDepth 4000 in
theorem k_X9_copy_111_9 (l : Launch) (M : Mem) (hJ : Iw M) : CV l yX9_copy cX9_copy 2 none 1 (fun ad => [.ref (ad 111), .ref (ad 9)]) M (fun M' => Fr [9] M M' ∧ (∀ j : Nat, j < 8 → M' 9 j = M 111 j)) := by
  obtain ⟨hI, hW⟩ := hJ
  have hF : Fr [9] M M := Fr.rf
  refine en_v (by decide +kernel) (fun ad => by exact Nat.le_of_ble_eq_true rfl) (fun D cy ad A p e s m args below meth c Q F hret => ?_)
  refine z_eq (ls' := [(0, .ref (ad 111)), (1, .ref (ad 9))]) rfl rfl rfl ?_
  refine z_aload_n F dX9_copy_0 rfl (q := 0) rfl ?_
  refine z_iconst F dX9_copy_1 ?_
  refine z_aload_n F dX9_copy_2 rfl (q := 1) rfl ?_
  refine z_iconst F dX9_copy_3 ?_
  refine z_aload_n F dX9_copy_4 rfl (q := 0) rfl ?_
  refine z_alen (x := 8) F gs_111 rfl rfl dX9_copy_5 ?_
  refine z_aload_n F dX9_copy_6 rfl (q := 1) rfl ?_
  refine z_alen (x := 8) F gs_9 rfl rfl dX9_copy_7 ?_
  refine z_min F mm_X9_85 (Nat.le_of_ble_eq_true rfl) dX9_copy_8 (by omega) (by omega) (fun v1 ev1 => ?_)
  refine z_copyE F (by decide) ac_X9_91 hI gs_111 gs_9 (by omega) (by omega) (by omega) (by omega) (by omega) (by decide) (by decide) (fun i hi => rfl) (Nat.le_of_ble_eq_true rfl) dX9_copy_11 (fun M3 hI g2 kg2 => ?_)
  have hF := hF.call g2 (by decide)
  have hW : WFk M3 := hW.fr g2 (by decide) (by decide)
  exact hret _ 14 _ ⟨hI, hW⟩ ⟨hF, (cp_at (f := M3 9) (g := M 111) (h := M 9) 8 kg2 (by omega))⟩ dX9_copy_14
set_option maxRecDepth 4000 in
theorem k_X9_copy_112_10 (l : Launch) (M : Mem) (hJ : Iw M) : CV l yX9_copy cX9_copy 2 none 1 (fun ad => [.ref (ad 112), .ref (ad 10)]) M (fun M' => Fr [10] M M' ∧ (∀ j : Nat, j < 6 → M' 10 j = M 112 j)) := by
  obtain ⟨hI, hW⟩ := hJ
  have hF : Fr [10] M M := Fr.rf
  refine en_v (by decide +kernel) (fun ad => by exact Nat.le_of_ble_eq_true rfl) (fun D cy ad A p e s m args below meth c Q F hret => ?_)
  refine z_eq (ls' := [(0, .ref (ad 112)), (1, .ref (ad 10))]) rfl rfl rfl ?_
  refine z_aload_n F dX9_copy_0 rfl (q := 0) rfl ?_
  refine z_iconst F dX9_copy_1 ?_
  refine z_aload_n F dX9_copy_2 rfl (q := 1) rfl ?_
  refine z_iconst F dX9_copy_3 ?_
  refine z_aload_n F dX9_copy_4 rfl (q := 0) rfl ?_
  refine z_alen (x := 6) F gs_112 rfl rfl dX9_copy_5 ?_
  refine z_aload_n F dX9_copy_6 rfl (q := 1) rfl ?_
  refine z_alen (x := 6) F gs_10 rfl rfl dX9_copy_7 ?_
  refine z_min F mm_X9_85 (Nat.le_of_ble_eq_true rfl) dX9_copy_8 (by omega) (by omega) (fun v1 ev1 => ?_)
  refine z_copyE F (by decide) ac_X9_91 hI gs_112 gs_10 (by omega) (by omega) (by omega) (by omega) (by omega) (by decide) (by decide) (fun i hi => rfl) (Nat.le_of_ble_eq_true rfl) dX9_copy_11 (fun M3 hI g2 kg2 => ?_)
  have hF := hF.call g2 (by decide)
  have hW : WFk M3 := hW.fr g2 (by decide) (by decide)
  exact hret _ 14 _ ⟨hI, hW⟩ ⟨hF, (cp_at (f := M3 10) (g := M 112) (h := M 10) 6 kg2 (by omega))⟩ dX9_copy_14
set_option maxRecDepth 4000 in
theorem k_X9_copy_113_11 (l : Launch) (M : Mem) (hJ : Iw M) : CV l yX9_copy cX9_copy 2 none 1 (fun ad => [.ref (ad 113), .ref (ad 11)]) M (fun M' => Fr [11] M M' ∧ (∀ j : Nat, j < 6 → M' 11 j = M 113 j)) := by
  obtain ⟨hI, hW⟩ := hJ
  have hF : Fr [11] M M := Fr.rf
  refine en_v (by decide +kernel) (fun ad => by exact Nat.le_of_ble_eq_true rfl) (fun D cy ad A p e s m args below meth c Q F hret => ?_)
  refine z_eq (ls' := [(0, .ref (ad 113)), (1, .ref (ad 11))]) rfl rfl rfl ?_
  refine z_aload_n F dX9_copy_0 rfl (q := 0) rfl ?_
  refine z_iconst F dX9_copy_1 ?_
  refine z_aload_n F dX9_copy_2 rfl (q := 1) rfl ?_
  refine z_iconst F dX9_copy_3 ?_
  refine z_aload_n F dX9_copy_4 rfl (q := 0) rfl ?_
  refine z_alen (x := 6) F gs_113 rfl rfl dX9_copy_5 ?_
  refine z_aload_n F dX9_copy_6 rfl (q := 1) rfl ?_
  refine z_alen (x := 6) F gs_11 rfl rfl dX9_copy_7 ?_
  refine z_min F mm_X9_85 (Nat.le_of_ble_eq_true rfl) dX9_copy_8 (by omega) (by omega) (fun v1 ev1 => ?_)
  refine z_copyE F (by decide) ac_X9_91 hI gs_113 gs_11 (by omega) (by omega) (by omega) (by omega) (by omega) (by decide) (by decide) (fun i hi => rfl) (Nat.le_of_ble_eq_true rfl) dX9_copy_11 (fun M3 hI g2 kg2 => ?_)
  have hF := hF.call g2 (by decide)
  have hW : WFk M3 := hW.fr g2 (by decide) (by decide)
  exact hret _ 14 _ ⟨hI, hW⟩ ⟨hF, (cp_at (f := M3 11) (g := M 113) (h := M 11) 6 kg2 (by omega))⟩ dX9_copy_14
set_option maxRecDepth 4000 in
theorem k_X9_copy_114_12 (l : Launch) (M : Mem) (hJ : Iw M) : CV l yX9_copy cX9_copy 2 none 1 (fun ad => [.ref (ad 114), .ref (ad 12)]) M (fun M' => Fr [12] M M' ∧ (∀ j : Nat, j < 6 → M' 12 j = M 114 j)) := by
  obtain ⟨hI, hW⟩ := hJ
  have hF : Fr [12] M M := Fr.rf
  refine en_v (by decide +kernel) (fun ad => by exact Nat.le_of_ble_eq_true rfl) (fun D cy ad A p e s m args below meth c Q F hret => ?_)
  refine z_eq (ls' := [(0, .ref (ad 114)), (1, .ref (ad 12))]) rfl rfl rfl ?_
  refine z_aload_n F dX9_copy_0 rfl (q := 0) rfl ?_
  refine z_iconst F dX9_copy_1 ?_
  refine z_aload_n F dX9_copy_2 rfl (q := 1) rfl ?_
  refine z_iconst F dX9_copy_3 ?_
  refine z_aload_n F dX9_copy_4 rfl (q := 0) rfl ?_
  refine z_alen (x := 6) F gs_114 rfl rfl dX9_copy_5 ?_
  refine z_aload_n F dX9_copy_6 rfl (q := 1) rfl ?_
  refine z_alen (x := 6) F gs_12 rfl rfl dX9_copy_7 ?_
  refine z_min F mm_X9_85 (Nat.le_of_ble_eq_true rfl) dX9_copy_8 (by omega) (by omega) (fun v1 ev1 => ?_)
  refine z_copyE F (by decide) ac_X9_91 hI gs_114 gs_12 (by omega) (by omega) (by omega) (by omega) (by omega) (by decide) (by decide) (fun i hi => rfl) (Nat.le_of_ble_eq_true rfl) dX9_copy_11 (fun M3 hI g2 kg2 => ?_)
  have hF := hF.call g2 (by decide)
  have hW : WFk M3 := hW.fr g2 (by decide) (by decide)
  exact hret _ 14 _ ⟨hI, hW⟩ ⟨hF, (cp_at (f := M3 12) (g := M 114) (h := M 12) 6 kg2 (by omega))⟩ dX9_copy_14
set_option maxRecDepth 4000 in
theorem k_X9_copy_115_13 (l : Launch) (M : Mem) (hJ : Iw M) : CV l yX9_copy cX9_copy 2 none 1 (fun ad => [.ref (ad 115), .ref (ad 13)]) M (fun M' => Fr [13] M M' ∧ (∀ j : Nat, j < 6 → M' 13 j = M 115 j)) := by
  obtain ⟨hI, hW⟩ := hJ
  have hF : Fr [13] M M := Fr.rf
  refine en_v (by decide +kernel) (fun ad => by exact Nat.le_of_ble_eq_true rfl) (fun D cy ad A p e s m args below meth c Q F hret => ?_)
  refine z_eq (ls' := [(0, .ref (ad 115)), (1, .ref (ad 13))]) rfl rfl rfl ?_
  refine z_aload_n F dX9_copy_0 rfl (q := 0) rfl ?_
  refine z_iconst F dX9_copy_1 ?_
  refine z_aload_n F dX9_copy_2 rfl (q := 1) rfl ?_
  refine z_iconst F dX9_copy_3 ?_
  refine z_aload_n F dX9_copy_4 rfl (q := 0) rfl ?_
  refine z_alen (x := 6) F gs_115 rfl rfl dX9_copy_5 ?_
  refine z_aload_n F dX9_copy_6 rfl (q := 1) rfl ?_
  refine z_alen (x := 6) F gs_13 rfl rfl dX9_copy_7 ?_
  refine z_min F mm_X9_85 (Nat.le_of_ble_eq_true rfl) dX9_copy_8 (by omega) (by omega) (fun v1 ev1 => ?_)
  refine z_copyE F (by decide) ac_X9_91 hI gs_115 gs_13 (by omega) (by omega) (by omega) (by omega) (by omega) (by decide) (by decide) (fun i hi => rfl) (Nat.le_of_ble_eq_true rfl) dX9_copy_11 (fun M3 hI g2 kg2 => ?_)
  have hF := hF.call g2 (by decide)
  have hW : WFk M3 := hW.fr g2 (by decide) (by decide)
  exact hret _ 14 _ ⟨hI, hW⟩ ⟨hF, (cp_at (f := M3 13) (g := M 115) (h := M 13) 6 kg2 (by omega))⟩ dX9_copy_14
set_option maxRecDepth 4000 in
theorem k_X2_copyFrom_14_116 (l : Launch) (M : Mem) (hJ : Iw M) : CV l yX2_copyFrom cX2_copyFrom 2 none 1 (fun ad => [.ref (ad 14), .ref (ad 116)]) M (fun M' => Fr [14, 15] M M') := by
  obtain ⟨hI, hW⟩ := hJ
  have hF : Fr [14, 15] M M := Fr.rf
  refine en_v (by decide +kernel) (fun ad => by exact Nat.le_of_ble_eq_true rfl) (fun D cy ad A p e s m args below meth c Q F hret => ?_)
  refine z_eq (ls' := [(0, .ref (ad 14)), (1, .ref (ad 116))]) rfl rfl rfl ?_
  refine z_aload_n F dX2_copyFrom_0 rfl (q := 0) rfl ?_
  refine z_aload_n F dX2_copyFrom_1 rfl (q := 1) rfl ?_
  refine gf_X2_15 F hI gs_116 rfl bd_116_2 dX2_copyFrom_2 (fun v1 ev1 av1 bv1 => ?_)
  refine pf_X2_15 F hI gs_14 rfl bd_14_2 rfl rfl dX2_copyFrom_5 (by omega) (by omega) (fun M3 hI sf2 f2 => ?_)
  have hF := hF.wr f2 (by decide) (by decide)
  have hW : WFk M3 := hW.site f2 (by decide)
  refine z_aload_n F dX2_copyFrom_8 rfl (q := 0) rfl ?_
  refine z_aload_n F dX2_copyFrom_9 rfl (q := 1) rfl ?_
  refine gf_X2_25 F hI gs_116 rfl bd_116_1 dX2_copyFrom_10 (fun v4 ev4 av4 bv4 => ?_)
  refine pf_X2_25 F hI gs_14 rfl bd_14_1 rfl rfl dX2_copyFrom_13 (by omega) (by omega) (fun M6 hI sf5 f5 => ?_)
  have hF := hF.wr f5 (by decide) (by decide)
  have hW : WFk M6 := hW.site f5 (by decide)
  refine z_aload_n F dX2_copyFrom_16 rfl (q := 1) rfl ?_
  refine rf_X2_9 F gs_116 rfl dX2_copyFrom_17 ?_
  refine z_iconst F dX2_copyFrom_20 ?_
  refine z_aload_n F dX2_copyFrom_21 rfl (q := 0) rfl ?_
  refine rf_X2_9 F gs_14 rfl dX2_copyFrom_22 ?_
  refine z_iconst F dX2_copyFrom_25 ?_
  refine z_aload_n F dX2_copyFrom_26 rfl (q := 1) rfl ?_
  refine gf_X2_25 F hI gs_116 rfl bd_116_1 dX2_copyFrom_27 (fun v7 ev7 av7 bv7 => ?_)
  have q8 : v4 = M6 116 1 := ev4.trans (f5 116 1 (fun q => absurd q.1 (by decide))).symm
  have zv7 : v4 = v7 := q8.trans ev7.symm
  subst zv7
  refine z_copy F (by decide) ac_X2_28 hI gs_117 gs_15 (by omega) (by omega) (by omega) (by omega) (by omega) (by decide) (by decide) (fun i hi => rfl) (Nat.le_of_ble_eq_true rfl) dX2_copyFrom_30 (fun M10 hI g9 => ?_)
  have hF := hF.call g9 (by decide)
  have hW : WFk M10 := hW.fr g9 (by decide) (by decide)
  exact hret _ 33 _ ⟨hI, hW⟩ hF dX2_copyFrom_33
set_option maxRecDepth 4000 in
theorem k_X9_copyFrom_2_104 (l : Launch) (M : Mem) (hJ : Iw M) : CV l yX9_copyFrom cX9_copyFrom 2 none 2 (fun ad => [.ref (ad 2), .ref (ad 104)]) M (fun M' => Fr [2, 3, 4, 5, 6, 7, 8, 9, 10, 11, 12, 13, 14, 15] M M' ∧ (M' 2 0 = M 104 0) ∧ (Cp 104 2 M M')) := by
  obtain ⟨hI, hW⟩ := hJ
  have hF : Fr [2, 3, 4, 5, 6, 7, 8, 9, 10, 11, 12, 13, 14, 15] M M := Fr.rf
  have hI0 := hI
  have hW0 := hW
  refine en_v (by decide +kernel) (fun ad => by exact Nat.le_of_ble_eq_true rfl) (fun D cy ad A p e s m args below meth c Q F hret => ?_)
  refine z_eq (ls' := [(0, .ref (ad 2)), (1, .ref (ad 104))]) rfl rfl rfl ?_
  refine z_aload_n F dX9_copyFrom_0 rfl (q := 0) rfl ?_
  refine z_aload_n F dX9_copyFrom_1 rfl (q := 1) rfl ?_
  refine gf_X9_52 F hI gs_104 rfl bd_104_0 dX9_copyFrom_2 (fun v1 ev1 av1 bv1 => ?_)
  refine pf_X9_52 F hI gs_2 rfl bd_2_0 rfl rfl dX9_copyFrom_5 (by omega) (by omega) (fun M3 hI sf2 f2 => ?_)
  have hF := hF.wr f2 (by decide) (by decide)
  have hW : WFk M3 := hW.site f2 (by decide)
  refine z_aload_n F dX9_copyFrom_8 rfl (q := 0) rfl ?_
  refine z_aload_n F dX9_copyFrom_9 rfl (q := 1) rfl ?_
  refine gf_X9_56 F hI gs_104 rfl bd_104_1 dX9_copyFrom_10 (fun v4 ev4 av4 bv4 => ?_)
  refine pf_X9_56 F hI gs_2 rfl bd_2_1 rfl rfl dX9_copyFrom_13 (by omega) (by omega) (fun M6 hI sf5 f5 => ?_)
  have hF := hF.wr f5 (by decide) (by decide)
  have hW : WFk M6 := hW.site f5 (by decide)
  refine z_aload_n F dX9_copyFrom_16 rfl (q := 0) rfl ?_
  refine z_aload_n F dX9_copyFrom_17 rfl (q := 1) rfl ?_
  refine gf_X9_59 F hI gs_104 rfl bd_104_2 dX9_copyFrom_18 (fun v7 ev7 av7 bv7 => ?_)
  refine pf_X9_59 F hI gs_2 rfl bd_2_2 rfl rfl dX9_copyFrom_21 (by omega) (by omega) (fun M9 hI sf8 f8 => ?_)
  have hF := hF.wr f8 (by decide) (by decide)
  have hW : WFk M9 := hW.site f8 (by decide)
  refine z_aload_n F dX9_copyFrom_24 rfl (q := 0) rfl ?_
  refine z_aload_n F dX9_copyFrom_25 rfl (q := 1) rfl ?_
  refine gf_X9_62 F hI gs_104 rfl bd_104_3 dX9_copyFrom_26 (fun v10 ev10 av10 bv10 => ?_)
  refine pf_X9_62 F hI gs_2 rfl bd_2_3 rfl rfl dX9_copyFrom_29 (by omega) (by omega) (fun M12 hI sf11 f11 => ?_)
  have hF := hF.wr f11 (by decide) (by decide)
  have hW : WFk M12 := hW.site f11 (by decide)
  refine z_aload_n F dX9_copyFrom_32 rfl (q := 0) rfl ?_
  refine z_aload_n F dX9_copyFrom_33 rfl (q := 1) rfl ?_
  refine gf_X9_65 F hI gs_104 rfl bd_104_4 dX9_copyFrom_34 (fun v13 ev13 av13 bv13 => ?_)
  refine pf_X9_65 F hI gs_2 rfl bd_2_4 rfl rfl dX9_copyFrom_37 (by omega) (by omega) (fun M15 hI sf14 f14 => ?_)
  have hF := hF.wr f14 (by decide) (by decide)
  have hW : WFk M15 := hW.site f14 (by decide)
  refine z_aload_n F dX9_copyFrom_40 rfl (q := 0) rfl ?_
  refine z_aload_n F dX9_copyFrom_41 rfl (q := 1) rfl ?_
  refine gf_X9_68 F hI gs_104 rfl bd_104_12 dX9_copyFrom_42 (fun v16 ev16 av16 bv16 => ?_)
  refine pf_X9_68 F hI gs_2 rfl bd_2_12 rfl rfl dX9_copyFrom_45 (by omega) (by omega) (fun M18 hI sf17 f17 => ?_)
  have hF := hF.wr f17 (by decide) (by decide)
  have hW : WFk M18 := hW.site f17 (by decide)
  refine z_aload_n F dX9_copyFrom_48 rfl (q := 1) rfl ?_
  refine rf_X9_9 F gs_104 rfl dX9_copyFrom_49 ?_
  refine z_aload_n F dX9_copyFrom_52 rfl (q := 0) rfl ?_
  refine rf_X9_9 F gs_2 rfl dX9_copyFrom_53 ?_
  refine zs_v (rest := []) F (k_X9_copy_105_3 l M18 ⟨hI, hW⟩) cs_X9_77 (by decide) (by decide) rfl rfl rfl (Nat.le_of_ble_eq_true rfl) dX9_copyFrom_56 (fun M19 hI p20 => ?_)
  obtain ⟨hI, hW⟩ := hI
  obtain ⟨fp20, yp20⟩ := p20
  have hF := hF.call fp20 (by decide)
  refine z_aload_n F dX9_copyFrom_59 rfl (q := 1) rfl ?_
  refine rf_X9_15 F gs_104 rfl dX9_copyFrom_60 ?_
  refine z_aload_n F dX9_copyFrom_63 rfl (q := 0) rfl ?_
  refine rf_X9_15 F gs_2 rfl dX9_copyFrom_64 ?_
  refine zs_v (rest := []) F (k_X9_copy_106_4 l M19 ⟨hI, hW⟩) cs_X9_77 (by decide) (by decide) rfl rfl rfl (Nat.le_of_ble_eq_true rfl) dX9_copyFrom_67 (fun M21 hI p22 => ?_)
  obtain ⟨hI, hW⟩ := hI
  obtain ⟨fp22, yp22⟩ := p22
  have hF := hF.call fp22 (by decide)
  refine z_aload_n F dX9_copyFrom_70 rfl (q := 1) rfl ?_
  refine rf_X9_18 F gs_104 rfl dX9_copyFrom_71 ?_
  refine z_aload_n F dX9_copyFrom_74 rfl (q := 0) rfl ?_
  refine rf_X9_18 F gs_2 rfl dX9_copyFrom_75 ?_
  refine zs_v (rest := []) F (k_X9_copy_107_5 l M21 ⟨hI, hW⟩) cs_X9_77 (by decide) (by decide) rfl rfl rfl (Nat.le_of_ble_eq_true rfl) dX9_copyFrom_78 (fun M23 hI p24 => ?_)
  obtain ⟨hI, hW⟩ := hI
  obtain ⟨fp24, yp24⟩ := p24
  have hF := hF.call fp24 (by decide)
  refine z_aload_n F dX9_copyFrom_81 rfl (q := 1) rfl ?_
  refine rf_X9_21 F gs_104 rfl dX9_copyFrom_82 ?_
  refine z_aload_n F dX9_copyFrom_85 rfl (q := 0) rfl ?_
  refine rf_X9_21 F gs_2 rfl dX9_copyFrom_86 ?_
  refine zs_v (rest := []) F (k_X9_copy_108_6 l M23 ⟨hI, hW⟩) cs_X9_77 (by decide) (by decide) rfl rfl rfl (Nat.le_of_ble_eq_true rfl) dX9_copyFrom_89 (fun M25 hI p26 => ?_)
  obtain ⟨hI, hW⟩ := hI
  obtain ⟨fp26, yp26⟩ := p26
  have hF := hF.call fp26 (by decide)
  refine z_aload_n F dX9_copyFrom_92 rfl (q := 1) rfl ?_
  refine rf_X9_24 F gs_104 rfl dX9_copyFrom_93 ?_
  refine z_aload_n F dX9_copyFrom_96 rfl (q := 0) rfl ?_
  refine rf_X9_24 F gs_2 rfl dX9_copyFrom_97 ?_
  refine zs_v (rest := []) F (k_X9_copy_109_7 l M25 ⟨hI, hW⟩) cs_X9_77 (by decide) (by decide) rfl rfl rfl (Nat.le_of_ble_eq_true rfl) dX9_copyFrom_100 (fun M27 hI p28 => ?_)
  obtain ⟨hI, hW⟩ := hI
  obtain ⟨fp28, yp28⟩ := p28
  have hF := hF.call fp28 (by decide)
  refine z_aload_n F dX9_copyFrom_103 rfl (q := 1) rfl ?_
  refine rf_X9_27 F gs_104 rfl dX9_copyFrom_104 ?_
  refine z_aload_n F dX9_copyFrom_107 rfl (q := 0) rfl ?_
  refine rf_X9_27 F gs_2 rfl dX9_copyFrom_108 ?_
  refine zs_v (rest := []) F (k_X9_copy_110_8 l M27 ⟨hI, hW⟩) cs_X9_77 (by decide) (by decide) rfl rfl rfl (Nat.le_of_ble_eq_true rfl) dX9_copyFrom_111 (fun M29 hI p30 => ?_)
  obtain ⟨hI, hW⟩ := hI
  obtain ⟨fp30, yp30⟩ := p30
  have hF := hF.call fp30 (by decide)
  refine z_aload_n F dX9_copyFrom_114 rfl (q := 1) rfl ?_
  refine rf_X9_30 F gs_104 rfl dX9_copyFrom_115 ?_
  refine z_aload_n F dX9_copyFrom_118 rfl (q := 0) rfl ?_
  refine rf_X9_30 F gs_2 rfl dX9_copyFrom_119 ?_
  refine zs_v (rest := []) F (k_X9_copy_111_9 l M29 ⟨hI, hW⟩) cs_X9_77 (by decide) (by decide) rfl rfl rfl (Nat.le_of_ble_eq_true rfl) dX9_copyFrom_122 (fun M31 hI p32 => ?_)
  obtain ⟨hI, hW⟩ := hI
  obtain ⟨fp32, yp32⟩ := p32
  have hF := hF.call fp32 (by decide)
  refine z_aload_n F dX9_copyFrom_125 rfl (q := 1) rfl ?_
  refine rf_X9_33 F gs_104 rfl dX9_copyFrom_126 ?_
  refine z_aload_n F dX9_copyFrom_129 rfl (q := 0) rfl ?_
  refine rf_X9_33 F gs_2 rfl dX9_copyFrom_130 ?_
  refine zs_v (rest := []) F (k_X9_copy_112_10 l M31 ⟨hI, hW⟩) cs_X9_77 (by decide) (by decide) rfl rfl rfl (Nat.le_of_ble_eq_true rfl) dX9_copyFrom_133 (fun M33 hI p34 => ?_)
  obtain ⟨hI, hW⟩ := hI
  obtain ⟨fp34, yp34⟩ := p34
  have hF := hF.call fp34 (by decide)
  refine z_aload_n F dX9_copyFrom_136 rfl (q := 1) rfl ?_
  refine rf_X9_36 F gs_104 rfl dX9_copyFrom_137 ?_
  refine z_aload_n F dX9_copyFrom_140 rfl (q := 0) rfl ?_
  refine rf_X9_36 F gs_2 rfl dX9_copyFrom_141 ?_
  refine zs_v (rest := []) F (k_X9_copy_113_11 l M33 ⟨hI, hW⟩) cs_X9_77 (by decide) (by decide) rfl rfl rfl (Nat.le_of_ble_eq_true rfl) dX9_copyFrom_144 (fun M35 hI p36 => ?_)
  obtain ⟨hI, hW⟩ := hI
  obtain ⟨fp36, yp36⟩ := p36
  have hF := hF.call fp36 (by decide)
  refine z_aload_n F dX9_copyFrom_147 rfl (q := 1) rfl ?_
  refine rf_X9_39 F gs_104 rfl dX9_copyFrom_148 ?_
  refine z_aload_n F dX9_copyFrom_151 rfl (q := 0) rfl ?_
  refine rf_X9_39 F gs_2 rfl dX9_copyFrom_152 ?_
  refine zs_v (rest := []) F (k_X9_copy_114_12 l M35 ⟨hI, hW⟩) cs_X9_77 (by decide) (by decide) rfl rfl rfl (Nat.le_of_ble_eq_true rfl) dX9_copyFrom_155 (fun M37 hI p38 => ?_)
  obtain ⟨hI, hW⟩ := hI
  obtain ⟨fp38, yp38⟩ := p38
  have hF := hF.call fp38 (by decide)
  refine z_aload_n F dX9_copyFrom_158 rfl (q := 1) rfl ?_
  refine rf_X9_42 F gs_104 rfl dX9_copyFrom_159 ?_
  refine z_aload_n F dX9_copyFrom_162 rfl (q := 0) rfl ?_
  refine rf_X9_42 F gs_2 rfl dX9_copyFrom_163 ?_
  refine zs_v (rest := []) F (k_X9_copy_115_13 l M37 ⟨hI, hW⟩) cs_X9_77 (by decide) (by decide) rfl rfl rfl (Nat.le_of_ble_eq_true rfl) dX9_copyFrom_166 (fun M39 hI p40 => ?_)
  obtain ⟨hI, hW⟩ := hI
  obtain ⟨fp40, yp40⟩ := p40
  have hF := hF.call fp40 (by decide)
  refine z_aload_n F dX9_copyFrom_169 rfl (q := 0) rfl ?_
  refine rf_X9_48 F gs_2 rfl dX9_copyFrom_170 ?_
  refine z_aload_n F dX9_copyFrom_173 rfl (q := 1) rfl ?_
  refine rf_X9_48 F gs_104 rfl dX9_copyFrom_174 ?_
  refine zv_v (rest := []) F (k_X2_copyFrom_14_116 l M39 ⟨hI, hW⟩) cs_X9_81 (T := TX2) (N := 5) (ci := 2) rfl gs_14 (by decide) (by decide) rfl rfl rfl (Nat.le_of_ble_eq_true rfl) dX9_copyFrom_177 (fun M41 hI p42 => ?_)
  obtain ⟨hI, hW⟩ := hI
  have fp42 := p42
  have hF := hF.call fp42 (by decide)
  have q43 : v1 = M6 2 0 := sf2.symm.trans (f5 2 0 (fun q => absurd q.2 (by decide))).symm
  have q44 : v1 = M9 2 0 := q43.trans (f8 2 0 (fun q => absurd q.2 (by decide))).symm
  have q45 : v1 = M12 2 0 := q44.trans (f11 2 0 (fun q => absurd q.2 (by decide))).symm
  have q46 : v1 = M15 2 0 := q45.trans (f14 2 0 (fun q => absurd q.2 (by decide))).symm
  have q47 : v1 = M18 2 0 := q46.trans (f17 2 0 (fun q => absurd q.2 (by decide))).symm
  have q48 : v1 = M19 2 0 := q47.trans ((fp20.at (by decide)) : M19 2 0 = _).symm
  have q49 : v1 = M21 2 0 := q48.trans ((fp22.at (by decide)) : M21 2 0 = _).symm
  have q50 : v1 = M23 2 0 := q49.trans ((fp24.at (by decide)) : M23 2 0 = _).symm
  have q51 : v1 = M25 2 0 := q50.trans ((fp26.at (by decide)) : M25 2 0 = _).symm
  have q52 : v1 = M27 2 0 := q51.trans ((fp28.at (by decide)) : M27 2 0 = _).symm
  have q53 : v1 = M29 2 0 := q52.trans ((fp30.at (by decide)) : M29 2 0 = _).symm
  have q54 : v1 = M31 2 0 := q53.trans ((fp32.at (by decide)) : M31 2 0 = _).symm
  have q55 : v1 = M33 2 0 := q54.trans ((fp34.at (by decide)) : M33 2 0 = _).symm
  have q56 : v1 = M35 2 0 := q55.trans ((fp36.at (by decide)) : M35 2 0 = _).symm
  have q57 : v1 = M37 2 0 := q56.trans ((fp38.at (by decide)) : M37 2 0 = _).symm
  have q58 : v1 = M39 2 0 := q57.trans ((fp40.at (by decide)) : M39 2 0 = _).symm
  have q59 : v1 = M41 2 0 := q58.trans ((fp42.at (by decide)) : M41 2 0 = _).symm
  have q60 : v4 = M9 2 1 := sf5.symm.trans (f8 2 1 (fun q => absurd q.2 (by decide))).symm
  have q61 : v4 = M12 2 1 := q60.trans (f11 2 1 (fun q => absurd q.2 (by decide))).symm
  have q62 : v4 = M15 2 1 := q61.trans (f14 2 1 (fun q => absurd q.2 (by decide))).symm
  have q63 : v4 = M18 2 1 := q62.trans (f17 2 1 (fun q => absurd q.2 (by decide))).symm
  have q64 : v4 = M19 2 1 := q63.trans ((fp20.at (by decide)) : M19 2 1 = _).symm
  have q65 : v4 = M21 2 1 := q64.trans ((fp22.at (by decide)) : M21 2 1 = _).symm
  have q66 : v4 = M23 2 1 := q65.trans ((fp24.at (by decide)) : M23 2 1 = _).symm
  have q67 : v4 = M25 2 1 := q66.trans ((fp26.at (by decide)) : M25 2 1 = _).symm
  have q68 : v4 = M27 2 1 := q67.trans ((fp28.at (by decide)) : M27 2 1 = _).symm
  have q69 : v4 = M29 2 1 := q68.trans ((fp30.at (by decide)) : M29 2 1 = _).symm
  have q70 : v4 = M31 2 1 := q69.trans ((fp32.at (by decide)) : M31 2 1 = _).symm
  have q71 : v4 = M33 2 1 := q70.trans ((fp34.at (by decide)) : M33 2 1 = _).symm
  have q72 : v4 = M35 2 1 := q71.trans ((fp36.at (by decide)) : M35 2 1 = _).symm
  have q73 : v4 = M37 2 1 := q72.trans ((fp38.at (by decide)) : M37 2 1 = _).symm
  have q74 : v4 = M39 2 1 := q73.trans ((fp40.at (by decide)) : M39 2 1 = _).symm
  have q75 : v4 = M41 2 1 := q74.trans ((fp42.at (by decide)) : M41 2 1 = _).symm
  have q76 : v10 = M15 2 3 := sf11.symm.trans (f14 2 3 (fun q => absurd q.2 (by decide))).symm
  have q77 : v10 = M18 2 3 := q76.trans (f17 2 3 (fun q => absurd q.2 (by decide))).symm
  have q78 : v10 = M19 2 3 := q77.trans ((fp20.at (by decide)) : M19 2 3 = _).symm
  have q79 : v10 = M21 2 3 := q78.trans ((fp22.at (by decide)) : M21 2 3 = _).symm
  have q80 : v10 = M23 2 3 := q79.trans ((fp24.at (by decide)) : M23 2 3 = _).symm
  have q81 : v10 = M25 2 3 := q80.trans ((fp26.at (by decide)) : M25 2 3 = _).symm
  have q82 : v10 = M27 2 3 := q81.trans ((fp28.at (by decide)) : M27 2 3 = _).symm
  have q83 : v10 = M29 2 3 := q82.trans ((fp30.at (by decide)) : M29 2 3 = _).symm
  have q84 : v10 = M31 2 3 := q83.trans ((fp32.at (by decide)) : M31 2 3 = _).symm
  have q85 : v10 = M33 2 3 := q84.trans ((fp34.at (by decide)) : M33 2 3 = _).symm
  have q86 : v10 = M35 2 3 := q85.trans ((fp36.at (by decide)) : M35 2 3 = _).symm
  have q87 : v10 = M37 2 3 := q86.trans ((fp38.at (by decide)) : M37 2 3 = _).symm
  have q88 : v10 = M39 2 3 := q87.trans ((fp40.at (by decide)) : M39 2 3 = _).symm
  have q89 : v10 = M41 2 3 := q88.trans ((fp42.at (by decide)) : M41 2 3 = _).symm
  have q90 : v13 = M18 2 4 := sf14.symm.trans (f17 2 4 (fun q => absurd q.2 (by decide))).symm
  have q91 : v13 = M19 2 4 := q90.trans ((fp20.at (by decide)) : M19 2 4 = _).symm
  have q92 : v13 = M21 2 4 := q91.trans ((fp22.at (by decide)) : M21 2 4 = _).symm
  have q93 : v13 = M23 2 4 := q92.trans ((fp24.at (by decide)) : M23 2 4 = _).symm
  have q94 : v13 = M25 2 4 := q93.trans ((fp26.at (by decide)) : M25 2 4 = _).symm
  have q95 : v13 = M27 2 4 := q94.trans ((fp28.at (by decide)) : M27 2 4 = _).symm
  have q96 : v13 = M29 2 4 := q95.trans ((fp30.at (by decide)) : M29 2 4 = _).symm
  have q97 : v13 = M31 2 4 := q96.trans ((fp32.at (by decide)) : M31 2 4 = _).symm
  have q98 : v13 = M33 2 4 := q97.trans ((fp34.at (by decide)) : M33 2 4 = _).symm
  have q99 : v13 = M35 2 4 := q98.trans ((fp36.at (by decide)) : M35 2 4 = _).symm
  have q100 : v13 = M37 2 4 := q99.trans ((fp38.at (by decide)) : M37 2 4 = _).symm
  have q101 : v13 = M39 2 4 := q100.trans ((fp40.at (by decide)) : M39 2 4 = _).symm
  have q102 : v13 = M41 2 4 := q101.trans ((fp42.at (by decide)) : M41 2 4 = _).symm
  exact hret _ 180 _ ⟨hI, hW⟩ ⟨hF, (Eq.trans (Eq.symm q59) ev1), (cp_i (sC_eq (hI0.at (show Bd 104 1 = (0, 10) from rfl)).2 (hI0.at (show Bd 104 4 = (0, 6) from rfl)).2 (q75.symm.trans (ev4.trans (f2 104 1 (fun q => absurd q.1 (by decide))))) (q89.symm.trans (ev10.trans ((f8 104 3 (fun q => absurd q.1 (by decide))).trans ((f5 104 3 (fun q => absurd q.1 (by decide))).trans (f2 104 3 (fun q => absurd q.1 (by decide))))))) (q102.symm.trans (ev13.trans ((f11 104 4 (fun q => absurd q.1 (by decide))).trans ((f8 104 4 (fun q => absurd q.1 (by decide))).trans ((f5 104 4 (fun q => absurd q.1 (by decide))).trans (f2 104 4 (fun q => absurd q.1 (by decide)))))))) (fun j h => ((fp42.at (by decide) : M41 3 j = _).trans ((fp40.at (by decide) : M39 3 j = _).trans ((fp38.at (by decide) : M37 3 j = _).trans ((fp36.at (by decide) : M35 3 j = _).trans ((fp34.at (by decide) : M33 3 j = _).trans ((fp32.at (by decide) : M31 3 j = _).trans ((fp30.at (by decide) : M29 3 j = _).trans ((fp28.at (by decide) : M27 3 j = _).trans ((fp26.at (by decide) : M25 3 j = _).trans ((fp24.at (by decide) : M23 3 j = _).trans (fp22.at (by decide) : M21 3 j = _))))))))))).trans ((yp20 j h).trans ((f17 105 j (fun q => absurd q.1 (by decide))).trans ((f14 105 j (fun q => absurd q.1 (by decide))).trans ((f11 105 j (fun q => absurd q.1 (by decide))).trans ((f8 105 j (fun q => absurd q.1 (by decide))).trans ((f5 105 j (fun q => absurd q.1 (by decide))).trans (f2 105 j (fun q => absurd q.1 (by decide)))))))))) (fun j h => ((fp42.at (by decide) : M41 10 j = _).trans ((fp40.at (by decide) : M39 10 j = _).trans ((fp38.at (by decide) : M37 10 j = _).trans (fp36.at (by decide) : M35 10 j = _)))).trans ((yp34 j h).trans ((fp32.at (by decide) : M31 112 j = _).trans ((fp30.at (by decide) : M29 112 j = _).trans ((fp28.at (by decide) : M27 112 j = _).trans ((fp26.at (by decide) : M25 112 j = _).trans ((fp24.at (by decide) : M23 112 j = _).trans ((fp22.at (by decide) : M21 112 j = _).trans ((fp20.at (by decide) : M19 112 j = _).trans ((f17 112 j (fun q => absurd q.1 (by decide))).trans ((f14 112 j (fun q => absurd q.1 (by decide))).trans ((f11 112 j (fun q => absurd q.1 (by decide))).trans ((f8 112 j (fun q => absurd q.1 (by decide))).trans ((f5 112 j (fun q => absurd q.1 (by decide))).trans (f2 112 j (fun q => absurd q.1 (by decide))))))))))))))))) (fun j h => ((fp42.at (by decide) : M41 11 j = _).trans ((fp40.at (by decide) : M39 11 j = _).trans (fp38.at (by decide) : M37 11 j = _))).trans ((yp36 j h).trans ((fp34.at (by decide) : M33 113 j = _).trans ((fp32.at (by decide) : M31 113 j = _).trans ((fp30.at (by decide) : M29 113 j = _).trans ((fp28.at (by decide) : M27 113 j = _).trans ((fp26.at (by decide) : M25 113 j = _).trans ((fp24.at (by decide) : M23 113 j = _).trans ((fp22.at (by decide) : M21 113 j = _).trans ((fp20.at (by decide) : M19 113 j = _).trans ((f17 113 j (fun q => absurd q.1 (by decide))).trans ((f14 113 j (fun q => absurd q.1 (by decide))).trans ((f11 113 j (fun q => absurd q.1 (by decide))).trans ((f8 113 j (fun q => absurd q.1 (by decide))).trans ((f5 113 j (fun q => absurd q.1 (by decide))).trans (f2 113 j (fun q => absurd q.1 (by decide)))))))))))))))))) (fun j h => ((fp42.at (by decide) : M41 12 j = _).trans (fp40.at (by decide) : M39 12 j = _)).trans ((yp38 j h).trans ((fp36.at (by decide) : M35 114 j = _).trans ((fp34.at (by decide) : M33 114 j = _).trans ((fp32.at (by decide) : M31 114 j = _).trans ((fp30.at (by decide) : M29 114 j = _).trans ((fp28.at (by decide) : M27 114 j = _).trans ((fp26.at (by decide) : M25 114 j = _).trans ((fp24.at (by decide) : M23 114 j = _).trans ((fp22.at (by decide) : M21 114 j = _).trans ((fp20.at (by decide) : M19 114 j = _).trans ((f17 114 j (fun q => absurd q.1 (by decide))).trans ((f14 114 j (fun q => absurd q.1 (by decide))).trans ((f11 114 j (fun q => absurd q.1 (by decide))).trans ((f8 114 j (fun q => absurd q.1 (by decide))).trans ((f5 114 j (fun q => absurd q.1 (by decide))).trans (f2 114 j (fun q => absurd q.1 (by decide)))))))))))))))))))) (fun j h => ((fp42.at (by decide) : M41 5 j = _).trans ((fp40.at (by decide) : M39 5 j = _).trans ((fp38.at (by decide) : M37 5 j = _).trans ((fp36.at (by decide) : M35 5 j = _).trans ((fp34.at (by decide) : M33 5 j = _).trans ((fp32.at (by decide) : M31 5 j = _).trans ((fp30.at (by decide) : M29 5 j = _).trans ((fp28.at (by decide) : M27 5 j = _).trans (fp26.at (by decide) : M25 5 j = _))))))))).trans ((yp24 j h).trans ((fp22.at (by decide) : M21 107 j = _).trans ((fp20.at (by decide) : M19 107 j = _).trans ((f17 107 j (fun q => absurd q.1 (by decide))).trans ((f14 107 j (fun q => absurd q.1 (by decide))).trans ((f11 107 j (fun q => absurd q.1 (by decide))).trans ((f8 107 j (fun q => absurd q.1 (by decide))).trans ((f5 107 j (fun q => absurd q.1 (by decide))).trans (f2 107 j (fun q => absurd q.1 (by decide)))))))))))))⟩ dX9_copyFrom_180
set_option maxRecDepth 4000 in
theorem k_X7_load_35_120 (l : Launch) (M : Mem) (hJ : Iw M) (x1 : Int) (hx1a : (-2147483648) ≤ x1) (hx1b : x1 ≤ 2147483647) (hp0 : x1 % 34 = 0) : CV l yX7_load cX7_load 3 none 1 (fun ad => [.ref (ad 35), .ref (ad 120), ii x1]) M (fun M' => Fr [35, 36, 37, 38, 39] M M') := by
  obtain ⟨hI, hW⟩ := hJ
  have hF : Fr [35, 36, 37, 38, 39] M M := Fr.rf
  refine en_v (by decide +kernel) (fun ad => by exact Nat.le_of_ble_eq_true rfl) (fun D cy ad A p e s m args below meth c Q F hret => ?_)
  refine z_eq (ls' := [(0, .ref (ad 35)), (1, .ref (ad 120)), (2, ii x1)]) rfl rfl rfl ?_
  refine z_iload_n F dX7_load_0 rfl (q := 2) rfl ?_
  refine z_if_lt (tgt := 13) F dX7_load_1 (by decide +kernel) (by omega) (fun c1 => ?_) (fun c1 => ?_)
  · exact hret _ 13 _ ⟨hI, hW⟩ hF dX7_load_13
  · refine z_iload_n F dX7_load_4 rfl (q := 2) rfl ?_
    refine z_aload_n F dX7_load_5 rfl (q := 1) rfl ?_
    refine z_alen (x := 34) F gs_120 rfl rfl dX7_load_6 ?_
    refine z_bipush F dX7_load_7 (by decide +kernel) ?_
    refine z_isub F dX7_load_9 ?_
    refine z_icmp_le (tgt := 14) F dX7_load_10 (by decide +kernel) (by omega) (by omega) (fun c2 => ?_) (fun c2 => ?_)
    · refine z_aload_n F dX7_load_14 rfl (q := 1) rfl ?_
      refine z_iload_n F dX7_load_15 rfl (q := 2) rfl ?_
      refine z_aload_n F dX7_load_16 rfl (q := 0) rfl ?_
      refine rf_X7_9 F gs_35 rfl dX7_load_17 ?_
      refine z_iconst F dX7_load_20 ?_
      refine z_bipush F dX7_load_21 (by decide +kernel) ?_
      refine z_copy F (by decide) ac_X7_50 hI gs_120 gs_36 (by omega) (by omega) (by omega) (by omega) (by omega) (by decide) (by decide) (fun i hi => (show Bd 36 _ = (0, 9) from rfl).trans (show Bd 120 _ = (0, 9) from (bd_120.trans (sc_p (by omega)))).symm) (Nat.le_of_ble_eq_true rfl) dX7_load_23 (fun M4 hI g3 => ?_)
      have hF := hF.call g3 (by decide)
      have hW : WFk M4 := hW.fr g3 (by decide) (by decide)
      refine z_aload_n F dX7_load_26 rfl (q := 1) rfl ?_
      refine z_iload_n F dX7_load_27 rfl (q := 2) rfl ?_
      refine z_bipush F dX7_load_28 (by decide +kernel) ?_
      refine z_iadd F dX7_load_30 ?_
      refine z_aload_n F dX7_load_31 rfl (q := 0) rfl ?_
      refine rf_X7_15 F gs_35 rfl dX7_load_32 ?_
      refine z_iconst F dX7_load_35 ?_
      refine z_bipush F dX7_load_36 (by decide +kernel) ?_
      refine z_copy F (by decide) ac_X7_50 hI gs_120 gs_37 (by omega) (by omega) (by omega) (by omega) (by omega) (by decide) (by decide) (fun i hi => (show Bd 37 _ = (-2147483648, 2147483647) from rfl).trans (show Bd 120 _ = (-2147483648, 2147483647) from (bd_120.trans (sc_n (by omega)))).symm) (Nat.le_of_ble_eq_true rfl) dX7_load_38 (fun M6 hI g5 => ?_)
      have hF := hF.call g5 (by decide)
      have hW : WFk M6 := hW.fr g5 (by decide) (by decide)
      refine z_aload_n F dX7_load_41 rfl (q := 1) rfl ?_
      refine z_iload_n F dX7_load_42 rfl (q := 2) rfl ?_
      refine z_bipush F dX7_load_43 (by decide +kernel) ?_
      refine z_iadd F dX7_load_45 ?_
      refine z_aload_n F dX7_load_46 rfl (q := 0) rfl ?_
      refine rf_X7_18 F gs_35 rfl dX7_load_47 ?_
      refine z_iconst F dX7_load_50 ?_
      refine z_bipush F dX7_load_51 (by decide +kernel) ?_
      refine z_copy F (by decide) ac_X7_50 hI gs_120 gs_38 (by omega) (by omega) (by omega) (by omega) (by omega) (by decide) (by decide) (fun i hi => (show Bd 38 _ = (-2147483648, 2147483647) from rfl).trans (show Bd 120 _ = (-2147483648, 2147483647) from (bd_120.trans (sc_n (by omega)))).symm) (Nat.le_of_ble_eq_true rfl) dX7_load_53 (fun M8 hI g7 => ?_)
      have hF := hF.call g7 (by decide)
      have hW : WFk M8 := hW.fr g7 (by decide) (by decide)
      refine z_aload_n F dX7_load_56 rfl (q := 1) rfl ?_
      refine z_iload_n F dX7_load_57 rfl (q := 2) rfl ?_
      refine z_bipush F dX7_load_58 (by decide +kernel) ?_
      refine z_iadd F dX7_load_60 ?_
      refine z_aload_n F dX7_load_61 rfl (q := 0) rfl ?_
      refine rf_X7_21 F gs_35 rfl dX7_load_62 ?_
      refine z_iconst F dX7_load_65 ?_
      refine z_bipush F dX7_load_66 (by decide +kernel) ?_
      refine z_copy F (by decide) ac_X7_50 hI gs_120 gs_39 (by omega) (by omega) (by omega) (by omega) (by omega) (by decide) (by decide) (fun i hi => (show Bd 39 _ = (-2147483648, 2147483647) from rfl).trans (show Bd 120 _ = (-2147483648, 2147483647) from (bd_120.trans (sc_n (by omega)))).symm) (Nat.le_of_ble_eq_true rfl) dX7_load_68 (fun M10 hI g9 => ?_)
      have hF := hF.call g9 (by decide)
      have hW : WFk M10 := hW.fr g9 (by decide) (by decide)
      refine z_aload_n F dX7_load_71 rfl (q := 0) rfl ?_
      refine z_aload_n F dX7_load_72 rfl (q := 1) rfl ?_
      refine z_iload_n F dX7_load_73 rfl (q := 2) rfl ?_
      refine z_bipush F dX7_load_74 (by decide +kernel) ?_
      refine z_iadd F dX7_load_76 ?_
      refine z_iconst F dX7_load_77 ?_
      refine z_isub F dX7_load_78 ?_
      refine z_iald F hI gs_120 (by omega) (by omega) (by decide) (bd_120.trans (sc_n (by omega))) dX7_load_79 (fun v11 (ev11 : v11 = M10 120 _) av11 bv11 => ?_)
      refine pf_X7_44 F hI gs_35 rfl bd_35_5 rfl rfl dX7_load_80 (by omega) (by omega) (fun M13 hI sf12 f12 => ?_)
      have hF := hF.wr f12 (by decide) (by decide)
      have hW : WFk M13 := hW.site f12 (by decide)
      refine z_aload_n F dX7_load_83 rfl (q := 0) rfl ?_
      refine z_aload_n F dX7_load_84 rfl (q := 1) rfl ?_
      refine z_iload_n F dX7_load_85 rfl (q := 2) rfl ?_
      refine z_bipush F dX7_load_86 (by decide +kernel) ?_
      refine z_iadd F dX7_load_88 ?_
      refine z_iconst F dX7_load_89 ?_
      refine z_isub F dX7_load_90 ?_
      refine z_iald F hI gs_120 (by omega) (by omega) (by decide) (bd_120.trans (sc_n (by omega))) dX7_load_91 (fun v14 (ev14 : v14 = M13 120 _) av14 bv14 => ?_)
      refine pf_X7_47 F hI gs_35 rfl bd_35_6 rfl rfl dX7_load_92 (by omega) (by omega) (fun M16 hI sf15 f15 => ?_)
      have hF := hF.wr f15 (by decide) (by decide)
      have hW : WFk M16 := hW.site f15 (by decide)
      exact hret _ 95 _ ⟨hI, hW⟩ hF dX7_load_95
    · exact hret _ 13 _ ⟨hI, hW⟩ hF dX7_load_13
set_option maxRecDepth 4000 in
theorem k_X4_copyFrom_40_121 (l : Launch) (M : Mem) (hJ : Iw M) : CV l yX4_copyFrom cX4_copyFrom 2 none 1 (fun ad => [.ref (ad 40), .ref (ad 121)]) M (fun M' => Fr [40, 41] M M') := by
  obtain ⟨hI, hW⟩ := hJ
  have hF : Fr [40, 41] M M := Fr.rf
  refine en_v (by decide +kernel) (fun ad => by exact Nat.le_of_ble_eq_true rfl) (fun D cy ad A p e s m args below meth c Q F hret => ?_)
  refine z_eq (ls' := [(0, .ref (ad 40)), (1, .ref (ad 121))]) rfl rfl rfl ?_
  refine z_aload_n F dX4_copyFrom_0 rfl (q := 0) rfl ?_
  refine z_aload_n F dX4_copyFrom_1 rfl (q := 1) rfl ?_
  refine gf_X4_17 F hI gs_121 rfl bd_121_0 dX4_copyFrom_2 (fun v1 ev1 av1 bv1 => ?_)
  refine pf_X4_17 F hI gs_40 rfl bd_40_0 rfl rfl dX4_copyFrom_5 (by omega) (by omega) (fun M3 hI sf2 f2 => ?_)
  have hF := hF.wr f2 (by decide) (by decide)
  have hW : WFk M3 := hW.site f2 (by decide)
  refine z_aload_n F dX4_copyFrom_8 rfl (q := 0) rfl ?_
  refine z_aload_n F dX4_copyFrom_9 rfl (q := 1) rfl ?_
  refine gf_X4_21 F hI gs_121 rfl bd_121_1 dX4_copyFrom_10 (fun v4 ev4 av4 bv4 => ?_)
  refine pf_X4_21 F hI gs_40 rfl bd_40_1 rfl rfl dX4_copyFrom_13 (by omega) (by omega) (fun M6 hI sf5 f5 => ?_)
  have hF := hF.wr f5 (by decide) (by decide)
  have hW : WFk M6 := hW.site f5 (by decide)
  refine z_aload_n F dX4_copyFrom_16 rfl (q := 1) rfl ?_
  refine rf_X4_11 F gs_121 rfl dX4_copyFrom_17 ?_
  refine z_iconst F dX4_copyFrom_20 ?_
  refine z_aload_n F dX4_copyFrom_21 rfl (q := 0) rfl ?_
  refine rf_X4_11 F gs_40 rfl dX4_copyFrom_22 ?_
  refine z_iconst F dX4_copyFrom_25 ?_
  refine z_aload_n F dX4_copyFrom_26 rfl (q := 0) rfl ?_
  refine rf_X4_11 F gs_40 rfl dX4_copyFrom_27 ?_
  refine z_alen (x := 408) F gs_41 rfl rfl dX4_copyFrom_30 ?_
  refine z_copy F (by decide) ac_X4_40 hI gs_122 gs_41 (by omega) (by omega) (by omega) (by omega) (by omega) (by decide) (by decide) (fun i hi => rfl) (Nat.le_of_ble_eq_true rfl) dX4_copyFrom_31 (fun M8 hI g7 => ?_)
  have hF := hF.call g7 (by decide)
  have hW : WFk M8 := hW.fr g7 (by decide) (by decide)
  exact hret _ 34 _ ⟨hI, hW⟩ hF dX4_copyFrom_34
set_option maxRecDepth 4000 in
theorem k_X1_giveBack_103_2_35_40 (l : Launch) (M : Mem) (hJ : Iw M) : CV l yX1_giveBack cX1_giveBack 4 none 3 (fun ad => [.ref (ad 103), .ref (ad 2), .ref (ad 35), .ref (ad 40)]) M (fun M' => Fr [2, 3, 4, 5, 6, 7, 8, 9, 10, 11, 12, 13, 14, 15, 35, 36, 37, 38, 39, 40, 41] M M' ∧ (Cp 104 2 M M')) := by
  obtain ⟨hI, hW⟩ := hJ
  have hF : Fr [2, 3, 4, 5, 6, 7, 8, 9, 10, 11, 12, 13, 14, 15, 35, 36, 37, 38, 39, 40, 41] M M := Fr.rf
  refine en_v (by decide +kernel) (fun ad => by exact Nat.le_of_ble_eq_true rfl) (fun D cy ad A p e s m args below meth c Q F hret => ?_)
  refine z_eq (ls' := [(0, .ref (ad 103)), (1, .ref (ad 2)), (2, .ref (ad 35)), (3, .ref (ad 40))]) rfl rfl rfl ?_
  refine z_aload_n F dX1_giveBack_0 rfl (q := 1) rfl ?_
  refine z_aload_n F dX1_giveBack_1 rfl (q := 0) rfl ?_
  refine rf_X1_10 F gs_103 rfl dX1_giveBack_2 ?_
  refine zv_v (rest := []) F (k_X9_copyFrom_2_104 l M ⟨hI, hW⟩) cs_X1_33 (T := TX9) (N := 18) (ci := 9) rfl gs_2 (by decide) (by decide) rfl rfl rfl (Nat.le_of_ble_eq_true rfl) dX1_giveBack_5 (fun M1 hI p2 => ?_)
  obtain ⟨hI, hW⟩ := hI
  obtain ⟨fp2, xp2, yp2⟩ := p2
  have hF := hF.call fp2 (by decide)
  refine z_aload_n F dX1_giveBack_8 rfl (q := 2) rfl ?_
  refine z_aload_n F dX1_giveBack_9 rfl (q := 0) rfl ?_
  refine rf_X1_18 F gs_103 rfl dX1_giveBack_10 ?_
  refine z_iconst F dX1_giveBack_13 ?_
  refine zv_v (rest := []) F (k_X7_load_35_120 l M1 ⟨hI, hW⟩ 0 (by omega) (by omega) (by omega)) cs_X1_44 (T := TX7) (N := 7) (ci := 7) rfl gs_35 (by decide) (by decide) rfl rfl rfl (Nat.le_of_ble_eq_true rfl) dX1_giveBack_14 (fun M3 hI p4 => ?_)
  obtain ⟨hI, hW⟩ := hI
  have fp4 := p4
  have hF := hF.call fp4 (by decide)
  refine z_aload_n F dX1_giveBack_17 rfl (q := 3) rfl ?_
  refine z_aload_n F dX1_giveBack_18 rfl (q := 0) rfl ?_
  refine rf_X1_25 F gs_103 rfl dX1_giveBack_19 ?_
  refine zv_v (rest := []) F (k_X4_copyFrom_40_121 l M3 ⟨hI, hW⟩) cs_X1_41 (T := TX4) (N := 3) (ci := 4) rfl gs_40 (by decide) (by decide) rfl rfl rfl (Nat.le_of_ble_eq_true rfl) dX1_giveBack_22 (fun M5 hI p6 => ?_)
  obtain ⟨hI, hW⟩ := hI
  have fp6 := p6
  have hF := hF.call fp6 (by decide)
  exact hret _ 25 _ ⟨hI, hW⟩ ⟨hF, (cp_tr (cp_rf : Cp 104 104 M M) (cp_tr yp2 (cp_tr (cp_fr fp4 (by decide) (by decide) : Cp 2 2 M1 M3) (cp_fr fp6 (by decide) (by decide) : Cp 2 2 M3 M5))))⟩ dX1_giveBack_25
set_option maxRecDepth 4000 in
theorem k_X11_restore (l : Launch) (hlT : l.stackTraces = false) (M : Mem) (hJ : Iw M) (x0 : Int) (hx0a : (-2147483648) ≤ x0) (hx0b : x0 ≤ 2147483647) : CVX l yX11_restore cX11_restore 2 none 4 2 (fun ad => [.ref (ad 0), ii x0]) M (fun M' => Fr [2, 3, 4, 5, 6, 7, 8, 9, 10, 11, 12, 13, 14, 15, 35, 36, 37, 38, 39, 40, 41] M M' ∧ (x0 = 0 ∧ M 63 0 = 1 ∨ x0 = 1 ∧ M 83 0 = 1 ∨ x0 = 2 ∧ M 103 0 = 1) ∧ (ReC x0 M M')) (fun E M' => (E = "java/lang/IllegalStateException" ∧ ((x0 = 0 ∧ M 63 0 = 0 ∨ x0 = 1 ∧ M 83 0 = 0 ∨ x0 = 2 ∧ M 103 0 = 0) ∧ M' = M) ∧ Fr [2, 3, 4, 5, 6, 7, 8, 9, 10, 11, 12, 13, 14, 15, 35, 36, 37, 38, 39, 40, 41] M M') ∨ (E = "java/util/NoSuchElementException" ∧ ((x0 < 0 ∨ 2 < x0) ∧ M' = M) ∧ Fr [2, 3, 4, 5, 6, 7, 8, 9, 10, 11, 12, 13, 14, 15, 35, 36, 37, 38, 39, 40, 41] M M')) := by
  obtain ⟨hI, hW⟩ := hJ
  have hF : Fr [2, 3, 4, 5, 6, 7, 8, 9, 10, 11, 12, 13, 14, 15, 35, 36, 37, 38, 39, 40, 41] M M := Fr.rf
  refine enx_v (by decide +kernel) (fun ad => by exact Nat.le_of_ble_eq_true rfl) (fun D cy ad A p e s m args below meth c Q F hQ hr hlk hex => ?_)
  refine z_eq (ls' := [(0, .ref (ad 0)), (1, ii x0)]) rfl rfl rfl ?_
  obtain ⟨u1, eu1⟩ : ∃ v : Int, v = M 63 0 := ⟨_, rfl⟩
  have ku1 : 0 ≤ u1 ∧ u1 ≤ 1 := by have := hI.at (show Bd 63 0 = (0, 1) from rfl); omega
  obtain ⟨u2, eu2⟩ : ∃ v : Int, v = M 83 0 := ⟨_, rfl⟩
  have ku2 : 0 ≤ u2 ∧ u2 ≤ 1 := by have := hI.at (show Bd 83 0 = (0, 1) from rfl); omega
  obtain ⟨u3, eu3⟩ : ∃ v : Int, v = M 103 0 := ⟨_, rfl⟩
  have ku3 : 0 ≤ u3 ∧ u3 ≤ 1 := by have := hI.at (show Bd 103 0 = (0, 1) from rfl); omega
  refine z_aload_n F dX11_restore_0 rfl (q := 0) rfl ?_
  refine z_iload_n F dX11_restore_1 rfl (q := 1) rfl ?_
  refine zy_v (rest := []) F (k_X11_needImage l hlT M ⟨hI, hW⟩ x0 (by omega) (by omega)) cs_X11_474 (T := TX11) (N := 14) (ci := 11) rfl gs_0 (by decide) (by decide) ⟨by decide, by decide⟩ rfl rfl rfl (Nat.le_of_ble_eq_true rfl) dX11_restore_2 (fun E M9 hJ9 hx => by obtain ⟨h9, g9, rfl⟩ := hx <;> first | (exact zx_out hQ hlk hex ⟨by decide, by decide⟩ hJ9 (Or.inr (⟨h9, ⟨by omega, rfl⟩, hF⟩)))) (fun M4 hI p5 => ?_)
  obtain ⟨hI, hW⟩ := hI
  obtain ⟨rfl, xp5⟩ := p5
  refine z_aload_n F dX11_restore_5 rfl (q := 0) rfl ?_
  refine rf_X11_51 F gs_0 rfl dX11_restore_6 ?_
  refine z_iload_n F dX11_restore_9 rfl (q := 1) rfl ?_
  rcases (show x0 = 0 ∨ x0 = 1 ∨ x0 = 2 by omega) with cq | cq | cq
  · refine z_aald (r := 63) F gs_43 rfl (by omega) (by show x0 < ((3 : Nat) : Int); omega) (by decide) (by rw [cq]; rfl) dX11_restore_10 ?_
    refine gf_X11_481 F hI gs_63 rfl bd_63_0 dX11_restore_11 (fun v6 ev6 av6 bv6 => ?_)
    have zv6 : u1 = v6 := eu1.trans ev6.symm
    subst zv6
    refine z_if_ne (tgt := 28) F dX11_restore_14 (by decide +kernel) (by omega) (fun c7 => ?_) (fun c7 => ?_)
    · refine z_aload_n F dX11_restore_28 rfl (q := 0) rfl ?_
      refine rf_X11_51 F gs_0 rfl dX11_restore_29 ?_
      refine z_iload_n F dX11_restore_32 rfl (q := 1) rfl ?_
      rcases (show x0 = 0 by omega) with cq
      · refine z_aald (r := 63) F gs_43 rfl (by omega) (by show x0 < ((3 : Nat) : Int); omega) (by decide) (by rw [cq]; rfl) dX11_restore_33 ?_
        refine z_aload_n F dX11_restore_34 rfl (q := 0) rfl ?_
        refine rf_X11_16 F gs_0 rfl dX11_restore_35 ?_
        refine z_aload_n F dX11_restore_38 rfl (q := 0) rfl ?_
        refine rf_X11_34 F gs_0 rfl dX11_restore_39 ?_
        refine z_aload_n F dX11_restore_42 rfl (q := 0) rfl ?_
        refine rf_X11_41 F gs_0 rfl dX11_restore_43 ?_
        refine zw_v (rest := []) F (k_X1_giveBack_63_2_35_40 l M ⟨hI, hW⟩) cs_X11_487 (T := TX1) (N := 4) (ci := 1) rfl gs_63 (by decide) (by decide) ⟨by decide, by decide⟩ rfl rfl rfl (Nat.le_of_ble_eq_true rfl) dX11_restore_46 (fun M8 hI p9 => ?_)
        obtain ⟨hI, hW⟩ := hI
        obtain ⟨fp9, yp9⟩ := p9
        have hF := hF.call fp9 (by decide)
        exact zxr_v F hQ hr hlk dX11_restore_49 ⟨by decide, by decide⟩ ⟨hI, hW⟩ ⟨hF, (by omega), (Or.inl ⟨by omega, by omega, (cp_tr (cp_rf : Cp 64 64 M M) (cp_tr yp9 (cp_rf : Cp 2 2 M8 M8)))⟩)⟩
    · exact z_thrSW (cls := "java/lang/IllegalStateException") (names := ["java/lang/RuntimeException", "java/lang/Exception"]) (j := 56) F hlT hQ hlk hex (by decide +kernel) (by decide +kernel) (by decide) (gin lm_530 rfl) (gin lm_531 rfl) at_X11_293 bad_X11_293 (by decide +kernel) ot_X11_293 rfl rfl rfl dX11_restore_17 dX11_restore_20 dX11_restore_21 dX11_restore_24 dX11_restore_27 ⟨by decide, by decide⟩ (Nat.le_of_ble_eq_true rfl) ⟨hI, hW⟩ (Or.inl ⟨rfl, ⟨by omega, rfl⟩, hF⟩)
  · refine z_aald (r := 83) F gs_43 rfl (by omega) (by show x0 < ((3 : Nat) : Int); omega) (by decide) (by rw [cq]; rfl) dX11_restore_10 ?_
    refine gf_X11_481 F hI gs_83 rfl bd_83_0 dX11_restore_11 (fun v10 ev10 av10 bv10 => ?_)
    have zv10 : u2 = v10 := eu2.trans ev10.symm
    subst zv10
    refine z_if_ne (tgt := 28) F dX11_restore_14 (by decide +kernel) (by omega) (fun c11 => ?_) (fun c11 => ?_)
    · refine z_aload_n F dX11_restore_28 rfl (q := 0) rfl ?_
      refine rf_X11_51 F gs_0 rfl dX11_restore_29 ?_
      refine z_iload_n F dX11_restore_32 rfl (q := 1) rfl ?_
      rcases (show x0 = 1 by omega) with cq
      · refine z_aald (r := 83) F gs_43 rfl (by omega) (by show x0 < ((3 : Nat) : Int); omega) (by decide) (by rw [cq]; rfl) dX11_restore_33 ?_
        refine z_aload_n F dX11_restore_34 rfl (q := 0) rfl ?_
        refine rf_X11_16 F gs_0 rfl dX11_restore_35 ?_
        refine z_aload_n F dX11_restore_38 rfl (q := 0) rfl ?_
        refine rf_X11_34 F gs_0 rfl dX11_restore_39 ?_
        refine z_aload_n F dX11_restore_42 rfl (q := 0) rfl ?_
        refine rf_X11_41 F gs_0 rfl dX11_restore_43 ?_
        refine zw_v (rest := []) F (k_X1_giveBack_83_2_35_40 l M ⟨hI, hW⟩) cs_X11_487 (T := TX1) (N := 4) (ci := 1) rfl gs_83 (by decide) (by decide) ⟨by decide, by decide⟩ rfl rfl rfl (Nat.le_of_ble_eq_true rfl) dX11_restore_46 (fun M12 hI p13 => ?_)
        obtain ⟨hI, hW⟩ := hI
        obtain ⟨fp13, yp13⟩ := p13
        have hF := hF.call fp13 (by decide)
        exact zxr_v F hQ hr hlk dX11_restore_49 ⟨by decide, by decide⟩ ⟨hI, hW⟩ ⟨hF, (by omega), (Or.inr (Or.inl ⟨by omega, by omega, (cp_tr (cp_rf : Cp 84 84 M M) (cp_tr yp13 (cp_rf : Cp 2 2 M12 M12)))⟩))⟩
    · exact z_thrSW (cls := "java/lang/IllegalStateException") (names := ["java/lang/RuntimeException", "java/lang/Exception"]) (j := 56) F hlT hQ hlk hex (by decide +kernel) (by decide +kernel) (by decide) (gin lm_530 rfl) (gin lm_531 rfl) at_X11_293 bad_X11_293 (by decide +kernel) ot_X11_293 rfl rfl rfl dX11_restore_17 dX11_restore_20 dX11_restore_21 dX11_restore_24 dX11_restore_27 ⟨by decide, by decide⟩ (Nat.le_of_ble_eq_true rfl) ⟨hI, hW⟩ (Or.inl ⟨rfl, ⟨by omega, rfl⟩, hF⟩)
  · refine z_aald (r := 103) F gs_43 rfl (by omega) (by show x0 < ((3 : Nat) : Int); omega) (by decide) (by rw [cq]; rfl) dX11_restore_10 ?_
    refine gf_X11_481 F hI gs_103 rfl bd_103_0 dX11_restore_11 (fun v14 ev14 av14 bv14 => ?_)
    have zv14 : u3 = v14 := eu3.trans ev14.symm
    subst zv14
    refine z_if_ne (tgt := 28) F dX11_restore_14 (by decide +kernel) (by omega) (fun c15 => ?_) (fun c15 => ?_)
    · refine z_aload_n F dX11_restore_28 rfl (q := 0) rfl ?_
      refine rf_X11_51 F gs_0 rfl dX11_restore_29 ?_
      refine z_iload_n F dX11_restore_32 rfl (q := 1) rfl ?_
      rcases (show x0 = 2 by omega) with cq
      · refine z_aald (r := 103) F gs_43 rfl (by omega) (by show x0 < ((3 : Nat) : Int); omega) (by decide) (by rw [cq]; rfl) dX11_restore_33 ?_
        refine z_aload_n F dX11_restore_34 rfl (q := 0) rfl ?_
        refine rf_X11_16 F gs_0 rfl dX11_restore_35 ?_
        refine z_aload_n F dX11_restore_38 rfl (q := 0) rfl ?_
        refine rf_X11_34 F gs_0 rfl dX11_restore_39 ?_
        refine z_aload_n F dX11_restore_42 rfl (q := 0) rfl ?_
        refine rf_X11_41 F gs_0 rfl dX11_restore_43 ?_
        refine zw_v (rest := []) F (k_X1_giveBack_103_2_35_40 l M ⟨hI, hW⟩) cs_X11_487 (T := TX1) (N := 4) (ci := 1) rfl gs_103 (by decide) (by decide) ⟨by decide, by decide⟩ rfl rfl rfl (Nat.le_of_ble_eq_true rfl) dX11_restore_46 (fun M16 hI p17 => ?_)
        obtain ⟨hI, hW⟩ := hI
        obtain ⟨fp17, yp17⟩ := p17
        have hF := hF.call fp17 (by decide)
        exact zxr_v F hQ hr hlk dX11_restore_49 ⟨by decide, by decide⟩ ⟨hI, hW⟩ ⟨hF, (by omega), (Or.inr (Or.inr ⟨by omega, by omega, (cp_tr (cp_rf : Cp 104 104 M M) (cp_tr yp17 (cp_rf : Cp 2 2 M16 M16)))⟩))⟩
    · exact z_thrSW (cls := "java/lang/IllegalStateException") (names := ["java/lang/RuntimeException", "java/lang/Exception"]) (j := 56) F hlT hQ hlk hex (by decide +kernel) (by decide +kernel) (by decide) (gin lm_530 rfl) (gin lm_531 rfl) at_X11_293 bad_X11_293 (by decide +kernel) ot_X11_293 rfl rfl rfl dX11_restore_17 dX11_restore_20 dX11_restore_21 dX11_restore_24 dX11_restore_27 ⟨by decide, by decide⟩ (Nat.le_of_ble_eq_true rfl) ⟨hI, hW⟩ (Or.inl ⟨rfl, ⟨by omega, rfl⟩, hF⟩)
set_option maxRecDepth 4000 in
theorem k_X11_count (l : Launch) (M : Mem) (hJ : Iw M) (x0 : Int) (hx0a : (-2147483648) ≤ x0) (hx0b : x0 ≤ 2147483647) : CI l yX11_count cX11_count 2 (some .int) 2 (fun ad => [.ref (ad 0), ii x0]) M (fun z M' => ((-2147483648) ≤ z ∧ z ≤ 2147483647) ∧ M = M') := by
  obtain ⟨hI, hW⟩ := hJ
  refine en_i (by decide +kernel) (fun ad => by exact Nat.le_of_ble_eq_true rfl) (fun D cy ad A p e s m args below meth c Q F hret => ?_)
  refine z_eq (ls' := [(0, .ref (ad 0)), (1, ii x0)]) rfl rfl rfl ?_
  refine z_iload_n F dX11_count_0 rfl (q := 1) rfl ?_
  rcases (show x0 = 0 ∨ x0 = 1 ∨ x0 = 2 ∨ x0 = 3 ∨ x0 = 4 ∨ x0 = 5 ∨ x0 = 6 ∨ x0 = 7 ∨ x0 = 8 ∨ x0 = 9 ∨ x0 = 10 ∨ (¬ x0 = 0 ∧ ¬ x0 = 1 ∧ ¬ x0 = 2 ∧ ¬ x0 = 3 ∧ ¬ x0 = 4 ∧ ¬ x0 = 5 ∧ ¬ x0 = 6 ∧ ¬ x0 = 7 ∧ ¬ x0 = 8 ∧ ¬ x0 = 9 ∧ ¬ x0 = 10) by omega) with c1 | c1 | c1 | c1 | c1 | c1 | c1 | c1 | c1 | c1 | c1 | c1
  · refine z_tabIn (tgt := 60) (off := 59) F dX11_count_1 (by omega) (by omega) (by omega) (by rw [c1]; rfl) (by decide +kernel) ?_
    refine z_aload_n F dX11_count_60 rfl (q := 0) rfl ?_
    refine rf_X11_16 F gs_0 rfl dX11_count_61 ?_
    refine gf_X11_126 F hI gs_2 rfl bd_2_0 dX11_count_64 (fun v2 ev2 av2 bv2 => ?_)
    exact hret _ _ 67 _ (by omega) ⟨hI, hW⟩ ⟨⟨by omega, by omega⟩, rfl⟩ dX11_count_67
  · refine z_tabIn (tgt := 68) (off := 67) F dX11_count_1 (by omega) (by omega) (by omega) (by rw [c1]; rfl) (by decide +kernel) ?_
    refine z_aload_n F dX11_count_68 rfl (q := 0) rfl ?_
    refine rf_X11_16 F gs_0 rfl dX11_count_69 ?_
    refine gf_X11_304 F hI gs_2 rfl bd_2_1 dX11_count_72 (fun v3 ev3 av3 bv3 => ?_)
    exact hret _ _ 75 _ (by omega) ⟨hI, hW⟩ ⟨⟨by omega, by omega⟩, rfl⟩ dX11_count_75
  · refine z_tabIn (tgt := 76) (off := 75) F dX11_count_1 (by omega) (by omega) (by omega) (by rw [c1]; rfl) (by decide +kernel) ?_
    refine z_aload_n F dX11_count_76 rfl (q := 0) rfl ?_
    refine rf_X11_16 F gs_0 rfl dX11_count_77 ?_
    refine gf_X11_286 F hI gs_2 rfl bd_2_3 dX11_count_80 (fun v4 ev4 av4 bv4 => ?_)
    exact hret _ _ 83 _ (by omega) ⟨hI, hW⟩ ⟨⟨by omega, by omega⟩, rfl⟩ dX11_count_83
  · refine z_tabIn (tgt := 84) (off := 83) F dX11_count_1 (by omega) (by omega) (by omega) (by rw [c1]; rfl) (by decide +kernel) ?_
    refine z_aload_n F dX11_count_84 rfl (q := 0) rfl ?_
    refine rf_X11_16 F gs_0 rfl dX11_count_85 ?_
    refine gf_X11_492 F hI gs_2 rfl bd_2_2 dX11_count_88 (fun v5 ev5 av5 bv5 => ?_)
    exact hret _ _ 91 _ (by omega) ⟨hI, hW⟩ ⟨⟨by omega, by omega⟩, rfl⟩ dX11_count_91
  · refine z_tabIn (tgt := 92) (off := 91) F dX11_count_1 (by omega) (by omega) (by omega) (by rw [c1]; rfl) (by decide +kernel) ?_
    refine z_aload_n F dX11_count_92 rfl (q := 0) rfl ?_
    refine rf_X11_16 F gs_0 rfl dX11_count_93 ?_
    refine gf_X11_363 F hI gs_2 rfl bd_2_4 dX11_count_96 (fun v6 ev6 av6 bv6 => ?_)
    exact hret _ _ 99 _ (by omega) ⟨hI, hW⟩ ⟨⟨by omega, by omega⟩, rfl⟩ dX11_count_99
  · refine z_tabIn (tgt := 100) (off := 99) F dX11_count_1 (by omega) (by omega) (by omega) (by rw [c1]; rfl) (by decide +kernel) ?_
    refine z_aload_n F dX11_count_100 rfl (q := 0) rfl ?_
    refine rf_X11_34 F gs_0 rfl dX11_count_101 ?_
    refine gf_X11_255 F hI gs_35 rfl bd_35_5 dX11_count_104 (fun v7 ev7 av7 bv7 => ?_)
    exact hret _ _ 107 _ (by omega) ⟨hI, hW⟩ ⟨⟨by omega, by omega⟩, rfl⟩ dX11_count_107
  · refine z_tabIn (tgt := 108) (off := 107) F dX11_count_1 (by omega) (by omega) (by omega) (by rw [c1]; rfl) (by decide +kernel) ?_
    refine z_aload_n F dX11_count_108 rfl (q := 0) rfl ?_
    refine rf_X11_34 F gs_0 rfl dX11_count_109 ?_
    refine gf_X11_233 F hI gs_35 rfl bd_35_6 dX11_count_112 (fun v8 ev8 av8 bv8 => ?_)
    exact hret _ _ 115 _ (by omega) ⟨hI, hW⟩ ⟨⟨by omega, by omega⟩, rfl⟩ dX11_count_115
  · refine z_tabIn (tgt := 116) (off := 115) F dX11_count_1 (by omega) (by omega) (by omega) (by rw [c1]; rfl) (by decide +kernel) ?_
    refine z_aload_n F dX11_count_116 rfl (q := 0) rfl ?_
    refine rf_X11_41 F gs_0 rfl dX11_count_117 ?_
    refine gf_X11_239 F hI gs_40 rfl bd_40_0 dX11_count_120 (fun v9 ev9 av9 bv9 => ?_)
    exact hret _ _ 123 _ (by omega) ⟨hI, hW⟩ ⟨⟨by omega, by omega⟩, rfl⟩ dX11_count_123
  · refine z_tabIn (tgt := 124) (off := 123) F dX11_count_1 (by omega) (by omega) (by omega) (by rw [c1]; rfl) (by decide +kernel) ?_
    refine z_aload_n F dX11_count_124 rfl (q := 0) rfl ?_
    refine gf_X11_93 F hI gs_0 rfl bd_0_1 dX11_count_125 (fun v10 ev10 av10 bv10 => ?_)
    exact hret _ _ 128 _ (by omega) ⟨hI, hW⟩ ⟨⟨by omega, by omega⟩, rfl⟩ dX11_count_128
  · refine z_tabIn (tgt := 129) (off := 128) F dX11_count_1 (by omega) (by omega) (by omega) (by rw [c1]; rfl) (by decide +kernel) ?_
    refine z_aload_n F dX11_count_129 rfl (q := 0) rfl ?_
    refine rf_X11_16 F gs_0 rfl dX11_count_130 ?_
    refine rf_X11_151 F gs_2 rfl dX11_count_133 ?_
    refine zv_i (rest := []) F (k_X2_isTold_14 l M ⟨hI, hW⟩) cs_X11_495 (T := TX2) (N := 5) (ci := 2) rfl gs_14 (by decide) (by decide) rfl rfl rfl (Nat.le_of_ble_eq_true rfl) dX11_count_136 (fun v11 M12 rv11 hI p13 => ?_)
    obtain ⟨hI, hW⟩ := hI
    obtain ⟨⟨av11, bv11⟩, rfl⟩ := p13
    refine z_if_eq (tgt := 146) F dX11_count_139 (by decide +kernel) (by omega) (fun c14 => ?_) (fun c14 => ?_)
    · refine z_iconst F dX11_count_146 ?_
      exact hret _ _ 147 _ (by omega) ⟨hI, hW⟩ ⟨⟨by omega, by omega⟩, rfl⟩ dX11_count_147
    · refine z_iconst F dX11_count_142 ?_
      refine z_goto (tgt := 147) F dX11_count_143 (by decide +kernel) ?_
      exact hret _ _ 147 _ (by omega) ⟨hI, hW⟩ ⟨⟨by omega, by omega⟩, rfl⟩ dX11_count_147
  · refine z_tabIn (tgt := 148) (off := 147) F dX11_count_1 (by omega) (by omega) (by omega) (by rw [c1]; rfl) (by decide +kernel) ?_
    refine z_aload_n F dX11_count_148 rfl (q := 0) rfl ?_
    refine rf_X11_16 F gs_0 rfl dX11_count_149 ?_
    refine gf_X11_304 F hI gs_2 rfl bd_2_1 dX11_count_152 (fun v15 ev15 av15 bv15 => ?_)
    refine z_aload_n F dX11_count_155 rfl (q := 0) rfl ?_
    refine rf_X11_16 F gs_0 rfl dX11_count_156 ?_
    refine gf_X11_286 F hI gs_2 rfl bd_2_3 dX11_count_159 (fun v16 ev16 av16 bv16 => ?_)
    refine z_isub F dX11_count_162 ?_
    exact hret _ _ 163 _ (by omega) ⟨hI, hW⟩ ⟨⟨by omega, by omega⟩, rfl⟩ dX11_count_163
  · refine z_tabOut (tgt := 164) F dX11_count_1 (by omega) (by omega) (by decide +kernel) ?_
    refine z_iconst F dX11_count_164 ?_
    exact hret _ _ 165 _ (by omega) ⟨hI, hW⟩ ⟨⟨by omega, by omega⟩, rfl⟩ dX11_count_165
set_option maxRecDepth 4000 in
theorem k_X7_settleIn_35 (l : Launch) (M : Mem) (hJ : Iw M) : CV l yX7_settleIn cX7_settleIn 2 none 5 (fun ad => [.ref (ad 35)]) M (fun M' => Fr [16, 17, 35, 36, 37, 38, 39] M M') := by
  obtain ⟨hI, hW⟩ := hJ
  have hF : Fr [16, 17, 35, 36, 37, 38, 39] M M := Fr.rf
  refine en_v (by decide +kernel) (fun ad => by exact Nat.le_of_ble_eq_true rfl) (fun D cy ad A p e s m args below meth c Q F hret => ?_)
  refine z_eq (ls' := [(0, .ref (ad 35))]) rfl rfl rfl ?_
  refine z_iconst F dX7_settleIn_0 ?_
  refine z_istore_n F dX7_settleIn_1 rfl (by decide) (ls' := [(1, ii 0), (0, .ref (ad 35))]) rfl ?_
  refine z_loc [1, 0] (ls' := [(0, .ref (ad 35)), (1, ii 0)]) rfl ?_
  suffices key2 : ∀ (n : Nat) (y2 : Int) (M1 : Mem), Inv M1 → WFk M1 → Fr [16, 17, 35, 36, 37, 38, 39] M M1 → 0 ≤ y2 → y2 ≤ 8 → 8 - y2 < (n : Int) → Z D cy ad p l e (RMh 5) s m args below meth c A 2 0 0 Q 2 [(0, .ref (ad 35)), (1, ii y2)] [] M1 from key2 9 0 M hI hW hF (by omega) (by omega) (by omega)
  intro n2
  induction n2 with
  | zero => intro y2 M1 hI hW hF ay2 by2 hn2; exfalso; omega
  | succ n2 ih2 =>
    intro y2 M1 hI hW hF ay2 by2 hn2
    refine z_iload_n F dX7_settleIn_2 rfl (q := 1) rfl ?_
    refine z_aload_n F dX7_settleIn_3 rfl (q := 0) rfl ?_
    refine rf_X7_24 F gs_35 rfl dX7_settleIn_4 ?_
    refine gf_X7_28 F hI gs_2 rfl bd_2_3 dX7_settleIn_7 (fun v3 ev3 av3 bv3 => ?_)
    refine z_icmp_ge (tgt := 63) F dX7_settleIn_10 (by decide +kernel) (by omega) (by omega) (fun c4 => ?_) (fun c4 => ?_)
    · refine z_iconst F dX7_settleIn_63 ?_
      refine z_istore_n F dX7_settleIn_64 rfl (by decide) (ls' := [(1, ii 0), (0, .ref (ad 35))]) rfl ?_
      refine z_loc [1, 0] (ls' := [(0, .ref (ad 35)), (1, ii 0)]) rfl ?_
      suffices key65 : ∀ (n : Nat) (y6 : Int) (M5 : Mem), Inv M5 → WFk M5 → Fr [16, 17, 35, 36, 37, 38, 39] M M5 → 0 ≤ y6 → y6 ≤ 8 → 8 - y6 < (n : Int) → Z D cy ad p l e (RMh 5) s m args below meth c A 2 0 0 Q 65 [(0, .ref (ad 35)), (1, ii y6)] [] M5 from key65 9 0 M1 hI hW hF (by omega) (by omega) (by omega)
      intro n65
      induction n65 with
      | zero => intro y6 M5 hI hW hF ay6 by6 hn65; exfalso; omega
      | succ n65 ih65 =>
        intro y6 M5 hI hW hF ay6 by6 hn65
        refine z_iload_n F dX7_settleIn_65 rfl (q := 1) rfl ?_
        refine z_aload_n F dX7_settleIn_66 rfl (q := 0) rfl ?_
        refine rf_X7_24 F gs_35 rfl dX7_settleIn_67 ?_
        refine gf_X7_28 F hI gs_2 rfl bd_2_3 dX7_settleIn_70 (fun v7 ev7 av7 bv7 => ?_)
        refine z_icmp_ge (tgt := 87) F dX7_settleIn_73 (by decide +kernel) (by omega) (by omega) (fun c8 => ?_) (fun c8 => ?_)
        · refine z_aload_n F dX7_settleIn_87 rfl (q := 0) rfl ?_
          refine z_iconst F dX7_settleIn_88 ?_
          refine pf_X7_44 F hI gs_35 rfl bd_35_5 rfl rfl dX7_settleIn_89 (by omega) (by omega) (fun M10 hI sf9 f9 => ?_)
          have hF := hF.wr f9 (by decide) (by decide)
          have hW : WFk M10 := hW.site f9 (by decide)
          refine z_aload_n F dX7_settleIn_92 rfl (q := 0) rfl ?_
          refine z_iconst F dX7_settleIn_93 ?_
          refine pf_X7_47 F hI gs_35 rfl bd_35_6 rfl rfl dX7_settleIn_94 (by omega) (by omega) (fun M12 hI sf11 f11 => ?_)
          have hF := hF.wr f11 (by decide) (by decide)
          have hW : WFk M12 := hW.site f11 (by decide)
          exact hret _ 97 _ ⟨hI, hW⟩ hF dX7_settleIn_97
        · refine z_aload_n F dX7_settleIn_76 rfl (q := 0) rfl ?_
          refine z_iload_n F dX7_settleIn_77 rfl (q := 1) rfl ?_
          refine zv_v (rest := []) F (k_X7_askLawFor_35 l M5 ⟨hI, hW⟩ y6 (by omega) (by omega)) cs_X7_40 (T := TX7) (N := 7) (ci := 7) rfl gs_35 (by decide) (by decide) rfl rfl rfl (Nat.le_of_ble_eq_true rfl) dX7_settleIn_78 (fun M13 hI p14 => ?_)
          obtain ⟨hI, hW⟩ := hI
          have fp14 := p14
          have hF := hF.call fp14 (by decide)
          refine z_iincN F dX7_settleIn_81 (q := 1) rfl (by decide) (fun v15 ev15 => ?_)
          refine z_eq (ls' := [(1, ii v15), (0, .ref (ad 35))]) rfl rfl rfl ?_
          refine z_goto (tgt := 65) F dX7_settleIn_84 (by decide +kernel) ?_
          refine z_loc [1, 0] (ls' := [(0, .ref (ad 35)), (1, ii v15)]) rfl ?_
          exact ih65 v15 M13 hI hW hF (by omega) (by omega) (by omega)
    · refine z_aload_n F dX7_settleIn_13 rfl (q := 0) rfl ?_
      refine rf_X7_9 F gs_35 rfl dX7_settleIn_14 ?_
      refine z_iload_n F dX7_settleIn_17 rfl (q := 1) rfl ?_
      refine z_aload_n F dX7_settleIn_18 rfl (q := 0) rfl ?_
      refine rf_X7_24 F gs_35 rfl dX7_settleIn_19 ?_
      refine rf_X7_34 F gs_2 rfl dX7_settleIn_22 ?_
      refine z_iload_n F dX7_settleIn_25 rfl (q := 1) rfl ?_
      refine z_iald F hI gs_6 (by omega) (by omega) (by decide) bd_6 dX7_settleIn_26 (fun v16 (ev16 : v16 = M1 6 _) av16 bv16 => ?_)
      refine z_iast F hI gs_36 (by omega) (by omega) (by decide) bd_36 dX7_settleIn_27 (by omega) (by omega) (fun M18 hI sf17 f17 => ?_)
      have hF := hF.wr f17 (by decide) (by decide)
      have hW : WFk M18 := hW.site f17 (by decide)
      refine z_aload_n F dX7_settleIn_28 rfl (q := 0) rfl ?_
      refine rf_X7_15 F gs_35 rfl dX7_settleIn_29 ?_
      refine z_iload_n F dX7_settleIn_32 rfl (q := 1) rfl ?_
      refine z_aload_n F dX7_settleIn_33 rfl (q := 0) rfl ?_
      refine rf_X7_24 F gs_35 rfl dX7_settleIn_34 ?_
      refine rf_X7_37 F gs_2 rfl dX7_settleIn_37 ?_
      refine z_iload_n F dX7_settleIn_40 rfl (q := 1) rfl ?_
      refine z_iald F hI gs_7 (by omega) (by omega) (by decide) bd_7 dX7_settleIn_41 (fun v19 (ev19 : v19 = M18 7 _) av19 bv19 => ?_)
      refine z_iast F hI gs_37 (by omega) (by omega) (by decide) bd_37 dX7_settleIn_42 (by omega) (by omega) (fun M21 hI sf20 f20 => ?_)
      have hF := hF.wr f20 (by decide) (by decide)
      have hW : WFk M21 := hW.site f20 (by decide)
      refine z_aload_n F dX7_settleIn_43 rfl (q := 0) rfl ?_
      refine rf_X7_18 F gs_35 rfl dX7_settleIn_44 ?_
      refine z_iload_n F dX7_settleIn_47 rfl (q := 1) rfl ?_
      refine z_iconst F dX7_settleIn_48 ?_
      refine z_iast F hI gs_38 (by omega) (by omega) (by decide) bd_38 dX7_settleIn_49 (by omega) (by omega) (fun M23 hI sf22 f22 => ?_)
      have hF := hF.wr f22 (by decide) (by decide)
      have hW : WFk M23 := hW.site f22 (by decide)
      refine z_aload_n F dX7_settleIn_50 rfl (q := 0) rfl ?_
      refine rf_X7_21 F gs_35 rfl dX7_settleIn_51 ?_
      refine z_iload_n F dX7_settleIn_54 rfl (q := 1) rfl ?_
      refine z_iconst F dX7_settleIn_55 ?_
      refine z_iast F hI gs_39 (by omega) (by omega) (by decide) bd_39 dX7_settleIn_56 (by omega) (by omega) (fun M25 hI sf24 f24 => ?_)
      have hF := hF.wr f24 (by decide) (by decide)
      have hW : WFk M25 := hW.site f24 (by decide)
      refine z_iincN F dX7_settleIn_57 (q := 1) rfl (by decide) (fun v26 ev26 => ?_)
      refine z_eq (ls' := [(1, ii v26), (0, .ref (ad 35))]) rfl rfl rfl ?_
      refine z_goto (tgt := 2) F dX7_settleIn_60 (by decide +kernel) ?_
      refine z_loc [1, 0] (ls' := [(0, .ref (ad 35)), (1, ii v26)]) rfl ?_
      exact ih2 v26 M25 hI hW hF (by omega) (by omega) (by omega)
set_option maxRecDepth 4000 in
theorem k_X4_forget_40 (l : Launch) (M : Mem) (hJ : Iw M) : CV l yX4_forget cX4_forget 1 none 1 (fun ad => [.ref (ad 40)]) M (fun M' => Fr [40] M M') := by
  obtain ⟨hI, hW⟩ := hJ
  have hF : Fr [40] M M := Fr.rf
  refine en_v (by decide +kernel) (fun ad => by exact Nat.le_of_ble_eq_true rfl) (fun D cy ad A p e s m args below meth c Q F hret => ?_)
  refine z_eq (ls' := [(0, .ref (ad 40))]) rfl rfl rfl ?_
  refine z_aload_n F dX4_forget_0 rfl (q := 0) rfl ?_
  refine z_iconst F dX4_forget_1 ?_
  refine pf_X4_17 F hI gs_40 rfl bd_40_0 rfl rfl dX4_forget_2 (by omega) (by omega) (fun M2 hI sf1 f1 => ?_)
  have hF := hF.wr f1 (by decide) (by decide)
  have hW : WFk M2 := hW.site f1 (by decide)
  exact hret _ 5 _ ⟨hI, hW⟩ hF dX4_forget_5
set_option maxRecDepth 4000 in
theorem k_X9_copy_20_3 (l : Launch) (M : Mem) (hJ : Iw M) : CV l yX9_copy cX9_copy 2 none 1 (fun ad => [.ref (ad 20), .ref (ad 3)]) M (fun M' => Fr [3] M M' ∧ (∀ j : Nat, j < 10 → M' 3 j = M 20 j)) := by
  obtain ⟨hI, hW⟩ := hJ
  have hF : Fr [3] M M := Fr.rf
  refine en_v (by decide +kernel) (fun ad => by exact Nat.le_of_ble_eq_true rfl) (fun D cy ad A p e s m args below meth c Q F hret => ?_)
  refine z_eq (ls' := [(0, .ref (ad 20)), (1, .ref (ad 3))]) rfl rfl rfl ?_
  refine z_aload_n F dX9_copy_0 rfl (q := 0) rfl ?_
  refine z_iconst F dX9_copy_1 ?_
  refine z_aload_n F dX9_copy_2 rfl (q := 1) rfl ?_
  refine z_iconst F dX9_copy_3 ?_
  refine z_aload_n F dX9_copy_4 rfl (q := 0) rfl ?_
  refine z_alen (x := 10) F gs_20 rfl rfl dX9_copy_5 ?_
  refine z_aload_n F dX9_copy_6 rfl (q := 1) rfl ?_
  refine z_alen (x := 10) F gs_3 rfl rfl dX9_copy_7 ?_
  refine z_min F mm_X9_85 (Nat.le_of_ble_eq_true rfl) dX9_copy_8 (by omega) (by omega) (fun v1 ev1 => ?_)
  refine z_copyE F (by decide) ac_X9_91 hI gs_20 gs_3 (by omega) (by omega) (by omega) (by omega) (by omega) (by decide) (by decide) (fun i hi => rfl) (Nat.le_of_ble_eq_true rfl) dX9_copy_11 (fun M3 hI g2 kg2 => ?_)
  have hF := hF.call g2 (by decide)
  have hW : WFk M3 := hW.fr g2 (by decide) (by decide)
  exact hret _ 14 _ ⟨hI, hW⟩ ⟨hF, (cp_at (f := M3 3) (g := M 20) (h := M 3) 10 kg2 (by omega))⟩ dX9_copy_14
set_option maxRecDepth 4000 in
theorem k_X9_copy_21_4 (l : Launch) (M : Mem) (hJ : Iw M) : CV l yX9_copy cX9_copy 2 none 1 (fun ad => [.ref (ad 21), .ref (ad 4)]) M (fun M' => Fr [4] M M' ∧ (∀ j : Nat, j < 10 → M' 4 j = M 21 j)) := by
  obtain ⟨hI, hW⟩ := hJ
  have hF : Fr [4] M M := Fr.rf
  refine en_v (by decide +kernel) (fun ad => by exact Nat.le_of_ble_eq_true rfl) (fun D cy ad A p e s m args below meth c Q F hret => ?_)
  refine z_eq (ls' := [(0, .ref (ad 21)), (1, .ref (ad 4))]) rfl rfl rfl ?_
  refine z_aload_n F dX9_copy_0 rfl (q := 0) rfl ?_
  refine z_iconst F dX9_copy_1 ?_
  refine z_aload_n F dX9_copy_2 rfl (q := 1) rfl ?_
  refine z_iconst F dX9_copy_3 ?_
  refine z_aload_n F dX9_copy_4 rfl (q := 0) rfl ?_
  refine z_alen (x := 10) F gs_21 rfl rfl dX9_copy_5 ?_
  refine z_aload_n F dX9_copy_6 rfl (q := 1) rfl ?_
  refine z_alen (x := 10) F gs_4 rfl rfl dX9_copy_7 ?_
  refine z_min F mm_X9_85 (Nat.le_of_ble_eq_true rfl) dX9_copy_8 (by omega) (by omega) (fun v1 ev1 => ?_)
  refine z_copyE F (by decide) ac_X9_91 hI gs_21 gs_4 (by omega) (by omega) (by omega) (by omega) (by omega) (by decide) (by decide) (fun i hi => rfl) (Nat.le_of_ble_eq_true rfl) dX9_copy_11 (fun M3 hI g2 kg2 => ?_)
  have hF := hF.call g2 (by decide)
  have hW : WFk M3 := hW.fr g2 (by decide) (by decide)
  exact hret _ 14 _ ⟨hI, hW⟩ ⟨hF, (cp_at (f := M3 4) (g := M 21) (h := M 4) 10 kg2 (by omega))⟩ dX9_copy_14
set_option maxRecDepth 4000 in
theorem k_X9_copy_22_5 (l : Launch) (M : Mem) (hJ : Iw M) : CV l yX9_copy cX9_copy 2 none 1 (fun ad => [.ref (ad 22), .ref (ad 5)]) M (fun M' => Fr [5] M M' ∧ (∀ j : Nat, j < 100 → M' 5 j = M 22 j)) := by
  obtain ⟨hI, hW⟩ := hJ
  have hF : Fr [5] M M := Fr.rf
  refine en_v (by decide +kernel) (fun ad => by exact Nat.le_of_ble_eq_true rfl) (fun D cy ad A p e s m args below meth c Q F hret => ?_)
  refine z_eq (ls' := [(0, .ref (ad 22)), (1, .ref (ad 5))]) rfl rfl rfl ?_
  refine z_aload_n F dX9_copy_0 rfl (q := 0) rfl ?_
  refine z_iconst F dX9_copy_1 ?_
  refine z_aload_n F dX9_copy_2 rfl (q := 1) rfl ?_
  refine z_iconst F dX9_copy_3 ?_
  refine z_aload_n F dX9_copy_4 rfl (q := 0) rfl ?_
  refine z_alen (x := 100) F gs_22 rfl rfl dX9_copy_5 ?_
  refine z_aload_n F dX9_copy_6 rfl (q := 1) rfl ?_
  refine z_alen (x := 100) F gs_5 rfl rfl dX9_copy_7 ?_
  refine z_min F mm_X9_85 (Nat.le_of_ble_eq_true rfl) dX9_copy_8 (by omega) (by omega) (fun v1 ev1 => ?_)
  refine z_copyE F (by decide) ac_X9_91 hI gs_22 gs_5 (by omega) (by omega) (by omega) (by omega) (by omega) (by decide) (by decide) (fun i hi => rfl) (Nat.le_of_ble_eq_true rfl) dX9_copy_11 (fun M3 hI g2 kg2 => ?_)
  have hF := hF.call g2 (by decide)
  have hW : WFk M3 := hW.fr g2 (by decide) (by decide)
  exact hret _ 14 _ ⟨hI, hW⟩ ⟨hF, (cp_at (f := M3 5) (g := M 22) (h := M 5) 100 kg2 (by omega))⟩ dX9_copy_14
set_option maxRecDepth 4000 in
theorem k_X9_copy_23_6 (l : Launch) (M : Mem) (hJ : Iw M) : CV l yX9_copy cX9_copy 2 none 1 (fun ad => [.ref (ad 23), .ref (ad 6)]) M (fun M' => Fr [6] M M' ∧ (∀ j : Nat, j < 8 → M' 6 j = M 23 j)) := by
  obtain ⟨hI, hW⟩ := hJ
  have hF : Fr [6] M M := Fr.rf
  refine en_v (by decide +kernel) (fun ad => by exact Nat.le_of_ble_eq_true rfl) (fun D cy ad A p e s m args below meth c Q F hret => ?_)
  refine z_eq (ls' := [(0, .ref (ad 23)), (1, .ref (ad 6))]) rfl rfl rfl ?_
  refine z_aload_n F dX9_copy_0 rfl (q := 0) rfl ?_
  refine z_iconst F dX9_copy_1 ?_
  refine z_aload_n F dX9_copy_2 rfl (q := 1) rfl ?_
  refine z_iconst F dX9_copy_3 ?_
  refine z_aload_n F dX9_copy_4 rfl (q := 0) rfl ?_
  refine z_alen (x := 8) F gs_23 rfl rfl dX9_copy_5 ?_
  refine z_aload_n F dX9_copy_6 rfl (q := 1) rfl ?_
  refine z_alen (x := 8) F gs_6 rfl rfl dX9_copy_7 ?_
  refine z_min F mm_X9_85 (Nat.le_of_ble_eq_true rfl) dX9_copy_8 (by omega) (by omega) (fun v1 ev1 => ?_)
  refine z_copyE F (by decide) ac_X9_91 hI gs_23 gs_6 (by omega) (by omega) (by omega) (by omega) (by omega) (by decide) (by decide) (fun i hi => rfl) (Nat.le_of_ble_eq_true rfl) dX9_copy_11 (fun M3 hI g2 kg2 => ?_)
  have hF := hF.call g2 (by decide)
  have hW : WFk M3 := hW.fr g2 (by decide) (by decide)
  exact hret _ 14 _ ⟨hI, hW⟩ ⟨hF, (cp_at (f := M3 6) (g := M 23) (h := M 6) 8 kg2 (by omega))⟩ dX9_copy_14
set_option maxRecDepth 4000 in
theorem k_X9_copy_24_7 (l : Launch) (M : Mem) (hJ : Iw M) : CV l yX9_copy cX9_copy 2 none 1 (fun ad => [.ref (ad 24), .ref (ad 7)]) M (fun M' => Fr [7] M M' ∧ (∀ j : Nat, j < 8 → M' 7 j = M 24 j)) := by
  obtain ⟨hI, hW⟩ := hJ
  have hF : Fr [7] M M := Fr.rf
  refine en_v (by decide +kernel) (fun ad => by exact Nat.le_of_ble_eq_true rfl) (fun D cy ad A p e s m args below meth c Q F hret => ?_)
  refine z_eq (ls' := [(0, .ref (ad 24)), (1, .ref (ad 7))]) rfl rfl rfl ?_
  refine z_aload_n F dX9_copy_0 rfl (q := 0) rfl ?_
  refine z_iconst F dX9_copy_1 ?_
  refine z_aload_n F dX9_copy_2 rfl (q := 1) rfl ?_
  refine z_iconst F dX9_copy_3 ?_
  refine z_aload_n F dX9_copy_4 rfl (q := 0) rfl ?_
  refine z_alen (x := 8) F gs_24 rfl rfl dX9_copy_5 ?_
  refine z_aload_n F dX9_copy_6 rfl (q := 1) rfl ?_
  refine z_alen (x := 8) F gs_7 rfl rfl dX9_copy_7 ?_
  refine z_min F mm_X9_85 (Nat.le_of_ble_eq_true rfl) dX9_copy_8 (by omega) (by omega) (fun v1 ev1 => ?_)
  refine z_copyE F (by decide) ac_X9_91 hI gs_24 gs_7 (by omega) (by omega) (by omega) (by omega) (by omega) (by decide) (by decide) (fun i hi => rfl) (Nat.le_of_ble_eq_true rfl) dX9_copy_11 (fun M3 hI g2 kg2 => ?_)
  have hF := hF.call g2 (by decide)
  have hW : WFk M3 := hW.fr g2 (by decide) (by decide)
  exact hret _ 14 _ ⟨hI, hW⟩ ⟨hF, (cp_at (f := M3 7) (g := M 24) (h := M 7) 8 kg2 (by omega))⟩ dX9_copy_14
set_option maxRecDepth 4000 in
theorem k_X9_copy_25_8 (l : Launch) (M : Mem) (hJ : Iw M) : CV l yX9_copy cX9_copy 2 none 1 (fun ad => [.ref (ad 25), .ref (ad 8)]) M (fun M' => Fr [8] M M' ∧ (∀ j : Nat, j < 8 → M' 8 j = M 25 j)) := by
  obtain ⟨hI, hW⟩ := hJ
  have hF : Fr [8] M M := Fr.rf
  refine en_v (by decide +kernel) (fun ad => by exact Nat.le_of_ble_eq_true rfl) (fun D cy ad A p e s m args below meth c Q F hret => ?_)
  refine z_eq (ls' := [(0, .ref (ad 25)), (1, .ref (ad 8))]) rfl rfl rfl ?_
  refine z_aload_n F dX9_copy_0 rfl (q := 0) rfl ?_
  refine z_iconst F dX9_copy_1 ?_
  refine z_aload_n F dX9_copy_2 rfl (q := 1) rfl ?_
  refine z_iconst F dX9_copy_3 ?_
  refine z_aload_n F dX9_copy_4 rfl (q := 0) rfl ?_
  refine z_alen (x := 8) F gs_25 rfl rfl dX9_copy_5 ?_
  refine z_aload_n F dX9_copy_6 rfl (q := 1) rfl ?_
  refine z_alen (x := 8) F gs_8 rfl rfl dX9_copy_7 ?_
  refine z_min F mm_X9_85 (Nat.le_of_ble_eq_true rfl) dX9_copy_8 (by omega) (by omega) (fun v1 ev1 => ?_)
  refine z_copyE F (by decide) ac_X9_91 hI gs_25 gs_8 (by omega) (by omega) (by omega) (by omega) (by omega) (by decide) (by decide) (fun i hi => rfl) (Nat.le_of_ble_eq_true rfl) dX9_copy_11 (fun M3 hI g2 kg2 => ?_)
  have hF := hF.call g2 (by decide)
  have hW : WFk M3 := hW.fr g2 (by decide) (by decide)
  exact hret _ 14 _ ⟨hI, hW⟩ ⟨hF, (cp_at (f := M3 8) (g := M 25) (h := M 8) 8 kg2 (by omega))⟩ dX9_copy_14
