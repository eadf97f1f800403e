theorem dX12_count_0 : decode cX12_count 0 = .ok (.aload_n 0, 1) := by decide +kernel
theorem dX12_count_1 : decode cX12_count 1 = .ok (.iconst 0, 1) := by decide +kernel
theorem dX12_count_101 : decode cX12_count 101 = .ok (.iaload, 1) := by decide +kernel
theorem dX12_count_102 : decode cX12_count 102 = .ok (.ireturn, 1) := by decide +kernel
theorem dX12_count_103 : decode cX12_count 103 = .ok (.aload_n 0, 1) := by decide +kernel
theorem dX12_count_104 : decode cX12_count 104 = .ok (.getfield 9, 3) := by decide +kernel
theorem dX12_count_107 : decode cX12_count 107 = .ok (.bipush 25, 2) := by decide +kernel
theorem dX12_count_109 : decode cX12_count 109 = .ok (.iaload, 1) := by decide +kernel
theorem dX12_count_110 : decode cX12_count 110 = .ok (.ireturn, 1) := by decide +kernel
theorem dX12_count_111 : decode cX12_count 111 = .ok (.aload_n 0, 1) := by decide +kernel
theorem dX12_count_112 : decode cX12_count 112 = .ok (.getfield 9, 3) := by decide +kernel
theorem dX12_count_115 : decode cX12_count 115 = .ok (.bipush 7, 2) := by decide +kernel
theorem dX12_count_117 : decode cX12_count 117 = .ok (.iaload, 1) := by decide +kernel
theorem dX12_count_118 : decode cX12_count 118 = .ok (.ireturn, 1) := by decide +kernel
theorem dX12_count_119 : decode cX12_count 119 = .ok (.aload_n 0, 1) := by decide +kernel
theorem dX12_count_120 : decode cX12_count 120 = .ok (.getfield 76, 3) := by decide +kernel
theorem dX12_count_123 : decode cX12_count 123 = .ok (.ireturn, 1) := by decide +kernel
theorem dX12_count_124 : decode cX12_count 124 = .ok (.aload_n 0, 1) := by decide +kernel
theorem dX12_count_125 : decode cX12_count 125 = .ok (.getfield 9, 3) := by decide +kernel
theorem dX12_count_128 : decode cX12_count 128 = .ok (.bipush 6, 2) := by decide +kernel
theorem dX12_count_130 : decode cX12_count 130 = .ok (.iaload, 1) := by decide +kernel
theorem dX12_count_131 : decode cX12_count 131 = .ok (.ifCond .le 7, 3) := by decide +kernel
theorem dX12_count_134 : decode cX12_count 134 = .ok (.iconst 1, 1) := by decide +kernel
theorem dX12_count_135 : decode cX12_count 135 = .ok (.goto 4, 3) := by decide +kernel
theorem dX12_count_138 : decode cX12_count 138 = .ok (.iconst 0, 1) := by decide +kernel
theorem dX12_count_139 : decode cX12_count 139 = .ok (.ireturn, 1) := by decide +kernel
theorem dX12_count_140 : decode cX12_count 140 = .ok (.aload_n 0, 1) := by decide +kernel
theorem dX12_count_141 : decode cX12_count 141 = .ok (.invokevirtual 273, 3) := by decide +kernel
theorem dX12_count_144 : decode cX12_count 144 = .ok (.aload_n 0, 1) := by decide +kernel
theorem dX12_count_145 : decode cX12_count 145 = .ok (.invokevirtual 275, 3) := by decide +kernel
theorem dX12_count_148 : decode cX12_count 148 = .ok (.isub, 1) := by decide +kernel
theorem dX12_count_149 : decode cX12_count 149 = .ok (.ireturn, 1) := by decide +kernel
theorem dX12_count_150 : decode cX12_count 150 = .ok (.iconst (-1), 1) := by decide +kernel
theorem dX12_count_151 : decode cX12_count 151 = .ok (.ireturn, 1) := by decide +kernel
theorem dX12_count_2 : decode cX12_count 2 = .ok (.putfield 73, 3) := by decide +kernel
theorem dX12_count_5 : decode cX12_count 5 = .ok (.iload_n 1, 1) := by decide +kernel
theorem dX12_count_6 : decode cX12_count 6 = .ok (.tableswitch 144 0 10 #[58, 65, 70, 75, 82, 89, 97, 105, 113, 118, 134], 58) := by decide +kernel
theorem dX12_count_64 : decode cX12_count 64 = .ok (.aload_n 0, 1) := by decide +kernel
theorem dX12_count_65 : decode cX12_count 65 = .ok (.getfield 9, 3) := by decide +kernel
theorem dX12_count_68 : decode cX12_count 68 = .ok (.iconst 0, 1) := by decide +kernel
theorem dX12_count_69 : decode cX12_count 69 = .ok (.iaload, 1) := by decide +kernel
theorem dX12_count_70 : decode cX12_count 70 = .ok (.ireturn, 1) := by decide +kernel
theorem dX12_count_71 : decode cX12_count 71 = .ok (.aload_n 0, 1) := by decide +kernel
theorem dX12_count_72 : decode cX12_count 72 = .ok (.invokevirtual 273, 3) := by decide +kernel
theorem dX12_count_75 : decode cX12_count 75 = .ok (.ireturn, 1) := by decide +kernel
theorem dX12_count_76 : decode cX12_count 76 = .ok (.aload_n 0, 1) := by decide +kernel
theorem dX12_count_77 : decode cX12_count 77 = .ok (.invokevirtual 275, 3) := by decide +kernel
theorem dX12_count_80 : decode cX12_count 80 = .ok (.ireturn, 1) := by decide +kernel
theorem dX12_count_81 : decode cX12_count 81 = .ok (.aload_n 0, 1) := by decide +kernel
theorem dX12_count_82 : decode cX12_count 82 = .ok (.getfield 9, 3) := by decide +kernel
theorem dX12_count_85 : decode cX12_count 85 = .ok (.iconst 3, 1) := by decide +kernel
theorem dX12_count_86 : decode cX12_count 86 = .ok (.iaload, 1) := by decide +kernel
theorem dX12_count_87 : decode cX12_count 87 = .ok (.ireturn, 1) := by decide +kernel
theorem dX12_count_88 : decode cX12_count 88 = .ok (.aload_n 0, 1) := by decide +kernel
theorem dX12_count_89 : decode cX12_count 89 = .ok (.getfield 9, 3) := by decide +kernel
theorem dX12_count_92 : decode cX12_count 92 = .ok (.iconst 4, 1) := by decide +kernel
theorem dX12_count_93 : decode cX12_count 93 = .ok (.iaload, 1) := by decide +kernel
theorem dX12_count_94 : decode cX12_count 94 = .ok (.ireturn, 1) := by decide +kernel
theorem dX12_count_95 : decode cX12_count 95 = .ok (.aload_n 0, 1) := by decide +kernel
theorem dX12_count_96 : decode cX12_count 96 = .ok (.getfield 9, 3) := by decide +kernel
theorem dX12_count_99 : decode cX12_count 99 = .ok (.bipush 24, 2) := by decide +kernel
theorem dX12_pour_0 : decode cX12_pour 0 = .ok (.aload_n 0, 1) := by decide +kernel
theorem dX12_pour_1 : decode cX12_pour 1 = .ok (.aload_n 0, 1) := by decide +kernel
theorem dX12_pour_10 : decode cX12_pour 10 = .ok (.getfield 73, 3) := by decide +kernel
theorem dX12_pour_13 : decode cX12_pour 13 = .ok (.ifCond .le 5, 3) := by decide +kernel
theorem dX12_pour_16 : decode cX12_pour 16 = .ok (.iconst 0, 1) := by decide +kernel
theorem dX12_pour_17 : decode cX12_pour 17 = .ok (.ireturn, 1) := by decide +kernel
theorem dX12_pour_18 : decode cX12_pour 18 = .ok (.aload_n 0, 1) := by decide +kernel
theorem dX12_pour_19 : decode cX12_pour 19 = .ok (.getfield 66, 3) := by decide +kernel
theorem dX12_pour_2 : decode cX12_pour 2 = .ok (.iload_n 1, 1) := by decide +kernel
theorem dX12_pour_22 : decode cX12_pour 22 = .ok (.iload_n 1, 1) := by decide +kernel
theorem dX12_pour_23 : decode cX12_pour 23 = .ok (.iaload, 1) := by decide +kernel
theorem dX12_pour_24 : decode cX12_pour 24 = .ok (.aload_n 0, 1) := by decide +kernel
theorem dX12_pour_25 : decode cX12_pour 25 = .ok (.invokevirtual 275, 3) := by decide +kernel
theorem dX12_pour_28 : decode cX12_pour 28 = .ok (.invokestatic 309, 3) := by decide +kernel
theorem dX12_pour_3 : decode cX12_pour 3 = .ok (.invokevirtual 401, 3) := by decide +kernel
theorem dX12_pour_31 : decode cX12_pour 31 = .ok (.istore_n 2, 1) := by decide +kernel
theorem dX12_pour_32 : decode cX12_pour 32 = .ok (.iconst 0, 1) := by decide +kernel
theorem dX12_pour_33 : decode cX12_pour 33 = .ok (.istore_n 3, 1) := by decide +kernel
theorem dX12_pour_34 : decode cX12_pour 34 = .ok (.iload_n 3, 1) := by decide +kernel
theorem dX12_pour_35 : decode cX12_pour 35 = .ok (.iload_n 2, 1) := by decide +kernel
theorem dX12_pour_36 : decode cX12_pour 36 = .ok (.if_icmp .ge 22, 3) := by decide +kernel
theorem dX12_pour_39 : decode cX12_pour 39 = .ok (.aload_n 0, 1) := by decide +kernel
theorem dX12_pour_40 : decode cX12_pour 40 = .ok (.iload_n 1, 1) := by decide +kernel
theorem dX12_pour_41 : decode cX12_pour 41 = .ok (.iload_n 3, 1) := by decide +kernel
theorem dX12_pour_42 : decode cX12_pour 42 = .ok (.aload_n 0, 1) := by decide +kernel
theorem dX12_pour_43 : decode cX12_pour 43 = .ok (.iload_n 3, 1) := by decide +kernel
theorem dX12_pour_44 : decode cX12_pour 44 = .ok (.invokevirtual 317, 3) := by decide +kernel
theorem dX12_pour_47 : decode cX12_pour 47 = .ok (.i2l, 1) := by decide +kernel
theorem dX12_pour_48 : decode cX12_pour 48 = .ok (.invokevirtual 535, 3) := by decide +kernel
theorem dX12_pour_51 : decode cX12_pour 51 = .ok (.pop2, 1) := by decide +kernel
theorem dX12_pour_52 : decode cX12_pour 52 = .ok (.iinc 3 1, 3) := by decide +kernel
theorem dX12_pour_55 : decode cX12_pour 55 = .ok (.goto (-21), 3) := by decide +kernel
theorem dX12_pour_58 : decode cX12_pour 58 = .ok (.iload_n 2, 1) := by decide +kernel
theorem dX12_pour_59 : decode cX12_pour 59 = .ok (.ireturn, 1) := by decide +kernel
theorem dX12_pour_6 : decode cX12_pour 6 = .ok (.putfield 73, 3) := by decide +kernel
theorem dX12_pour_9 : decode cX12_pour 9 = .ok (.aload_n 0, 1) := by decide +kernel
theorem dX12_write_0 : decode cX12_write 0 = .ok (.aload_n 0, 1) := by decide +kernel
theorem dX12_write_1 : decode cX12_write 1 = .ok (.aload_n 0, 1) := by decide +kernel
theorem dX12_write_10 : decode cX12_write 10 = .ok (.getfield 73, 3) := by decide +kernel
theorem dX12_write_13 : decode cX12_write 13 = .ok (.ifCond .le 5, 3) := by decide +kernel
theorem dX12_write_16 : decode cX12_write 16 = .ok (.lconst 0, 1) := by decide +kernel
theorem dX12_write_17 : decode cX12_write 17 = .ok (.lreturn, 1) := by decide +kernel
theorem dX12_write_18 : decode cX12_write 18 = .ok (.iload_n 2, 1) := by decide +kernel
theorem dX12_write_19 : decode cX12_write 19 = .ok (.i2l, 1) := by decide +kernel
theorem dX12_write_2 : decode cX12_write 2 = .ok (.iload_n 1, 1) := by decide +kernel
theorem dX12_write_20 : decode cX12_write 20 = .ok (.lconst 0, 1) := by decide +kernel
theorem dX12_write_21 : decode cX12_write 21 = .ok (.aload_n 0, 1) := by decide +kernel
theorem dX12_write_22 : decode cX12_write 22 = .ok (.getfield 66, 3) := by decide +kernel
theorem dX12_write_25 : decode cX12_write 25 = .ok (.iload_n 1, 1) := by decide +kernel
theorem dX12_write_26 : decode cX12_write 26 = .ok (.iaload, 1) := by decide +kernel
theorem dX12_write_27 : decode cX12_write 27 = .ok (.iconst 1, 1) := by decide +kernel
theorem dX12_write_28 : decode cX12_write 28 = .ok (.isub, 1) := by decide +kernel
theorem dX12_write_29 : decode cX12_write 29 = .ok (.i2l, 1) := by decide +kernel
theorem dX12_write_3 : decode cX12_write 3 = .ok (.invokevirtual 401, 3) := by decide +kernel
theorem dX12_write_30 : decode cX12_write 30 = .ok (.invokestatic 137, 3) := by decide +kernel
theorem dX12_write_33 : decode cX12_write 33 = .ok (.ifCond .eq 13, 3) := by decide +kernel
theorem dX12_write_36 : decode cX12_write 36 = .ok (.aload_n 0, 1) := by decide +kernel
theorem dX12_write_37 : decode cX12_write 37 = .ok (.iload_n 1, 1) := by decide +kernel
theorem dX12_write_38 : decode cX12_write 38 = .ok (.iload_n 2, 1) := by decide +kernel
theorem dX12_write_39 : decode cX12_write 39 = .ok (.lload_n 3, 1) := by decide +kernel
theorem dX12_write_40 : decode cX12_write 40 = .ok (.invokevirtual 535, 3) := by decide +kernel
theorem dX12_write_43 : decode cX12_write 43 = .ok (.goto 9, 3) := by decide +kernel
theorem dX12_write_46 : decode cX12_write 46 = .ok (.aload_n 0, 1) := by decide +kernel
theorem dX12_write_47 : decode cX12_write 47 = .ok (.iconst 3, 1) := by decide +kernel
theorem dX12_write_48 : decode cX12_write 48 = .ok (.invokevirtual 262, 3) := by decide +kernel
theorem dX12_write_51 : decode cX12_write 51 = .ok (.i2l, 1) := by decide +kernel
theorem dX12_write_52 : decode cX12_write 52 = .ok (.lreturn, 1) := by decide +kernel
theorem dX12_write_6 : decode cX12_write 6 = .ok (.putfield 73, 3) := by decide +kernel
theorem dX12_write_9 : decode cX12_write 9 = .ok (.aload_n 0, 1) := by decide +kernel
set_option maxRecDepth 4000 in
theorem k_X12_write (l : Launch) (M : Mem) (hI : Inv M) (x0 : Int) (hx0a : (-2147483648) ≤ x0) (hx0b : x0 ≤ 2147483647) (x1 : Int) (hx1a : (-2147483648) ≤ x1) (hx1b : x1 ≤ 2147483647) (x2 : Int) (hx2a : (-9223372036854775808) ≤ x2) (hx2b : x2 ≤ 9223372036854775807) : CL l yX12_write cX12_write 5 (some .long) 4 (fun ad => [.ref (ad 131), ii x0, ii x1, ll x2]) M (fun z M' => ((-9223372036854775808) ≤ z ∧ z ≤ 9223372036854775807)) := by
  refine en_l (by decide +kernel) (fun ad => by exact Nat.le_of_ble_eq_true rfl) (fun D cy ad A p e s m args below meth c Q F hret => ?_)
  refine z_eq (ls' := [(0, .ref (ad 131)), (1, ii x0), (2, ii x1), (3, ll x2)]) rfl rfl rfl ?_
  refine z_aload_n F dX12_write_0 rfl (q := 0) rfl ?_
  refine z_aload_n F dX12_write_1 rfl (q := 0) rfl ?_
  refine z_iload_n F dX12_write_2 rfl (q := 1) rfl ?_
  refine zv_i (rest := [.ref (ad 131)]) F (k_X12_trayFault l M hI x0 (by omega) (by omega)) cs_X12_401 (T := TX12) (N := 44) (ci := 12) rfl gs_131 (by decide) (by decide) rfl rfl rfl (by decide) dX12_write_3 (fun v1 M2 rv1 hI p3 => ?_)
  obtain ⟨⟨av1, bv1⟩, rfl, xp3⟩ := p3
  refine pf_X12_73 F hI gs_131 rfl bd_131_4 rfl rfl dX12_write_6 (by omega) (by omega) (fun M5 hI sf4 f4 => ?_)
  refine z_aload_n F dX12_write_9 rfl (q := 0) rfl ?_
  refine gf_X12_73 F hI gs_131 rfl bd_131_4 dX12_write_10 (fun v6 ev6 av6 bv6 => ?_)
  have zv6 : v6 = v1 := ev6.trans sf4.symm.symm
  subst zv6
  refine z_if_le (tgt := 18) F dX12_write_13 (by decide +kernel) (by omega) (fun c7 => ?_) (fun c7 => ?_)
  · refine z_iload_n F dX12_write_18 rfl (q := 2) rfl ?_
    refine z_i2l F dX12_write_19 (by omega) ?_
    refine z_lconst (x := 0) F dX12_write_20 (by decide +kernel) ?_
    refine z_aload_n F dX12_write_21 rfl (q := 0) rfl ?_
    refine rf_X12_66 F gs_131 rfl dX12_write_22 ?_
    refine z_iload_n F dX12_write_25 rfl (q := 1) rfl ?_
    refine z_iald F hI gs_149 (by omega) (by omega) (by decide) bd_149 dX12_write_26 (fun v8 (ev8 : v8 = M5 149 _) av8 bv8 => ?_)
    refine z_iconst F dX12_write_27 ?_
    refine z_isub F dX12_write_28 ?_
    refine z_i2l F dX12_write_29 (by omega) ?_
    refine zs_i (rest := []) F (k_X12_within l M5 hI x1 (by omega) (by omega) 0 (by omega) (by omega) (v8 - 1) (by omega) (by omega)) cs_X12_137 (by decide) (by decide) rfl rfl rfl (by decide) dX12_write_30 (fun v9 M10 rv9 hI p11 => ?_)
    obtain ⟨⟨av9, bv9⟩, rfl, xp11⟩ := p11
    refine z_if_eq (tgt := 46) F dX12_write_33 (by decide +kernel) (by omega) (fun c12 => ?_) (fun c12 => ?_)
    · refine z_aload_n F dX12_write_46 rfl (q := 0) rfl ?_
      refine z_iconst F dX12_write_47 ?_
      refine zv_i (rest := []) F (k_X12_fails l M5 hI 3 (by omega) (by omega)) cs_X12_262 (T := TX12) (N := 44) (ci := 12) rfl gs_131 (by decide) (by decide) rfl rfl rfl (by decide) dX12_write_48 (fun v13 M14 rv13 hI p15 => ?_)
      obtain ⟨av13, bv13⟩ := p15
      refine z_i2l F dX12_write_51 (by omega) ?_
      exact hret _ _ 52 _ (by omega) hI ⟨by omega, by omega⟩ dX12_write_52
    · refine z_aload_n F dX12_write_36 rfl (q := 0) rfl ?_
      refine z_iload_n F dX12_write_37 rfl (q := 1) rfl ?_
      refine z_iload_n F dX12_write_38 rfl (q := 2) rfl ?_
      refine z_lload_n F dX12_write_39 rfl (q := 3) rfl ?_
      refine zv_l (rest := []) F (k_X12_cut l M5 hI x0 (by omega) (by omega) x1 (by omega) (by omega) x2 (by omega) (by omega)) cs_X12_535 (T := TX12) (N := 44) (ci := 12) rfl gs_131 (by decide) (by decide) rfl rfl rfl (by decide) dX12_write_40 (fun v16 M17 rv16 hI p18 => ?_)
      obtain ⟨av16, bv16⟩ := p18
      refine z_goto (tgt := 52) F dX12_write_43 (by decide +kernel) ?_
      exact hret _ _ 52 _ (by omega) hI ⟨by omega, by omega⟩ dX12_write_52
  · refine z_lconst (x := 0) F dX12_write_16 (by decide +kernel) ?_
    exact hret _ _ 17 _ (by omega) hI ⟨by omega, by omega⟩ dX12_write_17
set_option maxRecDepth 4000 in
theorem k_X12_pour (l : Launch) (M : Mem) (hI : Inv M) (x0 : Int) (hx0a : (-2147483648) ≤ x0) (hx0b : x0 ≤ 2147483647) : CI l yX12_pour cX12_pour 4 (some .int) 4 (fun ad => [.ref (ad 131), ii x0]) M (fun z M' => (0 ≤ z ∧ z ≤ 8)) := by
  refine en_i (by decide +kernel) (fun ad => by exact Nat.le_of_ble_eq_true rfl) (fun D cy ad A p e s m args below meth c Q F hret => ?_)
  refine z_eq (ls' := [(0, .ref (ad 131)), (1, ii x0)]) rfl rfl rfl ?_
  refine z_aload_n F dX12_pour_0 rfl (q := 0) rfl ?_
  refine z_aload_n F dX12_pour_1 rfl (q := 0) rfl ?_
  refine z_iload_n F dX12_pour_2 rfl (q := 1) rfl ?_
  refine zv_i (rest := [.ref (ad 131)]) F (k_X12_trayFault l M hI x0 (by omega) (by omega)) cs_X12_401 (T := TX12) (N := 44) (ci := 12) rfl gs_131 (by decide) (by decide) rfl rfl rfl (by decide) dX12_pour_3 (fun v1 M2 rv1 hI p3 => ?_)
  obtain ⟨⟨av1, bv1⟩, rfl, xp3⟩ := p3
  refine pf_X12_73 F hI gs_131 rfl bd_131_4 rfl rfl dX12_pour_6 (by omega) (by omega) (fun M5 hI sf4 f4 => ?_)
  refine z_aload_n F dX12_pour_9 rfl (q := 0) rfl ?_
  refine gf_X12_73 F hI gs_131 rfl bd_131_4 dX12_pour_10 (fun v6 ev6 av6 bv6 => ?_)
  have zv6 : v6 = v1 := ev6.trans sf4.symm.symm
  subst zv6
  refine z_if_le (tgt := 18) F dX12_pour_13 (by decide +kernel) (by omega) (fun c7 => ?_) (fun c7 => ?_)
  · refine z_aload_n F dX12_pour_18 rfl (q := 0) rfl ?_
    refine rf_X12_66 F gs_131 rfl dX12_pour_19 ?_
    refine z_iload_n F dX12_pour_22 rfl (q := 1) rfl ?_
    refine z_iald F hI gs_149 (by omega) (by omega) (by decide) bd_149 dX12_pour_23 (fun v8 (ev8 : v8 = M5 149 _) av8 bv8 => ?_)
    refine z_aload_n F dX12_pour_24 rfl (q := 0) rfl ?_
    refine zv_i (rest := [ii v8]) F (k_X12_things l M5 hI) cs_X12_275 (T := TX12) (N := 44) (ci := 12) rfl gs_131 (by decide) (by decide) rfl rfl rfl (by decide) dX12_pour_25 (fun v9 M10 rv9 hI p11 => ?_)
    obtain ⟨⟨av9, bv9⟩, rfl⟩ := p11
    refine z_min F mm_X12_309 (by decide) dX12_pour_28 (by omega) (by omega) (fun v12 ev12 => ?_)
    refine z_istore_n F dX12_pour_31 rfl (by decide) (ls' := [(2, ii v12), (0, .ref (ad 131)), (1, ii x0)]) rfl ?_
    refine z_iconst F dX12_pour_32 ?_
    refine z_istore_n F dX12_pour_33 rfl (by decide) (ls' := [(3, ii 0), (2, ii v12), (0, .ref (ad 131)), (1, ii x0)]) rfl ?_
    refine z_loc [2, 3, 1, 0] (ls' := [(0, .ref (ad 131)), (1, ii x0), (2, ii v12), (3, ii 0)]) rfl ?_
    suffices key34 : ∀ (n : Nat) (y14 : Int) (M13 : Mem), Inv M13 → 0 ≤ y14 → y14 ≤ 8 → 8 - y14 < (n : Int) → Z D cy ad p l e (RMh 4) s m args below meth c A 4 0 0 Q 34 [(0, .ref (ad 131)), (1, ii x0), (2, ii v12), (3, ii y14)] [] M13 from key34 9 0 M5 hI (by omega) (by omega) (by omega)
    intro n34
    induction n34 with
    | zero => intro y14 M13 hI ay14 by14 hn34; exfalso; omega
    | succ n34 ih34 =>
      intro y14 M13 hI ay14 by14 hn34
      refine z_iload_n F dX12_pour_34 rfl (q := 3) rfl ?_
      refine z_iload_n F dX12_pour_35 rfl (q := 2) rfl ?_
      refine z_icmp_ge (tgt := 58) F dX12_pour_36 (by decide +kernel) (by omega) (by omega) (fun c15 => ?_) (fun c15 => ?_)
      · refine z_iload_n F dX12_pour_58 rfl (q := 2) rfl ?_
        exact hret _ _ 59 _ (by omega) hI ⟨by omega, by omega⟩ dX12_pour_59
      · refine z_aload_n F dX12_pour_39 rfl (q := 0) rfl ?_
        refine z_iload_n F dX12_pour_40 rfl (q := 1) rfl ?_
        refine z_iload_n F dX12_pour_41 rfl (q := 3) rfl ?_
        refine z_aload_n F dX12_pour_42 rfl (q := 0) rfl ?_
        refine z_iload_n F dX12_pour_43 rfl (q := 3) rfl ?_
        refine zv_i (rest := [ii y14, ii x0, .ref (ad 131)]) F (k_X12_lies l M13 hI y14 (by omega) (by omega)) cs_X12_317 (T := TX12) (N := 44) (ci := 12) rfl gs_131 (by decide) (by decide) rfl rfl rfl (by decide) dX12_pour_44 (fun v16 M17 rv16 hI p18 => ?_)
        obtain ⟨⟨av16, bv16⟩, rfl⟩ := p18
        refine z_i2l F dX12_pour_47 (by omega) ?_
        refine zv_l (rest := []) F (k_X12_cut l M13 hI x0 (by omega) (by omega) y14 (by omega) (by omega) v16 (by omega) (by omega)) cs_X12_535 (T := TX12) (N := 44) (ci := 12) rfl gs_131 (by decide) (by decide) rfl rfl rfl (by decide) dX12_pour_48 (fun v19 M20 rv19 hI p21 => ?_)
        obtain ⟨av19, bv19⟩ := p21
        refine z_pop2 F dX12_pour_51 rfl ?_
        refine z_iincN F dX12_pour_52 (q := 3) rfl (by decide) (fun v22 ev22 => ?_)
        refine z_eq (ls' := [(3, ii v22), (0, .ref (ad 131)), (1, ii x0), (2, ii v12)]) rfl rfl rfl ?_
        refine z_goto (tgt := 34) F dX12_pour_55 (by decide +kernel) ?_
        refine z_loc [1, 2, 3, 0] (ls' := [(0, .ref (ad 131)), (1, ii x0), (2, ii v12), (3, ii v22)]) rfl ?_
        exact ih34 v22 M20 hI (by omega) (by omega) (by omega)
  · refine z_iconst F dX12_pour_16 ?_
    exact hret _ _ 17 _ (by omega) hI ⟨by omega, by omega⟩ dX12_pour_17
set_option maxRecDepth 4000 in
theorem k_X12_count (l : Launch) (M : Mem) (hI : Inv M) (x0 : Int) (hx0a : (-2147483648) ≤ x0) (hx0b : x0 ≤ 2147483647) : CI l yX12_count cX12_count 2 (some .int) 2 (fun ad => [.ref (ad 131), ii x0]) M (fun z M' => ((-2147483648) ≤ z ∧ z ≤ 2147483647)) := by
  refine en_i (by decide +kernel) (fun ad => by exact Nat.le_of_ble_eq_true rfl) (fun D cy ad A p e s m args below meth c Q F hret => ?_)
  refine z_eq (ls' := [(0, .ref (ad 131)), (1, ii x0)]) rfl rfl rfl ?_
  refine z_aload_n F dX12_count_0 rfl (q := 0) rfl ?_
  refine z_iconst F dX12_count_1 ?_
  refine pf_X12_73 F hI gs_131 rfl bd_131_4 rfl rfl dX12_count_2 (by omega) (by omega) (fun M2 hI sf1 f1 => ?_)
  refine z_iload_n F dX12_count_5 rfl (q := 1) rfl ?_
  rcases (show x0 = 0 ∨ x0 = 1 ∨ x0 = 2 ∨ x0 = 3 ∨ x0 = 4 ∨ x0 = 5 ∨ x0 = 6 ∨ x0 = 7 ∨ x0 = 8 ∨ x0 = 9 ∨ x0 = 10 ∨ (¬ x0 = 0 ∧ ¬ x0 = 1 ∧ ¬ x0 = 2 ∧ ¬ x0 = 3 ∧ ¬ x0 = 4 ∧ ¬ x0 = 5 ∧ ¬ x0 = 6 ∧ ¬ x0 = 7 ∧ ¬ x0 = 8 ∧ ¬ x0 = 9 ∧ ¬ x0 = 10) by omega) with c3 | c3 | c3 | c3 | c3 | c3 | c3 | c3 | c3 | c3 | c3 | c3
  · refine z_tabIn (tgt := 64) (off := 58) F dX12_count_6 (by omega) (by omega) (by omega) (by rw [c3]; rfl) (by decide +kernel) ?_
    refine z_aload_n F dX12_count_64 rfl (q := 0) rfl ?_
    refine rf_X12_9 F gs_131 rfl dX12_count_65 ?_
    refine z_iconst F dX12_count_68 ?_
    refine z_iald F hI gs_132 (by omega) (by omega) (by decide) (show Bd 132 0 = (-2147483648, 2147483647) from rfl) dX12_count_69 (fun v4 (ev4 : v4 = M2 132 0) av4 bv4 => ?_)
    exact hret _ _ 70 _ (by omega) hI ⟨by omega, by omega⟩ dX12_count_70
  · refine z_tabIn (tgt := 71) (off := 65) F dX12_count_6 (by omega) (by omega) (by omega) (by rw [c3]; rfl) (by decide +kernel) ?_
    refine z_aload_n F dX12_count_71 rfl (q := 0) rfl ?_
    refine zv_i (rest := []) F (k_X12_places l M2 hI) cs_X12_273 (T := TX12) (N := 44) (ci := 12) rfl gs_131 (by decide) (by decide) rfl rfl rfl (by decide) dX12_count_72 (fun v5 M6 rv5 hI p7 => ?_)
    obtain ⟨⟨av5, bv5⟩, rfl⟩ := p7
    exact hret _ _ 75 _ (by omega) hI ⟨by omega, by omega⟩ dX12_count_75
  · refine z_tabIn (tgt := 76) (off := 70) F dX12_count_6 (by omega) (by omega) (by omega) (by rw [c3]; rfl) (by decide +kernel) ?_
    refine z_aload_n F dX12_count_76 rfl (q := 0) rfl ?_
    refine zv_i (rest := []) F (k_X12_things l M2 hI) cs_X12_275 (T := TX12) (N := 44) (ci := 12) rfl gs_131 (by decide) (by decide) rfl rfl rfl (by decide) dX12_count_77 (fun v8 M9 rv8 hI p10 => ?_)
    obtain ⟨⟨av8, bv8⟩, rfl⟩ := p10
    exact hret _ _ 80 _ (by omega) hI ⟨by omega, by omega⟩ dX12_count_80
  · refine z_tabIn (tgt := 81) (off := 75) F dX12_count_6 (by omega) (by omega) (by omega) (by rw [c3]; rfl) (by decide +kernel) ?_
    refine z_aload_n F dX12_count_81 rfl (q := 0) rfl ?_
    refine rf_X12_9 F gs_131 rfl dX12_count_82 ?_
    refine z_iconst F dX12_count_85 ?_
    refine z_iald F hI gs_132 (by omega) (by omega) (by decide) (show Bd 132 3 = (-2147483648, 2147483647) from rfl) dX12_count_86 (fun v11 (ev11 : v11 = M2 132 3) av11 bv11 => ?_)
    exact hret _ _ 87 _ (by omega) hI ⟨by omega, by omega⟩ dX12_count_87
  · refine z_tabIn (tgt := 88) (off := 82) F dX12_count_6 (by omega) (by omega) (by omega) (by rw [c3]; rfl) (by decide +kernel) ?_
    refine z_aload_n F dX12_count_88 rfl (q := 0) rfl ?_
    refine rf_X12_9 F gs_131 rfl dX12_count_89 ?_
    refine z_iconst F dX12_count_92 ?_
    refine z_iald F hI gs_132 (by omega) (by omega) (by decide) (show Bd 132 4 = (0, 6) from rfl) dX12_count_93 (fun v12 (ev12 : v12 = M2 132 4) av12 bv12 => ?_)
    exact hret _ _ 94 _ (by omega) hI ⟨by omega, by omega⟩ dX12_count_94
  · refine z_tabIn (tgt := 95) (off := 89) F dX12_count_6 (by omega) (by omega) (by omega) (by rw [c3]; rfl) (by decide +kernel) ?_
    refine z_aload_n F dX12_count_95 rfl (q := 0) rfl ?_
    refine rf_X12_9 F gs_131 rfl dX12_count_96 ?_
    refine z_bipush F dX12_count_99 (by decide +kernel) ?_
    refine z_iald F hI gs_132 (by omega) (by omega) (by decide) (show Bd 132 24 = (-2147483648, 2147483647) from rfl) dX12_count_101 (fun v13 (ev13 : v13 = M2 132 24) av13 bv13 => ?_)
    exact hret _ _ 102 _ (by omega) hI ⟨by omega, by omega⟩ dX12_count_102
  · refine z_tabIn (tgt := 103) (off := 97) F dX12_count_6 (by omega) (by omega) (by omega) (by rw [c3]; rfl) (by decide +kernel) ?_
    refine z_aload_n F dX12_count_103 rfl (q := 0) rfl ?_
    refine rf_X12_9 F gs_131 rfl dX12_count_104 ?_
    refine z_bipush F dX12_count_107 (by decide +kernel) ?_
    refine z_iald F hI gs_132 (by omega) (by omega) (by decide) (show Bd 132 25 = (-2147483648, 2147483647) from rfl) dX12_count_109 (fun v14 (ev14 : v14 = M2 132 25) av14 bv14 => ?_)
    exact hret _ _ 110 _ (by omega) hI ⟨by omega, by omega⟩ dX12_count_110
  · refine z_tabIn (tgt := 111) (off := 105) F dX12_count_6 (by omega) (by omega) (by omega) (by rw [c3]; rfl) (by decide +kernel) ?_
    refine z_aload_n F dX12_count_111 rfl (q := 0) rfl ?_
    refine rf_X12_9 F gs_131 rfl dX12_count_112 ?_
    refine z_bipush F dX12_count_115 (by decide +kernel) ?_
    refine z_iald F hI gs_132 (by omega) (by omega) (by decide) (show Bd 132 7 = (0, 12) from rfl) dX12_count_117 (fun v15 (ev15 : v15 = M2 132 7) av15 bv15 => ?_)
    exact hret _ _ 118 _ (by omega) hI ⟨by omega, by omega⟩ dX12_count_118
  · refine z_tabIn (tgt := 119) (off := 113) F dX12_count_6 (by omega) (by omega) (by omega) (by rw [c3]; rfl) (by decide +kernel) ?_
    refine z_aload_n F dX12_count_119 rfl (q := 0) rfl ?_
    refine gf_X12_76 F hI gs_131 rfl bd_131_6 dX12_count_120 (fun v16 ev16 av16 bv16 => ?_)
    exact hret _ _ 123 _ (by omega) hI ⟨by omega, by omega⟩ dX12_count_123
  · refine z_tabIn (tgt := 124) (off := 118) F dX12_count_6 (by omega) (by omega) (by omega) (by rw [c3]; rfl) (by decide +kernel) ?_
    refine z_aload_n F dX12_count_124 rfl (q := 0) rfl ?_
    refine rf_X12_9 F gs_131 rfl dX12_count_125 ?_
    refine z_bipush F dX12_count_128 (by decide +kernel) ?_
    refine z_iald F hI gs_132 (by omega) (by omega) (by decide) (show Bd 132 6 = (0, 900) from rfl) dX12_count_130 (fun v17 (ev17 : v17 = M2 132 6) av17 bv17 => ?_)
    refine z_if_le (tgt := 138) F dX12_count_131 (by decide +kernel) (by omega) (fun c18 => ?_) (fun c18 => ?_)
    · refine z_iconst F dX12_count_138 ?_
      exact hret _ _ 139 _ (by omega) hI ⟨by omega, by omega⟩ dX12_count_139
    · refine z_iconst F dX12_count_134 ?_
      refine z_goto (tgt := 139) F dX12_count_135 (by decide +kernel) ?_
      exact hret _ _ 139 _ (by omega) hI ⟨by omega, by omega⟩ dX12_count_139
  · refine z_tabIn (tgt := 140) (off := 134) F dX12_count_6 (by omega) (by omega) (by omega) (by rw [c3]; rfl) (by decide +kernel) ?_
    refine z_aload_n F dX12_count_140 rfl (q := 0) rfl ?_
    refine zv_i (rest := []) F (k_X12_places l M2 hI) cs_X12_273 (T := TX12) (N := 44) (ci := 12) rfl gs_131 (by decide) (by decide) rfl rfl rfl (by decide) dX12_count_141 (fun v19 M20 rv19 hI p21 => ?_)
    obtain ⟨⟨av19, bv19⟩, rfl⟩ := p21
    refine z_aload_n F dX12_count_144 rfl (q := 0) rfl ?_
    refine zv_i (rest := [ii v19]) F (k_X12_things l M2 hI) cs_X12_275 (T := TX12) (N := 44) (ci := 12) rfl gs_131 (by decide) (by decide) rfl rfl rfl (by decide) dX12_count_145 (fun v22 M23 rv22 hI p24 => ?_)
    obtain ⟨⟨av22, bv22⟩, rfl⟩ := p24
    refine z_isub F dX12_count_148 ?_
    exact hret _ _ 149 _ (by omega) hI ⟨by omega, by omega⟩ dX12_count_149
  · refine z_tabOut (tgt := 150) F dX12_count_6 (by omega) (by omega) (by decide +kernel) ?_
    refine z_iconst F dX12_count_150 ?_
    exact hret _ _ 151 _ (by omega) hI ⟨by omega, by omega⟩ dX12_count_151
