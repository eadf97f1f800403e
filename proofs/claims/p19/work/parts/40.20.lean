theorem dX12_town_0 : decode cX12_town 0 = .ok (.aload_n 0, 1) := by decide +kernel
theorem dX12_town_1 : decode cX12_town 1 = .ok (.iconst 0, 1) := by decide +kernel
theorem dX12_town_100 : decode cX12_town 100 = .ok (.aload_n 0, 1) := by decide +kernel
theorem dX12_town_101 : decode cX12_town 101 = .ok (.getfield 108, 3) := by decide +kernel
theorem dX12_town_104 : decode cX12_town 104 = .ok (.ifCond .ne 17, 3) := by decide +kernel
theorem dX12_town_107 : decode cX12_town 107 = .ok (.aload_n 0, 1) := by decide +kernel
theorem dX12_town_108 : decode cX12_town 108 = .ok (.getfield 88, 3) := by decide +kernel
theorem dX12_town_111 : decode cX12_town 111 = .ok (.ifCond .eq 10, 3) := by decide +kernel
theorem dX12_town_114 : decode cX12_town 114 = .ok (.aload_n 0, 1) := by decide +kernel
theorem dX12_town_115 : decode cX12_town 115 = .ok (.invokevirtual 267, 3) := by decide +kernel
theorem dX12_town_118 : decode cX12_town 118 = .ok (.goto (-18), 3) := by decide +kernel
theorem dX12_town_12 : decode cX12_town 12 = .ok (.i2l, 1) := by decide +kernel
theorem dX12_town_121 : decode cX12_town 121 = .ok (.aload_n 0, 1) := by decide +kernel
theorem dX12_town_122 : decode cX12_town 122 = .ok (.aload_n 0, 1) := by decide +kernel
theorem dX12_town_123 : decode cX12_town 123 = .ok (.getfield 108, 3) := by decide +kernel
theorem dX12_town_126 : decode cX12_town 126 = .ok (.putfield 270, 3) := by decide +kernel
theorem dX12_town_129 : decode cX12_town 129 = .ok (.aload_n 0, 1) := by decide +kernel
theorem dX12_town_13 : decode cX12_town 13 = .ok (.invokestatic 137, 3) := by decide +kernel
theorem dX12_town_130 : decode cX12_town 130 = .ok (.aload_n 0, 1) := by decide +kernel
theorem dX12_town_131 : decode cX12_town 131 = .ok (.getfield 108, 3) := by decide +kernel
theorem dX12_town_134 : decode cX12_town 134 = .ok (.ifCond .ne 7, 3) := by decide +kernel
theorem dX12_town_137 : decode cX12_town 137 = .ok (.iconst (-1), 1) := by decide +kernel
theorem dX12_town_138 : decode cX12_town 138 = .ok (.goto 7, 3) := by decide +kernel
theorem dX12_town_141 : decode cX12_town 141 = .ok (.aload_n 0, 1) := by decide +kernel
theorem dX12_town_142 : decode cX12_town 142 = .ok (.getfield 111, 3) := by decide +kernel
theorem dX12_town_145 : decode cX12_town 145 = .ok (.putfield 26, 3) := by decide +kernel
theorem dX12_town_148 : decode cX12_town 148 = .ok (.aload_n 0, 1) := by decide +kernel
theorem dX12_town_149 : decode cX12_town 149 = .ok (.getfield 108, 3) := by decide +kernel
theorem dX12_town_152 : decode cX12_town 152 = .ok (.ifCond .eq 11, 3) := by decide +kernel
theorem dX12_town_155 : decode cX12_town 155 = .ok (.bipush (-10), 2) := by decide +kernel
theorem dX12_town_157 : decode cX12_town 157 = .ok (.aload_n 0, 1) := by decide +kernel
theorem dX12_town_158 : decode cX12_town 158 = .ok (.getfield 108, 3) := by decide +kernel
theorem dX12_town_16 : decode cX12_town 16 = .ok (.ifCond .ne 9, 3) := by decide +kernel
theorem dX12_town_161 : decode cX12_town 161 = .ok (.isub, 1) := by decide +kernel
theorem dX12_town_162 : decode cX12_town 162 = .ok (.ireturn, 1) := by decide +kernel
theorem dX12_town_163 : decode cX12_town 163 = .ok (.iconst 0, 1) := by decide +kernel
theorem dX12_town_164 : decode cX12_town 164 = .ok (.istore_n 2, 1) := by decide +kernel
theorem dX12_town_165 : decode cX12_town 165 = .ok (.iload_n 2, 1) := by decide +kernel
theorem dX12_town_166 : decode cX12_town 166 = .ok (.sipush 1300, 3) := by decide +kernel
theorem dX12_town_169 : decode cX12_town 169 = .ok (.if_icmp .ge 21, 3) := by decide +kernel
theorem dX12_town_172 : decode cX12_town 172 = .ok (.aload_n 0, 1) := by decide +kernel
theorem dX12_town_173 : decode cX12_town 173 = .ok (.getfield 9, 3) := by decide +kernel
theorem dX12_town_176 : decode cX12_town 176 = .ok (.iload_n 2, 1) := by decide +kernel
theorem dX12_town_177 : decode cX12_town 177 = .ok (.aload_n 0, 1) := by decide +kernel
theorem dX12_town_178 : decode cX12_town 178 = .ok (.getfield 13, 3) := by decide +kernel
theorem dX12_town_181 : decode cX12_town 181 = .ok (.iload_n 2, 1) := by decide +kernel
theorem dX12_town_182 : decode cX12_town 182 = .ok (.iaload, 1) := by decide +kernel
theorem dX12_town_183 : decode cX12_town 183 = .ok (.iastore, 1) := by decide +kernel
theorem dX12_town_184 : decode cX12_town 184 = .ok (.iinc 2 1, 3) := by decide +kernel
theorem dX12_town_187 : decode cX12_town 187 = .ok (.goto (-22), 3) := by decide +kernel
theorem dX12_town_19 : decode cX12_town 19 = .ok (.aload_n 0, 1) := by decide +kernel
theorem dX12_town_190 : decode cX12_town 190 = .ok (.aload_n 0, 1) := by decide +kernel
theorem dX12_town_191 : decode cX12_town 191 = .ok (.getfield 9, 3) := by decide +kernel
theorem dX12_town_194 : decode cX12_town 194 = .ok (.iconst 0, 1) := by decide +kernel
theorem dX12_town_195 : decode cX12_town 195 = .ok (.iaload, 1) := by decide +kernel
theorem dX12_town_196 : decode cX12_town 196 = .ok (.ireturn, 1) := by decide +kernel
theorem dX12_town_2 : decode cX12_town 2 = .ok (.putfield 73, 3) := by decide +kernel
theorem dX12_town_20 : decode cX12_town 20 = .ok (.iconst 1, 1) := by decide +kernel
theorem dX12_town_21 : decode cX12_town 21 = .ok (.invokevirtual 262, 3) := by decide +kernel
theorem dX12_town_24 : decode cX12_town 24 = .ok (.ireturn, 1) := by decide +kernel
theorem dX12_town_25 : decode cX12_town 25 = .ok (.aload_n 0, 1) := by decide +kernel
theorem dX12_town_26 : decode cX12_town 26 = .ok (.iload_n 1, 1) := by decide +kernel
theorem dX12_town_27 : decode cX12_town 27 = .ok (.putfield 79, 3) := by decide +kernel
theorem dX12_town_30 : decode cX12_town 30 = .ok (.aload_n 0, 1) := by decide +kernel
theorem dX12_town_31 : decode cX12_town 31 = .ok (.iconst 0, 1) := by decide +kernel
theorem dX12_town_32 : decode cX12_town 32 = .ok (.putfield 76, 3) := by decide +kernel
theorem dX12_town_35 : decode cX12_town 35 = .ok (.aload_n 0, 1) := by decide +kernel
theorem dX12_town_36 : decode cX12_town 36 = .ok (.iconst 0, 1) := by decide +kernel
theorem dX12_town_37 : decode cX12_town 37 = .ok (.putfield 82, 3) := by decide +kernel
theorem dX12_town_40 : decode cX12_town 40 = .ok (.aload_n 0, 1) := by decide +kernel
theorem dX12_town_41 : decode cX12_town 41 = .ok (.iconst 0, 1) := by decide +kernel
theorem dX12_town_42 : decode cX12_town 42 = .ok (.putfield 108, 3) := by decide +kernel
theorem dX12_town_45 : decode cX12_town 45 = .ok (.aload_n 0, 1) := by decide +kernel
theorem dX12_town_46 : decode cX12_town 46 = .ok (.iconst 0, 1) := by decide +kernel
theorem dX12_town_47 : decode cX12_town 47 = .ok (.putfield 141, 3) := by decide +kernel
theorem dX12_town_5 : decode cX12_town 5 = .ok (.iload_n 1, 1) := by decide +kernel
theorem dX12_town_50 : decode cX12_town 50 = .ok (.iconst 0, 1) := by decide +kernel
theorem dX12_town_51 : decode cX12_town 51 = .ok (.istore_n 2, 1) := by decide +kernel
theorem dX12_town_52 : decode cX12_town 52 = .ok (.iload_n 2, 1) := by decide +kernel
theorem dX12_town_53 : decode cX12_town 53 = .ok (.sipush 1300, 3) := by decide +kernel
theorem dX12_town_56 : decode cX12_town 56 = .ok (.if_icmp .ge 16, 3) := by decide +kernel
theorem dX12_town_59 : decode cX12_town 59 = .ok (.aload_n 0, 1) := by decide +kernel
theorem dX12_town_6 : decode cX12_town 6 = .ok (.i2l, 1) := by decide +kernel
theorem dX12_town_60 : decode cX12_town 60 = .ok (.getfield 13, 3) := by decide +kernel
theorem dX12_town_63 : decode cX12_town 63 = .ok (.iload_n 2, 1) := by decide +kernel
theorem dX12_town_64 : decode cX12_town 64 = .ok (.iconst 0, 1) := by decide +kernel
theorem dX12_town_65 : decode cX12_town 65 = .ok (.iastore, 1) := by decide +kernel
theorem dX12_town_66 : decode cX12_town 66 = .ok (.iinc 2 1, 3) := by decide +kernel
theorem dX12_town_69 : decode cX12_town 69 = .ok (.goto (-17), 3) := by decide +kernel
theorem dX12_town_7 : decode cX12_town 7 = .ok (.lconst 0, 1) := by decide +kernel
theorem dX12_town_72 : decode cX12_town 72 = .ok (.aload_n 0, 1) := by decide +kernel
theorem dX12_town_73 : decode cX12_town 73 = .ok (.invokevirtual 127, 3) := by decide +kernel
theorem dX12_town_76 : decode cX12_town 76 = .ok (.aload_n 0, 1) := by decide +kernel
theorem dX12_town_77 : decode cX12_town 77 = .ok (.ldc_w 265, 3) := by decide +kernel
theorem dX12_town_8 : decode cX12_town 8 = .ok (.aload_n 0, 1) := by decide +kernel
theorem dX12_town_80 : decode cX12_town 80 = .ok (.invokevirtual 215, 3) := by decide +kernel
theorem dX12_town_83 : decode cX12_town 83 = .ok (.aload_n 0, 1) := by decide +kernel
theorem dX12_town_84 : decode cX12_town 84 = .ok (.getfield 13, 3) := by decide +kernel
theorem dX12_town_87 : decode cX12_town 87 = .ok (.iconst 1, 1) := by decide +kernel
theorem dX12_town_88 : decode cX12_town 88 = .ok (.aload_n 0, 1) := by decide +kernel
theorem dX12_town_89 : decode cX12_town 89 = .ok (.iconst 1, 1) := by decide +kernel
theorem dX12_town_9 : decode cX12_town 9 = .ok (.getfield 76, 3) := by decide +kernel
theorem dX12_town_90 : decode cX12_town 90 = .ok (.bipush 10, 2) := by decide +kernel
theorem dX12_town_92 : decode cX12_town 92 = .ok (.invokevirtual 199, 3) := by decide +kernel
theorem dX12_town_95 : decode cX12_town 95 = .ok (.iastore, 1) := by decide +kernel
theorem dX12_town_96 : decode cX12_town 96 = .ok (.aload_n 0, 1) := by decide +kernel
theorem dX12_town_97 : decode cX12_town 97 = .ok (.invokevirtual 259, 3) := by decide +kernel
set_option maxHeartbeats 4000000 in
set_option maxRecDepth 4000 in
theorem kp_X12_town (l : Launch) (M : Mem) (hJ : Iw M) (x0 : Int) (hx0a : (-2147483648) ≤ x0) (hx0b : x0 ≤ 2147483647) : CI l yX12_town cX12_town 3 (some .int) 87 (fun ad => [.ref (ad 131), ii x0]) M (fun z M' => ((-2147483648) ≤ z ∧ z ≤ 2147483647) ∧ Fr [131, 132, 133, 231, 232, 233, 234] M M' ∧ (0 ≤ x0 ∧ x0 ≤ M 131 6 ∧ M' 131 6 = 0 ∨ (x0 < 0 ∨ M 131 6 < x0) ∧ M' 131 6 = M 131 6) ∧ ((Im (0 ≤ x0 ∧ x0 ≤ M 131 6) (z = ansT (townF (UTR M x0) x0) ∧ M' 131 14 = s_fl (townF (UTR M x0) x0).1 ∧ M' 131 15 = fpT (townF (UTR M x0) x0) ∧ Im (s_fl (townF (UTR M x0) x0).1 = 0) (s_fp (townF (UTR M x0) x0).1 = 0))) ∧ Im (0 ≤ x0 ∧ x0 ≤ M 131 6) (TwR (townF (UTR M x0) x0) M M') ∧ Im (x0 < 0 ∨ M 131 6 < x0) (sR 132 0 M' = sR 132 0 M))) := by
  obtain ⟨hI, hW⟩ := hJ
  have hF : Fr [131, 132, 133, 231, 232, 233, 234] M M := Fr.rf
  refine en_i (by decide +kernel) (fun ad => by exact Nat.le_of_ble_eq_true rfl) (fun D cy ad A p e s m args below meth c Q F hret => ?_)
  refine z_eq (ls' := [(0, .ref (ad 131)), (1, ii x0)]) rfl rfl rfl ?_
  obtain ⟨u1, eu1⟩ : ∃ v : Int, v = M 131 6 := ⟨_, rfl⟩
  have ku1 : 0 ≤ u1 ∧ u1 ≤ 900 := by have := hI.at (show Bd 131 6 = (0, 900) from rfl); omega
  refine z_aload_n F dX12_town_0 rfl (q := 0) rfl ?_
  refine z_iconst F dX12_town_1 ?_
  refine pf_X12_73 F hI gs_131 rfl bd_131_4 rfl rfl dX12_town_2 (by omega) (by omega) (fun M3 hI sf2 f2 => ?_)
  have tM3_131_7 : M3 131 7 = M 131 7 := f2 131 7 (fun q => absurd q.2 (by decide))
  have tM3_131_8 : M3 131 8 = M 131 8 := f2 131 8 (fun q => absurd q.2 (by decide))
  have tM3_131_9 : M3 131 9 = M 131 9 := f2 131 9 (fun q => absurd q.2 (by decide))
  have tM3_131_10 : M3 131 10 = M 131 10 := f2 131 10 (fun q => absurd q.2 (by decide))
  have tM3_131_12 : M3 131 12 = M 131 12 := f2 131 12 (fun q => absurd q.2 (by decide))
  have tM3_131_16 : M3 131 16 = M 131 16 := f2 131 16 (fun q => absurd q.2 (by decide))
  have tM3_131_13 : M3 131 13 = M 131 13 := f2 131 13 (fun q => absurd q.2 (by decide))
  have tM3_131_14 : M3 131 14 = M 131 14 := f2 131 14 (fun q => absurd q.2 (by decide))
  have tM3_131_15 : M3 131 15 = M 131 15 := f2 131 15 (fun q => absurd q.2 (by decide))
  have hF := hF.wrf f2 (by decide) (by decide)
  have hW : WFk M3 := hW.site f2 (by decide)
  refine z_iload_n F dX12_town_5 rfl (q := 1) rfl ?_
  refine z_i2l F dX12_town_6 (by omega) ?_
  refine z_lconst (x := 0) F dX12_town_7 (by decide +kernel) ?_
  refine z_aload_n F dX12_town_8 rfl (q := 0) rfl ?_
  refine gf_X12_76 F hI gs_131 rfl bd_131_6 dX12_town_9 (fun v4 ev4 av4 bv4 => ?_)
  have q5 : u1 = M3 131 6 := eu1.trans (f2 131 6 (fun q => absurd q.2 (by decide))).symm
  have zv4 : u1 = v4 := q5.trans ev4.symm
  subst zv4
  refine z_i2l F dX12_town_12 (by omega) ?_
  refine zs_i (rest := []) F (k_X12_within l M3 ⟨hI, hW⟩ x0 (by omega) (by omega) 0 (by omega) (by omega) u1 (by omega) (by omega)) cs_X12_137 (by decide) (by decide) rfl rfl rfl (Nat.le_of_ble_eq_true rfl) dX12_town_13 (fun v6 M7 rv6 hI p8 => ?_)
  obtain ⟨hI, hW⟩ := hI
  obtain ⟨⟨av6, bv6⟩, rfl, xp8⟩ := p8
  refine z_if_ne (tgt := 25) F dX12_town_16 (by decide +kernel) (by omega) (fun c9 => ?_) (fun c9 => ?_)
  · refine z_aload_n F dX12_town_25 rfl (q := 0) rfl ?_
    refine z_iload_n F dX12_town_26 rfl (q := 1) rfl ?_
    refine pf_X12_79 F hI gs_131 rfl bd_131_7 rfl rfl dX12_town_27 (by omega) (by omega) (fun M11 hI sf10 f10 => ?_)
    have tM11_131_8 : M11 131 8 = M3 131 8 := f10 131 8 (fun q => absurd q.2 (by decide))
    have tM11_131_9 : M11 131 9 = M3 131 9 := f10 131 9 (fun q => absurd q.2 (by decide))
    have tM11_131_10 : M11 131 10 = M3 131 10 := f10 131 10 (fun q => absurd q.2 (by decide))
    have tM11_131_12 : M11 131 12 = M3 131 12 := f10 131 12 (fun q => absurd q.2 (by decide))
    have tM11_131_16 : M11 131 16 = M3 131 16 := f10 131 16 (fun q => absurd q.2 (by decide))
    have tM11_131_13 : M11 131 13 = M3 131 13 := f10 131 13 (fun q => absurd q.2 (by decide))
    have tM11_131_14 : M11 131 14 = M3 131 14 := f10 131 14 (fun q => absurd q.2 (by decide))
    have tM11_131_15 : M11 131 15 = M3 131 15 := f10 131 15 (fun q => absurd q.2 (by decide))
    have hF := hF.wrf f10 (by decide) (by decide)
    have hW : WFk M11 := hW.site f10 (by decide)
    refine z_aload_n F dX12_town_30 rfl (q := 0) rfl ?_
    refine z_iconst F dX12_town_31 ?_
    refine pf_X12_76 F hI gs_131 rfl bd_131_6 rfl rfl dX12_town_32 (by omega) (by omega) (fun M13 hI sf12 f12 => ?_)
    have tM13_131_7 : M13 131 7 = M11 131 7 := f12 131 7 (fun q => absurd q.2 (by decide))
    have tM13_131_8 : M13 131 8 = M11 131 8 := f12 131 8 (fun q => absurd q.2 (by decide))
    have tM13_131_9 : M13 131 9 = M11 131 9 := f12 131 9 (fun q => absurd q.2 (by decide))
    have tM13_131_10 : M13 131 10 = M11 131 10 := f12 131 10 (fun q => absurd q.2 (by decide))
    have tM13_131_12 : M13 131 12 = M11 131 12 := f12 131 12 (fun q => absurd q.2 (by decide))
    have tM13_131_16 : M13 131 16 = M11 131 16 := f12 131 16 (fun q => absurd q.2 (by decide))
    have tM13_131_13 : M13 131 13 = M11 131 13 := f12 131 13 (fun q => absurd q.2 (by decide))
    have tM13_131_14 : M13 131 14 = M11 131 14 := f12 131 14 (fun q => absurd q.2 (by decide))
    have tM13_131_15 : M13 131 15 = M11 131 15 := f12 131 15 (fun q => absurd q.2 (by decide))
    have hF := hF.wrf f12 (by decide) (by decide)
    have hW : WFk M13 := hW.site f12 (by decide)
    refine z_aload_n F dX12_town_35 rfl (q := 0) rfl ?_
    refine z_iconst F dX12_town_36 ?_
    refine pf_X12_82 F hI gs_131 rfl bd_131_8 rfl rfl dX12_town_37 (by omega) (by omega) (fun M15 hI sf14 f14 => ?_)
    have tM15_131_7 : M15 131 7 = M13 131 7 := f14 131 7 (fun q => absurd q.2 (by decide))
    have tM15_131_9 : M15 131 9 = M13 131 9 := f14 131 9 (fun q => absurd q.2 (by decide))
    have tM15_131_10 : M15 131 10 = M13 131 10 := f14 131 10 (fun q => absurd q.2 (by decide))
    have tM15_131_12 : M15 131 12 = M13 131 12 := f14 131 12 (fun q => absurd q.2 (by decide))
    have tM15_131_16 : M15 131 16 = M13 131 16 := f14 131 16 (fun q => absurd q.2 (by decide))
    have tM15_131_13 : M15 131 13 = M13 131 13 := f14 131 13 (fun q => absurd q.2 (by decide))
    have tM15_131_14 : M15 131 14 = M13 131 14 := f14 131 14 (fun q => absurd q.2 (by decide))
    have tM15_131_15 : M15 131 15 = M13 131 15 := f14 131 15 (fun q => absurd q.2 (by decide))
    have hF := hF.wrf f14 (by decide) (by decide)
    have hW : WFk M15 := hW.site f14 (by decide)
    refine z_aload_n F dX12_town_40 rfl (q := 0) rfl ?_
    refine z_iconst F dX12_town_41 ?_
    refine pf_X12_108 F hI gs_131 rfl bd_131_12 rfl rfl dX12_town_42 (by omega) (by omega) (fun M17 hI sf16 f16 => ?_)
    have tM17_131_7 : M17 131 7 = M15 131 7 := f16 131 7 (fun q => absurd q.2 (by decide))
    have tM17_131_8 : M17 131 8 = M15 131 8 := f16 131 8 (fun q => absurd q.2 (by decide))
    have tM17_131_9 : M17 131 9 = M15 131 9 := f16 131 9 (fun q => absurd q.2 (by decide))
    have tM17_131_10 : M17 131 10 = M15 131 10 := f16 131 10 (fun q => absurd q.2 (by decide))
    have tM17_131_16 : M17 131 16 = M15 131 16 := f16 131 16 (fun q => absurd q.2 (by decide))
    have tM17_131_13 : M17 131 13 = M15 131 13 := f16 131 13 (fun q => absurd q.2 (by decide))
    have tM17_131_14 : M17 131 14 = M15 131 14 := f16 131 14 (fun q => absurd q.2 (by decide))
    have tM17_131_15 : M17 131 15 = M15 131 15 := f16 131 15 (fun q => absurd q.2 (by decide))
    have hF := hF.wrf f16 (by decide) (by decide)
    have hW : WFk M17 := hW.site f16 (by decide)
    refine z_aload_n F dX12_town_45 rfl (q := 0) rfl ?_
    refine z_iconst F dX12_town_46 ?_
    refine pf_X12_141 F hI gs_131 rfl bd_131_16 rfl rfl dX12_town_47 (by omega) (by omega) (fun M19 hI sf18 f18 => ?_)
    have tM19_131_7 : M19 131 7 = M17 131 7 := f18 131 7 (fun q => absurd q.2 (by decide))
    have tM19_131_8 : M19 131 8 = M17 131 8 := f18 131 8 (fun q => absurd q.2 (by decide))
    have tM19_131_9 : M19 131 9 = M17 131 9 := f18 131 9 (fun q => absurd q.2 (by decide))
    have tM19_131_10 : M19 131 10 = M17 131 10 := f18 131 10 (fun q => absurd q.2 (by decide))
    have tM19_131_12 : M19 131 12 = M17 131 12 := f18 131 12 (fun q => absurd q.2 (by decide))
    have tM19_131_13 : M19 131 13 = M17 131 13 := f18 131 13 (fun q => absurd q.2 (by decide))
    have tM19_131_14 : M19 131 14 = M17 131 14 := f18 131 14 (fun q => absurd q.2 (by decide))
    have tM19_131_15 : M19 131 15 = M17 131 15 := f18 131 15 (fun q => absurd q.2 (by decide))
    have hF := hF.wrf f18 (by decide) (by decide)
    have hW : WFk M19 := hW.site f18 (by decide)
    refine z_iconst F dX12_town_50 ?_
    refine z_istore_n F dX12_town_51 rfl (by decide) (ls' := [(2, ii 0), (0, .ref (ad 131)), (1, ii x0)]) rfl ?_
    refine z_loc [1, 0] (ls' := [(0, .ref (ad 131)), (2, ii 0)]) rfl ?_
    have q22 : 0 = M15 131 6 := sf12.symm.trans (f14 131 6 (fun q => absurd q.2 (by decide))).symm
    have q23 : 0 = M17 131 6 := q22.trans (f16 131 6 (fun q => absurd q.2 (by decide))).symm
    have q24 : 0 = M19 131 6 := q23.trans (f18 131 6 (fun q => absurd q.2 (by decide))).symm
    suffices key52 : ∀ (n : Nat) (y21 : Int) (M20 : Mem), Inv M20 → WFk M20 → Fr [131, 132, 133, 231, 232, 233, 234] M M20 → 0 ≤ y21 → y21 ≤ 1300 → (M20 131 7 = x0) → (M20 131 8 = 0) → (M20 131 12 = 0) → (M20 131 16 = 0) → (6 < y21 → M20 133 6 = 0) → (M20 131 6 = 0) → (∀ j : Nat, (j : Int) < y21 → M20 133 j = 0) → (∀ b : Nat, M20 132 b = M 132 b) → 1300 - y21 < (n : Int) → Z D cy ad p l e (RMh 87) s m args below meth c A 3 0 0 Q 52 [(0, .ref (ad 131)), (2, ii y21)] [] M20 from key52 1301 0 M19 hI hW hF (by omega) (by omega) (by omega) (by omega) (by omega) (by omega) (by omega) (by omega) (fun j h => by exfalso; omega) (fun b => ((f18 132 b (fun q => absurd q.1 (by decide))).trans ((f16 132 b (fun q => absurd q.1 (by decide))).trans ((f14 132 b (fun q => absurd q.1 (by decide))).trans ((f12 132 b (fun q => absurd q.1 (by decide))).trans ((f10 132 b (fun q => absurd q.1 (by decide))).trans (f2 132 b (fun q => absurd q.1 (by decide))))))))) (by omega)
    intro n52
    induction n52 with
    | zero => intro y21 M20 hI hW hF ay21 by21 i52_0 i52_1 i52_2 i52_3 i52_4 i52_5 i52_6 i52_7 hn52; exfalso; omega
    | succ n52 ih52 =>
      intro y21 M20 hI hW hF ay21 by21 i52_0 i52_1 i52_2 i52_3 i52_4 i52_5 i52_6 i52_7 hn52
      obtain ⟨u25, eu25⟩ : ∃ v : Int, v = M20 131 6 := ⟨_, rfl⟩
      have ku25 : 0 ≤ u25 ∧ u25 ≤ 900 := by have := hI.at (show Bd 131 6 = (0, 900) from rfl); omega
      refine z_iload_n F dX12_town_52 rfl (q := 1) rfl ?_
      refine z_sipush F dX12_town_53 (by decide +kernel) ?_
      refine z_icmp_ge (tgt := 72) F dX12_town_56 (by decide +kernel) (by omega) (by omega) (fun c26 => ?_) (fun c26 => ?_)
      · have h6z := i52_4 (by omega)
        have hL := wl_n (show M20 133 6 ≤ 0 by omega)
        have kbM20 : 0 ≤ M20 131 12 ∧ M20 131 12 ≤ 4 := hI.at (show Bd 131 12 = (0, 4) from rfl)
        have z0 : ∀ j : Nat, j < 1300 → M20 133 j = 0 := fun j h => i52_6 j (by omega)
        have u0 : UR M20 = UTR M x0 := by
          funext j
          unfold UR UTR
          rw [show M20 131 7 = x0 from by omega, show M20 136 j = M 136 j from hF.at (by decide)]
        refine z_aload_n F dX12_town_72 rfl (q := 0) rfl ?_
        refine zv_v (rest := []) F (kp_X12_readsOn l M20 ⟨hI, hW⟩ (by omega)) cs_X12_127 (T := TX12) (N := 44) (ci := 12) rfl gs_131 (by decide) (by decide) rfl rfl rfl (Nat.le_of_ble_eq_true rfl) dX12_town_73 (fun M27 hI p28 => ?_)
        obtain ⟨hI, hW⟩ := hI
        obtain ⟨fp28, xp28, yp28⟩ := p28
        have hF := hF.call fp28 (by decide)
        have tM27_131_14 : M27 131 14 = M20 131 14 := fp28.fk (by decide) (by decide)
        have tM27_131_15 : M27 131 15 = M20 131 15 := fp28.fk (by decide) (by decide)
        have tM27_133_6 : M27 133 6 = M20 133 6 := fp28.at (by decide)
        have tM27_133_1 : M27 133 1 = M20 133 1 := fp28.at (by decide)
        have hq9 := wl_fr fp28 (by decide)
        have hL := hq9.2 hL
        have cM27 := hq9.1
        clear hq9
        obtain ⟨qp28_0, qp28_1, qp28_2, qp28_3, qp28_4, qp28_5, qp28_6, qp28_7, qp28_8⟩ := xp28
        have kbM27 : 0 ≤ M27 131 12 ∧ M27 131 12 ≤ 4 := hI.at (show Bd 131 12 = (0, 4) from rfl)
        have hT : Tk M27 := qp28_5
        clear qp28_5
        have t1 : adv (S00 (UTR M x0) x0) = absR M27 := (adv_c (by rw [(vR_tx M20).1, u0]; rfl) (by rw [(vR_tx M20).2]; show x0 = _; omega) (by rw [(vR_tk (show M20 131 12 = 0 by omega)).2.1]; show (0 : Int) = _; omega) (by rw [vR_f0 (show M20 131 12 = 0 by omega)]; rfl)).trans (yp28 (by omega))
        refine z_aload_n F dX12_town_76 rfl (q := 0) rfl ?_
        refine z_ldcSW (j := 57) F dX12_town_77 rfl rfl rfl ?_
        refine z_eq (st' := [.ref (ad 1057), .ref (ad 131)]) rfl rfl rfl ?_
        refine zv_v (rest := []) F (kp_X12_mustWord_131_1057 l M27 ⟨hI, hW⟩ ⟨by omega, by omega, by omega, by omega, hT⟩) cs_X12_215 (T := TX12) (N := 44) (ci := 12) rfl gs_131 (by decide) (by decide) rfl rfl rfl (Nat.le_of_ble_eq_true rfl) dX12_town_80 (fun M29 hI p30 => ?_)
        obtain ⟨hI, hW⟩ := hI
        obtain ⟨fp30, xp30, yp30⟩ := p30
        have hF := hF.call fp30 (by decide)
        have tM29_131_14 : M29 131 14 = M27 131 14 := fp30.fk (by decide) (by decide)
        have tM29_131_15 : M29 131 15 = M27 131 15 := fp30.fk (by decide) (by decide)
        have tM29_133_6 : M29 133 6 = M27 133 6 := fp30.at (by decide)
        have tM29_133_1 : M29 133 1 = M27 133 1 := fp30.at (by decide)
        have hq9 := wl_fr fp30 (by decide)
        have hL := hq9.2 hL
        have cM29 := hq9.1
        clear hq9
        obtain ⟨qp30_0, qp30_1, qp30_2, qp30_3, qp30_4, qp30_5, qp30_6, qp30_7, qp30_8⟩ := xp30
        have kbM29 : 0 ≤ M29 131 12 ∧ M29 131 12 ≤ 4 := hI.at (show Bd 131 12 = (0, 4) from rfl)
        have hT : Tk M29 := qp30_7
        clear qp30_7
        have lbqp30_8 : M27 131 12 ≤ 4 * M29 131 12 := by omega
        clear qp30_8
        have t2 : plS (UTR M x0) x0 = absR M29 := by unfold plS; rw [t1]; exact yp30
        refine z_aload_n F dX12_town_83 rfl (q := 0) rfl ?_
        refine rf_X12_13 F gs_131 rfl dX12_town_84 ?_
        refine z_iconst F dX12_town_87 ?_
        refine z_aload_n F dX12_town_88 rfl (q := 0) rfl ?_
        refine z_iconst F dX12_town_89 ?_
        refine z_bipush F dX12_town_90 (by decide +kernel) ?_
        refine zv_i (rest := [ii 1, .ref (ad 133)]) F (kp_X12_number l M29 ⟨hI, hW⟩ 1 (by omega) (by omega) 10 (by omega) (by omega) ⟨by omega, by omega, by omega, by omega, hT⟩) cs_X12_199 (T := TX12) (N := 44) (ci := 12) rfl gs_131 (by decide) (by decide) rfl rfl rfl (Nat.le_of_ble_eq_true rfl) dX12_town_92 (fun v31 M32 rv31 hI p33 => ?_)
        obtain ⟨hI, hW⟩ := hI
        obtain ⟨⟨av31, bv31⟩, fp33, xp33, yp33⟩ := p33
        have hF := hF.call fp33 (by decide)
        have tM32_131_14 : M32 131 14 = M29 131 14 := fp33.fk (by decide) (by decide)
        have tM32_131_15 : M32 131 15 = M29 131 15 := fp33.fk (by decide) (by decide)
        have tM32_133_6 : M32 133 6 = M29 133 6 := fp33.at (by decide)
        have tM32_133_1 : M32 133 1 = M29 133 1 := fp33.at (by decide)
        have hq9 := wl_fr fp33 (by decide)
        have hL := hq9.2 hL
        have cM32 := hq9.1
        clear hq9
        have hkv31 : 1 ≤ v31 ∧ v31 ≤ 10 := by omega
        obtain ⟨qp33_0, qp33_1, qp33_2, qp33_3, qp33_4, qp33_5, qp33_6, qp33_7, qp33_8, qp33_9⟩ := xp33
        have kbM32 : 0 ≤ M32 131 12 ∧ M32 131 12 ≤ 4 := hI.at (show Bd 131 12 = (0, 4) from rfl)
        have hT : Tk M32 := qp33_7
        clear qp33_7
        clear qp33_8
        have lbqp33_9 : M29 131 12 ≤ 4 * M32 131 12 := by omega
        have lpqp33_9 : M29 131 9 + 1 ≤ M32 131 9 + M32 131 12 := by omega
        clear qp33_9
        refine z_iast F hI gs_133 (by omega) (by omega) (by decide) (show Bd 133 1 = (0, 10) from rfl) dX12_town_95 (by omega) (by omega) (fun M35 hI sf34 f34 => ?_)
        have tM35_131_7 : M35 131 7 = M32 131 7 := f34 131 7 (fun q => absurd q.1 (by decide))
        have tM35_131_8 : M35 131 8 = M32 131 8 := f34 131 8 (fun q => absurd q.1 (by decide))
        have tM35_131_9 : M35 131 9 = M32 131 9 := f34 131 9 (fun q => absurd q.1 (by decide))
        have tM35_131_10 : M35 131 10 = M32 131 10 := f34 131 10 (fun q => absurd q.1 (by decide))
        have tM35_131_12 : M35 131 12 = M32 131 12 := f34 131 12 (fun q => absurd q.1 (by decide))
        have tM35_131_16 : M35 131 16 = M32 131 16 := f34 131 16 (fun q => absurd q.1 (by decide))
        have tM35_131_13 : M35 131 13 = M32 131 13 := f34 131 13 (fun q => absurd q.1 (by decide))
        have tM35_131_14 : M35 131 14 = M32 131 14 := f34 131 14 (fun q => absurd q.1 (by decide))
        have tM35_131_15 : M35 131 15 = M32 131 15 := f34 131 15 (fun q => absurd q.1 (by decide))
        have tM35_133_6 : M35 133 6 = M32 133 6 := f34 133 6 (fun q => absurd q.2 (by decide))
        have hT := tk_ws f34 (by decide) hT
        have hq9 := wl_wr f34 (by omega)
        have hL := hq9.2 hL
        have cM35 := hq9.1
        clear hq9
        have hF := hF.wrn f34 (by decide) (Or.inr (by decide))
        have hW : WFk M35 := hW.site f34 (by decide)
        have sf34 : M35 133 1 = v31 := sf34
        have t3 : tR M35 = fz (numB 1 10 noB (plS (UTR M x0) x0)) (openD (s_vl (plS (UTR M x0) x0))) := fz_e ((absR_eq (fun j => (f34 131 j (fun q => absurd q.1 (by decide)))) (fun j => (f34 136 j (fun q => absurd q.1 (by decide)))) : absR M35 = absR M32).trans (by rw [t2]; exact yp33.1.symm)) (fun q => by
          have q2 : M32 131 12 = 0 := by rw [t2, yp33.1, vR_fl] at q; exact q
          rw [t2, ← yp33.2 q2]
          exact dR_open (M := M32) (fun j h => (((fp33.at (by decide) : M32 133 j = _).trans ((fp30.at (by decide) : M29 133 j = _).trans (fp28.at (by decide) : M27 133 j = _)))).trans (z0 j h)) (by omega) sf34 (fun b hb => f34 133 b (fun q => hb q.2)))
        refine z_aload_n F dX12_town_96 rfl (q := 0) rfl ?_
        refine zv_v (rest := []) F (kp_X12_readStop l M35 ⟨hI, hW⟩ ⟨by omega, by omega, by omega, by omega, hT⟩ (by omega) hL (by omega)) cs_X12_259 (T := TX12) (N := 44) (ci := 12) rfl gs_131 (by decide) (by decide) rfl rfl rfl (Nat.le_of_ble_eq_true rfl) dX12_town_97 (fun M36 hI p37 => ?_)
        obtain ⟨hI, hW⟩ := hI
        obtain ⟨fp37, xp37, yp37⟩ := p37
        have hF := hF.call fp37 (by decide)
        have tM36_131_14 : M36 131 14 = M35 131 14 := fp37.fk (by decide) (by decide)
        have tM36_131_15 : M36 131 15 = M35 131 15 := fp37.fk (by decide) (by decide)
        obtain ⟨hL, xp37⟩ := xp37
        obtain ⟨qp37_0, qp37_1, qp37_2, qp37_3, qp37_4, qp37_5, qp37_6, qp37_7, qp37_8, qp37_9, qp37_10⟩ := xp37
        have kbM36 : 0 ≤ M36 131 12 ∧ M36 131 12 ≤ 4 := hI.at (show Bd 131 12 = (0, 4) from rfl)
        have hT : Tk M36 := qp37_7
        clear qp37_7
        have lbqp37_10 : M35 131 12 ≤ 4 * M36 131 12 := by omega
        have lpqp37_10 : M35 131 9 + 1 ≤ M36 131 9 + M36 131 12 := by omega
        clear qp37_10
        refine z_loc [0] (ls' := [(0, .ref (ad 131))]) rfl ?_
        have q39 : u25 = M27 131 6 := eu25.trans ((fp28.t6 (by decide)) : M27 131 6 = _).symm
        have q40 : u25 = M29 131 6 := q39.trans ((fp30.t6 (by decide)) : M29 131 6 = _).symm
        have q41 : u25 = M32 131 6 := q40.trans ((fp33.t6 (by decide)) : M32 131 6 = _).symm
        have q42 : u25 = M35 131 6 := q41.trans (f34 131 6 (fun q => absurd q.1 (by decide))).symm
        have q43 : u25 = M36 131 6 := q42.trans ((fp37.t6 (by decide)) : M36 131 6 = _).symm
        suffices key100 : ∀ (n : Nat) (M38 : Mem), Inv M38 → WFk M38 → Fr [131, 132, 133, 231, 232, 233, 234] M M38 → (0 ≤ M38 131 9 ∧ M38 131 9 ≤ M38 131 8 ∧ M38 131 8 ≤ M38 131 7 ∧ M38 131 7 ≤ 900) → (M38 131 16 = 0) → (M38 133 6 ≤ M38 131 9) → (1 ≤ M38 133 1) → (0 ≤ M38 131 12 ∧ M38 131 12 ≤ 4) → (Wl M38) → (Tk M38) → (M38 131 6 = 0) → (LnI (begF (UTR M x0) x0) (tR M38)) → (∀ b : Nat, M38 132 b = M 132 b) → 4900 - 1000 * M38 131 12 - M38 131 9 < (n : Int) → Z D cy ad p l e (RMh 87) s m args below meth c A 3 0 0 Q 100 [(0, .ref (ad 131))] [] M38 from key100 4901 M36 hI hW hF (by omega) (by omega) (by omega) (by omega) (by omega) hL hT (by omega) (lnI_0 (by unfold begF; rw [← t3]; exact yp37)) (fun b => ((fp37.at (by decide) : M36 132 b = _).trans ((f34 132 b (fun q => absurd q.1 (by decide))).trans ((fp33.at (by decide) : M32 132 b = _).trans ((fp30.at (by decide) : M29 132 b = _).trans (fp28.at (by decide) : M27 132 b = _))))).trans (i52_7 b)) (by omega)
        intro n100
        induction n100 with
        | zero => intro M38 hI hW hF i100_0 i100_1 i100_2 i100_3 i100_4 i100_5 i100_6 i100_7 i100_8 i100_9 hn100; exfalso; omega
        | succ n100 ih100 =>
          intro M38 hI hW hF i100_0 i100_1 i100_2 i100_3 i100_4 i100_5 i100_6 i100_7 i100_8 i100_9 hn100
          obtain ⟨u44, eu44⟩ : ∃ v : Int, v = M38 131 12 := ⟨_, rfl⟩
          have ku44 : 0 ≤ u44 ∧ u44 ≤ 4 := by have := hI.at (show Bd 131 12 = (0, 4) from rfl); omega
          obtain ⟨u45, eu45⟩ : ∃ v : Int, v = M38 131 9 := ⟨_, rfl⟩
          have ku45 : 0 ≤ u45 ∧ u45 ≤ 900 := by have := hI.at (show Bd 131 9 = (0, 900) from rfl); omega
          obtain ⟨u46, eu46⟩ : ∃ v : Int, v = M38 131 6 := ⟨_, rfl⟩
          have ku46 : 0 ≤ u46 ∧ u46 ≤ 900 := by have := hI.at (show Bd 131 6 = (0, 900) from rfl); omega
          have hL := i100_5
          have hT := i100_6
          refine z_aload_n F dX12_town_100 rfl (q := 0) rfl ?_
          refine gf_X12_108 F hI gs_131 rfl bd_131_12 dX12_town_101 (fun v47 ev47 av47 bv47 => ?_)
          have zv47 : u44 = v47 := eu44.trans ev47.symm
          subst zv47
          refine z_if_ne (tgt := 121) F dX12_town_104 (by decide +kernel) (by omega) (fun c48 => ?_) (fun c48 => ?_)
          · have t4 : townF (UTR M x0) x0 = tR M38 := townF_eq (lnI_e i100_8 (Or.inl (by rw [tR_1, vR_fl]; omega)))
            have hI9 := hI
            refine z_aload_n F dX12_town_121 rfl (q := 0) rfl ?_
            refine z_aload_n F dX12_town_122 rfl (q := 0) rfl ?_
            refine gf_X12_108 F hI gs_131 rfl bd_131_12 dX12_town_123 (fun v49 ev49 av49 bv49 => ?_)
            have zv49 : u44 = v49 := eu44.trans ev49.symm
            subst zv49
            refine pf_X12_270 F hI gs_131 rfl bd_131_14 rfl rfl dX12_town_126 (by omega) (by omega) (fun M51 hI sf50 f50 => ?_)
            have tM51_131_7 : M51 131 7 = M38 131 7 := f50 131 7 (fun q => absurd q.2 (by decide))
            have tM51_131_8 : M51 131 8 = M38 131 8 := f50 131 8 (fun q => absurd q.2 (by decide))
            have tM51_131_9 : M51 131 9 = M38 131 9 := f50 131 9 (fun q => absurd q.2 (by decide))
            have tM51_131_10 : M51 131 10 = M38 131 10 := f50 131 10 (fun q => absurd q.2 (by decide))
            have tM51_131_12 : M51 131 12 = M38 131 12 := f50 131 12 (fun q => absurd q.2 (by decide))
            have tM51_131_16 : M51 131 16 = M38 131 16 := f50 131 16 (fun q => absurd q.2 (by decide))
            have tM51_131_13 : M51 131 13 = M38 131 13 := f50 131 13 (fun q => absurd q.2 (by decide))
            have tM51_131_15 : M51 131 15 = M38 131 15 := f50 131 15 (fun q => absurd q.2 (by decide))
            have tM51_133_6 : M51 133 6 = M38 133 6 := f50 133 6 (fun q => absurd q.1 (by decide))
            have tM51_133_1 : M51 133 1 = M38 133 1 := f50 133 1 (fun q => absurd q.1 (by decide))
            have hT := tk_eq hT (f50 131 8 (fun q => absurd q.2 (by decide))) (f50 131 9 (fun q => absurd q.2 (by decide))) (f50 131 10 (fun q => absurd q.2 (by decide)))
            have hq9 := wl_ws f50 (by decide)
            have hL := hq9.2 hL
            have cM51 := hq9.1
            clear hq9
            have hF := hF.wrf f50 (by decide) (by decide)
            have hW : WFk M51 := hW.site f50 (by decide)
            refine z_aload_n F dX12_town_129 rfl (q := 0) rfl ?_
            refine z_aload_n F dX12_town_130 rfl (q := 0) rfl ?_
            refine gf_X12_108 F hI gs_131 rfl bd_131_12 dX12_town_131 (fun v52 ev52 av52 bv52 => ?_)
            have q53 : u44 = M51 131 12 := eu44.trans (f50 131 12 (fun q => absurd q.2 (by decide))).symm
            have zv52 : u44 = v52 := q53.trans ev52.symm
            subst zv52
            refine z_if_ne (tgt := 141) F dX12_town_134 (by decide +kernel) (by omega) (fun c54 => ?_) (fun c54 => by exfalso; omega)
            refine z_aload_n F dX12_town_141 rfl (q := 0) rfl ?_
            refine gf_X12_111 F hI gs_131 rfl bd_131_13 dX12_town_142 (fun v55 ev55 av55 bv55 => ?_)
            refine pf_X12_26 F hI gs_131 rfl bd_131_15 rfl rfl dX12_town_145 (by omega) (by omega) (fun M57 hI sf56 f56 => ?_)
            have tM57_131_7 : M57 131 7 = M51 131 7 := f56 131 7 (fun q => absurd q.2 (by decide))
            have tM57_131_8 : M57 131 8 = M51 131 8 := f56 131 8 (fun q => absurd q.2 (by decide))
            have tM57_131_9 : M57 131 9 = M51 131 9 := f56 131 9 (fun q => absurd q.2 (by decide))
            have tM57_131_10 : M57 131 10 = M51 131 10 := f56 131 10 (fun q => absurd q.2 (by decide))
            have tM57_131_12 : M57 131 12 = M51 131 12 := f56 131 12 (fun q => absurd q.2 (by decide))
            have tM57_131_16 : M57 131 16 = M51 131 16 := f56 131 16 (fun q => absurd q.2 (by decide))
            have tM57_131_13 : M57 131 13 = M51 131 13 := f56 131 13 (fun q => absurd q.2 (by decide))
            have tM57_131_14 : M57 131 14 = M51 131 14 := f56 131 14 (fun q => absurd q.2 (by decide))
            have tM57_133_6 : M57 133 6 = M51 133 6 := f56 133 6 (fun q => absurd q.1 (by decide))
            have tM57_133_1 : M57 133 1 = M51 133 1 := f56 133 1 (fun q => absurd q.1 (by decide))
            have hT := tk_eq hT (f56 131 8 (fun q => absurd q.2 (by decide))) (f56 131 9 (fun q => absurd q.2 (by decide))) (f56 131 10 (fun q => absurd q.2 (by decide)))
            have hq9 := wl_ws f56 (by decide)
            have hL := hq9.2 hL
            have cM57 := hq9.1
            clear hq9
            have hF := hF.wrf f56 (by decide) (by decide)
            have hW : WFk M57 := hW.site f56 (by decide)
            refine z_aload_n F dX12_town_148 rfl (q := 0) rfl ?_
            refine gf_X12_108 F hI gs_131 rfl bd_131_12 dX12_town_149 (fun v58 ev58 av58 bv58 => ?_)
            have q59 : u44 = M57 131 12 := q53.trans (f56 131 12 (fun q => absurd q.2 (by decide))).symm
            have zv58 : u44 = v58 := q59.trans ev58.symm
            subst zv58
            refine z_if_eq (tgt := 163) F dX12_town_152 (by decide +kernel) (by omega) (fun c60 => by exfalso; omega) (fun c60 => ?_)
            refine z_bipush F dX12_town_155 (by decide +kernel) ?_
            refine z_aload_n F dX12_town_157 rfl (q := 0) rfl ?_
            refine gf_X12_108 F hI gs_131 rfl bd_131_12 dX12_town_158 (fun v61 ev61 av61 bv61 => ?_)
            have zv61 : u44 = v61 := q59.trans ev61.symm
            subst zv61
            refine z_isub F dX12_town_161 ?_
            have q62 : u46 = M51 131 6 := eu46.trans (f50 131 6 (fun q => absurd q.2 (by decide))).symm
            have q63 : u46 = M57 131 6 := q62.trans (f56 131 6 (fun q => absurd q.2 (by decide))).symm
            have q64 : u44 = M57 131 14 := sf50.symm.trans (f56 131 14 (fun q => absurd q.2 (by decide))).symm
            exact hret _ _ 162 _ (by omega) ⟨hI, hW⟩ ⟨⟨by omega, by omega⟩, hF, (by omega), ⟨(fun hq => ⟨by rw [t4]; unfold ansT; rw [if_neg (show ¬ s_fl (tR M38).1 = 0 from by rw [tR_1, vR_fl]; omega), tR_1, vR_fl]; omega, by rw [t4, tR_1, vR_fl]; omega, by rw [t4]; unfold fpT; rw [if_neg (show ¬ s_fl (tR M38).1 = 0 from by rw [tR_1, vR_fl]; omega), tR_1, vR_fp (by omega)]; omega, fun hs => absurd (by rw [t4] at hs; exact hs) (show ¬ s_fl (tR M38).1 = 0 from by rw [tR_1, vR_fl]; omega)⟩), fun hq => ⟨fun q => absurd (by rw [t4] at q; exact q) (show ¬ s_fl (tR M38).1 = 0 from by rw [tR_1, vR_fl]; omega), fun _ => sR_f (fun b => ((f56 132 b (fun q => absurd q.1 (by decide))).trans (f50 132 b (fun q => absurd q.1 (by decide)))).trans (i100_9 b))⟩, fun q => by exfalso; omega⟩⟩ dX12_town_162
          · refine z_aload_n F dX12_town_107 rfl (q := 0) rfl ?_
            refine gf_X12_88 F hI gs_131 rfl bd_131_10 dX12_town_108 (fun v65 ev65 av65 bv65 => ?_)
            refine z_if_eq (tgt := 121) F dX12_town_111 (by decide +kernel) (by omega) (fun c66 => ?_) (fun c66 => ?_)
            · have t4 : townF (UTR M x0) x0 = tR M38 := townF_eq (lnI_e i100_8 (Or.inr (by rw [tR_1, (vR_tk (by omega)).1]; unfold tkR; omega)))
              have hI9 := hI
              refine z_aload_n F dX12_town_121 rfl (q := 0) rfl ?_
              refine z_aload_n F dX12_town_122 rfl (q := 0) rfl ?_
              refine gf_X12_108 F hI gs_131 rfl bd_131_12 dX12_town_123 (fun v67 ev67 av67 bv67 => ?_)
              have zv67 : u44 = v67 := eu44.trans ev67.symm
              subst zv67
              refine pf_X12_270 F hI gs_131 rfl bd_131_14 rfl rfl dX12_town_126 (by omega) (by omega) (fun M69 hI sf68 f68 => ?_)
              have tM69_131_7 : M69 131 7 = M38 131 7 := f68 131 7 (fun q => absurd q.2 (by decide))
              have tM69_131_8 : M69 131 8 = M38 131 8 := f68 131 8 (fun q => absurd q.2 (by decide))
              have tM69_131_9 : M69 131 9 = M38 131 9 := f68 131 9 (fun q => absurd q.2 (by decide))
              have tM69_131_10 : M69 131 10 = M38 131 10 := f68 131 10 (fun q => absurd q.2 (by decide))
              have tM69_131_12 : M69 131 12 = M38 131 12 := f68 131 12 (fun q => absurd q.2 (by decide))
              have tM69_131_16 : M69 131 16 = M38 131 16 := f68 131 16 (fun q => absurd q.2 (by decide))
              have tM69_131_13 : M69 131 13 = M38 131 13 := f68 131 13 (fun q => absurd q.2 (by decide))
              have tM69_131_15 : M69 131 15 = M38 131 15 := f68 131 15 (fun q => absurd q.2 (by decide))
              have tM69_133_6 : M69 133 6 = M38 133 6 := f68 133 6 (fun q => absurd q.1 (by decide))
              have tM69_133_1 : M69 133 1 = M38 133 1 := f68 133 1 (fun q => absurd q.1 (by decide))
              have hT := tk_eq hT (f68 131 8 (fun q => absurd q.2 (by decide))) (f68 131 9 (fun q => absurd q.2 (by decide))) (f68 131 10 (fun q => absurd q.2 (by decide)))
              have hq9 := wl_ws f68 (by decide)
              have hL := hq9.2 hL
              have cM69 := hq9.1
              clear hq9
              have hF := hF.wrf f68 (by decide) (by decide)
              have hW : WFk M69 := hW.site f68 (by decide)
              refine z_aload_n F dX12_town_129 rfl (q := 0) rfl ?_
              refine z_aload_n F dX12_town_130 rfl (q := 0) rfl ?_
              refine gf_X12_108 F hI gs_131 rfl bd_131_12 dX12_town_131 (fun v70 ev70 av70 bv70 => ?_)
              have q71 : u44 = M69 131 12 := eu44.trans (f68 131 12 (fun q => absurd q.2 (by decide))).symm
              have zv70 : u44 = v70 := q71.trans ev70.symm
              subst zv70
              refine z_if_ne (tgt := 141) F dX12_town_134 (by decide +kernel) (by omega) (fun c72 => by exfalso; omega) (fun c72 => ?_)
              refine z_iconst F dX12_town_137 ?_
              refine z_goto (tgt := 145) F dX12_town_138 (by decide +kernel) ?_
              refine pf_X12_26 F hI gs_131 rfl bd_131_15 rfl rfl dX12_town_145 (by omega) (by omega) (fun M74 hI sf73 f73 => ?_)
              have tM74_131_7 : M74 131 7 = M69 131 7 := f73 131 7 (fun q => absurd q.2 (by decide))
              have tM74_131_8 : M74 131 8 = M69 131 8 := f73 131 8 (fun q => absurd q.2 (by decide))
              have tM74_131_9 : M74 131 9 = M69 131 9 := f73 131 9 (fun q => absurd q.2 (by decide))
              have tM74_131_10 : M74 131 10 = M69 131 10 := f73 131 10 (fun q => absurd q.2 (by decide))
              have tM74_131_12 : M74 131 12 = M69 131 12 := f73 131 12 (fun q => absurd q.2 (by decide))
              have tM74_131_16 : M74 131 16 = M69 131 16 := f73 131 16 (fun q => absurd q.2 (by decide))
              have tM74_131_13 : M74 131 13 = M69 131 13 := f73 131 13 (fun q => absurd q.2 (by decide))
              have tM74_131_14 : M74 131 14 = M69 131 14 := f73 131 14 (fun q => absurd q.2 (by decide))
              have tM74_133_6 : M74 133 6 = M69 133 6 := f73 133 6 (fun q => absurd q.1 (by decide))
              have tM74_133_1 : M74 133 1 = M69 133 1 := f73 133 1 (fun q => absurd q.1 (by decide))
              have hT := tk_eq hT (f73 131 8 (fun q => absurd q.2 (by decide))) (f73 131 9 (fun q => absurd q.2 (by decide))) (f73 131 10 (fun q => absurd q.2 (by decide)))
              have hq9 := wl_ws f73 (by decide)
              have hL := hq9.2 hL
              have cM74 := hq9.1
              clear hq9
              have hF := hF.wrf f73 (by decide) (by decide)
              have hW : WFk M74 := hW.site f73 (by decide)
              refine z_aload_n F dX12_town_148 rfl (q := 0) rfl ?_
              refine gf_X12_108 F hI gs_131 rfl bd_131_12 dX12_town_149 (fun v75 ev75 av75 bv75 => ?_)
              have q76 : u44 = M74 131 12 := q71.trans (f73 131 12 (fun q => absurd q.2 (by decide))).symm
              have zv75 : u44 = v75 := q76.trans ev75.symm
              subst zv75
              refine z_if_eq (tgt := 163) F dX12_town_152 (by decide +kernel) (by omega) (fun c77 => ?_) (fun c77 => by exfalso; omega)
              refine z_iconst F dX12_town_163 ?_
              refine z_istore_n F dX12_town_164 rfl (by decide) (ls' := [(2, ii 0), (0, .ref (ad 131))]) rfl ?_
              refine z_loc [1, 0] (ls' := [(0, .ref (ad 131)), (2, ii 0)]) rfl ?_
              have q80 : u46 = M69 131 6 := eu46.trans (f68 131 6 (fun q => absurd q.2 (by decide))).symm
              have q81 : u46 = M74 131 6 := q80.trans (f73 131 6 (fun q => absurd q.2 (by decide))).symm
              have q82 : u44 = M74 131 14 := sf68.symm.trans (f73 131 14 (fun q => absurd q.2 (by decide))).symm
              obtain ⟨M0, hM0⟩ : ∃ m : Mem, m = M74 := ⟨_, rfl⟩
              have hW1 : WFk M0 := by rw [hM0]; exact hW
              have hI1 : Inv M0 := by rw [hM0]; exact hI
              have hK : Kn (M0 133) := by rw [hM0]; exact ⟨hL, fun _ => by omega⟩
              suffices key165 : ∀ (n : Nat) (y79 : Int) (M78 : Mem), Inv M78 → Fr [131, 132, 133, 231, 232, 233, 234] M M78 → 0 ≤ y79 → y79 ≤ 1300 → (∀ j : Nat, (j : Int) < y79 → M78 132 j = M0 133 j) → (∀ b : Nat, M78 134 b = M0 134 b) → (∀ b : Nat, M78 133 b = M0 133 b) → (M78 131 6 = 0) → (M78 131 14 = 0) → (M78 131 15 = -1) → 1300 - y79 < (n : Int) → Z D cy ad p l e (RMh 87) s m args below meth c A 3 0 0 Q 165 [(0, .ref (ad 131)), (2, ii y79)] [] M78 from key165 1301 0 M74 hI hF (by omega) (by omega) (fun j hj => by omega) (fun b => by rw [hM0]) (fun b => by rw [hM0]) (by omega) (by omega) (by omega) (by omega)
              intro n165
              induction n165 with
              | zero => intro y79 M78 hI hF ay79 by79 i165_0 i165_1 i165_2 i165_3 i165_4 i165_5 hn165; exfalso; omega
              | succ n165 ih165 =>
                intro y79 M78 hI hF ay79 by79 i165_0 i165_1 i165_2 i165_3 i165_4 i165_5 hn165
                obtain ⟨u83, eu83⟩ : ∃ v : Int, v = M78 131 6 := ⟨_, rfl⟩
                have ku83 : 0 ≤ u83 ∧ u83 ≤ 900 := by have := hI.at (show Bd 131 6 = (0, 900) from rfl); omega
                obtain ⟨u84, eu84⟩ : ∃ v : Int, v = M78 131 14 := ⟨_, rfl⟩
                have ku84 : 0 ≤ u84 ∧ u84 ≤ 4 := by have := hI.at (show Bd 131 14 = (0, 4) from rfl); omega
                obtain ⟨u85, eu85⟩ : ∃ v : Int, v = M78 131 15 := ⟨_, rfl⟩
                have ku85 : (-1) ≤ u85 ∧ u85 ≤ 900 := by have := hI.at (show Bd 131 15 = (-1, 900) from rfl); omega
                refine z_iload_n F dX12_town_165 rfl (q := 1) rfl ?_
                refine z_sipush F dX12_town_166 (by decide +kernel) ?_
                refine z_icmp_ge (tgt := 190) F dX12_town_169 (by decide +kernel) (by omega) (by omega) (fun c86 => ?_) (fun c86 => ?_)
                · have hW : WFk M78 := wf_town hW1 hI1 hK (fun j hj => i165_0 j (by omega)) i165_1
                  refine z_aload_n F dX12_town_190 rfl (q := 0) rfl ?_
                  refine rf_X12_9 F gs_131 rfl dX12_town_191 ?_
                  refine z_iconst F dX12_town_194 ?_
                  refine z_iald F hI gs_132 (by omega) (by omega) (by decide) (show Bd 132 0 = (-2147483648, 2147483647) from rfl) dX12_town_195 (fun v87 (ev87 : v87 = M78 132 0) av87 bv87 => ?_)
                  have zz : v87 = M38 133 0 := ev87.trans ((i165_0 0 (by omega)).trans (by rw [hM0]; exact ((f73 133 0 (fun q => absurd q.1 (by decide))).trans (f68 133 0 (fun q => absurd q.1 (by decide))))))
                  exact hret _ _ 196 _ (by omega) ⟨hI, hW⟩ ⟨⟨by omega, by omega⟩, hF, (by omega), ⟨(fun hq => ⟨by rw [t4]; unfold ansT; rw [if_pos (show s_fl (tR M38).1 = 0 from by rw [tR_1, vR_fl]; omega), tR_2 (by omega)]; exact zz, by rw [t4, tR_1, vR_fl]; omega, by rw [t4]; unfold fpT; rw [if_pos (show s_fl (tR M38).1 = 0 from by rw [tR_1, vR_fl]; omega)]; omega, fun hs => by rw [t4, tR_1]; exact vR_f0 (by omega)⟩), fun hq => ⟨fun _ => (sR_cp hI9 (fun j h => (i165_0 j (by omega)).trans (by rw [hM0]; exact ((f73 133 j (fun q => absurd q.1 (by decide))).trans (f68 133 j (fun q => absurd q.1 (by decide))))))).trans (by rw [t4, tR_2 (by omega)]), fun q => absurd (by rw [t4]; exact (show s_fl (tR M38).1 = 0 from by rw [tR_1, vR_fl]; omega)) q⟩, fun q => by exfalso; omega⟩⟩ dX12_town_196
                · refine z_aload_n F dX12_town_172 rfl (q := 0) rfl ?_
                  refine rf_X12_9 F gs_131 rfl dX12_town_173 ?_
                  refine z_iload_n F dX12_town_176 rfl (q := 1) rfl ?_
                  refine z_aload_n F dX12_town_177 rfl (q := 0) rfl ?_
                  refine rf_X12_13 F gs_131 rfl dX12_town_178 ?_
                  refine z_iload_n F dX12_town_181 rfl (q := 1) rfl ?_
                  refine z_ialdB F hI gs_133 (by omega) (by omega) (by decide) kn_w dX12_town_182 (fun v88 ev88 av88 bv88 rv88 => ?_)
                  refine z_iastB F hI gs_132 (by omega) (by omega) (by decide) dX12_town_183 (bq_in (Eq.trans (rfl : Bd 132 _ = kn _) (Eq.symm (rfl : Bd 133 _ = kn _))) av88 bv88) (fun M90 hI sf89 f89 => ?_)
                  have tM90_131_7 : M90 131 7 = M78 131 7 := f89 131 7 (fun q => absurd q.1 (by decide))
                  have tM90_131_8 : M90 131 8 = M78 131 8 := f89 131 8 (fun q => absurd q.1 (by decide))
                  have tM90_131_9 : M90 131 9 = M78 131 9 := f89 131 9 (fun q => absurd q.1 (by decide))
                  have tM90_131_10 : M90 131 10 = M78 131 10 := f89 131 10 (fun q => absurd q.1 (by decide))
                  have tM90_131_12 : M90 131 12 = M78 131 12 := f89 131 12 (fun q => absurd q.1 (by decide))
                  have tM90_131_16 : M90 131 16 = M78 131 16 := f89 131 16 (fun q => absurd q.1 (by decide))
                  have tM90_131_13 : M90 131 13 = M78 131 13 := f89 131 13 (fun q => absurd q.1 (by decide))
                  have tM90_131_14 : M90 131 14 = M78 131 14 := f89 131 14 (fun q => absurd q.1 (by decide))
                  have tM90_131_15 : M90 131 15 = M78 131 15 := f89 131 15 (fun q => absurd q.1 (by decide))
                  have hF := hF.wrs f89 (by decide) (by decide)
                  refine z_iincN F dX12_town_184 (q := 1) rfl (by decide) (fun v91 ev91 => ?_)
                  refine z_eq (ls' := [(2, ii v91), (0, .ref (ad 131))]) rfl rfl rfl ?_
                  refine z_goto (tgt := 165) F dX12_town_187 (by decide +kernel) ?_
                  refine z_loc [1, 0] (ls' := [(0, .ref (ad 131)), (2, ii v91)]) rfl ?_
                  have q92 : u83 = M90 131 6 := eu83.trans (f89 131 6 (fun q => absurd q.1 (by decide))).symm
                  have q93 : u84 = M90 131 14 := eu84.trans (f89 131 14 (fun q => absurd q.1 (by decide))).symm
                  have q94 : u85 = M90 131 15 := eu85.trans (f89 131 15 (fun q => absurd q.1 (by decide))).symm
                  have nb95 : ∀ j : Nat, (j : Int) < v91 → M90 132 j = M0 133 j := by
                    intro j hj
                    by_cases hq : j = y79.toNat
                    · subst hq; rw [sf89, ← i165_2]; assumption
                    · rw [f89 132 j (fun q => hq q.2)]; exact i165_0 j (by omega)
                  exact ih165 v91 M90 hI hF (by omega) (by omega) nb95 (fun b => (f89 134 b (fun q => absurd q.1 (by decide))).trans (i165_1 b)) (fun b => (f89 133 b (fun q => absurd q.1 (by decide))).trans (i165_2 b)) (by omega) (by omega) (by omega) (by omega)
            · refine z_aload_n F dX12_town_114 rfl (q := 0) rfl ?_
              refine zv_v (rest := []) F (kp_X12_readLine l M38 ⟨hI, hW⟩ ⟨by omega, by omega, by omega, by omega, hT⟩ (by omega) hL (by omega)) cs_X12_267 (T := TX12) (N := 44) (ci := 12) rfl gs_131 (by decide) (by decide) rfl rfl rfl (Nat.le_of_ble_eq_true rfl) dX12_town_115 (fun M96 hI p97 => ?_)
              obtain ⟨hI, hW⟩ := hI
              obtain ⟨fp97, xp97, yp97⟩ := p97
              have hF := hF.call fp97 (by decide)
              have tM96_131_14 : M96 131 14 = M38 131 14 := fp97.fk (by decide) (by decide)
              have tM96_131_15 : M96 131 15 = M38 131 15 := fp97.fk (by decide) (by decide)
              obtain ⟨hL, xp97⟩ := xp97
              obtain ⟨qp97_0, qp97_1, qp97_2, qp97_3, qp97_4, qp97_5, qp97_6, qp97_7, qp97_8, qp97_9, qp97_10⟩ := xp97
              have kbM96 : 0 ≤ M96 131 12 ∧ M96 131 12 ≤ 4 := hI.at (show Bd 131 12 = (0, 4) from rfl)
              have hT : Tk M96 := qp97_7
              clear qp97_7
              have lbqp97_10 : M38 131 12 ≤ 4 * M96 131 12 := by omega
              have lpqp97_10 : M38 131 9 + 1 ≤ M96 131 9 + M96 131 12 := by omega
              clear qp97_10
              refine z_goto (tgt := 100) F dX12_town_118 (by decide +kernel) ?_
              refine z_loc [0] (ls' := [(0, .ref (ad 131))]) rfl ?_
              have q98 : u46 = M96 131 6 := eu46.trans ((fp97.t6 (by decide)) : M96 131 6 = _).symm
              exact ih100 M96 hI hW hF (by omega) (by omega) (by omega) (by omega) (by omega) hL hT (by omega) (lnI_s i100_8 (by rw [tR_1, vR_fl]; omega) (by rw [tR_1, (vR_tk (by omega)).1]; unfold tkR; omega) (yp97 (by omega))) (fun b => (fp97.at (by decide) : M96 132 b = _).trans (i100_9 b)) (by omega)
      · refine z_aload_n F dX12_town_59 rfl (q := 0) rfl ?_
        refine rf_X12_13 F gs_131 rfl dX12_town_60 ?_
        refine z_iload_n F dX12_town_63 rfl (q := 1) rfl ?_
        refine z_iconst F dX12_town_64 ?_
        refine z_iastB F hI gs_133 (by omega) (by omega) (by decide) dX12_town_65 kn_0 (fun M100 hI sf99 f99 => ?_)
        have tM100_131_7 : M100 131 7 = M20 131 7 := f99 131 7 (fun q => absurd q.1 (by decide))
        have tM100_131_8 : M100 131 8 = M20 131 8 := f99 131 8 (fun q => absurd q.1 (by decide))
        have tM100_131_9 : M100 131 9 = M20 131 9 := f99 131 9 (fun q => absurd q.1 (by decide))
        have tM100_131_10 : M100 131 10 = M20 131 10 := f99 131 10 (fun q => absurd q.1 (by decide))
        have tM100_131_12 : M100 131 12 = M20 131 12 := f99 131 12 (fun q => absurd q.1 (by decide))
        have tM100_131_16 : M100 131 16 = M20 131 16 := f99 131 16 (fun q => absurd q.1 (by decide))
        have tM100_131_13 : M100 131 13 = M20 131 13 := f99 131 13 (fun q => absurd q.1 (by decide))
        have tM100_131_14 : M100 131 14 = M20 131 14 := f99 131 14 (fun q => absurd q.1 (by decide))
        have tM100_131_15 : M100 131 15 = M20 131 15 := f99 131 15 (fun q => absurd q.1 (by decide))
        have hF := hF.wrn f99 (by decide) (Or.inr (by decide))
        have hW : WFk M100 := hW.site f99 (by decide)
        refine z_iincN F dX12_town_66 (q := 1) rfl (by decide) (fun v101 ev101 => ?_)
        refine z_eq (ls' := [(2, ii v101), (0, .ref (ad 131))]) rfl rfl rfl ?_
        refine z_goto (tgt := 52) F dX12_town_69 (by decide +kernel) ?_
        refine z_loc [1, 0] (ls' := [(0, .ref (ad 131)), (2, ii v101)]) rfl ?_
        have q102 : u25 = M100 131 6 := eu25.trans (f99 131 6 (fun q => absurd q.1 (by decide))).symm
        exact ih52 v101 M100 hI hW hF (by omega) (by omega) (by omega) (by omega) (by omega) (by omega) (fun hq => if h6 : y21 = 6 then (by have h7 := sf99; rw [h6] at h7; exact h7) else (f99 133 6 (fun q => by have := q.2; omega)).trans (i52_4 (by omega))) (by omega) (fun j h => if hq : j = (y21).toNat then (by rw [hq]; exact sf99) else (f99 133 j (fun q => hq q.2)).trans (i52_6 j (by omega))) (fun b => (f99 132 b (fun q => absurd q.1 (by decide))).trans (i52_7 b)) (by omega)
  · refine z_aload_n F dX12_town_19 rfl (q := 0) rfl ?_
    refine z_iconst F dX12_town_20 ?_
    refine zv_i (rest := []) F (k_X12_fails l M3 ⟨hI, hW⟩ 1 (by omega) (by omega)) cs_X12_262 (T := TX12) (N := 44) (ci := 12) rfl gs_131 (by decide) (by decide) rfl rfl rfl (Nat.le_of_ble_eq_true rfl) dX12_town_21 (fun v103 M104 rv103 hI p105 => ?_)
    obtain ⟨hI, hW⟩ := hI
    obtain ⟨⟨av103, bv103⟩, fp105, xp105⟩ := p105
    have hF := hF.call fp105 (by decide)
    have tM104_131_14 : M104 131 14 = M3 131 14 := fp105.fk (by decide) (by decide)
    have tM104_131_15 : M104 131 15 = M3 131 15 := fp105.fk (by decide) (by decide)
    have qp105_0 := xp105
    have kbM104 : 0 ≤ M104 131 12 ∧ M104 131 12 ≤ 4 := hI.at (show Bd 131 12 = (0, 4) from rfl)
    have q106 : u1 = M104 131 6 := q5.trans ((fp105.t6 (by decide)) : M104 131 6 = _).symm
    exact hret _ _ 24 _ (by omega) ⟨hI, hW⟩ ⟨⟨by omega, by omega⟩, hF, (by omega), ⟨(fun hq => by exfalso; omega), fun hq => by exfalso; omega, fun _ => sR_f (fun b => ((fp105.at (by decide) : M104 132 b = _).trans (f2 132 b (fun q => absurd q.1 (by decide)))))⟩⟩ dX12_town_24
