theorem dX12_town_0 : decode cX12_town 0 = .ok (.aload_n 0, 1) := by decide +kernel
theorem dX12_town_1 : decode cX12_town 1 = .ok (.iconst 0, 1) := by decide +kernel
theorem dX12_town_100 : decode cX12_town 100 = .ok (.aload_n 0, 1) := by decide +kernel
theorem dX12_town_101 : decode cX12_town 101 = .ok (.getfield 108, 3) := by decide +kernel
theorem dX12_town_104 : decode cX12_town 104 = .ok (.ifCond .ne 17, 3) := by decide +kernel
theorem dX12_town_107 : decode cX12_town 107 = .ok (.aload_n 0, 1) := by decide +kernel
theorem dX12_town_108 : decode cX12_town 108 = .ok (.getfield 88, 3) := by decide +kernel
theorem dX12_town_111 : decode cX12_town 111 = .ok (.ifCond .eq 10, 3) := by decide +kernel
theorem dX12_town_114 : decode cX12_town 114 = .ok (.aload_n 0, 1) := by decide +kernel
theorem dX12_town_115 : decode cX12_town 115 = .ok (.invokevirtual 267, 3) := by decide +kernel
theorem dX12_town_118 : decode cX12_town 118 = .ok (.goto (-18), 3) := by decide +kernel
theorem dX12_town_12 : decode cX12_town 12 = .ok (.i2l, 1) := by decide +kernel
theorem dX12_town_121 : decode cX12_town 121 = .ok (.aload_n 0, 1) := by decide +kernel
theorem dX12_town_122 : decode cX12_town 122 = .ok (.aload_n 0, 1) := by decide +kernel
theorem dX12_town_123 : decode cX12_town 123 = .ok (.getfield 108, 3) := by decide +kernel
theorem dX12_town_126 : decode cX12_town 126 = .ok (.putfield 270, 3) := by decide +kernel
theorem dX12_town_129 : decode cX12_town 129 = .ok (.aload_n 0, 1) := by decide +kernel
theorem dX12_town_13 : decode cX12_town 13 = .ok (.invokestatic 137, 3) := by decide +kernel
theorem dX12_town_130 : decode cX12_town 130 = .ok (.aload_n 0, 1) := by decide +kernel
theorem dX12_town_131 : decode cX12_town 131 = .ok (.getfield 108, 3) := by decide +kernel
theorem dX12_town_134 : decode cX12_town 134 = .ok (.ifCond .ne 7, 3) := by decide +kernel
theorem dX12_town_137 : decode cX12_town 137 = .ok (.iconst (-1), 1) := by decide +kernel
theorem dX12_town_138 : decode cX12_town 138 = .ok (.goto 7, 3) := by decide +kernel
theorem dX12_town_141 : decode cX12_town 141 = .ok (.aload_n 0, 1) := by decide +kernel
theorem dX12_town_142 : decode cX12_town 142 = .ok (.getfield 111, 3) := by decide +kernel
theorem dX12_town_145 : decode cX12_town 145 = .ok (.putfield 26, 3) := by decide +kernel
theorem dX12_town_148 : decode cX12_town 148 = .ok (.aload_n 0, 1) := by decide +kernel
theorem dX12_town_149 : decode cX12_town 149 = .ok (.getfield 108, 3) := by decide +kernel
theorem dX12_town_152 : decode cX12_town 152 = .ok (.ifCond .eq 11, 3) := by decide +kernel
theorem dX12_town_155 : decode cX12_town 155 = .ok (.bipush (-10), 2) := by decide +kernel
theorem dX12_town_157 : decode cX12_town 157 = .ok (.aload_n 0, 1) := by decide +kernel
theorem dX12_town_158 : decode cX12_town 158 = .ok (.getfield 108, 3) := by decide +kernel
theorem dX12_town_16 : decode cX12_town 16 = .ok (.ifCond .ne 9, 3) := by decide +kernel
theorem dX12_town_161 : decode cX12_town 161 = .ok (.isub, 1) := by decide +kernel
theorem dX12_town_162 : decode cX12_town 162 = .ok (.ireturn, 1) := by decide +kernel
theorem dX12_town_163 : decode cX12_town 163 = .ok (.iconst 0, 1) := by decide +kernel
theorem dX12_town_164 : decode cX12_town 164 = .ok (.istore_n 2, 1) := by decide +kernel
theorem dX12_town_165 : decode cX12_town 165 = .ok (.iload_n 2, 1) := by decide +kernel
theorem dX12_town_166 : decode cX12_town 166 = .ok (.sipush 1300, 3) := by decide +kernel
theorem dX12_town_169 : decode cX12_town 169 = .ok (.if_icmp .ge 21, 3) := by decide +kernel
theorem dX12_town_172 : decode cX12_town 172 = .ok (.aload_n 0, 1) := by decide +kernel
theorem dX12_town_173 : decode cX12_town 173 = .ok (.getfield 9, 3) := by decide +kernel
theorem dX12_town_176 : decode cX12_town 176 = .ok (.iload_n 2, 1) := by decide +kernel
theorem dX12_town_177 : decode cX12_town 177 = .ok (.aload_n 0, 1) := by decide +kernel
theorem dX12_town_178 : decode cX12_town 178 = .ok (.getfield 13, 3) := by decide +kernel
theorem dX12_town_181 : decode cX12_town 181 = .ok (.iload_n 2, 1) := by decide +kernel
theorem dX12_town_182 : decode cX12_town 182 = .ok (.iaload, 1) := by decide +kernel
theorem dX12_town_183 : decode cX12_town 183 = .ok (.iastore, 1) := by decide +kernel
theorem dX12_town_184 : decode cX12_town 184 = .ok (.iinc 2 1, 3) := by decide +kernel
theorem dX12_town_187 : decode cX12_town 187 = .ok (.goto (-22), 3) := by decide +kernel
theorem dX12_town_19 : decode cX12_town 19 = .ok (.aload_n 0, 1) := by decide +kernel
theorem dX12_town_190 : decode cX12_town 190 = .ok (.aload_n 0, 1) := by decide +kernel
theorem dX12_town_191 : decode cX12_town 191 = .ok (.getfield 9, 3) := by decide +kernel
theorem dX12_town_194 : decode cX12_town 194 = .ok (.iconst 0, 1) := by decide +kernel
theorem dX12_town_195 : decode cX12_town 195 = .ok (.iaload, 1) := by decide +kernel
theorem dX12_town_196 : decode cX12_town 196 = .ok (.ireturn, 1) := by decide +kernel
theorem dX12_town_2 : decode cX12_town 2 = .ok (.putfield 73, 3) := by decide +kernel
theorem dX12_town_20 : decode cX12_town 20 = .ok (.iconst 1, 1) := by decide +kernel
theorem dX12_town_21 : decode cX12_town 21 = .ok (.invokevirtual 262, 3) := by decide +kernel
theorem dX12_town_24 : decode cX12_town 24 = .ok (.ireturn, 1) := by decide +kernel
theorem dX12_town_25 : decode cX12_town 25 = .ok (.aload_n 0, 1) := by decide +kernel
theorem dX12_town_26 : decode cX12_town 26 = .ok (.iload_n 1, 1) := by decide +kernel
theorem dX12_town_27 : decode cX12_town 27 = .ok (.putfield 79, 3) := by decide +kernel
theorem dX12_town_30 : decode cX12_town 30 = .ok (.aload_n 0, 1) := by decide +kernel
theorem dX12_town_31 : decode cX12_town 31 = .ok (.iconst 0, 1) := by decide +kernel
theorem dX12_town_32 : decode cX12_town 32 = .ok (.putfield 76, 3) := by decide +kernel
theorem dX12_town_35 : decode cX12_town 35 = .ok (.aload_n 0, 1) := by decide +kernel
theorem dX12_town_36 : decode cX12_town 36 = .ok (.iconst 0, 1) := by decide +kernel
theorem dX12_town_37 : decode cX12_town 37 = .ok (.putfield 82, 3) := by decide +kernel
theorem dX12_town_40 : decode cX12_town 40 = .ok (.aload_n 0, 1) := by decide +kernel
theorem dX12_town_41 : decode cX12_town 41 = .ok (.iconst 0, 1) := by decide +kernel
theorem dX12_town_42 : decode cX12_town 42 = .ok (.putfield 108, 3) := by decide +kernel
theorem dX12_town_45 : decode cX12_town 45 = .ok (.aload_n 0, 1) := by decide +kernel
theorem dX12_town_46 : decode cX12_town 46 = .ok (.iconst 0, 1) := by decide +kernel
theorem dX12_town_47 : decode cX12_town 47 = .ok (.putfield 141, 3) := by decide +kernel
theorem dX12_town_5 : decode cX12_town 5 = .ok (.iload_n 1, 1) := by decide +kernel
theorem dX12_town_50 : decode cX12_town 50 = .ok (.iconst 0, 1) := by decide +kernel
theorem dX12_town_51 : decode cX12_town 51 = .ok (.istore_n 2, 1) := by decide +kernel
theorem dX12_town_52 : decode cX12_town 52 = .ok (.iload_n 2, 1) := by decide +kernel
theorem dX12_town_53 : decode cX12_town 53 = .ok (.sipush 1300, 3) := by decide +kernel
theorem dX12_town_56 : decode cX12_town 56 = .ok (.if_icmp .ge 16, 3) := by decide +kernel
theorem dX12_town_59 : decode cX12_town 59 = .ok (.aload_n 0, 1) := by decide +kernel
theorem dX12_town_6 : decode cX12_town 6 = .ok (.i2l, 1) := by decide +kernel
theorem dX12_town_60 : decode cX12_town 60 = .ok (.getfield 13, 3) := by decide +kernel
theorem dX12_town_63 : decode cX12_town 63 = .ok (.iload_n 2, 1) := by decide +kernel
theorem dX12_town_64 : decode cX12_town 64 = .ok (.iconst 0, 1) := by decide +kernel
theorem dX12_town_65 : decode cX12_town 65 = .ok (.iastore, 1) := by decide +kernel
theorem dX12_town_66 : decode cX12_town 66 = .ok (.iinc 2 1, 3) := by decide +kernel
theorem dX12_town_69 : decode cX12_town 69 = .ok (.goto (-17), 3) := by decide +kernel
theorem dX12_town_7 : decode cX12_town 7 = .ok (.lconst 0, 1) := by decide +kernel
theorem dX12_town_72 : decode cX12_town 72 = .ok (.aload_n 0, 1) := by decide +kernel
theorem dX12_town_73 : decode cX12_town 73 = .ok (.invokevirtual 127, 3) := by decide +kernel
theorem dX12_town_76 : decode cX12_town 76 = .ok (.aload_n 0, 1) := by decide +kernel
theorem dX12_town_77 : decode cX12_town 77 = .ok (.ldc_w 265, 3) := by decide +kernel
theorem dX12_town_8 : decode cX12_town 8 = .ok (.aload_n 0, 1) := by decide +kernel
theorem dX12_town_80 : decode cX12_town 80 = .ok (.invokevirtual 215, 3) := by decide +kernel
theorem dX12_town_83 : decode cX12_town 83 = .ok (.aload_n 0, 1) := by decide +kernel
theorem dX12_town_84 : decode cX12_town 84 = .ok (.getfield 13, 3) := by decide +kernel
theorem dX12_town_87 : decode cX12_town 87 = .ok (.iconst 1, 1) := by decide +kernel
theorem dX12_town_88 : decode cX12_town 88 = .ok (.aload_n 0, 1) := by decide +kernel
theorem dX12_town_89 : decode cX12_town 89 = .ok (.iconst 1, 1) := by decide +kernel
theorem dX12_town_9 : decode cX12_town 9 = .ok (.getfield 76, 3) := by decide +kernel
theorem dX12_town_90 : decode cX12_town 90 = .ok (.bipush 10, 2) := by decide +kernel
theorem dX12_town_92 : decode cX12_town 92 = .ok (.invokevirtual 199, 3) := by decide +kernel
theorem dX12_town_95 : decode cX12_town 95 = .ok (.iastore, 1) := by decide +kernel
theorem dX12_town_96 : decode cX12_town 96 = .ok (.aload_n 0, 1) := by decide +kernel
theorem dX12_town_97 : decode cX12_town 97 = .ok (.invokevirtual 259, 3) := by decide +kernel
set_option maxHeartbeats 4000000 in
set_option maxRecDepth 4000 in
theorem kp_X12_town (l : Launch) (M : Mem) (hJ : Iw M) (x0 : Int) (hx0a : (-2147483648) ≤ x0) (hx0b : x0 ≤ 2147483647) : CI l yX12_town cX12_town 3 (some .int) 87 (fun ad => [.ref (ad 131), ii x0]) M (fun z M' => ((-2147483648) ≤ z ∧ z ≤ 2147483647) ∧ Fr [131, 132, 133, 231, 232, 233, 234] M M' ∧ (0 ≤ x0 ∧ x0 ≤ M 131 6 ∧ M' 131 6 = 0 ∧ M' 131 4 = 0 ∨ (x0 < 0 ∨ M 131 6 < x0) ∧ M' 131 6 = M 131 6 ∧ M' 131 4 = 1) ∧ (Im (0 ≤ x0 ∧ x0 ≤ M 131 6) (z = ansT (townF (UTR M x0) x0) ∧ M' 131 14 = s_fl (townF (UTR M x0) x0).1 ∧ M' 131 15 = fpT (townF (UTR M x0) x0) ∧ Im (s_fl (townF (UTR M x0) x0).1 = 0) (s_fp (townF (UTR M x0) x0).1 = 0)))) := by
  obtain ⟨hI, hW⟩ := hJ
  have hF : Fr [131, 132, 133, 231, 232, 233, 234] M M := Fr.rf
  refine en_i (by decide +kernel) (fun ad => by exact Nat.le_of_ble_eq_true rfl) (fun D cy ad A p e s m args below meth c Q F hret => ?_)
  refine z_eq (ls' := [(0, .ref (ad 131)), (1, ii x0)]) rfl rfl rfl ?_
  obtain ⟨u1, eu1⟩ : ∃ v : Int, v = M 131 6 := ⟨_, rfl⟩
  have ku1 : 0 ≤ u1 ∧ u1 ≤ 900 := by have := hI.at (show Bd 131 6 = (0, 900) from rfl); omega
  refine z_aload_n F dX12_town_0 rfl (q := 0) rfl ?_
  refine z_iconst F dX12_town_1 ?_
  refine pf_X12_73 F hI gs_131 rfl bd_131_4 rfl rfl dX12_town_2 (by omega) (by omega) (fun M3 hI sf2 f2 => ?_)
  have tM3_131_7 : M3 131 7 = M 131 7 := f2 131 7 (fun q => absurd q.2 (by decide))
  have tM3_131_8 : M3 131 8 = M 131 8 := f2 131 8 (fun q => absurd q.2 (by decide))
  have tM3_131_9 : M3 131 9 = M 131 9 := f2 131 9 (fun q => absurd q.2 (by decide))
  have tM3_131_10 : M3 131 10 = M 131 10 := f2 131 10 (fun q => absurd q.2 (by decide))
  have tM3_131_12 : M3 131 12 = M 131 12 := f2 131 12 (fun q => absurd q.2 (by decide))
  have tM3_131_16 : M3 131 16 = M 131 16 := f2 131 16 (fun q => absurd q.2 (by decide))
  have tM3_131_13 : M3 131 13 = M 131 13 := f2 131 13 (fun q => absurd q.2 (by decide))
  have tM3_131_14 : M3 131 14 = M 131 14 := f2 131 14 (fun q => absurd q.2 (by decide))
  have tM3_131_15 : M3 131 15 = M 131 15 := f2 131 15 (fun q => absurd q.2 (by decide))
  have hF := hF.wrf f2 (by decide) (by decide)
  have hW : WFk M3 := hW.site f2 (by decide)
  refine z_iload_n F dX12_town_5 rfl (q := 1) rfl ?_
  refine z_i2l F dX12_town_6 (by omega) ?_
  refine z_lconst (x := 0) F dX12_town_7 (by decide +kernel) ?_
  refine z_aload_n F dX12_town_8 rfl (q := 0) rfl ?_
  refine gf_X12_76 F hI gs_131 rfl bd_131_6 dX12_town_9 (fun v4 ev4 av4 bv4 => ?_)
  have q5 : u1 = M3 131 6 := eu1.trans (f2 131 6 (fun q => absurd q.2 (by decide))).symm
  have zv4 : u1 = v4 := q5.trans ev4.symm
  subst zv4
  refine z_i2l F dX12_town_12 (by omega) ?_
  refine zs_i (rest := []) F (k_X12_within l M3 ⟨hI, hW⟩ x0 (by omega) (by omega) 0 (by omega) (by omega) u1 (by omega) (by omega)) cs_X12_137 (by decide) (by decide) rfl rfl rfl (Nat.le_of_ble_eq_true rfl) dX12_town_13 (fun v6 M7 rv6 hI p8 => ?_)
  obtain ⟨hI, hW⟩ := hI
  obtain ⟨⟨av6, bv6⟩, rfl, xp8⟩ := p8
  refine z_if_ne (tgt := 25) F dX12_town_16 (by decide +kernel) (by omega) (fun c9 => ?_) (fun c9 => ?_)
  · refine z_aload_n F dX12_town_25 rfl (q := 0) rfl ?_
    refine z_iload_n F dX12_town_26 rfl (q := 1) rfl ?_
    refine pf_X12_79 F hI gs_131 rfl bd_131_7 rfl rfl dX12_town_27 (by omega) (by omega) (fun M11 hI sf10 f10 => ?_)
    have tM11_131_8 : M11 131 8 = M3 131 8 := f10 131 8 (fun q => absurd q.2 (by decide))
    have tM11_131_9 : M11 131 9 = M3 131 9 := f10 131 9 (fun q => absurd q.2 (by decide))
    have tM11_131_10 : M11 131 10 = M3 131 10 := f10 131 10 (fun q => absurd q.2 (by decide))
    have tM11_131_12 : M11 131 12 = M3 131 12 := f10 131 12 (fun q => absurd q.2 (by decide))
    have tM11_131_16 : M11 131 16 = M3 131 16 := f10 131 16 (fun q => absurd q.2 (by decide))
    have tM11_131_13 : M11 131 13 = M3 131 13 := f10 131 13 (fun q => absurd q.2 (by decide))
    have tM11_131_14 : M11 131 14 = M3 131 14 := f10 131 14 (fun q => absurd q.2 (by decide))
    have tM11_131_15 : M11 131 15 = M3 131 15 := f10 131 15 (fun q => absurd q.2 (by decide))
    have tM11_131_4 : M11 131 4 = M3 131 4 := f10 131 4 (fun q => absurd q.2 (by decide))
    have hF := hF.wrf f10 (by decide) (by decide)
    have hW : WFk M11 := hW.site f10 (by decide)
    refine z_aload_n F dX12_town_30 rfl (q := 0) rfl ?_
    refine z_iconst F dX12_town_31 ?_
    refine pf_X12_76 F hI gs_131 rfl bd_131_6 rfl rfl dX12_town_32 (by omega) (by omega) (fun M13 hI sf12 f12 => ?_)
    have tM13_131_7 : M13 131 7 = M11 131 7 := f12 131 7 (fun q => absurd q.2 (by decide))
    have tM13_131_8 : M13 131 8 = M11 131 8 := f12 131 8 (fun q => absurd q.2 (by decide))
    have tM13_131_9 : M13 131 9 = M11 131 9 := f12 131 9 (fun q => absurd q.2 (by decide))
    have tM13_131_10 : M13 131 10 = M11 131 10 := f12 131 10 (fun q => absurd q.2 (by decide))
    have tM13_131_12 : M13 131 12 = M11 131 12 := f12 131 12 (fun q => absurd q.2 (by decide))
    have tM13_131_16 : M13 131 16 = M11 131 16 := f12 131 16 (fun q => absurd q.2 (by decide))
    have tM13_131_13 : M13 131 13 = M11 131 13 := f12 131 13 (fun q => absurd q.2 (by decide))
    have tM13_131_14 : M13 131 14 = M11 131 14 := f12 131 14 (fun q => absurd q.2 (by decide))
    have tM13_131_15 : M13 131 15 = M11 131 15 := f12 131 15 (fun q => absurd q.2 (by decide))
    have tM13_131_4 : M13 131 4 = M11 131 4 := f12 131 4 (fun q => absurd q.2 (by decide))
    have hF := hF.wrf f12 (by decide) (by decide)
    have hW : WFk M13 := hW.site f12 (by decide)
    refine z_aload_n F dX12_town_35 rfl (q := 0) rfl ?_
    refine z_iconst F dX12_town_36 ?_
    refine pf_X12_82 F hI gs_131 rfl bd_131_8 rfl rfl dX12_town_37 (by omega) (by omega) (fun M15 hI sf14 f14 => ?_)
    have tM15_131_7 : M15 131 7 = M13 131 7 := f14 131 7 (fun q => absurd q.2 (by decide))
    have tM15_131_9 : M15 131 9 = M13 131 9 := f14 131 9 (fun q => absurd q.2 (by decide))
    have tM15_131_10 : M15 131 10 = M13 131 10 := f14 131 10 (fun q => absurd q.2 (by decide))
    have tM15_131_12 : M15 131 12 = M13 131 12 := f14 131 12 (fun q => absurd q.2 (by decide))
    have tM15_131_16 : M15 131 16 = M13 131 16 := f14 131 16 (fun q => absurd q.2 (by decide))
    have tM15_131_13 : M15 131 13 = M13 131 13 := f14 131 13 (fun q => absurd q.2 (by decide))
    have tM15_131_14 : M15 131 14 = M13 131 14 := f14 131 14 (fun q => absurd q.2 (by decide))
    have tM15_131_15 : M15 131 15 = M13 131 15 := f14 131 15 (fun q => absurd q.2 (by decide))
    have tM15_131_4 : M15 131 4 = M13 131 4 := f14 131 4 (fun q => absurd q.2 (by decide))
    have hF := hF.wrf f14 (by decide) (by decide)
    have hW : WFk M15 := hW.site f14 (by decide)
    refine z_aload_n F dX12_town_40 rfl (q := 0) rfl ?_
    refine z_iconst F dX12_town_41 ?_
    refine pf_X12_108 F hI gs_131 rfl bd_131_12 rfl rfl dX12_town_42 (by omega) (by omega) (fun M17 hI sf16 f16 => ?_)
    have tM17_131_7 : M17 131 7 = M15 131 7 := f16 131 7 (fun q => absurd q.2 (by decide))
    have tM17_131_8 : M17 131 8 = M15 131 8 := f16 131 8 (fun q => absurd q.2 (by decide))
    have tM17_131_9 : M17 131 9 = M15 131 9 := f16 131 9 (fun q => absurd q.2 (by decide))
    have tM17_131_10 : M17 131 10 = M15 131 10 := f16 131 10 (fun q => absurd q.2 (by decide))
    have tM17_131_16 : M17 131 16 = M15 131 16 := f16 131 16 (fun q => absurd q.2 (by decide))
    have tM17_131_13 : M17 131 13 = M15 131 13 := f16 131 13 (fun q => absurd q.2 (by decide))
    have tM17_131_14 : M17 131 14 = M15 131 14 := f16 131 14 (fun q => absurd q.2 (by decide))
    have tM17_131_15 : M17 131 15 = M15 131 15 := f16 131 15 (fun q => absurd q.2 (by decide))
    have tM17_131_4 : M17 131 4 = M15 131 4 := f16 131 4 (fun q => absurd q.2 (by decide))
    have hF := hF.wrf f16 (by decide) (by decide)
    have hW : WFk M17 := hW.site f16 (by decide)
    refine z_aload_n F dX12_town_45 rfl (q := 0) rfl ?_
    refine z_iconst F dX12_town_46 ?_
    refine pf_X12_141 F hI gs_131 rfl bd_131_16 rfl rfl dX12_town_47 (by omega) (by omega) (fun M19 hI sf18 f18 => ?_)
    have tM19_131_7 : M19 131 7 = M17 131 7 := f18 131 7 (fun q => absurd q.2 (by decide))
    have tM19_131_8 : M19 131 8 = M17 131 8 := f18 131 8 (fun q => absurd q.2 (by decide))
    have tM19_131_9 : M19 131 9 = M17 131 9 := f18 131 9 (fun q => absurd q.2 (by decide))
    have tM19_131_10 : M19 131 10 = M17 131 10 := f18 131 10 (fun q => absurd q.2 (by decide))
    have tM19_131_12 : M19 131 12 = M17 131 12 := f18 131 12 (fun q => absurd q.2 (by decide))
    have tM19_131_13 : M19 131 13 = M17 131 13 := f18 131 13 (fun q => absurd q.2 (by decide))
    have tM19_131_14 : M19 131 14 = M17 131 14 := f18 131 14 (fun q => absurd q.2 (by decide))
    have tM19_131_15 : M19 131 15 = M17 131 15 := f18 131 15 (fun q => absurd q.2 (by decide))
    have tM19_131_4 : M19 131 4 = M17 131 4 := f18 131 4 (fun q => absurd q.2 (by decide))
    have hF := hF.wrf f18 (by decide) (by decide)
    have hW : WFk M19 := hW.site f18 (by decide)
    refine z_iconst F dX12_town_50 ?_
    refine z_istore_n F dX12_town_51 rfl (by decide) (ls' := [(2, ii 0), (0, .ref (ad 131)), (1, ii x0)]) rfl ?_
    refine z_loc [1, 0] (ls' := [(0, .ref (ad 131)), (2, ii 0)]) rfl ?_
    have q22 : 0 = M15 131 6 := sf12.symm.trans (f14 131 6 (fun q => absurd q.2 (by decide))).symm
    have q23 : 0 = M17 131 6 := q22.trans (f16 131 6 (fun q => absurd q.2 (by decide))).symm
    have q24 : 0 = M19 131 6 := q23.trans (f18 131 6 (fun q => absurd q.2 (by decide))).symm
    have q25 : 0 = M11 131 4 := sf2.symm.trans (f10 131 4 (fun q => absurd q.2 (by decide))).symm
    have q26 : 0 = M13 131 4 := q25.trans (f12 131 4 (fun q => absurd q.2 (by decide))).symm
    have q27 : 0 = M15 131 4 := q26.trans (f14 131 4 (fun q => absurd q.2 (by decide))).symm
    have q28 : 0 = M17 131 4 := q27.trans (f16 131 4 (fun q => absurd q.2 (by decide))).symm
    have q29 : 0 = M19 131 4 := q28.trans (f18 131 4 (fun q => absurd q.2 (by decide))).symm
    suffices key52 : ∀ (n : Nat) (y21 : Int) (M20 : Mem), Inv M20 → WFk M20 → Fr [131, 132, 133, 231, 232, 233, 234] M M20 → 0 ≤ y21 → y21 ≤ 1300 → (M20 131 7 = x0) → (M20 131 8 = 0) → (M20 131 12 = 0) → (M20 131 16 = 0) → (6 < y21 → M20 133 6 = 0) → (M20 131 6 = 0) → (∀ j : Nat, (j : Int) < y21 → M20 133 j = 0) → (M20 131 4 = 0) → 1300 - y21 < (n : Int) → Z D cy ad p l e (RMh 87) s m args below meth c A 3 0 0 Q 52 [(0, .ref (ad 131)), (2, ii y21)] [] M20 from key52 1301 0 M19 hI hW hF (by omega) (by omega) (by omega) (by omega) (by omega) (by omega) (by omega) (by omega) (fun j h => by exfalso; omega) (by omega) (by omega)
    intro n52
    induction n52 with
    | zero => intro y21 M20 hI hW hF ay21 by21 i52_0 i52_1 i52_2 i52_3 i52_4 i52_5 i52_6 i52_7 hn52; exfalso; omega
    | succ n52 ih52 =>
      intro y21 M20 hI hW hF ay21 by21 i52_0 i52_1 i52_2 i52_3 i52_4 i52_5 i52_6 i52_7 hn52
      obtain ⟨u30, eu30⟩ : ∃ v : Int, v = M20 131 6 := ⟨_, rfl⟩
      have ku30 : 0 ≤ u30 ∧ u30 ≤ 900 := by have := hI.at (show Bd 131 6 = (0, 900) from rfl); omega
      obtain ⟨u31, eu31⟩ : ∃ v : Int, v = M20 131 4 := ⟨_, rfl⟩
      have ku31 : 0 ≤ u31 ∧ u31 ≤ 3 := by have := hI.at (show Bd 131 4 = (0, 3) from rfl); omega
      refine z_iload_n F dX12_town_52 rfl (q := 1) rfl ?_
      refine z_sipush F dX12_town_53 (by decide +kernel) ?_
      refine z_icmp_ge (tgt := 72) F dX12_town_56 (by decide +kernel) (by omega) (by omega) (fun c32 => ?_) (fun c32 => ?_)
      · have h6z := i52_4 (by omega)
        have hL := wl_n (show M20 133 6 ≤ 0 by omega)
        have kbM20 : 0 ≤ M20 131 12 ∧ M20 131 12 ≤ 4 := hI.at (show Bd 131 12 = (0, 4) from rfl)
        have z0 : ∀ j : Nat, j < 1300 → M20 133 j = 0 := fun j h => i52_6 j (by omega)
        have u0 : UR M20 = UTR M x0 := by
          funext j
          unfold UR UTR
          rw [show M20 131 7 = x0 from by omega, show M20 136 j = M 136 j from hF.at (by decide)]
        refine z_aload_n F dX12_town_72 rfl (q := 0) rfl ?_
        refine zv_v (rest := []) F (kp_X12_readsOn l M20 ⟨hI, hW⟩ (by omega)) cs_X12_127 (T := TX12) (N := 44) (ci := 12) rfl gs_131 (by decide) (by decide) rfl rfl rfl (Nat.le_of_ble_eq_true rfl) dX12_town_73 (fun M33 hI p34 => ?_)
        obtain ⟨hI, hW⟩ := hI
        obtain ⟨fp34, xp34, yp34⟩ := p34
        have hF := hF.call fp34 (by decide)
        have tM33_131_14 : M33 131 14 = M20 131 14 := fp34.fk (by decide) (by decide)
        have tM33_131_15 : M33 131 15 = M20 131 15 := fp34.fk (by decide) (by decide)
        have tM33_131_4 : M33 131 4 = M20 131 4 := fp34.fk (by decide) (by decide)
        have tM33_133_6 : M33 133 6 = M20 133 6 := fp34.at (by decide)
        have tM33_133_1 : M33 133 1 = M20 133 1 := fp34.at (by decide)
        have hq9 := wl_fr fp34 (by decide)
        have hL := hq9.2 hL
        have cM33 := hq9.1
        clear hq9
        obtain ⟨qp34_0, qp34_1, qp34_2, qp34_3, qp34_4, qp34_5, qp34_6, qp34_7, qp34_8⟩ := xp34
        have kbM33 : 0 ≤ M33 131 12 ∧ M33 131 12 ≤ 4 := hI.at (show Bd 131 12 = (0, 4) from rfl)
        have hT : Tk M33 := qp34_5
        clear qp34_5
        have t1 : adv (S00 (UTR M x0) x0) = absR M33 := (adv_c (by rw [(vR_tx M20).1, u0]; rfl) (by rw [(vR_tx M20).2]; show x0 = _; omega) (by rw [(vR_tk (show M20 131 12 = 0 by omega)).2.1]; show (0 : Int) = _; omega) (by rw [vR_f0 (show M20 131 12 = 0 by omega)]; rfl)).trans (yp34 (by omega))
        refine z_aload_n F dX12_town_76 rfl (q := 0) rfl ?_
        refine z_ldcSW (j := 57) F dX12_town_77 rfl rfl rfl ?_
        refine z_eq (st' := [.ref (ad 1057), .ref (ad 131)]) rfl rfl rfl ?_
        refine zv_v (rest := []) F (kp_X12_mustWord_131_1057 l M33 ⟨hI, hW⟩ ⟨by omega, by omega, by omega, by omega, hT⟩) cs_X12_215 (T := TX12) (N := 44) (ci := 12) rfl gs_131 (by decide) (by decide) rfl rfl rfl (Nat.le_of_ble_eq_true rfl) dX12_town_80 (fun M35 hI p36 => ?_)
        obtain ⟨hI, hW⟩ := hI
        obtain ⟨fp36, xp36, yp36⟩ := p36
        have hF := hF.call fp36 (by decide)
        have tM35_131_14 : M35 131 14 = M33 131 14 := fp36.fk (by decide) (by decide)
        have tM35_131_15 : M35 131 15 = M33 131 15 := fp36.fk (by decide) (by decide)
        have tM35_131_4 : M35 131 4 = M33 131 4 := fp36.fk (by decide) (by decide)
        have tM35_133_6 : M35 133 6 = M33 133 6 := fp36.at (by decide)
        have tM35_133_1 : M35 133 1 = M33 133 1 := fp36.at (by decide)
        have hq9 := wl_fr fp36 (by decide)
        have hL := hq9.2 hL
        have cM35 := hq9.1
        clear hq9
        obtain ⟨qp36_0, qp36_1, qp36_2, qp36_3, qp36_4, qp36_5, qp36_6, qp36_7, qp36_8⟩ := xp36
        have kbM35 : 0 ≤ M35 131 12 ∧ M35 131 12 ≤ 4 := hI.at (show Bd 131 12 = (0, 4) from rfl)
        have hT : Tk M35 := qp36_7
        clear qp36_7
        have lbqp36_8 : M33 131 12 ≤ 4 * M35 131 12 := by omega
        clear qp36_8
        have t2 : plS (UTR M x0) x0 = absR M35 := by unfold plS; rw [t1]; exact yp36
        refine z_aload_n F dX12_town_83 rfl (q := 0) rfl ?_
        refine rf_X12_13 F gs_131 rfl dX12_town_84 ?_
        refine z_iconst F dX12_town_87 ?_
        refine z_aload_n F dX12_town_88 rfl (q := 0) rfl ?_
        refine z_iconst F dX12_town_89 ?_
        refine z_bipush F dX12_town_90 (by decide +kernel) ?_
        refine zv_i (rest := [ii 1, .ref (ad 133)]) F (kp_X12_number l M35 ⟨hI, hW⟩ 1 (by omega) (by omega) 10 (by omega) (by omega) ⟨by omega, by omega, by omega, by omega, hT⟩) cs_X12_199 (T := TX12) (N := 44) (ci := 12) rfl gs_131 (by decide) (by decide) rfl rfl rfl (Nat.le_of_ble_eq_true rfl) dX12_town_92 (fun v37 M38 rv37 hI p39 => ?_)
        obtain ⟨hI, hW⟩ := hI
        obtain ⟨⟨av37, bv37⟩, fp39, xp39, yp39⟩ := p39
        have hF := hF.call fp39 (by decide)
        have tM38_131_14 : M38 131 14 = M35 131 14 := fp39.fk (by decide) (by decide)
        have tM38_131_15 : M38 131 15 = M35 131 15 := fp39.fk (by decide) (by decide)
        have tM38_131_4 : M38 131 4 = M35 131 4 := fp39.fk (by decide) (by decide)
        have tM38_133_6 : M38 133 6 = M35 133 6 := fp39.at (by decide)
        have tM38_133_1 : M38 133 1 = M35 133 1 := fp39.at (by decide)
        have hq9 := wl_fr fp39 (by decide)
        have hL := hq9.2 hL
        have cM38 := hq9.1
        clear hq9
        have hkv37 : 1 ≤ v37 ∧ v37 ≤ 10 := by omega
        obtain ⟨qp39_0, qp39_1, qp39_2, qp39_3, qp39_4, qp39_5, qp39_6, qp39_7, qp39_8, qp39_9⟩ := xp39
        have kbM38 : 0 ≤ M38 131 12 ∧ M38 131 12 ≤ 4 := hI.at (show Bd 131 12 = (0, 4) from rfl)
        have hT : Tk M38 := qp39_7
        clear qp39_7
        clear qp39_8
        have lbqp39_9 : M35 131 12 ≤ 4 * M38 131 12 := by omega
        have lpqp39_9 : M35 131 9 + 1 ≤ M38 131 9 + M38 131 12 := by omega
        clear qp39_9
        refine z_iast F hI gs_133 (by omega) (by omega) (by decide) (show Bd 133 1 = (0, 10) from rfl) dX12_town_95 (by omega) (by omega) (fun M41 hI sf40 f40 => ?_)
        have tM41_131_7 : M41 131 7 = M38 131 7 := f40 131 7 (fun q => absurd q.1 (by decide))
        have tM41_131_8 : M41 131 8 = M38 131 8 := f40 131 8 (fun q => absurd q.1 (by decide))
        have tM41_131_9 : M41 131 9 = M38 131 9 := f40 131 9 (fun q => absurd q.1 (by decide))
        have tM41_131_10 : M41 131 10 = M38 131 10 := f40 131 10 (fun q => absurd q.1 (by decide))
        have tM41_131_12 : M41 131 12 = M38 131 12 := f40 131 12 (fun q => absurd q.1 (by decide))
        have tM41_131_16 : M41 131 16 = M38 131 16 := f40 131 16 (fun q => absurd q.1 (by decide))
        have tM41_131_13 : M41 131 13 = M38 131 13 := f40 131 13 (fun q => absurd q.1 (by decide))
        have tM41_131_14 : M41 131 14 = M38 131 14 := f40 131 14 (fun q => absurd q.1 (by decide))
        have tM41_131_15 : M41 131 15 = M38 131 15 := f40 131 15 (fun q => absurd q.1 (by decide))
        have tM41_131_4 : M41 131 4 = M38 131 4 := f40 131 4 (fun q => absurd q.1 (by decide))
        have tM41_133_6 : M41 133 6 = M38 133 6 := f40 133 6 (fun q => absurd q.2 (by decide))
        have hT := tk_ws f40 (by decide) hT
        have hq9 := wl_wr f40 (by omega)
        have hL := hq9.2 hL
        have cM41 := hq9.1
        clear hq9
        have hF := hF.wrn f40 (by decide) (Or.inr (by decide))
        have hW : WFk M41 := hW.site f40 (by decide)
        have sf40 : M41 133 1 = v37 := sf40
        have t3 : tR M41 = fz (numB 1 10 noB (plS (UTR M x0) x0)) (openD (s_vl (plS (UTR M x0) x0))) := fz_e ((absR_eq (fun j => (f40 131 j (fun q => absurd q.1 (by decide)))) (fun j => (f40 136 j (fun q => absurd q.1 (by decide)))) : absR M41 = absR M38).trans (by rw [t2]; exact yp39.1.symm)) (fun q => by
          have q2 : M38 131 12 = 0 := by rw [t2, yp39.1, vR_fl] at q; exact q
          rw [t2, ← yp39.2 q2]
          exact dR_open (M := M38) (fun j h => (((fp39.at (by decide) : M38 133 j = _).trans ((fp36.at (by decide) : M35 133 j = _).trans (fp34.at (by decide) : M33 133 j = _)))).trans (z0 j h)) (by omega) sf40 (fun b hb => f40 133 b (fun q => hb q.2)))
        refine z_aload_n F dX12_town_96 rfl (q := 0) rfl ?_
        refine zv_v (rest := []) F (kp_X12_readStop l M41 ⟨hI, hW⟩ ⟨by omega, by omega, by omega, by omega, hT⟩ (by omega) hL (by omega)) cs_X12_259 (T := TX12) (N := 44) (ci := 12) rfl gs_131 (by decide) (by decide) rfl rfl rfl (Nat.le_of_ble_eq_true rfl) dX12_town_97 (fun M42 hI p43 => ?_)
        obtain ⟨hI, hW⟩ := hI
        obtain ⟨fp43, xp43, yp43⟩ := p43
        have hF := hF.call fp43 (by decide)
        have tM42_131_14 : M42 131 14 = M41 131 14 := fp43.fk (by decide) (by decide)
        have tM42_131_15 : M42 131 15 = M41 131 15 := fp43.fk (by decide) (by decide)
        have tM42_131_4 : M42 131 4 = M41 131 4 := fp43.fk (by decide) (by decide)
        obtain ⟨hL, xp43⟩ := xp43
        obtain ⟨qp43_0, qp43_1, qp43_2, qp43_3, qp43_4, qp43_5, qp43_6, qp43_7, qp43_8, qp43_9, qp43_10⟩ := xp43
        have kbM42 : 0 ≤ M42 131 12 ∧ M42 131 12 ≤ 4 := hI.at (show Bd 131 12 = (0, 4) from rfl)
        have hT : Tk M42 := qp43_7
        clear qp43_7
        have lbqp43_10 : M41 131 12 ≤ 4 * M42 131 12 := by omega
        have lpqp43_10 : M41 131 9 + 1 ≤ M42 131 9 + M42 131 12 := by omega
        clear qp43_10
        refine z_loc [0] (ls' := [(0, .ref (ad 131))]) rfl ?_
        have q45 : u30 = M33 131 6 := eu30.trans ((fp34.t6 (by decide)) : M33 131 6 = _).symm
        have q46 : u30 = M35 131 6 := q45.trans ((fp36.t6 (by decide)) : M35 131 6 = _).symm
        have q47 : u30 = M38 131 6 := q46.trans ((fp39.t6 (by decide)) : M38 131 6 = _).symm
        have q48 : u30 = M41 131 6 := q47.trans (f40 131 6 (fun q => absurd q.1 (by decide))).symm
        have q49 : u30 = M42 131 6 := q48.trans ((fp43.t6 (by decide)) : M42 131 6 = _).symm
        have q50 : u31 = M33 131 4 := eu31.trans ((fp34.fk (by decide) (by decide)) : M33 131 4 = _).symm
        have q51 : u31 = M35 131 4 := q50.trans ((fp36.fk (by decide) (by decide)) : M35 131 4 = _).symm
        have q52 : u31 = M38 131 4 := q51.trans ((fp39.fk (by decide) (by decide)) : M38 131 4 = _).symm
        have q53 : u31 = M41 131 4 := q52.trans (f40 131 4 (fun q => absurd q.1 (by decide))).symm
        have q54 : u31 = M42 131 4 := q53.trans ((fp43.fk (by decide) (by decide)) : M42 131 4 = _).symm
        suffices key100 : ∀ (n : Nat) (M44 : Mem), Inv M44 → WFk M44 → Fr [131, 132, 133, 231, 232, 233, 234] M M44 → (0 ≤ M44 131 9 ∧ M44 131 9 ≤ M44 131 8 ∧ M44 131 8 ≤ M44 131 7 ∧ M44 131 7 ≤ 900) → (M44 131 16 = 0) → (M44 133 6 ≤ M44 131 9) → (1 ≤ M44 133 1) → (0 ≤ M44 131 12 ∧ M44 131 12 ≤ 4) → (Wl M44) → (Tk M44) → (M44 131 6 = 0) → (LnI (begF (UTR M x0) x0) (tR M44)) → (M44 131 4 = 0) → 4900 - 1000 * M44 131 12 - M44 131 9 < (n : Int) → Z D cy ad p l e (RMh 87) s m args below meth c A 3 0 0 Q 100 [(0, .ref (ad 131))] [] M44 from key100 4901 M42 hI hW hF (by omega) (by omega) (by omega) (by omega) (by omega) hL hT (by omega) (lnI_0 (by unfold begF; rw [← t3]; exact yp43)) (by omega) (by omega)
        intro n100
        induction n100 with
        | zero => intro M44 hI hW hF i100_0 i100_1 i100_2 i100_3 i100_4 i100_5 i100_6 i100_7 i100_8 i100_9 hn100; exfalso; omega
        | succ n100 ih100 =>
          intro M44 hI hW hF i100_0 i100_1 i100_2 i100_3 i100_4 i100_5 i100_6 i100_7 i100_8 i100_9 hn100
          obtain ⟨u55, eu55⟩ : ∃ v : Int, v = M44 131 12 := ⟨_, rfl⟩
          have ku55 : 0 ≤ u55 ∧ u55 ≤ 4 := by have := hI.at (show Bd 131 12 = (0, 4) from rfl); omega
          obtain ⟨u56, eu56⟩ : ∃ v : Int, v = M44 131 9 := ⟨_, rfl⟩
          have ku56 : 0 ≤ u56 ∧ u56 ≤ 900 := by have := hI.at (show Bd 131 9 = (0, 900) from rfl); omega
          obtain ⟨u57, eu57⟩ : ∃ v : Int, v = M44 131 6 := ⟨_, rfl⟩
          have ku57 : 0 ≤ u57 ∧ u57 ≤ 900 := by have := hI.at (show Bd 131 6 = (0, 900) from rfl); omega
          obtain ⟨u58, eu58⟩ : ∃ v : Int, v = M44 131 4 := ⟨_, rfl⟩
          have ku58 : 0 ≤ u58 ∧ u58 ≤ 3 := by have := hI.at (show Bd 131 4 = (0, 3) from rfl); omega
          have hL := i100_5
          have hT := i100_6
          refine z_aload_n F dX12_town_100 rfl (q := 0) rfl ?_
          refine gf_X12_108 F hI gs_131 rfl bd_131_12 dX12_town_101 (fun v59 ev59 av59 bv59 => ?_)
          have zv59 : u55 = v59 := eu55.trans ev59.symm
          subst zv59
          refine z_if_ne (tgt := 121) F dX12_town_104 (by decide +kernel) (by omega) (fun c60 => ?_) (fun c60 => ?_)
          · have t4 : townF (UTR M x0) x0 = tR M44 := townF_eq (lnI_e i100_8 (Or.inl (by rw [tR_1, vR_fl]; omega)))
            refine z_aload_n F dX12_town_121 rfl (q := 0) rfl ?_
            refine z_aload_n F dX12_town_122 rfl (q := 0) rfl ?_
            refine gf_X12_108 F hI gs_131 rfl bd_131_12 dX12_town_123 (fun v61 ev61 av61 bv61 => ?_)
            have zv61 : u55 = v61 := eu55.trans ev61.symm
            subst zv61
            refine pf_X12_270 F hI gs_131 rfl bd_131_14 rfl rfl dX12_town_126 (by omega) (by omega) (fun M63 hI sf62 f62 => ?_)
            have tM63_131_7 : M63 131 7 = M44 131 7 := f62 131 7 (fun q => absurd q.2 (by decide))
            have tM63_131_8 : M63 131 8 = M44 131 8 := f62 131 8 (fun q => absurd q.2 (by decide))
            have tM63_131_9 : M63 131 9 = M44 131 9 := f62 131 9 (fun q => absurd q.2 (by decide))
            have tM63_131_10 : M63 131 10 = M44 131 10 := f62 131 10 (fun q => absurd q.2 (by decide))
            have tM63_131_12 : M63 131 12 = M44 131 12 := f62 131 12 (fun q => absurd q.2 (by decide))
            have tM63_131_16 : M63 131 16 = M44 131 16 := f62 131 16 (fun q => absurd q.2 (by decide))
            have tM63_131_13 : M63 131 13 = M44 131 13 := f62 131 13 (fun q => absurd q.2 (by decide))
            have tM63_131_15 : M63 131 15 = M44 131 15 := f62 131 15 (fun q => absurd q.2 (by decide))
            have tM63_131_4 : M63 131 4 = M44 131 4 := f62 131 4 (fun q => absurd q.2 (by decide))
            have tM63_133_6 : M63 133 6 = M44 133 6 := f62 133 6 (fun q => absurd q.1 (by decide))
            have tM63_133_1 : M63 133 1 = M44 133 1 := f62 133 1 (fun q => absurd q.1 (by decide))
            have hT := tk_eq hT (f62 131 8 (fun q => absurd q.2 (by decide))) (f62 131 9 (fun q => absurd q.2 (by decide))) (f62 131 10 (fun q => absurd q.2 (by decide)))
            have hq9 := wl_ws f62 (by decide)
            have hL := hq9.2 hL
            have cM63 := hq9.1
            clear hq9
            have hF := hF.wrf f62 (by decide) (by decide)
            have hW : WFk M63 := hW.site f62 (by decide)
            refine z_aload_n F dX12_town_129 rfl (q := 0) rfl ?_
            refine z_aload_n F dX12_town_130 rfl (q := 0) rfl ?_
            refine gf_X12_108 F hI gs_131 rfl bd_131_12 dX12_town_131 (fun v64 ev64 av64 bv64 => ?_)
            have q65 : u55 = M63 131 12 := eu55.trans (f62 131 12 (fun q => absurd q.2 (by decide))).symm
            have zv64 : u55 = v64 := q65.trans ev64.symm
            subst zv64
            refine z_if_ne (tgt := 141) F dX12_town_134 (by decide +kernel) (by omega) (fun c66 => ?_) (fun c66 => by exfalso; omega)
            refine z_aload_n F dX12_town_141 rfl (q := 0) rfl ?_
            refine gf_X12_111 F hI gs_131 rfl bd_131_13 dX12_town_142 (fun v67 ev67 av67 bv67 => ?_)
            refine pf_X12_26 F hI gs_131 rfl bd_131_15 rfl rfl dX12_town_145 (by omega) (by omega) (fun M69 hI sf68 f68 => ?_)
            have tM69_131_7 : M69 131 7 = M63 131 7 := f68 131 7 (fun q => absurd q.2 (by decide))
            have tM69_131_8 : M69 131 8 = M63 131 8 := f68 131 8 (fun q => absurd q.2 (by decide))
            have tM69_131_9 : M69 131 9 = M63 131 9 := f68 131 9 (fun q => absurd q.2 (by decide))
            have tM69_131_10 : M69 131 10 = M63 131 10 := f68 131 10 (fun q => absurd q.2 (by decide))
            have tM69_131_12 : M69 131 12 = M63 131 12 := f68 131 12 (fun q => absurd q.2 (by decide))
            have tM69_131_16 : M69 131 16 = M63 131 16 := f68 131 16 (fun q => absurd q.2 (by decide))
            have tM69_131_13 : M69 131 13 = M63 131 13 := f68 131 13 (fun q => absurd q.2 (by decide))
            have tM69_131_14 : M69 131 14 = M63 131 14 := f68 131 14 (fun q => absurd q.2 (by decide))
            have tM69_131_4 : M69 131 4 = M63 131 4 := f68 131 4 (fun q => absurd q.2 (by decide))
            have tM69_133_6 : M69 133 6 = M63 133 6 := f68 133 6 (fun q => absurd q.1 (by decide))
            have tM69_133_1 : M69 133 1 = M63 133 1 := f68 133 1 (fun q => absurd q.1 (by decide))
            have hT := tk_eq hT (f68 131 8 (fun q => absurd q.2 (by decide))) (f68 131 9 (fun q => absurd q.2 (by decide))) (f68 131 10 (fun q => absurd q.2 (by decide)))
            have hq9 := wl_ws f68 (by decide)
            have hL := hq9.2 hL
            have cM69 := hq9.1
            clear hq9
            have hF := hF.wrf f68 (by decide) (by decide)
            have hW : WFk M69 := hW.site f68 (by decide)
            refine z_aload_n F dX12_town_148 rfl (q := 0) rfl ?_
            refine gf_X12_108 F hI gs_131 rfl bd_131_12 dX12_town_149 (fun v70 ev70 av70 bv70 => ?_)
            have q71 : u55 = M69 131 12 := q65.trans (f68 131 12 (fun q => absurd q.2 (by decide))).symm
            have zv70 : u55 = v70 := q71.trans ev70.symm
            subst zv70
            refine z_if_eq (tgt := 163) F dX12_town_152 (by decide +kernel) (by omega) (fun c72 => by exfalso; omega) (fun c72 => ?_)
            refine z_bipush F dX12_town_155 (by decide +kernel) ?_
            refine z_aload_n F dX12_town_157 rfl (q := 0) rfl ?_
            refine gf_X12_108 F hI gs_131 rfl bd_131_12 dX12_town_158 (fun v73 ev73 av73 bv73 => ?_)
            have zv73 : u55 = v73 := q71.trans ev73.symm
            subst zv73
            refine z_isub F dX12_town_161 ?_
            have q74 : u57 = M63 131 6 := eu57.trans (f62 131 6 (fun q => absurd q.2 (by decide))).symm
            have q75 : u57 = M69 131 6 := q74.trans (f68 131 6 (fun q => absurd q.2 (by decide))).symm
            have q76 : u55 = M69 131 14 := sf62.symm.trans (f68 131 14 (fun q => absurd q.2 (by decide))).symm
            have q77 : u58 = M63 131 4 := eu58.trans (f62 131 4 (fun q => absurd q.2 (by decide))).symm
            have q78 : u58 = M69 131 4 := q77.trans (f68 131 4 (fun q => absurd q.2 (by decide))).symm
            exact hret _ _ 162 _ (by omega) ⟨hI, hW⟩ ⟨⟨by omega, by omega⟩, hF, (by omega), (fun hq => ⟨by rw [t4]; unfold ansT; rw [if_neg (show ¬ s_fl (tR M44).1 = 0 from by rw [tR_1, vR_fl]; omega), tR_1, vR_fl]; omega, by rw [t4, tR_1, vR_fl]; omega, by rw [t4]; unfold fpT; rw [if_neg (show ¬ s_fl (tR M44).1 = 0 from by rw [tR_1, vR_fl]; omega), tR_1, vR_fp (by omega)]; omega, fun hs => absurd (by rw [t4] at hs; exact hs) (show ¬ s_fl (tR M44).1 = 0 from by rw [tR_1, vR_fl]; omega)⟩)⟩ dX12_town_162
          · refine z_aload_n F dX12_town_107 rfl (q := 0) rfl ?_
            refine gf_X12_88 F hI gs_131 rfl bd_131_10 dX12_town_108 (fun v79 ev79 av79 bv79 => ?_)
            refine z_if_eq (tgt := 121) F dX12_town_111 (by decide +kernel) (by omega) (fun c80 => ?_) (fun c80 => ?_)
            · have t4 : townF (UTR M x0) x0 = tR M44 := townF_eq (lnI_e i100_8 (Or.inr (by rw [tR_1, (vR_tk (by omega)).1]; unfold tkR; omega)))
              refine z_aload_n F dX12_town_121 rfl (q := 0) rfl ?_
              refine z_aload_n F dX12_town_122 rfl (q := 0) rfl ?_
              refine gf_X12_108 F hI gs_131 rfl bd_131_12 dX12_town_123 (fun v81 ev81 av81 bv81 => ?_)
              have zv81 : u55 = v81 := eu55.trans ev81.symm
              subst zv81
              refine pf_X12_270 F hI gs_131 rfl bd_131_14 rfl rfl dX12_town_126 (by omega) (by omega) (fun M83 hI sf82 f82 => ?_)
              have tM83_131_7 : M83 131 7 = M44 131 7 := f82 131 7 (fun q => absurd q.2 (by decide))
              have tM83_131_8 : M83 131 8 = M44 131 8 := f82 131 8 (fun q => absurd q.2 (by decide))
              have tM83_131_9 : M83 131 9 = M44 131 9 := f82 131 9 (fun q => absurd q.2 (by decide))
              have tM83_131_10 : M83 131 10 = M44 131 10 := f82 131 10 (fun q => absurd q.2 (by decide))
              have tM83_131_12 : M83 131 12 = M44 131 12 := f82 131 12 (fun q => absurd q.2 (by decide))
              have tM83_131_16 : M83 131 16 = M44 131 16 := f82 131 16 (fun q => absurd q.2 (by decide))
              have tM83_131_13 : M83 131 13 = M44 131 13 := f82 131 13 (fun q => absurd q.2 (by decide))
              have tM83_131_15 : M83 131 15 = M44 131 15 := f82 131 15 (fun q => absurd q.2 (by decide))
              have tM83_131_4 : M83 131 4 = M44 131 4 := f82 131 4 (fun q => absurd q.2 (by decide))
              have tM83_133_6 : M83 133 6 = M44 133 6 := f82 133 6 (fun q => absurd q.1 (by decide))
              have tM83_133_1 : M83 133 1 = M44 133 1 := f82 133 1 (fun q => absurd q.1 (by decide))
              have hT := tk_eq hT (f82 131 8 (fun q => absurd q.2 (by decide))) (f82 131 9 (fun q => absurd q.2 (by decide))) (f82 131 10 (fun q => absurd q.2 (by decide)))
              have hq9 := wl_ws f82 (by decide)
              have hL := hq9.2 hL
              have cM83 := hq9.1
              clear hq9
              have hF := hF.wrf f82 (by decide) (by decide)
              have hW : WFk M83 := hW.site f82 (by decide)
              refine z_aload_n F dX12_town_129 rfl (q := 0) rfl ?_
              refine z_aload_n F dX12_town_130 rfl (q := 0) rfl ?_
              refine gf_X12_108 F hI gs_131 rfl bd_131_12 dX12_town_131 (fun v84 ev84 av84 bv84 => ?_)
              have q85 : u55 = M83 131 12 := eu55.trans (f82 131 12 (fun q => absurd q.2 (by decide))).symm
              have zv84 : u55 = v84 := q85.trans ev84.symm
              subst zv84
              refine z_if_ne (tgt := 141) F dX12_town_134 (by decide +kernel) (by omega) (fun c86 => by exfalso; omega) (fun c86 => ?_)
              refine z_iconst F dX12_town_137 ?_
              refine z_goto (tgt := 145) F dX12_town_138 (by decide +kernel) ?_
              refine pf_X12_26 F hI gs_131 rfl bd_131_15 rfl rfl dX12_town_145 (by omega) (by omega) (fun M88 hI sf87 f87 => ?_)
              have tM88_131_7 : M88 131 7 = M83 131 7 := f87 131 7 (fun q => absurd q.2 (by decide))
              have tM88_131_8 : M88 131 8 = M83 131 8 := f87 131 8 (fun q => absurd q.2 (by decide))
              have tM88_131_9 : M88 131 9 = M83 131 9 := f87 131 9 (fun q => absurd q.2 (by decide))
              have tM88_131_10 : M88 131 10 = M83 131 10 := f87 131 10 (fun q => absurd q.2 (by decide))
              have tM88_131_12 : M88 131 12 = M83 131 12 := f87 131 12 (fun q => absurd q.2 (by decide))
              have tM88_131_16 : M88 131 16 = M83 131 16 := f87 131 16 (fun q => absurd q.2 (by decide))
              have tM88_131_13 : M88 131 13 = M83 131 13 := f87 131 13 (fun q => absurd q.2 (by decide))
              have tM88_131_14 : M88 131 14 = M83 131 14 := f87 131 14 (fun q => absurd q.2 (by decide))
              have tM88_131_4 : M88 131 4 = M83 131 4 := f87 131 4 (fun q => absurd q.2 (by decide))
              have tM88_133_6 : M88 133 6 = M83 133 6 := f87 133 6 (fun q => absurd q.1 (by decide))
              have tM88_133_1 : M88 133 1 = M83 133 1 := f87 133 1 (fun q => absurd q.1 (by decide))
              have hT := tk_eq hT (f87 131 8 (fun q => absurd q.2 (by decide))) (f87 131 9 (fun q => absurd q.2 (by decide))) (f87 131 10 (fun q => absurd q.2 (by decide)))
              have hq9 := wl_ws f87 (by decide)
              have hL := hq9.2 hL
              have cM88 := hq9.1
              clear hq9
              have hF := hF.wrf f87 (by decide) (by decide)
              have hW : WFk M88 := hW.site f87 (by decide)
              refine z_aload_n F dX12_town_148 rfl (q := 0) rfl ?_
              refine gf_X12_108 F hI gs_131 rfl bd_131_12 dX12_town_149 (fun v89 ev89 av89 bv89 => ?_)
              have q90 : u55 = M88 131 12 := q85.trans (f87 131 12 (fun q => absurd q.2 (by decide))).symm
              have zv89 : u55 = v89 := q90.trans ev89.symm
              subst zv89
              refine z_if_eq (tgt := 163) F dX12_town_152 (by decide +kernel) (by omega) (fun c91 => ?_) (fun c91 => by exfalso; omega)
              refine z_iconst F dX12_town_163 ?_
              refine z_istore_n F dX12_town_164 rfl (by decide) (ls' := [(2, ii 0), (0, .ref (ad 131))]) rfl ?_
              refine z_loc [1, 0] (ls' := [(0, .ref (ad 131)), (2, ii 0)]) rfl ?_
              have q94 : u57 = M83 131 6 := eu57.trans (f82 131 6 (fun q => absurd q.2 (by decide))).symm
              have q95 : u57 = M88 131 6 := q94.trans (f87 131 6 (fun q => absurd q.2 (by decide))).symm
              have q96 : u55 = M88 131 14 := sf82.symm.trans (f87 131 14 (fun q => absurd q.2 (by decide))).symm
              have q97 : u58 = M83 131 4 := eu58.trans (f82 131 4 (fun q => absurd q.2 (by decide))).symm
              have q98 : u58 = M88 131 4 := q97.trans (f87 131 4 (fun q => absurd q.2 (by decide))).symm
              obtain ⟨M0, hM0⟩ : ∃ m : Mem, m = M88 := ⟨_, rfl⟩
              have hW1 : WFk M0 := by rw [hM0]; exact hW
              have hI1 : Inv M0 := by rw [hM0]; exact hI
              have hK : Kn (M0 133) := by rw [hM0]; exact ⟨hL, fun _ => by omega⟩
              suffices key165 : ∀ (n : Nat) (y93 : Int) (M92 : Mem), Inv M92 → Fr [131, 132, 133, 231, 232, 233, 234] M M92 → 0 ≤ y93 → y93 ≤ 1300 → (∀ j : Nat, (j : Int) < y93 → M92 132 j = M0 133 j) → (∀ b : Nat, M92 134 b = M0 134 b) → (∀ b : Nat, M92 133 b = M0 133 b) → (M92 131 6 = 0) → (M92 131 14 = 0) → (M92 131 15 = -1) → (M92 131 4 = 0) → 1300 - y93 < (n : Int) → Z D cy ad p l e (RMh 87) s m args below meth c A 3 0 0 Q 165 [(0, .ref (ad 131)), (2, ii y93)] [] M92 from key165 1301 0 M88 hI hF (by omega) (by omega) (fun j hj => by omega) (fun b => by rw [hM0]) (fun b => by rw [hM0]) (by omega) (by omega) (by omega) (by omega) (by omega)
              intro n165
              induction n165 with
              | zero => intro y93 M92 hI hF ay93 by93 i165_0 i165_1 i165_2 i165_3 i165_4 i165_5 i165_6 hn165; exfalso; omega
              | succ n165 ih165 =>
                intro y93 M92 hI hF ay93 by93 i165_0 i165_1 i165_2 i165_3 i165_4 i165_5 i165_6 hn165
                obtain ⟨u99, eu99⟩ : ∃ v : Int, v = M92 131 6 := ⟨_, rfl⟩
                have ku99 : 0 ≤ u99 ∧ u99 ≤ 900 := by have := hI.at (show Bd 131 6 = (0, 900) from rfl); omega
                obtain ⟨u100, eu100⟩ : ∃ v : Int, v = M92 131 14 := ⟨_, rfl⟩
                have ku100 : 0 ≤ u100 ∧ u100 ≤ 4 := by have := hI.at (show Bd 131 14 = (0, 4) from rfl); omega
                obtain ⟨u101, eu101⟩ : ∃ v : Int, v = M92 131 15 := ⟨_, rfl⟩
                have ku101 : (-1) ≤ u101 ∧ u101 ≤ 900 := by have := hI.at (show Bd 131 15 = (-1, 900) from rfl); omega
                obtain ⟨u102, eu102⟩ : ∃ v : Int, v = M92 131 4 := ⟨_, rfl⟩
                have ku102 : 0 ≤ u102 ∧ u102 ≤ 3 := by have := hI.at (show Bd 131 4 = (0, 3) from rfl); omega
                refine z_iload_n F dX12_town_165 rfl (q := 1) rfl ?_
                refine z_sipush F dX12_town_166 (by decide +kernel) ?_
                refine z_icmp_ge (tgt := 190) F dX12_town_169 (by decide +kernel) (by omega) (by omega) (fun c103 => ?_) (fun c103 => ?_)
                · have hW : WFk M92 := wf_town hW1 hI1 hK (fun j hj => i165_0 j (by omega)) i165_1
                  refine z_aload_n F dX12_town_190 rfl (q := 0) rfl ?_
                  refine rf_X12_9 F gs_131 rfl dX12_town_191 ?_
                  refine z_iconst F dX12_town_194 ?_
                  refine z_iald F hI gs_132 (by omega) (by omega) (by decide) (show Bd 132 0 = (-2147483648, 2147483647) from rfl) dX12_town_195 (fun v104 (ev104 : v104 = M92 132 0) av104 bv104 => ?_)
                  have zz : v104 = M44 133 0 := ev104.trans ((i165_0 0 (by omega)).trans (by rw [hM0]; exact ((f87 133 0 (fun q => absurd q.1 (by decide))).trans (f82 133 0 (fun q => absurd q.1 (by decide))))))
                  exact hret _ _ 196 _ (by omega) ⟨hI, hW⟩ ⟨⟨by omega, by omega⟩, hF, (by omega), (fun hq => ⟨by rw [t4]; unfold ansT; rw [if_pos (show s_fl (tR M44).1 = 0 from by rw [tR_1, vR_fl]; omega), tR_2 (by omega)]; exact zz, by rw [t4, tR_1, vR_fl]; omega, by rw [t4]; unfold fpT; rw [if_pos (show s_fl (tR M44).1 = 0 from by rw [tR_1, vR_fl]; omega)]; omega, fun hs => by rw [t4, tR_1]; exact vR_f0 (by omega)⟩)⟩ dX12_town_196
                · refine z_aload_n F dX12_town_172 rfl (q := 0) rfl ?_
                  refine rf_X12_9 F gs_131 rfl dX12_town_173 ?_
                  refine z_iload_n F dX12_town_176 rfl (q := 1) rfl ?_
                  refine z_aload_n F dX12_town_177 rfl (q := 0) rfl ?_
                  refine rf_X12_13 F gs_131 rfl dX12_town_178 ?_
                  refine z_iload_n F dX12_town_181 rfl (q := 1) rfl ?_
                  refine z_ialdB F hI gs_133 (by omega) (by omega) (by decide) kn_w dX12_town_182 (fun v105 ev105 av105 bv105 rv105 => ?_)
                  refine z_iastB F hI gs_132 (by omega) (by omega) (by decide) dX12_town_183 (bq_in (Eq.trans (rfl : Bd 132 _ = kn _) (Eq.symm (rfl : Bd 133 _ = kn _))) av105 bv105) (fun M107 hI sf106 f106 => ?_)
                  have tM107_131_7 : M107 131 7 = M92 131 7 := f106 131 7 (fun q => absurd q.1 (by decide))
                  have tM107_131_8 : M107 131 8 = M92 131 8 := f106 131 8 (fun q => absurd q.1 (by decide))
                  have tM107_131_9 : M107 131 9 = M92 131 9 := f106 131 9 (fun q => absurd q.1 (by decide))
                  have tM107_131_10 : M107 131 10 = M92 131 10 := f106 131 10 (fun q => absurd q.1 (by decide))
                  have tM107_131_12 : M107 131 12 = M92 131 12 := f106 131 12 (fun q => absurd q.1 (by decide))
                  have tM107_131_16 : M107 131 16 = M92 131 16 := f106 131 16 (fun q => absurd q.1 (by decide))
                  have tM107_131_13 : M107 131 13 = M92 131 13 := f106 131 13 (fun q => absurd q.1 (by decide))
                  have tM107_131_14 : M107 131 14 = M92 131 14 := f106 131 14 (fun q => absurd q.1 (by decide))
                  have tM107_131_15 : M107 131 15 = M92 131 15 := f106 131 15 (fun q => absurd q.1 (by decide))
                  have tM107_131_4 : M107 131 4 = M92 131 4 := f106 131 4 (fun q => absurd q.1 (by decide))
                  have hF := hF.wrs f106 (by decide) (by decide)
                  refine z_iincN F dX12_town_184 (q := 1) rfl (by decide) (fun v108 ev108 => ?_)
                  refine z_eq (ls' := [(2, ii v108), (0, .ref (ad 131))]) rfl rfl rfl ?_
                  refine z_goto (tgt := 165) F dX12_town_187 (by decide +kernel) ?_
                  refine z_loc [1, 0] (ls' := [(0, .ref (ad 131)), (2, ii v108)]) rfl ?_
                  have q109 : u99 = M107 131 6 := eu99.trans (f106 131 6 (fun q => absurd q.1 (by decide))).symm
                  have q110 : u100 = M107 131 14 := eu100.trans (f106 131 14 (fun q => absurd q.1 (by decide))).symm
                  have q111 : u101 = M107 131 15 := eu101.trans (f106 131 15 (fun q => absurd q.1 (by decide))).symm
                  have q112 : u102 = M107 131 4 := eu102.trans (f106 131 4 (fun q => absurd q.1 (by decide))).symm
                  have nb113 : ∀ j : Nat, (j : Int) < v108 → M107 132 j = M0 133 j := by
                    intro j hj
                    by_cases hq : j = y93.toNat
                    · subst hq; rw [sf106, ← i165_2]; assumption
                    · rw [f106 132 j (fun q => hq q.2)]; exact i165_0 j (by omega)
                  exact ih165 v108 M107 hI hF (by omega) (by omega) nb113 (fun b => (f106 134 b (fun q => absurd q.1 (by decide))).trans (i165_1 b)) (fun b => (f106 133 b (fun q => absurd q.1 (by decide))).trans (i165_2 b)) (by omega) (by omega) (by omega) (by omega) (by omega)
            · refine z_aload_n F dX12_town_114 rfl (q := 0) rfl ?_
              refine zv_v (rest := []) F (kp_X12_readLine l M44 ⟨hI, hW⟩ ⟨by omega, by omega, by omega, by omega, hT⟩ (by omega) hL (by omega)) cs_X12_267 (T := TX12) (N := 44) (ci := 12) rfl gs_131 (by decide) (by decide) rfl rfl rfl (Nat.le_of_ble_eq_true rfl) dX12_town_115 (fun M114 hI p115 => ?_)
              obtain ⟨hI, hW⟩ := hI
              obtain ⟨fp115, xp115, yp115⟩ := p115
              have hF := hF.call fp115 (by decide)
              have tM114_131_14 : M114 131 14 = M44 131 14 := fp115.fk (by decide) (by decide)
              have tM114_131_15 : M114 131 15 = M44 131 15 := fp115.fk (by decide) (by decide)
              have tM114_131_4 : M114 131 4 = M44 131 4 := fp115.fk (by decide) (by decide)
              obtain ⟨hL, xp115⟩ := xp115
              obtain ⟨qp115_0, qp115_1, qp115_2, qp115_3, qp115_4, qp115_5, qp115_6, qp115_7, qp115_8, qp115_9, qp115_10⟩ := xp115
              have kbM114 : 0 ≤ M114 131 12 ∧ M114 131 12 ≤ 4 := hI.at (show Bd 131 12 = (0, 4) from rfl)
              have hT : Tk M114 := qp115_7
              clear qp115_7
              have lbqp115_10 : M44 131 12 ≤ 4 * M114 131 12 := by omega
              have lpqp115_10 : M44 131 9 + 1 ≤ M114 131 9 + M114 131 12 := by omega
              clear qp115_10
              refine z_goto (tgt := 100) F dX12_town_118 (by decide +kernel) ?_
              refine z_loc [0] (ls' := [(0, .ref (ad 131))]) rfl ?_
              have q116 : u57 = M114 131 6 := eu57.trans ((fp115.t6 (by decide)) : M114 131 6 = _).symm
              have q117 : u58 = M114 131 4 := eu58.trans ((fp115.fk (by decide) (by decide)) : M114 131 4 = _).symm
              exact ih100 M114 hI hW hF (by omega) (by omega) (by omega) (by omega) (by omega) hL hT (by omega) (lnI_s i100_8 (by rw [tR_1, vR_fl]; omega) (by rw [tR_1, (vR_tk (by omega)).1]; unfold tkR; omega) (yp115 (by omega))) (by omega) (by omega)
      · refine z_aload_n F dX12_town_59 rfl (q := 0) rfl ?_
        refine rf_X12_13 F gs_131 rfl dX12_town_60 ?_
        refine z_iload_n F dX12_town_63 rfl (q := 1) rfl ?_
        refine z_iconst F dX12_town_64 ?_
        refine z_iastB F hI gs_133 (by omega) (by omega) (by decide) dX12_town_65 kn_0 (fun M119 hI sf118 f118 => ?_)
        have tM119_131_7 : M119 131 7 = M20 131 7 := f118 131 7 (fun q => absurd q.1 (by decide))
        have tM119_131_8 : M119 131 8 = M20 131 8 := f118 131 8 (fun q => absurd q.1 (by decide))
        have tM119_131_9 : M119 131 9 = M20 131 9 := f118 131 9 (fun q => absurd q.1 (by decide))
        have tM119_131_10 : M119 131 10 = M20 131 10 := f118 131 10 (fun q => absurd q.1 (by decide))
        have tM119_131_12 : M119 131 12 = M20 131 12 := f118 131 12 (fun q => absurd q.1 (by decide))
        have tM119_131_16 : M119 131 16 = M20 131 16 := f118 131 16 (fun q => absurd q.1 (by decide))
        have tM119_131_13 : M119 131 13 = M20 131 13 := f118 131 13 (fun q => absurd q.1 (by decide))
        have tM119_131_14 : M119 131 14 = M20 131 14 := f118 131 14 (fun q => absurd q.1 (by decide))
        have tM119_131_15 : M119 131 15 = M20 131 15 := f118 131 15 (fun q => absurd q.1 (by decide))
        have tM119_131_4 : M119 131 4 = M20 131 4 := f118 131 4 (fun q => absurd q.1 (by decide))
        have hF := hF.wrn f118 (by decide) (Or.inr (by decide))
        have hW : WFk M119 := hW.site f118 (by decide)
        refine z_iincN F dX12_town_66 (q := 1) rfl (by decide) (fun v120 ev120 => ?_)
        refine z_eq (ls' := [(2, ii v120), (0, .ref (ad 131))]) rfl rfl rfl ?_
        refine z_goto (tgt := 52) F dX12_town_69 (by decide +kernel) ?_
        refine z_loc [1, 0] (ls' := [(0, .ref (ad 131)), (2, ii v120)]) rfl ?_
        have q121 : u30 = M119 131 6 := eu30.trans (f118 131 6 (fun q => absurd q.1 (by decide))).symm
        have q122 : u31 = M119 131 4 := eu31.trans (f118 131 4 (fun q => absurd q.1 (by decide))).symm
        exact ih52 v120 M119 hI hW hF (by omega) (by omega) (by omega) (by omega) (by omega) (by omega) (fun hq => if h6 : y21 = 6 then (by have h7 := sf118; rw [h6] at h7; exact h7) else (f118 133 6 (fun q => by have := q.2; omega)).trans (i52_4 (by omega))) (by omega) (fun j h => if hq : j = (y21).toNat then (by rw [hq]; exact sf118) else (f118 133 j (fun q => hq q.2)).trans (i52_6 j (by omega))) (by omega) (by omega)
  · refine z_aload_n F dX12_town_19 rfl (q := 0) rfl ?_
    refine z_iconst F dX12_town_20 ?_
    refine zv_i (rest := []) F (k_X12_fails l M3 ⟨hI, hW⟩ 1 (by omega) (by omega)) cs_X12_262 (T := TX12) (N := 44) (ci := 12) rfl gs_131 (by decide) (by decide) rfl rfl rfl (Nat.le_of_ble_eq_true rfl) dX12_town_21 (fun v123 M124 rv123 hI p125 => ?_)
    obtain ⟨hI, hW⟩ := hI
    obtain ⟨⟨av123, bv123⟩, fp125, xp125⟩ := p125
    have hF := hF.call fp125 (by decide)
    have qp125_0 := xp125
    have kbM124 : 0 ≤ M124 131 12 ∧ M124 131 12 ≤ 4 := hI.at (show Bd 131 12 = (0, 4) from rfl)
    have q126 : u1 = M124 131 6 := q5.trans ((fp125.t6 (by decide)) : M124 131 6 = _).symm
    exact hret _ _ 24 _ (by omega) ⟨hI, hW⟩ ⟨⟨by omega, by omega⟩, hF, (by omega), (fun hq => by exfalso; omega)⟩ dX12_town_24
