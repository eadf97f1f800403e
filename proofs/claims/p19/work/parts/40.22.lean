theorem dX6_advance_0 : decode cX6_advance 0 = .ok (.aload_n 0, 1) := by decide +kernel
theorem dX6_advance_1 : decode cX6_advance 1 = .ok (.getfield 33, 3) := by decide +kernel
theorem dX6_advance_100 : decode cX6_advance 100 = .ok (.iconst 3, 1) := by decide +kernel
theorem dX6_advance_101 : decode cX6_advance 101 = .ok (.if_icmp .eq 11, 3) := by decide +kernel
theorem dX6_advance_104 : decode cX6_advance 104 = .ok (.aload_n 0, 1) := by decide +kernel
theorem dX6_advance_105 : decode cX6_advance 105 = .ok (.getfield 48, 3) := by decide +kernel
theorem dX6_advance_108 : decode cX6_advance 108 = .ok (.iconst 4, 1) := by decide +kernel
theorem dX6_advance_109 : decode cX6_advance 109 = .ok (.if_icmp .ne 29, 3) := by decide +kernel
theorem dX6_advance_11 : decode cX6_advance 11 = .ok (.aload_n 0, 1) := by decide +kernel
theorem dX6_advance_112 : decode cX6_advance 112 = .ok (.aload_n 0, 1) := by decide +kernel
theorem dX6_advance_113 : decode cX6_advance 113 = .ok (.aload_n 0, 1) := by decide +kernel
theorem dX6_advance_114 : decode cX6_advance 114 = .ok (.getfield 22, 3) := by decide +kernel
theorem dX6_advance_117 : decode cX6_advance 117 = .ok (.aload_n 0, 1) := by decide +kernel
theorem dX6_advance_118 : decode cX6_advance 118 = .ok (.getfield 33, 3) := by decide +kernel
theorem dX6_advance_12 : decode cX6_advance 12 = .ok (.getfield 22, 3) := by decide +kernel
theorem dX6_advance_121 : decode cX6_advance 121 = .ok (.baload, 1) := by decide +kernel
theorem dX6_advance_122 : decode cX6_advance 122 = .ok (.putfield 60, 3) := by decide +kernel
theorem dX6_advance_125 : decode cX6_advance 125 = .ok (.aload_n 0, 1) := by decide +kernel
theorem dX6_advance_126 : decode cX6_advance 126 = .ok (.dup, 1) := by decide +kernel
theorem dX6_advance_127 : decode cX6_advance 127 = .ok (.getfield 33, 3) := by decide +kernel
theorem dX6_advance_130 : decode cX6_advance 130 = .ok (.iconst 1, 1) := by decide +kernel
theorem dX6_advance_131 : decode cX6_advance 131 = .ok (.iadd, 1) := by decide +kernel
theorem dX6_advance_132 : decode cX6_advance 132 = .ok (.putfield 33, 3) := by decide +kernel
theorem dX6_advance_135 : decode cX6_advance 135 = .ok (.goto 106, 3) := by decide +kernel
theorem dX6_advance_138 : decode cX6_advance 138 = .ok (.aload_n 0, 1) := by decide +kernel
theorem dX6_advance_139 : decode cX6_advance 139 = .ok (.getfield 48, 3) := by decide +kernel
theorem dX6_advance_142 : decode cX6_advance 142 = .ok (.ifCond .eq 99, 3) := by decide +kernel
theorem dX6_advance_145 : decode cX6_advance 145 = .ok (.aload_n 0, 1) := by decide +kernel
theorem dX6_advance_146 : decode cX6_advance 146 = .ok (.getfield 48, 3) := by decide +kernel
theorem dX6_advance_149 : decode cX6_advance 149 = .ok (.istore_n 1, 1) := by decide +kernel
theorem dX6_advance_15 : decode cX6_advance 15 = .ok (.aload_n 0, 1) := by decide +kernel
theorem dX6_advance_150 : decode cX6_advance 150 = .ok (.aload_n 0, 1) := by decide +kernel
theorem dX6_advance_151 : decode cX6_advance 151 = .ok (.getfield 33, 3) := by decide +kernel
theorem dX6_advance_154 : decode cX6_advance 154 = .ok (.aload_n 0, 1) := by decide +kernel
theorem dX6_advance_155 : decode cX6_advance 155 = .ok (.getfield 30, 3) := by decide +kernel
theorem dX6_advance_158 : decode cX6_advance 158 = .ok (.if_icmp .ge 56, 3) := by decide +kernel
theorem dX6_advance_16 : decode cX6_advance 16 = .ok (.getfield 33, 3) := by decide +kernel
theorem dX6_advance_161 : decode cX6_advance 161 = .ok (.aload_n 0, 1) := by decide +kernel
theorem dX6_advance_162 : decode cX6_advance 162 = .ok (.getfield 22, 3) := by decide +kernel
theorem dX6_advance_165 : decode cX6_advance 165 = .ok (.aload_n 0, 1) := by decide +kernel
theorem dX6_advance_166 : decode cX6_advance 166 = .ok (.getfield 33, 3) := by decide +kernel
theorem dX6_advance_169 : decode cX6_advance 169 = .ok (.baload, 1) := by decide +kernel
theorem dX6_advance_170 : decode cX6_advance 170 = .ok (.invokestatic 63, 3) := by decide +kernel
theorem dX6_advance_173 : decode cX6_advance 173 = .ok (.iload_n 1, 1) := by decide +kernel
theorem dX6_advance_174 : decode cX6_advance 174 = .ok (.if_icmp .ne 40, 3) := by decide +kernel
theorem dX6_advance_177 : decode cX6_advance 177 = .ok (.aload_n 0, 1) := by decide +kernel
theorem dX6_advance_178 : decode cX6_advance 178 = .ok (.bipush 10, 2) := by decide +kernel
theorem dX6_advance_180 : decode cX6_advance 180 = .ok (.aload_n 0, 1) := by decide +kernel
theorem dX6_advance_181 : decode cX6_advance 181 = .ok (.getfield 60, 3) := by decide +kernel
theorem dX6_advance_184 : decode cX6_advance 184 = .ok (.imul, 1) := by decide +kernel
theorem dX6_advance_185 : decode cX6_advance 185 = .ok (.aload_n 0, 1) := by decide +kernel
theorem dX6_advance_186 : decode cX6_advance 186 = .ok (.getfield 22, 3) := by decide +kernel
theorem dX6_advance_189 : decode cX6_advance 189 = .ok (.aload_n 0, 1) := by decide +kernel
theorem dX6_advance_19 : decode cX6_advance 19 = .ok (.baload, 1) := by decide +kernel
theorem dX6_advance_190 : decode cX6_advance 190 = .ok (.getfield 33, 3) := by decide +kernel
theorem dX6_advance_193 : decode cX6_advance 193 = .ok (.baload, 1) := by decide +kernel
theorem dX6_advance_194 : decode cX6_advance 194 = .ok (.iadd, 1) := by decide +kernel
theorem dX6_advance_195 : decode cX6_advance 195 = .ok (.bipush 48, 2) := by decide +kernel
theorem dX6_advance_197 : decode cX6_advance 197 = .ok (.isub, 1) := by decide +kernel
theorem dX6_advance_198 : decode cX6_advance 198 = .ok (.putfield 60, 3) := by decide +kernel
theorem dX6_advance_20 : decode cX6_advance 20 = .ok (.bipush 10, 2) := by decide +kernel
theorem dX6_advance_201 : decode cX6_advance 201 = .ok (.aload_n 0, 1) := by decide +kernel
theorem dX6_advance_202 : decode cX6_advance 202 = .ok (.dup, 1) := by decide +kernel
theorem dX6_advance_203 : decode cX6_advance 203 = .ok (.getfield 33, 3) := by decide +kernel
theorem dX6_advance_206 : decode cX6_advance 206 = .ok (.iconst 1, 1) := by decide +kernel
theorem dX6_advance_207 : decode cX6_advance 207 = .ok (.iadd, 1) := by decide +kernel
theorem dX6_advance_208 : decode cX6_advance 208 = .ok (.putfield 33, 3) := by decide +kernel
theorem dX6_advance_211 : decode cX6_advance 211 = .ok (.goto (-61), 3) := by decide +kernel
theorem dX6_advance_214 : decode cX6_advance 214 = .ok (.aload_n 0, 1) := by decide +kernel
theorem dX6_advance_215 : decode cX6_advance 215 = .ok (.iload_n 1, 1) := by decide +kernel
theorem dX6_advance_216 : decode cX6_advance 216 = .ok (.iconst 2, 1) := by decide +kernel
theorem dX6_advance_217 : decode cX6_advance 217 = .ok (.if_icmp .ne 20, 3) := by decide +kernel
theorem dX6_advance_22 : decode cX6_advance 22 = .ok (.if_icmp .eq 17, 3) := by decide +kernel
theorem dX6_advance_220 : decode cX6_advance 220 = .ok (.aload_n 0, 1) := by decide +kernel
theorem dX6_advance_221 : decode cX6_advance 221 = .ok (.getfield 33, 3) := by decide +kernel
theorem dX6_advance_224 : decode cX6_advance 224 = .ok (.aload_n 0, 1) := by decide +kernel
theorem dX6_advance_225 : decode cX6_advance 225 = .ok (.getfield 57, 3) := by decide +kernel
theorem dX6_advance_228 : decode cX6_advance 228 = .ok (.isub, 1) := by decide +kernel
theorem dX6_advance_229 : decode cX6_advance 229 = .ok (.iconst 3, 1) := by decide +kernel
theorem dX6_advance_230 : decode cX6_advance 230 = .ok (.if_icmp .le 7, 3) := by decide +kernel
theorem dX6_advance_233 : decode cX6_advance 233 = .ok (.iconst 4, 1) := by decide +kernel
theorem dX6_advance_234 : decode cX6_advance 234 = .ok (.goto 4, 3) := by decide +kernel
theorem dX6_advance_237 : decode cX6_advance 237 = .ok (.iload_n 1, 1) := by decide +kernel
theorem dX6_advance_238 : decode cX6_advance 238 = .ok (.putfield 48, 3) := by decide +kernel
theorem dX6_advance_241 : decode cX6_advance 241 = .ok (.return_, 1) := by decide +kernel
theorem dX6_advance_25 : decode cX6_advance 25 = .ok (.aload_n 0, 1) := by decide +kernel
theorem dX6_advance_26 : decode cX6_advance 26 = .ok (.getfield 22, 3) := by decide +kernel
theorem dX6_advance_29 : decode cX6_advance 29 = .ok (.aload_n 0, 1) := by decide +kernel
theorem dX6_advance_30 : decode cX6_advance 30 = .ok (.getfield 33, 3) := by decide +kernel
theorem dX6_advance_33 : decode cX6_advance 33 = .ok (.baload, 1) := by decide +kernel
theorem dX6_advance_34 : decode cX6_advance 34 = .ok (.bipush 32, 2) := by decide +kernel
theorem dX6_advance_36 : decode cX6_advance 36 = .ok (.if_icmp .ne 16, 3) := by decide +kernel
theorem dX6_advance_39 : decode cX6_advance 39 = .ok (.aload_n 0, 1) := by decide +kernel
theorem dX6_advance_4 : decode cX6_advance 4 = .ok (.aload_n 0, 1) := by decide +kernel
theorem dX6_advance_40 : decode cX6_advance 40 = .ok (.dup, 1) := by decide +kernel
theorem dX6_advance_41 : decode cX6_advance 41 = .ok (.getfield 33, 3) := by decide +kernel
theorem dX6_advance_44 : decode cX6_advance 44 = .ok (.iconst 1, 1) := by decide +kernel
theorem dX6_advance_45 : decode cX6_advance 45 = .ok (.iadd, 1) := by decide +kernel
theorem dX6_advance_46 : decode cX6_advance 46 = .ok (.putfield 33, 3) := by decide +kernel
theorem dX6_advance_49 : decode cX6_advance 49 = .ok (.goto (-49), 3) := by decide +kernel
theorem dX6_advance_5 : decode cX6_advance 5 = .ok (.getfield 30, 3) := by decide +kernel
theorem dX6_advance_52 : decode cX6_advance 52 = .ok (.aload_n 0, 1) := by decide +kernel
theorem dX6_advance_53 : decode cX6_advance 53 = .ok (.aload_n 0, 1) := by decide +kernel
theorem dX6_advance_54 : decode cX6_advance 54 = .ok (.getfield 33, 3) := by decide +kernel
theorem dX6_advance_57 : decode cX6_advance 57 = .ok (.putfield 57, 3) := by decide +kernel
theorem dX6_advance_60 : decode cX6_advance 60 = .ok (.aload_n 0, 1) := by decide +kernel
theorem dX6_advance_61 : decode cX6_advance 61 = .ok (.iconst 0, 1) := by decide +kernel
theorem dX6_advance_62 : decode cX6_advance 62 = .ok (.putfield 60, 3) := by decide +kernel
theorem dX6_advance_65 : decode cX6_advance 65 = .ok (.aload_n 0, 1) := by decide +kernel
theorem dX6_advance_66 : decode cX6_advance 66 = .ok (.aload_n 0, 1) := by decide +kernel
theorem dX6_advance_67 : decode cX6_advance 67 = .ok (.getfield 33, 3) := by decide +kernel
theorem dX6_advance_70 : decode cX6_advance 70 = .ok (.aload_n 0, 1) := by decide +kernel
theorem dX6_advance_71 : decode cX6_advance 71 = .ok (.getfield 30, 3) := by decide +kernel
theorem dX6_advance_74 : decode cX6_advance 74 = .ok (.if_icmp .ge 18, 3) := by decide +kernel
theorem dX6_advance_77 : decode cX6_advance 77 = .ok (.aload_n 0, 1) := by decide +kernel
theorem dX6_advance_78 : decode cX6_advance 78 = .ok (.getfield 22, 3) := by decide +kernel
theorem dX6_advance_8 : decode cX6_advance 8 = .ok (.if_icmp .ge 44, 3) := by decide +kernel
theorem dX6_advance_81 : decode cX6_advance 81 = .ok (.aload_n 0, 1) := by decide +kernel
theorem dX6_advance_82 : decode cX6_advance 82 = .ok (.getfield 33, 3) := by decide +kernel
theorem dX6_advance_85 : decode cX6_advance 85 = .ok (.baload, 1) := by decide +kernel
theorem dX6_advance_86 : decode cX6_advance 86 = .ok (.invokestatic 63, 3) := by decide +kernel
theorem dX6_advance_89 : decode cX6_advance 89 = .ok (.goto 4, 3) := by decide +kernel
theorem dX6_advance_92 : decode cX6_advance 92 = .ok (.iconst 0, 1) := by decide +kernel
theorem dX6_advance_93 : decode cX6_advance 93 = .ok (.putfield 48, 3) := by decide +kernel
theorem dX6_advance_96 : decode cX6_advance 96 = .ok (.aload_n 0, 1) := by decide +kernel
theorem dX6_advance_97 : decode cX6_advance 97 = .ok (.getfield 48, 3) := by decide +kernel
set_option maxHeartbeats 4000000 in
set_option maxRecDepth 4000 in
theorem kp_X6_advance_18 (l : Launch) (M : Mem) (hJ : Iw M) (hp0 : M 18 5 ≤ M 18 4) : CV l yX6_advance cX6_advance 2 none 6 (fun ad => [.ref (ad 18)]) M (fun M' => Fr [18] M M' ∧ (M' 18 4 = M 18 4 ∧ M' 18 6 ≤ M' 18 5 ∧ M' 18 5 ≤ M' 18 4 ∧ M' 18 7 ≤ 4 * (M' 18 5 - M' 18 6) ∧ M 18 5 ≤ M' 18 6 ∧ M' 18 1 = M 18 1) ∧ (Im (M 18 1 = 0) (adv (absC M) = absC M'))) := by
  obtain ⟨hI, hW⟩ := hJ
  have hF : Fr [18] M M := Fr.rf
  refine en_v (by decide +kernel) (fun ad => by exact Nat.le_of_ble_eq_true rfl) (fun D cy ad A p e s m args below meth c Q F hret => ?_)
  refine z_eq (ls' := [(0, .ref (ad 18))]) rfl rfl rfl ?_
  obtain ⟨u1, eu1⟩ : ∃ v : Int, v = M 18 1 := ⟨_, rfl⟩
  have ku1 : (-2147483648) ≤ u1 ∧ u1 ≤ 2147483647 := by have := hI.at (show Bd 18 1 = (-2147483648, 2147483647) from rfl); omega
  obtain ⟨u2, eu2⟩ : ∃ v : Int, v = M 18 2 := ⟨_, rfl⟩
  have ku2 : (-2147483648) ≤ u2 ∧ u2 ≤ 2147483647 := by have := hI.at (show Bd 18 2 = (-2147483648, 2147483647) from rfl); omega
  obtain ⟨u3, eu3⟩ : ∃ v : Int, v = M 18 4 := ⟨_, rfl⟩
  have ku3 : 0 ≤ u3 ∧ u3 ≤ 900 := by have := hI.at (show Bd 18 4 = (0, 900) from rfl); omega
  obtain ⟨u4, eu4⟩ : ∃ v : Int, v = M 18 5 := ⟨_, rfl⟩
  have ku4 : 0 ≤ u4 ∧ u4 ≤ 900 := by have := hI.at (show Bd 18 5 = (0, 900) from rfl); omega
  obtain ⟨u5, eu5⟩ : ∃ v : Int, v = M 18 6 := ⟨_, rfl⟩
  have ku5 : 0 ≤ u5 ∧ u5 ≤ 900 := by have := hI.at (show Bd 18 6 = (0, 900) from rfl); omega
  obtain ⟨u6, eu6⟩ : ∃ v : Int, v = M 18 7 := ⟨_, rfl⟩
  have ku6 : 0 ≤ u6 ∧ u6 ≤ 4 := by have := hI.at (show Bd 18 7 = (0, 4) from rfl); omega
  obtain ⟨u7, eu7⟩ : ∃ v : Int, v = M 18 8 := ⟨_, rfl⟩
  have ku7 : (-2147483648) ≤ u7 ∧ u7 ≤ 2147483647 := by have := hI.at (show Bd 18 8 = (-2147483648, 2147483647) from rfl); omega
  refine z_loc [0] (ls' := [(0, .ref (ad 18))]) rfl ?_
  suffices key0 : ∀ (n : Nat) (M8 : Mem), Inv M8 → WFk M8 → Fr [18] M M8 → (M8 18 4 = M 18 4) → (M8 18 1 = M 18 1) → (M8 18 5 ≤ M8 18 4) → (∀ j : Nat, M 18 5 ≤ j → (j : Int) < M8 18 5 → c_bl (bC M j)) → (M 18 5 ≤ M8 18 5) → (M8 18 2 = M 18 2) → 900 - M8 18 5 < (n : Int) → Z D cy ad p l e (RMh 6) s m args below meth c A 2 0 0 Q 0 [(0, .ref (ad 18))] [] M8 from key0 901 M hI hW hF (by omega) (by omega) (by omega) (fun j a b => by exfalso; omega) (by omega) (by omega) (by omega)
  intro n0
  induction n0 with
  | zero => intro M8 hI hW hF i0_0 i0_1 i0_2 i0_3 i0_4 i0_5 hn0; exfalso; omega
  | succ n0 ih0 =>
    intro M8 hI hW hF i0_0 i0_1 i0_2 i0_3 i0_4 i0_5 hn0
    obtain ⟨u9, eu9⟩ : ∃ v : Int, v = M8 18 1 := ⟨_, rfl⟩
    have ku9 : (-2147483648) ≤ u9 ∧ u9 ≤ 2147483647 := by have := hI.at (show Bd 18 1 = (-2147483648, 2147483647) from rfl); omega
    obtain ⟨u10, eu10⟩ : ∃ v : Int, v = M8 18 2 := ⟨_, rfl⟩
    have ku10 : (-2147483648) ≤ u10 ∧ u10 ≤ 2147483647 := by have := hI.at (show Bd 18 2 = (-2147483648, 2147483647) from rfl); omega
    obtain ⟨u11, eu11⟩ : ∃ v : Int, v = M8 18 4 := ⟨_, rfl⟩
    have ku11 : 0 ≤ u11 ∧ u11 ≤ 900 := by have := hI.at (show Bd 18 4 = (0, 900) from rfl); omega
    obtain ⟨u12, eu12⟩ : ∃ v : Int, v = M8 18 5 := ⟨_, rfl⟩
    have ku12 : 0 ≤ u12 ∧ u12 ≤ 900 := by have := hI.at (show Bd 18 5 = (0, 900) from rfl); omega
    obtain ⟨u13, eu13⟩ : ∃ v : Int, v = M8 18 6 := ⟨_, rfl⟩
    have ku13 : 0 ≤ u13 ∧ u13 ≤ 900 := by have := hI.at (show Bd 18 6 = (0, 900) from rfl); omega
    obtain ⟨u14, eu14⟩ : ∃ v : Int, v = M8 18 7 := ⟨_, rfl⟩
    have ku14 : 0 ≤ u14 ∧ u14 ≤ 4 := by have := hI.at (show Bd 18 7 = (0, 4) from rfl); omega
    obtain ⟨u15, eu15⟩ : ∃ v : Int, v = M8 18 8 := ⟨_, rfl⟩
    have ku15 : (-2147483648) ≤ u15 ∧ u15 ≤ 2147483647 := by have := hI.at (show Bd 18 8 = (-2147483648, 2147483647) from rfl); omega
    have fr1 : M8 1 (u12).toNat = M 1 (u12).toNat := hF.at (by decide)
    have bd1 : -128 ≤ M 1 (u12).toNat ∧ M 1 (u12).toNat ≤ 127 := by have h9 := hI.at (show Bd 1 (u12).toNat = (-128, 127) from bd_1); omega
    refine z_aload_n F dX6_advance_0 rfl (q := 0) rfl ?_
    refine gf_X6_33 F hI gs_18 rfl bd_18_5 dX6_advance_1 (fun v16 ev16 av16 bv16 => ?_)
    have zv16 : u12 = v16 := eu12.trans ev16.symm
    subst zv16
    refine z_aload_n F dX6_advance_4 rfl (q := 0) rfl ?_
    refine gf_X6_30 F hI gs_18 rfl bd_18_4 dX6_advance_5 (fun v17 ev17 av17 bv17 => ?_)
    have zv17 : u11 = v17 := eu11.trans ev17.symm
    subst zv17
    refine z_icmp_ge (tgt := 52) F dX6_advance_8 (by decide +kernel) (by omega) (by omega) (fun c18 => ?_) (fun c18 => ?_)
    · refine z_aload_n F dX6_advance_52 rfl (q := 0) rfl ?_
      refine z_aload_n F dX6_advance_53 rfl (q := 0) rfl ?_
      refine gf_X6_33 F hI gs_18 rfl bd_18_5 dX6_advance_54 (fun v19 ev19 av19 bv19 => ?_)
      have zv19 : u12 = v19 := eu12.trans ev19.symm
      subst zv19
      refine pf_X6_57 F hI gs_18 rfl bd_18_6 rfl rfl dX6_advance_57 (by omega) (by omega) (fun M21 hI sf20 f20 => ?_)
      have tM21_18_1 : M21 18 1 = M8 18 1 := f20 18 1 (fun q => absurd q.2 (by decide))
      have tM21_18_2 : M21 18 2 = M8 18 2 := f20 18 2 (fun q => absurd q.2 (by decide))
      have tM21_18_4 : M21 18 4 = M8 18 4 := f20 18 4 (fun q => absurd q.2 (by decide))
      have tM21_18_5 : M21 18 5 = M8 18 5 := f20 18 5 (fun q => absurd q.2 (by decide))
      have tM21_18_7 : M21 18 7 = M8 18 7 := f20 18 7 (fun q => absurd q.2 (by decide))
      have tM21_18_8 : M21 18 8 = M8 18 8 := f20 18 8 (fun q => absurd q.2 (by decide))
      have hF := hF.wr f20 (by decide) (by decide)
      have hW : WFk M21 := hW.site f20 (by decide)
      refine z_aload_n F dX6_advance_60 rfl (q := 0) rfl ?_
      refine z_iconst F dX6_advance_61 ?_
      refine pf_X6_60 F hI gs_18 rfl bd_18_8 rfl rfl dX6_advance_62 (by omega) (by omega) (fun M23 hI sf22 f22 => ?_)
      have tM23_18_1 : M23 18 1 = M21 18 1 := f22 18 1 (fun q => absurd q.2 (by decide))
      have tM23_18_2 : M23 18 2 = M21 18 2 := f22 18 2 (fun q => absurd q.2 (by decide))
      have tM23_18_4 : M23 18 4 = M21 18 4 := f22 18 4 (fun q => absurd q.2 (by decide))
      have tM23_18_5 : M23 18 5 = M21 18 5 := f22 18 5 (fun q => absurd q.2 (by decide))
      have tM23_18_6 : M23 18 6 = M21 18 6 := f22 18 6 (fun q => absurd q.2 (by decide))
      have tM23_18_7 : M23 18 7 = M21 18 7 := f22 18 7 (fun q => absurd q.2 (by decide))
      have hF := hF.wr f22 (by decide) (by decide)
      have hW : WFk M23 := hW.site f22 (by decide)
      refine z_aload_n F dX6_advance_65 rfl (q := 0) rfl ?_
      refine z_aload_n F dX6_advance_66 rfl (q := 0) rfl ?_
      refine gf_X6_33 F hI gs_18 rfl bd_18_5 dX6_advance_67 (fun v24 ev24 av24 bv24 => ?_)
      have q25 : u12 = M21 18 5 := eu12.trans (f20 18 5 (fun q => absurd q.2 (by decide))).symm
      have q26 : u12 = M23 18 5 := q25.trans (f22 18 5 (fun q => absurd q.2 (by decide))).symm
      have zv24 : u12 = v24 := q26.trans ev24.symm
      subst zv24
      refine z_aload_n F dX6_advance_70 rfl (q := 0) rfl ?_
      refine gf_X6_30 F hI gs_18 rfl bd_18_4 dX6_advance_71 (fun v27 ev27 av27 bv27 => ?_)
      have q28 : u11 = M21 18 4 := eu11.trans (f20 18 4 (fun q => absurd q.2 (by decide))).symm
      have q29 : u11 = M23 18 4 := q28.trans (f22 18 4 (fun q => absurd q.2 (by decide))).symm
      have zv27 : u11 = v27 := q29.trans ev27.symm
      subst zv27
      refine z_icmp_ge (tgt := 92) F dX6_advance_74 (by decide +kernel) (by omega) (by omega) (fun c30 => ?_) (fun c30 => ?_)
      · refine z_iconst F dX6_advance_92 ?_
        refine pf_X6_48 F hI gs_18 rfl bd_18_7 rfl rfl dX6_advance_93 (by omega) (by omega) (fun M32 hI sf31 f31 => ?_)
        have tM32_18_1 : M32 18 1 = M23 18 1 := f31 18 1 (fun q => absurd q.2 (by decide))
        have tM32_18_2 : M32 18 2 = M23 18 2 := f31 18 2 (fun q => absurd q.2 (by decide))
        have tM32_18_4 : M32 18 4 = M23 18 4 := f31 18 4 (fun q => absurd q.2 (by decide))
        have tM32_18_5 : M32 18 5 = M23 18 5 := f31 18 5 (fun q => absurd q.2 (by decide))
        have tM32_18_6 : M32 18 6 = M23 18 6 := f31 18 6 (fun q => absurd q.2 (by decide))
        have tM32_18_8 : M32 18 8 = M23 18 8 := f31 18 8 (fun q => absurd q.2 (by decide))
        have hF := hF.wr f31 (by decide) (by decide)
        have hW : WFk M32 := hW.site f31 (by decide)
        refine z_aload_n F dX6_advance_96 rfl (q := 0) rfl ?_
        refine gf_X6_48 F hI gs_18 rfl bd_18_7 dX6_advance_97 (fun v33 ev33 av33 bv33 => ?_)
        have zv33 : 0 = v33 := sf31.symm.trans ev33.symm
        subst zv33
        refine z_iconst F dX6_advance_100 ?_
        refine z_icmp_eq (tgt := 112) F dX6_advance_101 (by decide +kernel) (by omega) (by omega) (fun c34 => by exfalso; omega) (fun c34 => ?_)
        refine z_aload_n F dX6_advance_104 rfl (q := 0) rfl ?_
        refine gf_X6_48 F hI gs_18 rfl bd_18_7 dX6_advance_105 (fun v35 ev35 av35 bv35 => ?_)
        have zv35 : 0 = v35 := sf31.symm.trans ev35.symm
        subst zv35
        refine z_iconst F dX6_advance_108 ?_
        refine z_icmp_ne (tgt := 138) F dX6_advance_109 (by decide +kernel) (by omega) (by omega) (fun c36 => ?_) (fun c36 => by exfalso; omega)
        refine z_aload_n F dX6_advance_138 rfl (q := 0) rfl ?_
        refine gf_X6_48 F hI gs_18 rfl bd_18_7 dX6_advance_139 (fun v37 ev37 av37 bv37 => ?_)
        have zv37 : 0 = v37 := sf31.symm.trans ev37.symm
        subst zv37
        refine z_if_eq (tgt := 241) F dX6_advance_142 (by decide +kernel) (by omega) (fun c38 => ?_) (fun c38 => by exfalso; omega)
        have q39 : u9 = M21 18 1 := eu9.trans (f20 18 1 (fun q => absurd q.2 (by decide))).symm
        have q40 : u9 = M23 18 1 := q39.trans (f22 18 1 (fun q => absurd q.2 (by decide))).symm
        have q41 : u9 = M32 18 1 := q40.trans (f31 18 1 (fun q => absurd q.2 (by decide))).symm
        have q42 : u10 = M21 18 2 := eu10.trans (f20 18 2 (fun q => absurd q.2 (by decide))).symm
        have q43 : u10 = M23 18 2 := q42.trans (f22 18 2 (fun q => absurd q.2 (by decide))).symm
        have q44 : u10 = M32 18 2 := q43.trans (f31 18 2 (fun q => absurd q.2 (by decide))).symm
        have q45 : u11 = M32 18 4 := q29.trans (f31 18 4 (fun q => absurd q.2 (by decide))).symm
        have q46 : u12 = M32 18 5 := q26.trans (f31 18 5 (fun q => absurd q.2 (by decide))).symm
        have q47 : u12 = M23 18 6 := sf20.symm.trans (f22 18 6 (fun q => absurd q.2 (by decide))).symm
        have q48 : u12 = M32 18 6 := q47.trans (f31 18 6 (fun q => absurd q.2 (by decide))).symm
        have q49 : 0 = M32 18 8 := sf22.symm.trans (f31 18 8 (fun q => absurd q.2 (by decide))).symm
        exact hret _ 241 _ ⟨hI, hW⟩ ⟨hF, (by omega), (fun h0 => advC h0 (by omega) (by omega) (fun j => hF.at (by decide)) (by omega) (show tkC M32 = 0 from by unfold tkC; rw [if_neg (by omega), if_neg (by omega)]; omega) (show vlC M32 = 0 from by unfold vlC; rw [if_neg (by omega)]) (by rw [show M32 18 5 = M32 18 6 from by omega]; exact adv_E (by omega) (by omega) (by omega) (run_C (by omega) (fun j a b => i0_3 j a (by omega)))))⟩ dX6_advance_241
      · refine z_aload_n F dX6_advance_77 rfl (q := 0) rfl ?_
        refine rf_X6_22 F gs_18 rfl dX6_advance_78 ?_
        refine z_aload_n F dX6_advance_81 rfl (q := 0) rfl ?_
        refine gf_X6_33 F hI gs_18 rfl bd_18_5 dX6_advance_82 (fun v50 ev50 av50 bv50 => ?_)
        have zv50 : u12 = v50 := q26.trans ev50.symm
        subst zv50
        refine z_bald F hI gs_1 (by omega) (by omega) (by decide) bd_1 dX6_advance_85 (fun v51 (ev51 : v51 = M23 1 _) av51 bv51 => ?_)
        have frv51 : M23 1 (u12).toNat = M 1 (u12).toNat := hF.at (by decide)
        refine zs_i (rest := [.ref (ad 18)]) F (kp_X6_sortOf l M23 ⟨hI, hW⟩ v51 (by omega) (by omega)) cs_X6_63 (by decide) (by decide) rfl rfl rfl (Nat.le_of_ble_eq_true rfl) dX6_advance_86 (fun v52 M53 rv52 hI p54 => ?_)
        obtain ⟨hI, hW⟩ := hI
        obtain ⟨⟨av52, bv52⟩, rfl, yp54⟩ := p54
        refine z_goto (tgt := 93) F dX6_advance_89 (by decide +kernel) ?_
        refine pf_X6_48 F hI gs_18 rfl bd_18_7 rfl rfl dX6_advance_93 (by omega) (by omega) (fun M56 hI sf55 f55 => ?_)
        have tM56_18_1 : M56 18 1 = M23 18 1 := f55 18 1 (fun q => absurd q.2 (by decide))
        have tM56_18_2 : M56 18 2 = M23 18 2 := f55 18 2 (fun q => absurd q.2 (by decide))
        have tM56_18_4 : M56 18 4 = M23 18 4 := f55 18 4 (fun q => absurd q.2 (by decide))
        have tM56_18_5 : M56 18 5 = M23 18 5 := f55 18 5 (fun q => absurd q.2 (by decide))
        have tM56_18_6 : M56 18 6 = M23 18 6 := f55 18 6 (fun q => absurd q.2 (by decide))
        have tM56_18_8 : M56 18 8 = M23 18 8 := f55 18 8 (fun q => absurd q.2 (by decide))
        have hF := hF.wr f55 (by decide) (by decide)
        have hW : WFk M56 := hW.site f55 (by decide)
        refine z_aload_n F dX6_advance_96 rfl (q := 0) rfl ?_
        refine gf_X6_48 F hI gs_18 rfl bd_18_7 dX6_advance_97 (fun v57 ev57 av57 bv57 => ?_)
        have zv57 : v52 = v57 := sf55.symm.trans ev57.symm
        subst zv57
        refine z_iconst F dX6_advance_100 ?_
        refine z_icmp_eq (tgt := 112) F dX6_advance_101 (by decide +kernel) (by omega) (by omega) (fun c58 => ?_) (fun c58 => ?_)
        · refine z_aload_n F dX6_advance_112 rfl (q := 0) rfl ?_
          refine z_aload_n F dX6_advance_113 rfl (q := 0) rfl ?_
          refine rf_X6_22 F gs_18 rfl dX6_advance_114 ?_
          refine z_aload_n F dX6_advance_117 rfl (q := 0) rfl ?_
          refine gf_X6_33 F hI gs_18 rfl bd_18_5 dX6_advance_118 (fun v59 ev59 av59 bv59 => ?_)
          have q60 : u12 = M56 18 5 := q26.trans (f55 18 5 (fun q => absurd q.2 (by decide))).symm
          have zv59 : u12 = v59 := q60.trans ev59.symm
          subst zv59
          refine z_bald F hI gs_1 (by omega) (by omega) (by decide) bd_1 dX6_advance_121 (fun v61 (ev61 : v61 = M56 1 _) av61 bv61 => ?_)
          have q62 : v51 = M56 1 (u12).toNat := ev51.trans (f55 1 (u12).toNat (fun q => absurd q.1 (by decide))).symm
          have frv61 : M56 1 (u12).toNat = M 1 (u12).toNat := hF.at (by decide)
          have zv61 : v51 = v61 := q62.trans ev61.symm
          subst zv61
          refine pf_X6_60 F hI gs_18 rfl bd_18_8 rfl rfl dX6_advance_122 (by omega) (by omega) (fun M64 hI sf63 f63 => ?_)
          have tM64_18_1 : M64 18 1 = M56 18 1 := f63 18 1 (fun q => absurd q.2 (by decide))
          have tM64_18_2 : M64 18 2 = M56 18 2 := f63 18 2 (fun q => absurd q.2 (by decide))
          have tM64_18_4 : M64 18 4 = M56 18 4 := f63 18 4 (fun q => absurd q.2 (by decide))
          have tM64_18_5 : M64 18 5 = M56 18 5 := f63 18 5 (fun q => absurd q.2 (by decide))
          have tM64_18_6 : M64 18 6 = M56 18 6 := f63 18 6 (fun q => absurd q.2 (by decide))
          have tM64_18_7 : M64 18 7 = M56 18 7 := f63 18 7 (fun q => absurd q.2 (by decide))
          have hF := hF.wr f63 (by decide) (by decide)
          have hW : WFk M64 := hW.site f63 (by decide)
          refine z_aload_n F dX6_advance_125 rfl (q := 0) rfl ?_
          refine z_dup F dX6_advance_126 rfl ?_
          refine gf_X6_33 F hI gs_18 rfl bd_18_5 dX6_advance_127 (fun v65 ev65 av65 bv65 => ?_)
          have q66 : u12 = M64 18 5 := q60.trans (f63 18 5 (fun q => absurd q.2 (by decide))).symm
          have zv65 : u12 = v65 := q66.trans ev65.symm
          subst zv65
          refine z_iconst F dX6_advance_130 ?_
          refine z_iadd F dX6_advance_131 ?_
          refine z_nm (fun v67 ev67 => ?_)
          refine pf_X6_33 F hI gs_18 rfl bd_18_5 rfl rfl dX6_advance_132 (by omega) (by omega) (fun M69 hI sf68 f68 => ?_)
          have tM69_18_1 : M69 18 1 = M64 18 1 := f68 18 1 (fun q => absurd q.2 (by decide))
          have tM69_18_2 : M69 18 2 = M64 18 2 := f68 18 2 (fun q => absurd q.2 (by decide))
          have tM69_18_4 : M69 18 4 = M64 18 4 := f68 18 4 (fun q => absurd q.2 (by decide))
          have tM69_18_6 : M69 18 6 = M64 18 6 := f68 18 6 (fun q => absurd q.2 (by decide))
          have tM69_18_7 : M69 18 7 = M64 18 7 := f68 18 7 (fun q => absurd q.2 (by decide))
          have tM69_18_8 : M69 18 8 = M64 18 8 := f68 18 8 (fun q => absurd q.2 (by decide))
          have hF := hF.wr f68 (by decide) (by decide)
          have hW : WFk M69 := hW.site f68 (by decide)
          refine z_goto (tgt := 241) F dX6_advance_135 (by decide +kernel) ?_
          have q70 : u9 = M21 18 1 := eu9.trans (f20 18 1 (fun q => absurd q.2 (by decide))).symm
          have q71 : u9 = M23 18 1 := q70.trans (f22 18 1 (fun q => absurd q.2 (by decide))).symm
          have q72 : u9 = M56 18 1 := q71.trans (f55 18 1 (fun q => absurd q.2 (by decide))).symm
          have q73 : u9 = M64 18 1 := q72.trans (f63 18 1 (fun q => absurd q.2 (by decide))).symm
          have q74 : u9 = M69 18 1 := q73.trans (f68 18 1 (fun q => absurd q.2 (by decide))).symm
          have q75 : u10 = M21 18 2 := eu10.trans (f20 18 2 (fun q => absurd q.2 (by decide))).symm
          have q76 : u10 = M23 18 2 := q75.trans (f22 18 2 (fun q => absurd q.2 (by decide))).symm
          have q77 : u10 = M56 18 2 := q76.trans (f55 18 2 (fun q => absurd q.2 (by decide))).symm
          have q78 : u10 = M64 18 2 := q77.trans (f63 18 2 (fun q => absurd q.2 (by decide))).symm
          have q79 : u10 = M69 18 2 := q78.trans (f68 18 2 (fun q => absurd q.2 (by decide))).symm
          have q80 : u11 = M56 18 4 := q29.trans (f55 18 4 (fun q => absurd q.2 (by decide))).symm
          have q81 : u11 = M64 18 4 := q80.trans (f63 18 4 (fun q => absurd q.2 (by decide))).symm
          have q82 : u11 = M69 18 4 := q81.trans (f68 18 4 (fun q => absurd q.2 (by decide))).symm
          have q83 : u12 = M23 18 6 := sf20.symm.trans (f22 18 6 (fun q => absurd q.2 (by decide))).symm
          have q84 : u12 = M56 18 6 := q83.trans (f55 18 6 (fun q => absurd q.2 (by decide))).symm
          have q85 : u12 = M64 18 6 := q84.trans (f63 18 6 (fun q => absurd q.2 (by decide))).symm
          have q86 : u12 = M69 18 6 := q85.trans (f68 18 6 (fun q => absurd q.2 (by decide))).symm
          have q87 : v52 = M64 18 7 := sf55.symm.trans (f63 18 7 (fun q => absurd q.2 (by decide))).symm
          have q88 : v52 = M69 18 7 := q87.trans (f68 18 7 (fun q => absurd q.2 (by decide))).symm
          have q89 : v51 = M69 18 8 := sf63.symm.trans (f68 18 8 (fun q => absurd q.2 (by decide))).symm
          have cv9 : M 1 (u12).toNat = v51 := by omega
          have sg40 := (so_3 yp54 (by omega)).2.2
          exact hret _ 241 _ ⟨hI, hW⟩ ⟨hF, (by omega), (fun h0 => advC h0 (by omega) (by omega) (fun j => hF.at (by decide)) (by omega) (show tkC M69 = v51 from by unfold tkC; rw [if_pos (by omega), if_pos (by omega)]; omega) (show vlC M69 = 0 from by unfold vlC; rw [if_neg (by omega)]) (by rw [show M69 18 5 = M69 18 6 + 1 from by omega]; exact adv_S (by omega) (by omega) (by omega) (run_C (by omega) (fun j a b => i0_3 j a (by omega))) (by rw [UC_at (by omega), ← q86, cv9]; unfold c_bl; omega) (by rw [UC_at (by omega), ← q86, cv9]; exact so_n1 yp54 (by omega) (by omega)) (by rw [UC_at (by omega), ← q86, cv9]; exact so_n2 yp54 (by omega) (by omega)) (Or.inl ⟨(by rw [UC_at (by omega), ← q86, cv9]; exact (so_3 yp54 (by omega)).1), (by rw [UC_at (by omega), ← q86, cv9]; exact (so_3 yp54 (by omega)).2.1.symm)⟩)))⟩ dX6_advance_241
        · refine z_aload_n F dX6_advance_104 rfl (q := 0) rfl ?_
          refine gf_X6_48 F hI gs_18 rfl bd_18_7 dX6_advance_105 (fun v90 ev90 av90 bv90 => ?_)
          have zv90 : v52 = v90 := sf55.symm.trans ev90.symm
          subst zv90
          refine z_iconst F dX6_advance_108 ?_
          refine z_icmp_ne (tgt := 138) F dX6_advance_109 (by decide +kernel) (by omega) (by omega) (fun c91 => ?_) (fun c91 => ?_)
          · refine z_aload_n F dX6_advance_138 rfl (q := 0) rfl ?_
            refine gf_X6_48 F hI gs_18 rfl bd_18_7 dX6_advance_139 (fun v92 ev92 av92 bv92 => ?_)
            have zv92 : v52 = v92 := sf55.symm.trans ev92.symm
            subst zv92
            refine z_if_eq (tgt := 241) F dX6_advance_142 (by decide +kernel) (by omega) (fun c93 => by exfalso; omega) (fun c93 => ?_)
            refine z_aload_n F dX6_advance_145 rfl (q := 0) rfl ?_
            refine gf_X6_48 F hI gs_18 rfl bd_18_7 dX6_advance_146 (fun v94 ev94 av94 bv94 => ?_)
            have zv94 : v52 = v94 := sf55.symm.trans ev94.symm
            subst zv94
            refine z_istore_n F dX6_advance_149 rfl (by decide) (ls' := [(1, ii v52), (0, .ref (ad 18))]) rfl ?_
            have q96 : u12 = M23 18 6 := sf20.symm.trans (f22 18 6 (fun q => absurd q.2 (by decide))).symm
            have q97 : u12 = M56 18 6 := q96.trans (f55 18 6 (fun q => absurd q.2 (by decide))).symm
            refine z_loc [1, 0] (ls' := [(0, .ref (ad 18)), (1, ii v52)]) rfl ?_
            have q98 : u9 = M21 18 1 := eu9.trans (f20 18 1 (fun q => absurd q.2 (by decide))).symm
            have q99 : u9 = M23 18 1 := q98.trans (f22 18 1 (fun q => absurd q.2 (by decide))).symm
            have q100 : u9 = M56 18 1 := q99.trans (f55 18 1 (fun q => absurd q.2 (by decide))).symm
            have q101 : u10 = M21 18 2 := eu10.trans (f20 18 2 (fun q => absurd q.2 (by decide))).symm
            have q102 : u10 = M23 18 2 := q101.trans (f22 18 2 (fun q => absurd q.2 (by decide))).symm
            have q103 : u10 = M56 18 2 := q102.trans (f55 18 2 (fun q => absurd q.2 (by decide))).symm
            have q104 : u11 = M56 18 4 := q29.trans (f55 18 4 (fun q => absurd q.2 (by decide))).symm
            have q105 : u12 = M56 18 5 := q26.trans (f55 18 5 (fun q => absurd q.2 (by decide))).symm
            have q106 : 0 = M56 18 8 := sf22.symm.trans (f55 18 8 (fun q => absurd q.2 (by decide))).symm
            suffices key150 : ∀ (n : Nat) (M95 : Mem), Inv M95 → WFk M95 → Fr [18] M M95 → (M95 18 4 = M 18 4) → (M95 18 1 = M 18 1) → (M95 18 6 ≤ M95 18 5 ∧ M95 18 5 ≤ M95 18 4) → (M 18 5 ≤ M95 18 6 ∧ M95 18 6 < M95 18 4) → (∀ j : Nat, M 18 5 ≤ j → (j : Int) < M95 18 6 → c_bl (bC M j)) → (∀ j : Nat, M95 18 6 ≤ j → (j : Int) < M95 18 5 → So v52 (M 1 j)) → (So v52 (M 1 (M95 18 6).toNat)) → (Im (M95 18 5 - M95 18 6 ≤ 3) (Im (v52 = 2) (M95 18 8 = dec3 (bC M) (M95 18 6).toNat (M95 18 5 - M95 18 6).toNat))) → (Im (v52 = 2) (Im (M95 18 5 - M95 18 6 = 0) (0 ≤ M95 18 8 ∧ M95 18 8 ≤ 0))) → (Im (v52 = 2) (Im (M95 18 5 - M95 18 6 = 1) (0 ≤ M95 18 8 ∧ M95 18 8 ≤ 9))) → (Im (v52 = 2) (Im (M95 18 5 - M95 18 6 = 2) (0 ≤ M95 18 8 ∧ M95 18 8 ≤ 99))) → (M95 18 2 = M 18 2) → 900 - M95 18 5 < (n : Int) → Z D cy ad p l e (RMh 6) s m args below meth c A 2 0 0 Q 150 [(0, .ref (ad 18)), (1, ii v52)] [] M95 from key150 901 M56 hI hW hF (by omega) (by omega) (by omega) (by omega) (fun j a b => i0_3 j a (by omega)) (fun j a b => by exfalso; omega) (show So v52 (M 1 (M56 18 6).toNat) from by rw [← q97, show M 1 (u12).toNat = v51 from by omega, show v52 = v52 from by omega]; exact yp54) (fun q r => by rw [show (M56 18 5 - M56 18 6).toNat = 0 from by omega]; show _ = (0 : Int); omega) (fun q r => by omega) (fun q r => by omega) (fun q r => by omega) (by omega) (by omega)
            intro n150
            induction n150 with
            | zero => intro M95 hI hW hF i150_0 i150_1 i150_2 i150_3 i150_4 i150_5 i150_6 i150_7 i150_8 i150_9 i150_10 i150_11 hn150; exfalso; omega
            | succ n150 ih150 =>
              intro M95 hI hW hF i150_0 i150_1 i150_2 i150_3 i150_4 i150_5 i150_6 i150_7 i150_8 i150_9 i150_10 i150_11 hn150
              obtain ⟨u107, eu107⟩ : ∃ v : Int, v = M95 18 1 := ⟨_, rfl⟩
              have ku107 : (-2147483648) ≤ u107 ∧ u107 ≤ 2147483647 := by have := hI.at (show Bd 18 1 = (-2147483648, 2147483647) from rfl); omega
              obtain ⟨u108, eu108⟩ : ∃ v : Int, v = M95 18 2 := ⟨_, rfl⟩
              have ku108 : (-2147483648) ≤ u108 ∧ u108 ≤ 2147483647 := by have := hI.at (show Bd 18 2 = (-2147483648, 2147483647) from rfl); omega
              obtain ⟨u109, eu109⟩ : ∃ v : Int, v = M95 18 4 := ⟨_, rfl⟩
              have ku109 : 0 ≤ u109 ∧ u109 ≤ 900 := by have := hI.at (show Bd 18 4 = (0, 900) from rfl); omega
              obtain ⟨u110, eu110⟩ : ∃ v : Int, v = M95 18 5 := ⟨_, rfl⟩
              have ku110 : 0 ≤ u110 ∧ u110 ≤ 900 := by have := hI.at (show Bd 18 5 = (0, 900) from rfl); omega
              obtain ⟨u111, eu111⟩ : ∃ v : Int, v = M95 18 6 := ⟨_, rfl⟩
              have ku111 : 0 ≤ u111 ∧ u111 ≤ 900 := by have := hI.at (show Bd 18 6 = (0, 900) from rfl); omega
              obtain ⟨u112, eu112⟩ : ∃ v : Int, v = M95 18 7 := ⟨_, rfl⟩
              have ku112 : 0 ≤ u112 ∧ u112 ≤ 4 := by have := hI.at (show Bd 18 7 = (0, 4) from rfl); omega
              obtain ⟨u113, eu113⟩ : ∃ v : Int, v = M95 18 8 := ⟨_, rfl⟩
              have ku113 : (-2147483648) ≤ u113 ∧ u113 ≤ 2147483647 := by have := hI.at (show Bd 18 8 = (-2147483648, 2147483647) from rfl); omega
              have fr1 : M95 1 (u110).toNat = M 1 (u110).toNat := hF.at (by decide)
              have bd1 : -128 ≤ M 1 (u110).toNat ∧ M 1 (u110).toNat ≤ 127 := by have h9 := hI.at (show Bd 1 (u110).toNat = (-128, 127) from bd_1); omega
              refine z_aload_n F dX6_advance_150 rfl (q := 0) rfl ?_
              refine gf_X6_33 F hI gs_18 rfl bd_18_5 dX6_advance_151 (fun v114 ev114 av114 bv114 => ?_)
              have zv114 : u110 = v114 := eu110.trans ev114.symm
              subst zv114
              refine z_aload_n F dX6_advance_154 rfl (q := 0) rfl ?_
              refine gf_X6_30 F hI gs_18 rfl bd_18_4 dX6_advance_155 (fun v115 ev115 av115 bv115 => ?_)
              have zv115 : u109 = v115 := eu109.trans ev115.symm
              subst zv115
              refine z_icmp_ge (tgt := 214) F dX6_advance_158 (by decide +kernel) (by omega) (by omega) (fun c116 => ?_) (fun c116 => ?_)
              · refine z_aload_n F dX6_advance_214 rfl (q := 0) rfl ?_
                refine z_iload_n F dX6_advance_215 rfl (q := 1) rfl ?_
                refine z_iconst F dX6_advance_216 ?_
                refine z_icmp_ne (tgt := 237) F dX6_advance_217 (by decide +kernel) (by omega) (by omega) (fun c117 => ?_) (fun c117 => ?_)
                · refine z_iload_n F dX6_advance_237 rfl (q := 1) rfl ?_
                  refine pf_X6_48 F hI gs_18 rfl bd_18_7 rfl rfl dX6_advance_238 (by omega) (by omega) (fun M119 hI sf118 f118 => ?_)
                  have tM119_18_1 : M119 18 1 = M95 18 1 := f118 18 1 (fun q => absurd q.2 (by decide))
                  have tM119_18_2 : M119 18 2 = M95 18 2 := f118 18 2 (fun q => absurd q.2 (by decide))
                  have tM119_18_4 : M119 18 4 = M95 18 4 := f118 18 4 (fun q => absurd q.2 (by decide))
                  have tM119_18_5 : M119 18 5 = M95 18 5 := f118 18 5 (fun q => absurd q.2 (by decide))
                  have tM119_18_6 : M119 18 6 = M95 18 6 := f118 18 6 (fun q => absurd q.2 (by decide))
                  have tM119_18_8 : M119 18 8 = M95 18 8 := f118 18 8 (fun q => absurd q.2 (by decide))
                  have hF := hF.wr f118 (by decide) (by decide)
                  have hW : WFk M119 := hW.site f118 (by decide)
                  have q120 : u107 = M119 18 1 := eu107.trans (f118 18 1 (fun q => absurd q.2 (by decide))).symm
                  have q121 : u108 = M119 18 2 := eu108.trans (f118 18 2 (fun q => absurd q.2 (by decide))).symm
                  have q122 : u109 = M119 18 4 := eu109.trans (f118 18 4 (fun q => absurd q.2 (by decide))).symm
                  have q123 : u110 = M119 18 5 := eu110.trans (f118 18 5 (fun q => absurd q.2 (by decide))).symm
                  have q124 : u111 = M119 18 6 := eu111.trans (f118 18 6 (fun q => absurd q.2 (by decide))).symm
                  have q125 : u113 = M119 18 8 := eu113.trans (f118 18 8 (fun q => absurd q.2 (by decide))).symm
                  exact hret _ 241 _ ⟨hI, hW⟩ ⟨hF, (by omega), (fun h0 => advC h0 (by omega) (by omega) (fun j => hF.at (by decide)) (by omega) (show tkC M119 = 1 from by unfold tkC; rw [if_neg (by omega), if_neg (by omega)]; omega) (show vlC M119 = 0 from by unfold vlC; rw [if_neg (by omega)]) (adv_W (by omega) (by omega) (by omega) (run_C (by omega) (fun j a b => i150_4 j a (by omega))) (by rw [UC_at (by omega), show M119 18 6 = M95 18 6 from by omega]; exact so_1 i150_6 (by omega)) (by omega) (by omega) (run_C (by omega) (fun j a b => so_1 (i150_5 j (by omega) (by omega)) (by omega))) (Or.inl (by omega))))⟩ dX6_advance_241
                · refine z_aload_n F dX6_advance_220 rfl (q := 0) rfl ?_
                  refine gf_X6_33 F hI gs_18 rfl bd_18_5 dX6_advance_221 (fun v126 ev126 av126 bv126 => ?_)
                  have zv126 : u110 = v126 := eu110.trans ev126.symm
                  subst zv126
                  refine z_aload_n F dX6_advance_224 rfl (q := 0) rfl ?_
                  refine gf_X6_57 F hI gs_18 rfl bd_18_6 dX6_advance_225 (fun v127 ev127 av127 bv127 => ?_)
                  have zv127 : u111 = v127 := eu111.trans ev127.symm
                  subst zv127
                  refine z_isub F dX6_advance_228 ?_
                  refine z_iconst F dX6_advance_229 ?_
                  refine z_icmp_le (tgt := 237) F dX6_advance_230 (by decide +kernel) (by omega) (by omega) (fun c128 => ?_) (fun c128 => ?_)
                  · refine z_iload_n F dX6_advance_237 rfl (q := 1) rfl ?_
                    refine pf_X6_48 F hI gs_18 rfl bd_18_7 rfl rfl dX6_advance_238 (by omega) (by omega) (fun M130 hI sf129 f129 => ?_)
                    have tM130_18_1 : M130 18 1 = M95 18 1 := f129 18 1 (fun q => absurd q.2 (by decide))
                    have tM130_18_2 : M130 18 2 = M95 18 2 := f129 18 2 (fun q => absurd q.2 (by decide))
                    have tM130_18_4 : M130 18 4 = M95 18 4 := f129 18 4 (fun q => absurd q.2 (by decide))
                    have tM130_18_5 : M130 18 5 = M95 18 5 := f129 18 5 (fun q => absurd q.2 (by decide))
                    have tM130_18_6 : M130 18 6 = M95 18 6 := f129 18 6 (fun q => absurd q.2 (by decide))
                    have tM130_18_8 : M130 18 8 = M95 18 8 := f129 18 8 (fun q => absurd q.2 (by decide))
                    have hF := hF.wr f129 (by decide) (by decide)
                    have hW : WFk M130 := hW.site f129 (by decide)
                    have q131 : u107 = M130 18 1 := eu107.trans (f129 18 1 (fun q => absurd q.2 (by decide))).symm
                    have q132 : u108 = M130 18 2 := eu108.trans (f129 18 2 (fun q => absurd q.2 (by decide))).symm
                    have q133 : u109 = M130 18 4 := eu109.trans (f129 18 4 (fun q => absurd q.2 (by decide))).symm
                    have q134 : u110 = M130 18 5 := eu110.trans (f129 18 5 (fun q => absurd q.2 (by decide))).symm
                    have q135 : u111 = M130 18 6 := eu111.trans (f129 18 6 (fun q => absurd q.2 (by decide))).symm
                    have q136 : u113 = M130 18 8 := eu113.trans (f129 18 8 (fun q => absurd q.2 (by decide))).symm
                    exact hret _ 241 _ ⟨hI, hW⟩ ⟨hF, (by omega), (fun h0 => advC h0 (by omega) (by omega) (fun j => hF.at (by decide)) (by omega) (show tkC M130 = 2 from by unfold tkC; rw [if_neg (by omega), if_neg (by omega)]; omega) (show vlC M130 = M130 18 8 from by unfold vlC; rw [if_pos (by omega)]) (adv_N (by omega) (by omega) (by omega) (run_C (by omega) (fun j a b => i150_4 j a (by omega))) (by rw [UC_at (by omega), show M130 18 6 = M95 18 6 from by omega]; exact so_2m i150_6 (by omega)) (by omega) (by omega) (run_C (by omega) (fun j a b => so_2m (i150_5 j (by omega) (by omega)) (by omega))) (Or.inl (by omega)) (Or.inr ⟨by omega, rfl, (by rw [dec3_c (V := bC M) _ (fun k hk => UC_at (by omega)), show M130 18 8 = M95 18 8 from by omega, show M130 18 6 = M95 18 6 from by omega, show M130 18 5 = M95 18 5 from by omega]; exact i150_7 (by omega) (by omega))⟩)))⟩ dX6_advance_241
                  · refine z_iconst F dX6_advance_233 ?_
                    refine z_goto (tgt := 238) F dX6_advance_234 (by decide +kernel) ?_
                    refine pf_X6_48 F hI gs_18 rfl bd_18_7 rfl rfl dX6_advance_238 (by omega) (by omega) (fun M138 hI sf137 f137 => ?_)
                    have tM138_18_1 : M138 18 1 = M95 18 1 := f137 18 1 (fun q => absurd q.2 (by decide))
                    have tM138_18_2 : M138 18 2 = M95 18 2 := f137 18 2 (fun q => absurd q.2 (by decide))
                    have tM138_18_4 : M138 18 4 = M95 18 4 := f137 18 4 (fun q => absurd q.2 (by decide))
                    have tM138_18_5 : M138 18 5 = M95 18 5 := f137 18 5 (fun q => absurd q.2 (by decide))
                    have tM138_18_6 : M138 18 6 = M95 18 6 := f137 18 6 (fun q => absurd q.2 (by decide))
                    have tM138_18_8 : M138 18 8 = M95 18 8 := f137 18 8 (fun q => absurd q.2 (by decide))
                    have hF := hF.wr f137 (by decide) (by decide)
                    have hW : WFk M138 := hW.site f137 (by decide)
                    have q139 : u107 = M138 18 1 := eu107.trans (f137 18 1 (fun q => absurd q.2 (by decide))).symm
                    have q140 : u108 = M138 18 2 := eu108.trans (f137 18 2 (fun q => absurd q.2 (by decide))).symm
                    have q141 : u109 = M138 18 4 := eu109.trans (f137 18 4 (fun q => absurd q.2 (by decide))).symm
                    have q142 : u110 = M138 18 5 := eu110.trans (f137 18 5 (fun q => absurd q.2 (by decide))).symm
                    have q143 : u111 = M138 18 6 := eu111.trans (f137 18 6 (fun q => absurd q.2 (by decide))).symm
                    have q144 : u113 = M138 18 8 := eu113.trans (f137 18 8 (fun q => absurd q.2 (by decide))).symm
                    exact hret _ 241 _ ⟨hI, hW⟩ ⟨hF, (by omega), (fun h0 => advC h0 (by omega) (by omega) (fun j => hF.at (by decide)) (by omega) (show tkC M138 = 3 from by unfold tkC; rw [if_neg (by omega), if_pos (by omega)]) (show vlC M138 = 0 from by unfold vlC; rw [if_neg (by omega)]) (adv_N (by omega) (by omega) (by omega) (run_C (by omega) (fun j a b => i150_4 j a (by omega))) (by rw [UC_at (by omega), show M138 18 6 = M95 18 6 from by omega]; exact so_2m i150_6 (by omega)) (by omega) (by omega) (run_C (by omega) (fun j a b => so_2m (i150_5 j (by omega) (by omega)) (by omega))) (Or.inl (by omega)) (Or.inl ⟨by omega, rfl, rfl⟩)))⟩ dX6_advance_241
              · refine z_aload_n F dX6_advance_161 rfl (q := 0) rfl ?_
                refine rf_X6_22 F gs_18 rfl dX6_advance_162 ?_
                refine z_aload_n F dX6_advance_165 rfl (q := 0) rfl ?_
                refine gf_X6_33 F hI gs_18 rfl bd_18_5 dX6_advance_166 (fun v145 ev145 av145 bv145 => ?_)
                have zv145 : u110 = v145 := eu110.trans ev145.symm
                subst zv145
                refine z_bald F hI gs_1 (by omega) (by omega) (by decide) bd_1 dX6_advance_169 (fun v146 (ev146 : v146 = M95 1 _) av146 bv146 => ?_)
                have frv146 : M95 1 (u110).toNat = M 1 (u110).toNat := hF.at (by decide)
                refine zs_i (rest := []) F (kp_X6_sortOf l M95 ⟨hI, hW⟩ v146 (by omega) (by omega)) cs_X6_63 (by decide) (by decide) rfl rfl rfl (Nat.le_of_ble_eq_true rfl) dX6_advance_170 (fun v147 M148 rv147 hI p149 => ?_)
                obtain ⟨hI, hW⟩ := hI
                obtain ⟨⟨av147, bv147⟩, rfl, yp149⟩ := p149
                refine z_iload_n F dX6_advance_173 rfl (q := 1) rfl ?_
                refine z_icmp_ne (tgt := 214) F dX6_advance_174 (by decide +kernel) (by omega) (by omega) (fun c150 => ?_) (fun c150 => ?_)
                · refine z_aload_n F dX6_advance_214 rfl (q := 0) rfl ?_
                  refine z_iload_n F dX6_advance_215 rfl (q := 1) rfl ?_
                  refine z_iconst F dX6_advance_216 ?_
                  refine z_icmp_ne (tgt := 237) F dX6_advance_217 (by decide +kernel) (by omega) (by omega) (fun c151 => ?_) (fun c151 => ?_)
                  · refine z_iload_n F dX6_advance_237 rfl (q := 1) rfl ?_
                    refine pf_X6_48 F hI gs_18 rfl bd_18_7 rfl rfl dX6_advance_238 (by omega) (by omega) (fun M153 hI sf152 f152 => ?_)
                    have tM153_18_1 : M153 18 1 = M95 18 1 := f152 18 1 (fun q => absurd q.2 (by decide))
                    have tM153_18_2 : M153 18 2 = M95 18 2 := f152 18 2 (fun q => absurd q.2 (by decide))
                    have tM153_18_4 : M153 18 4 = M95 18 4 := f152 18 4 (fun q => absurd q.2 (by decide))
                    have tM153_18_5 : M153 18 5 = M95 18 5 := f152 18 5 (fun q => absurd q.2 (by decide))
                    have tM153_18_6 : M153 18 6 = M95 18 6 := f152 18 6 (fun q => absurd q.2 (by decide))
                    have tM153_18_8 : M153 18 8 = M95 18 8 := f152 18 8 (fun q => absurd q.2 (by decide))
                    have hF := hF.wr f152 (by decide) (by decide)
                    have hW : WFk M153 := hW.site f152 (by decide)
                    have q154 : u107 = M153 18 1 := eu107.trans (f152 18 1 (fun q => absurd q.2 (by decide))).symm
                    have q155 : u108 = M153 18 2 := eu108.trans (f152 18 2 (fun q => absurd q.2 (by decide))).symm
                    have q156 : u109 = M153 18 4 := eu109.trans (f152 18 4 (fun q => absurd q.2 (by decide))).symm
                    have q157 : u110 = M153 18 5 := eu110.trans (f152 18 5 (fun q => absurd q.2 (by decide))).symm
                    have q158 : u111 = M153 18 6 := eu111.trans (f152 18 6 (fun q => absurd q.2 (by decide))).symm
                    have q159 : u113 = M153 18 8 := eu113.trans (f152 18 8 (fun q => absurd q.2 (by decide))).symm
                    have pr9 : ¬ M95 18 5 = M95 18 6 := fun q => by have g1 : So v52 (M 1 (M95 18 5).toNat) := (by rw [q]; exact i150_6); have g2 := so_u g1 (show So v147 (M 1 (M95 18 5).toNat) from (by rw [← eu110, show M 1 (u110).toNat = v146 from by omega]; exact yp149)); omega
                    exact hret _ 241 _ ⟨hI, hW⟩ ⟨hF, (by omega), (fun h0 => advC h0 (by omega) (by omega) (fun j => hF.at (by decide)) (by omega) (show tkC M153 = 1 from by unfold tkC; rw [if_neg (by omega), if_neg (by omega)]; omega) (show vlC M153 = 0 from by unfold vlC; rw [if_neg (by omega)]) (adv_W (by omega) (by omega) (by omega) (run_C (by omega) (fun j a b => i150_4 j a (by omega))) (by rw [UC_at (by omega), show M153 18 6 = M95 18 6 from by omega]; exact so_1 i150_6 (by omega)) (by omega) (by omega) (run_C (by omega) (fun j a b => so_1 (i150_5 j (by omega) (by omega)) (by omega))) (Or.inr (by rw [UC_at (by omega), ← q157, show M 1 (u110).toNat = v146 from by omega]; exact so_n1 yp149 (by omega) (by omega)))))⟩ dX6_advance_241
                  · refine z_aload_n F dX6_advance_220 rfl (q := 0) rfl ?_
                    refine gf_X6_33 F hI gs_18 rfl bd_18_5 dX6_advance_221 (fun v160 ev160 av160 bv160 => ?_)
                    have zv160 : u110 = v160 := eu110.trans ev160.symm
                    subst zv160
                    refine z_aload_n F dX6_advance_224 rfl (q := 0) rfl ?_
                    refine gf_X6_57 F hI gs_18 rfl bd_18_6 dX6_advance_225 (fun v161 ev161 av161 bv161 => ?_)
                    have zv161 : u111 = v161 := eu111.trans ev161.symm
                    subst zv161
                    refine z_isub F dX6_advance_228 ?_
                    refine z_iconst F dX6_advance_229 ?_
                    refine z_icmp_le (tgt := 237) F dX6_advance_230 (by decide +kernel) (by omega) (by omega) (fun c162 => ?_) (fun c162 => ?_)
                    · refine z_iload_n F dX6_advance_237 rfl (q := 1) rfl ?_
                      refine pf_X6_48 F hI gs_18 rfl bd_18_7 rfl rfl dX6_advance_238 (by omega) (by omega) (fun M164 hI sf163 f163 => ?_)
                      have tM164_18_1 : M164 18 1 = M95 18 1 := f163 18 1 (fun q => absurd q.2 (by decide))
                      have tM164_18_2 : M164 18 2 = M95 18 2 := f163 18 2 (fun q => absurd q.2 (by decide))
                      have tM164_18_4 : M164 18 4 = M95 18 4 := f163 18 4 (fun q => absurd q.2 (by decide))
                      have tM164_18_5 : M164 18 5 = M95 18 5 := f163 18 5 (fun q => absurd q.2 (by decide))
                      have tM164_18_6 : M164 18 6 = M95 18 6 := f163 18 6 (fun q => absurd q.2 (by decide))
                      have tM164_18_8 : M164 18 8 = M95 18 8 := f163 18 8 (fun q => absurd q.2 (by decide))
                      have hF := hF.wr f163 (by decide) (by decide)
                      have hW : WFk M164 := hW.site f163 (by decide)
                      have q165 : u107 = M164 18 1 := eu107.trans (f163 18 1 (fun q => absurd q.2 (by decide))).symm
                      have q166 : u108 = M164 18 2 := eu108.trans (f163 18 2 (fun q => absurd q.2 (by decide))).symm
                      have q167 : u109 = M164 18 4 := eu109.trans (f163 18 4 (fun q => absurd q.2 (by decide))).symm
                      have q168 : u110 = M164 18 5 := eu110.trans (f163 18 5 (fun q => absurd q.2 (by decide))).symm
                      have q169 : u111 = M164 18 6 := eu111.trans (f163 18 6 (fun q => absurd q.2 (by decide))).symm
                      have q170 : u113 = M164 18 8 := eu113.trans (f163 18 8 (fun q => absurd q.2 (by decide))).symm
                      have pr9 : ¬ M95 18 5 = M95 18 6 := fun q => by have g1 : So v52 (M 1 (M95 18 5).toNat) := (by rw [q]; exact i150_6); have g2 := so_u g1 (show So v147 (M 1 (M95 18 5).toNat) from (by rw [← eu110, show M 1 (u110).toNat = v146 from by omega]; exact yp149)); omega
                      exact hret _ 241 _ ⟨hI, hW⟩ ⟨hF, (by omega), (fun h0 => advC h0 (by omega) (by omega) (fun j => hF.at (by decide)) (by omega) (show tkC M164 = 2 from by unfold tkC; rw [if_neg (by omega), if_neg (by omega)]; omega) (show vlC M164 = M164 18 8 from by unfold vlC; rw [if_pos (by omega)]) (adv_N (by omega) (by omega) (by omega) (run_C (by omega) (fun j a b => i150_4 j a (by omega))) (by rw [UC_at (by omega), show M164 18 6 = M95 18 6 from by omega]; exact so_2m i150_6 (by omega)) (by omega) (by omega) (run_C (by omega) (fun j a b => so_2m (i150_5 j (by omega) (by omega)) (by omega))) (Or.inr (by rw [UC_at (by omega), ← q168, show M 1 (u110).toNat = v146 from by omega]; exact so_n2 yp149 (by omega) (by omega))) (Or.inr ⟨by omega, rfl, (by rw [dec3_c (V := bC M) _ (fun k hk => UC_at (by omega)), show M164 18 8 = M95 18 8 from by omega, show M164 18 6 = M95 18 6 from by omega, show M164 18 5 = M95 18 5 from by omega]; exact i150_7 (by omega) (by omega))⟩)))⟩ dX6_advance_241
                    · refine z_iconst F dX6_advance_233 ?_
                      refine z_goto (tgt := 238) F dX6_advance_234 (by decide +kernel) ?_
                      refine pf_X6_48 F hI gs_18 rfl bd_18_7 rfl rfl dX6_advance_238 (by omega) (by omega) (fun M172 hI sf171 f171 => ?_)
                      have tM172_18_1 : M172 18 1 = M95 18 1 := f171 18 1 (fun q => absurd q.2 (by decide))
                      have tM172_18_2 : M172 18 2 = M95 18 2 := f171 18 2 (fun q => absurd q.2 (by decide))
                      have tM172_18_4 : M172 18 4 = M95 18 4 := f171 18 4 (fun q => absurd q.2 (by decide))
                      have tM172_18_5 : M172 18 5 = M95 18 5 := f171 18 5 (fun q => absurd q.2 (by decide))
                      have tM172_18_6 : M172 18 6 = M95 18 6 := f171 18 6 (fun q => absurd q.2 (by decide))
                      have tM172_18_8 : M172 18 8 = M95 18 8 := f171 18 8 (fun q => absurd q.2 (by decide))
                      have hF := hF.wr f171 (by decide) (by decide)
                      have hW : WFk M172 := hW.site f171 (by decide)
                      have q173 : u107 = M172 18 1 := eu107.trans (f171 18 1 (fun q => absurd q.2 (by decide))).symm
                      have q174 : u108 = M172 18 2 := eu108.trans (f171 18 2 (fun q => absurd q.2 (by decide))).symm
                      have q175 : u109 = M172 18 4 := eu109.trans (f171 18 4 (fun q => absurd q.2 (by decide))).symm
                      have q176 : u110 = M172 18 5 := eu110.trans (f171 18 5 (fun q => absurd q.2 (by decide))).symm
                      have q177 : u111 = M172 18 6 := eu111.trans (f171 18 6 (fun q => absurd q.2 (by decide))).symm
                      have q178 : u113 = M172 18 8 := eu113.trans (f171 18 8 (fun q => absurd q.2 (by decide))).symm
                      have pr9 : ¬ M95 18 5 = M95 18 6 := fun q => by have g1 : So v52 (M 1 (M95 18 5).toNat) := (by rw [q]; exact i150_6); have g2 := so_u g1 (show So v147 (M 1 (M95 18 5).toNat) from (by rw [← eu110, show M 1 (u110).toNat = v146 from by omega]; exact yp149)); omega
                      exact hret _ 241 _ ⟨hI, hW⟩ ⟨hF, (by omega), (fun h0 => advC h0 (by omega) (by omega) (fun j => hF.at (by decide)) (by omega) (show tkC M172 = 3 from by unfold tkC; rw [if_neg (by omega), if_pos (by omega)]) (show vlC M172 = 0 from by unfold vlC; rw [if_neg (by omega)]) (adv_N (by omega) (by omega) (by omega) (run_C (by omega) (fun j a b => i150_4 j a (by omega))) (by rw [UC_at (by omega), show M172 18 6 = M95 18 6 from by omega]; exact so_2m i150_6 (by omega)) (by omega) (by omega) (run_C (by omega) (fun j a b => so_2m (i150_5 j (by omega) (by omega)) (by omega))) (Or.inr (by rw [UC_at (by omega), ← q176, show M 1 (u110).toNat = v146 from by omega]; exact so_n2 yp149 (by omega) (by omega))) (Or.inl ⟨by omega, rfl, rfl⟩)))⟩ dX6_advance_241
                · refine z_aload_n F dX6_advance_177 rfl (q := 0) rfl ?_
                  refine z_bipush F dX6_advance_178 (by decide +kernel) ?_
                  refine z_aload_n F dX6_advance_180 rfl (q := 0) rfl ?_
                  refine gf_X6_60 F hI gs_18 rfl bd_18_8 dX6_advance_181 (fun v179 ev179 av179 bv179 => ?_)
                  have zv179 : u113 = v179 := eu113.trans ev179.symm
                  subst zv179
                  refine z_imul F dX6_advance_184 ?_
                  refine z_wrap (fun v180 rv180 wv180 => ?_)
                  refine z_aload_n F dX6_advance_185 rfl (q := 0) rfl ?_
                  refine rf_X6_22 F gs_18 rfl dX6_advance_186 ?_
                  refine z_aload_n F dX6_advance_189 rfl (q := 0) rfl ?_
                  refine gf_X6_33 F hI gs_18 rfl bd_18_5 dX6_advance_190 (fun v181 ev181 av181 bv181 => ?_)
                  have zv181 : u110 = v181 := eu110.trans ev181.symm
                  subst zv181
                  refine z_bald F hI gs_1 (by omega) (by omega) (by decide) bd_1 dX6_advance_193 (fun v182 (ev182 : v182 = M95 1 _) av182 bv182 => ?_)
                  have frv182 : M95 1 (u110).toNat = M 1 (u110).toNat := hF.at (by decide)
                  have zv182 : v146 = v182 := ev146.trans ev182.symm
                  subst zv182
                  refine z_iadd F dX6_advance_194 ?_
                  refine z_wrap (fun v183 rv183 wv183 => ?_)
                  refine z_bipush F dX6_advance_195 (by decide +kernel) ?_
                  refine z_isub F dX6_advance_197 ?_
                  refine z_wrap (fun v184 rv184 wv184 => ?_)
                  have z3 : True := trivial
                  refine pf_X6_60 F hI gs_18 rfl bd_18_8 rfl rfl dX6_advance_198 (by omega) (by omega) (fun M186 hI sf185 f185 => ?_)
                  have tM186_18_1 : M186 18 1 = M95 18 1 := f185 18 1 (fun q => absurd q.2 (by decide))
                  have tM186_18_2 : M186 18 2 = M95 18 2 := f185 18 2 (fun q => absurd q.2 (by decide))
                  have tM186_18_4 : M186 18 4 = M95 18 4 := f185 18 4 (fun q => absurd q.2 (by decide))
                  have tM186_18_5 : M186 18 5 = M95 18 5 := f185 18 5 (fun q => absurd q.2 (by decide))
                  have tM186_18_6 : M186 18 6 = M95 18 6 := f185 18 6 (fun q => absurd q.2 (by decide))
                  have tM186_18_7 : M186 18 7 = M95 18 7 := f185 18 7 (fun q => absurd q.2 (by decide))
                  have hF := hF.wr f185 (by decide) (by decide)
                  have hW : WFk M186 := hW.site f185 (by decide)
                  refine z_aload_n F dX6_advance_201 rfl (q := 0) rfl ?_
                  refine z_dup F dX6_advance_202 rfl ?_
                  refine gf_X6_33 F hI gs_18 rfl bd_18_5 dX6_advance_203 (fun v187 ev187 av187 bv187 => ?_)
                  have q188 : u110 = M186 18 5 := eu110.trans (f185 18 5 (fun q => absurd q.2 (by decide))).symm
                  have zv187 : u110 = v187 := q188.trans ev187.symm
                  subst zv187
                  refine z_iconst F dX6_advance_206 ?_
                  refine z_iadd F dX6_advance_207 ?_
                  refine z_nm (fun v189 ev189 => ?_)
                  refine pf_X6_33 F hI gs_18 rfl bd_18_5 rfl rfl dX6_advance_208 (by omega) (by omega) (fun M191 hI sf190 f190 => ?_)
                  have tM191_18_1 : M191 18 1 = M186 18 1 := f190 18 1 (fun q => absurd q.2 (by decide))
                  have tM191_18_2 : M191 18 2 = M186 18 2 := f190 18 2 (fun q => absurd q.2 (by decide))
                  have tM191_18_4 : M191 18 4 = M186 18 4 := f190 18 4 (fun q => absurd q.2 (by decide))
                  have tM191_18_6 : M191 18 6 = M186 18 6 := f190 18 6 (fun q => absurd q.2 (by decide))
                  have tM191_18_7 : M191 18 7 = M186 18 7 := f190 18 7 (fun q => absurd q.2 (by decide))
                  have tM191_18_8 : M191 18 8 = M186 18 8 := f190 18 8 (fun q => absurd q.2 (by decide))
                  have hF := hF.wr f190 (by decide) (by decide)
                  have hW : WFk M191 := hW.site f190 (by decide)
                  refine z_goto (tgt := 150) F dX6_advance_211 (by decide +kernel) ?_
                  refine z_loc [0, 1] (ls' := [(0, .ref (ad 18)), (1, ii v52)]) rfl ?_
                  have dg2 : Im (v52 = 2) (48 ≤ v146 ∧ v146 ≤ 57) := fun q => so_2 yp149 (by omega)
                  have nw : Im (v52 = 2) (Im (M95 18 5 - M95 18 6 ≤ 2) (v184 = 10 * u113 + v146 - 48)) := fun q r => by have g1 := dg2 q; have g2 := fun r => i150_8 q r; have g3 := fun r => i150_9 q r; have g4 := fun r => i150_10 q r; have w1 := wv180.1 ⟨by omega, by omega⟩; have w2 := wv183.1 ⟨by omega, by omega⟩; have w3 := wv184.1 ⟨by omega, by omega⟩; omega
                  have q192 : u107 = M186 18 1 := eu107.trans (f185 18 1 (fun q => absurd q.2 (by decide))).symm
                  have q193 : u107 = M191 18 1 := q192.trans (f190 18 1 (fun q => absurd q.2 (by decide))).symm
                  have q194 : u108 = M186 18 2 := eu108.trans (f185 18 2 (fun q => absurd q.2 (by decide))).symm
                  have q195 : u108 = M191 18 2 := q194.trans (f190 18 2 (fun q => absurd q.2 (by decide))).symm
                  have q196 : u109 = M186 18 4 := eu109.trans (f185 18 4 (fun q => absurd q.2 (by decide))).symm
                  have q197 : u109 = M191 18 4 := q196.trans (f190 18 4 (fun q => absurd q.2 (by decide))).symm
                  have q198 : u111 = M186 18 6 := eu111.trans (f185 18 6 (fun q => absurd q.2 (by decide))).symm
                  have q199 : u111 = M191 18 6 := q198.trans (f190 18 6 (fun q => absurd q.2 (by decide))).symm
                  have q200 : u112 = M186 18 7 := eu112.trans (f185 18 7 (fun q => absurd q.2 (by decide))).symm
                  have q201 : u112 = M191 18 7 := q200.trans (f190 18 7 (fun q => absurd q.2 (by decide))).symm
                  have q202 : v184 = M191 18 8 := sf185.symm.trans (f190 18 8 (fun q => absurd q.2 (by decide))).symm
                  exact ih150 M191 hI hW hF (by omega) (by omega) (by omega) (by omega) (fun j a b => i150_4 j a (by omega)) (fun j a b => run_sn (U := M 1) (P := So v52) i150_5 (show So v52 (M 1 (M95 18 5).toNat) from by rw [← eu110, show M 1 (u110).toNat = v146 from by omega, show v52 = v147 from by omega]; exact yp149) (by omega) j (by omega) (by omega)) (by rw [show M191 18 6 = M95 18 6 from by omega]; exact i150_6) (fun q r => by have g1 := dg2 r; have g2 := nw r (by omega); rw [show (M191 18 5 - M191 18 6).toNat = (M95 18 5 - M95 18 6).toNat + 1 from by omega, show M191 18 6 = M95 18 6 from by omega]; exact dec3_sn (i150_7 (by omega) r) (by rw [show (M95 18 6).toNat + (M95 18 5 - M95 18 6).toNat = (M95 18 5).toNat from by omega, ← eu110]; show _ = _ + M 1 (u110).toNat % 256 - 48; omega)) (fun q r => by exfalso; omega) (fun q r => by have g1 := dg2 q; have g2 := nw q (by omega); have g3 := i150_8 q (by omega); omega) (fun q r => by have g1 := dg2 q; have g2 := nw q (by omega); have g3 := i150_9 q (by omega); omega) (by omega) (by omega)
          · refine z_aload_n F dX6_advance_112 rfl (q := 0) rfl ?_
            refine z_aload_n F dX6_advance_113 rfl (q := 0) rfl ?_
            refine rf_X6_22 F gs_18 rfl dX6_advance_114 ?_
            refine z_aload_n F dX6_advance_117 rfl (q := 0) rfl ?_
            refine gf_X6_33 F hI gs_18 rfl bd_18_5 dX6_advance_118 (fun v203 ev203 av203 bv203 => ?_)
            have q204 : u12 = M56 18 5 := q26.trans (f55 18 5 (fun q => absurd q.2 (by decide))).symm
            have zv203 : u12 = v203 := q204.trans ev203.symm
            subst zv203
            refine z_bald F hI gs_1 (by omega) (by omega) (by decide) bd_1 dX6_advance_121 (fun v205 (ev205 : v205 = M56 1 _) av205 bv205 => ?_)
            have q206 : v51 = M56 1 (u12).toNat := ev51.trans (f55 1 (u12).toNat (fun q => absurd q.1 (by decide))).symm
            have frv205 : M56 1 (u12).toNat = M 1 (u12).toNat := hF.at (by decide)
            have zv205 : v51 = v205 := q206.trans ev205.symm
            subst zv205
            refine pf_X6_60 F hI gs_18 rfl bd_18_8 rfl rfl dX6_advance_122 (by omega) (by omega) (fun M208 hI sf207 f207 => ?_)
            have tM208_18_1 : M208 18 1 = M56 18 1 := f207 18 1 (fun q => absurd q.2 (by decide))
            have tM208_18_2 : M208 18 2 = M56 18 2 := f207 18 2 (fun q => absurd q.2 (by decide))
            have tM208_18_4 : M208 18 4 = M56 18 4 := f207 18 4 (fun q => absurd q.2 (by decide))
            have tM208_18_5 : M208 18 5 = M56 18 5 := f207 18 5 (fun q => absurd q.2 (by decide))
            have tM208_18_6 : M208 18 6 = M56 18 6 := f207 18 6 (fun q => absurd q.2 (by decide))
            have tM208_18_7 : M208 18 7 = M56 18 7 := f207 18 7 (fun q => absurd q.2 (by decide))
            have hF := hF.wr f207 (by decide) (by decide)
            have hW : WFk M208 := hW.site f207 (by decide)
            refine z_aload_n F dX6_advance_125 rfl (q := 0) rfl ?_
            refine z_dup F dX6_advance_126 rfl ?_
            refine gf_X6_33 F hI gs_18 rfl bd_18_5 dX6_advance_127 (fun v209 ev209 av209 bv209 => ?_)
            have q210 : u12 = M208 18 5 := q204.trans (f207 18 5 (fun q => absurd q.2 (by decide))).symm
            have zv209 : u12 = v209 := q210.trans ev209.symm
            subst zv209
            refine z_iconst F dX6_advance_130 ?_
            refine z_iadd F dX6_advance_131 ?_
            refine z_nm (fun v211 ev211 => ?_)
            refine pf_X6_33 F hI gs_18 rfl bd_18_5 rfl rfl dX6_advance_132 (by omega) (by omega) (fun M213 hI sf212 f212 => ?_)
            have tM213_18_1 : M213 18 1 = M208 18 1 := f212 18 1 (fun q => absurd q.2 (by decide))
            have tM213_18_2 : M213 18 2 = M208 18 2 := f212 18 2 (fun q => absurd q.2 (by decide))
            have tM213_18_4 : M213 18 4 = M208 18 4 := f212 18 4 (fun q => absurd q.2 (by decide))
            have tM213_18_6 : M213 18 6 = M208 18 6 := f212 18 6 (fun q => absurd q.2 (by decide))
            have tM213_18_7 : M213 18 7 = M208 18 7 := f212 18 7 (fun q => absurd q.2 (by decide))
            have tM213_18_8 : M213 18 8 = M208 18 8 := f212 18 8 (fun q => absurd q.2 (by decide))
            have hF := hF.wr f212 (by decide) (by decide)
            have hW : WFk M213 := hW.site f212 (by decide)
            refine z_goto (tgt := 241) F dX6_advance_135 (by decide +kernel) ?_
            have q214 : u9 = M21 18 1 := eu9.trans (f20 18 1 (fun q => absurd q.2 (by decide))).symm
            have q215 : u9 = M23 18 1 := q214.trans (f22 18 1 (fun q => absurd q.2 (by decide))).symm
            have q216 : u9 = M56 18 1 := q215.trans (f55 18 1 (fun q => absurd q.2 (by decide))).symm
            have q217 : u9 = M208 18 1 := q216.trans (f207 18 1 (fun q => absurd q.2 (by decide))).symm
            have q218 : u9 = M213 18 1 := q217.trans (f212 18 1 (fun q => absurd q.2 (by decide))).symm
            have q219 : u10 = M21 18 2 := eu10.trans (f20 18 2 (fun q => absurd q.2 (by decide))).symm
            have q220 : u10 = M23 18 2 := q219.trans (f22 18 2 (fun q => absurd q.2 (by decide))).symm
            have q221 : u10 = M56 18 2 := q220.trans (f55 18 2 (fun q => absurd q.2 (by decide))).symm
            have q222 : u10 = M208 18 2 := q221.trans (f207 18 2 (fun q => absurd q.2 (by decide))).symm
            have q223 : u10 = M213 18 2 := q222.trans (f212 18 2 (fun q => absurd q.2 (by decide))).symm
            have q224 : u11 = M56 18 4 := q29.trans (f55 18 4 (fun q => absurd q.2 (by decide))).symm
            have q225 : u11 = M208 18 4 := q224.trans (f207 18 4 (fun q => absurd q.2 (by decide))).symm
            have q226 : u11 = M213 18 4 := q225.trans (f212 18 4 (fun q => absurd q.2 (by decide))).symm
            have q227 : u12 = M23 18 6 := sf20.symm.trans (f22 18 6 (fun q => absurd q.2 (by decide))).symm
            have q228 : u12 = M56 18 6 := q227.trans (f55 18 6 (fun q => absurd q.2 (by decide))).symm
            have q229 : u12 = M208 18 6 := q228.trans (f207 18 6 (fun q => absurd q.2 (by decide))).symm
            have q230 : u12 = M213 18 6 := q229.trans (f212 18 6 (fun q => absurd q.2 (by decide))).symm
            have q231 : v52 = M208 18 7 := sf55.symm.trans (f207 18 7 (fun q => absurd q.2 (by decide))).symm
            have q232 : v52 = M213 18 7 := q231.trans (f212 18 7 (fun q => absurd q.2 (by decide))).symm
            have q233 : v51 = M213 18 8 := sf207.symm.trans (f212 18 8 (fun q => absurd q.2 (by decide))).symm
            have cv9 : M 1 (u12).toNat = v51 := by omega
            exact hret _ 241 _ ⟨hI, hW⟩ ⟨hF, (by omega), (fun h0 => advC h0 (by omega) (by omega) (fun j => hF.at (by decide)) (by omega) (show tkC M213 = 3 from by unfold tkC; rw [if_neg (by omega), if_pos (by omega)]) (show vlC M213 = 0 from by unfold vlC; rw [if_neg (by omega)]) (by rw [show M213 18 5 = M213 18 6 + 1 from by omega]; exact adv_S (by omega) (by omega) (by omega) (run_C (by omega) (fun j a b => i0_3 j a (by omega))) (by rw [UC_at (by omega), ← q230, cv9]; unfold c_bl; omega) (by rw [UC_at (by omega), ← q230, cv9]; exact so_n1 yp54 (by omega) (by omega)) (by rw [UC_at (by omega), ← q230, cv9]; exact so_n2 yp54 (by omega) (by omega)) (Or.inr ⟨(by rw [UC_at (by omega), ← q230, cv9]; exact so_4 yp54 (by omega) (by omega)), rfl⟩)))⟩ dX6_advance_241
    · refine z_aload_n F dX6_advance_11 rfl (q := 0) rfl ?_
      refine rf_X6_22 F gs_18 rfl dX6_advance_12 ?_
      refine z_aload_n F dX6_advance_15 rfl (q := 0) rfl ?_
      refine gf_X6_33 F hI gs_18 rfl bd_18_5 dX6_advance_16 (fun v234 ev234 av234 bv234 => ?_)
      have zv234 : u12 = v234 := eu12.trans ev234.symm
      subst zv234
      refine z_bald F hI gs_1 (by omega) (by omega) (by decide) bd_1 dX6_advance_19 (fun v235 (ev235 : v235 = M8 1 _) av235 bv235 => ?_)
      have frv235 : M8 1 (u12).toNat = M 1 (u12).toNat := hF.at (by decide)
      refine z_bipush F dX6_advance_20 (by decide +kernel) ?_
      refine z_icmp_eq (tgt := 39) F dX6_advance_22 (by decide +kernel) (by omega) (by omega) (fun c236 => ?_) (fun c236 => ?_)
      · refine z_aload_n F dX6_advance_39 rfl (q := 0) rfl ?_
        refine z_dup F dX6_advance_40 rfl ?_
        refine gf_X6_33 F hI gs_18 rfl bd_18_5 dX6_advance_41 (fun v237 ev237 av237 bv237 => ?_)
        have zv237 : u12 = v237 := eu12.trans ev237.symm
        subst zv237
        refine z_iconst F dX6_advance_44 ?_
        refine z_iadd F dX6_advance_45 ?_
        refine z_nm (fun v238 ev238 => ?_)
        refine pf_X6_33 F hI gs_18 rfl bd_18_5 rfl rfl dX6_advance_46 (by omega) (by omega) (fun M240 hI sf239 f239 => ?_)
        have tM240_18_1 : M240 18 1 = M8 18 1 := f239 18 1 (fun q => absurd q.2 (by decide))
        have tM240_18_2 : M240 18 2 = M8 18 2 := f239 18 2 (fun q => absurd q.2 (by decide))
        have tM240_18_4 : M240 18 4 = M8 18 4 := f239 18 4 (fun q => absurd q.2 (by decide))
        have tM240_18_6 : M240 18 6 = M8 18 6 := f239 18 6 (fun q => absurd q.2 (by decide))
        have tM240_18_7 : M240 18 7 = M8 18 7 := f239 18 7 (fun q => absurd q.2 (by decide))
        have tM240_18_8 : M240 18 8 = M8 18 8 := f239 18 8 (fun q => absurd q.2 (by decide))
        have hF := hF.wr f239 (by decide) (by decide)
        have hW : WFk M240 := hW.site f239 (by decide)
        refine z_goto (tgt := 0) F dX6_advance_49 (by decide +kernel) ?_
        refine z_loc [0] (ls' := [(0, .ref (ad 18))]) rfl ?_
        have q241 : u9 = M240 18 1 := eu9.trans (f239 18 1 (fun q => absurd q.2 (by decide))).symm
        have q242 : u10 = M240 18 2 := eu10.trans (f239 18 2 (fun q => absurd q.2 (by decide))).symm
        have q243 : u11 = M240 18 4 := eu11.trans (f239 18 4 (fun q => absurd q.2 (by decide))).symm
        have q244 : u13 = M240 18 6 := eu13.trans (f239 18 6 (fun q => absurd q.2 (by decide))).symm
        have q245 : u14 = M240 18 7 := eu14.trans (f239 18 7 (fun q => absurd q.2 (by decide))).symm
        have q246 : u15 = M240 18 8 := eu15.trans (f239 18 8 (fun q => absurd q.2 (by decide))).symm
        exact ih0 M240 hI hW hF (by omega) (by omega) (by omega) (fun j a b => run_sn (U := bC M) (P := c_bl) i0_3 (show c_bl (bC M (M8 18 5).toNat) from by rw [← eu12]; show c_bl (M 1 (u12).toNat % 256); unfold c_bl; omega) (by omega) j a (by omega)) (by omega) (by omega) (by omega)
      · refine z_aload_n F dX6_advance_25 rfl (q := 0) rfl ?_
        refine rf_X6_22 F gs_18 rfl dX6_advance_26 ?_
        refine z_aload_n F dX6_advance_29 rfl (q := 0) rfl ?_
        refine gf_X6_33 F hI gs_18 rfl bd_18_5 dX6_advance_30 (fun v247 ev247 av247 bv247 => ?_)
        have zv247 : u12 = v247 := eu12.trans ev247.symm
        subst zv247
        refine z_bald F hI gs_1 (by omega) (by omega) (by decide) bd_1 dX6_advance_33 (fun v248 (ev248 : v248 = M8 1 _) av248 bv248 => ?_)
        have frv248 : M8 1 (u12).toNat = M 1 (u12).toNat := hF.at (by decide)
        have zv248 : v235 = v248 := ev235.trans ev248.symm
        subst zv248
        refine z_bipush F dX6_advance_34 (by decide +kernel) ?_
        refine z_icmp_ne (tgt := 52) F dX6_advance_36 (by decide +kernel) (by omega) (by omega) (fun c249 => ?_) (fun c249 => ?_)
        · refine z_aload_n F dX6_advance_52 rfl (q := 0) rfl ?_
          refine z_aload_n F dX6_advance_53 rfl (q := 0) rfl ?_
          refine gf_X6_33 F hI gs_18 rfl bd_18_5 dX6_advance_54 (fun v250 ev250 av250 bv250 => ?_)
          have zv250 : u12 = v250 := eu12.trans ev250.symm
          subst zv250
          refine pf_X6_57 F hI gs_18 rfl bd_18_6 rfl rfl dX6_advance_57 (by omega) (by omega) (fun M252 hI sf251 f251 => ?_)
          have tM252_18_1 : M252 18 1 = M8 18 1 := f251 18 1 (fun q => absurd q.2 (by decide))
          have tM252_18_2 : M252 18 2 = M8 18 2 := f251 18 2 (fun q => absurd q.2 (by decide))
          have tM252_18_4 : M252 18 4 = M8 18 4 := f251 18 4 (fun q => absurd q.2 (by decide))
          have tM252_18_5 : M252 18 5 = M8 18 5 := f251 18 5 (fun q => absurd q.2 (by decide))
          have tM252_18_7 : M252 18 7 = M8 18 7 := f251 18 7 (fun q => absurd q.2 (by decide))
          have tM252_18_8 : M252 18 8 = M8 18 8 := f251 18 8 (fun q => absurd q.2 (by decide))
          have hF := hF.wr f251 (by decide) (by decide)
          have hW : WFk M252 := hW.site f251 (by decide)
          refine z_aload_n F dX6_advance_60 rfl (q := 0) rfl ?_
          refine z_iconst F dX6_advance_61 ?_
          refine pf_X6_60 F hI gs_18 rfl bd_18_8 rfl rfl dX6_advance_62 (by omega) (by omega) (fun M254 hI sf253 f253 => ?_)
          have tM254_18_1 : M254 18 1 = M252 18 1 := f253 18 1 (fun q => absurd q.2 (by decide))
          have tM254_18_2 : M254 18 2 = M252 18 2 := f253 18 2 (fun q => absurd q.2 (by decide))
          have tM254_18_4 : M254 18 4 = M252 18 4 := f253 18 4 (fun q => absurd q.2 (by decide))
          have tM254_18_5 : M254 18 5 = M252 18 5 := f253 18 5 (fun q => absurd q.2 (by decide))
          have tM254_18_6 : M254 18 6 = M252 18 6 := f253 18 6 (fun q => absurd q.2 (by decide))
          have tM254_18_7 : M254 18 7 = M252 18 7 := f253 18 7 (fun q => absurd q.2 (by decide))
          have hF := hF.wr f253 (by decide) (by decide)
          have hW : WFk M254 := hW.site f253 (by decide)
          refine z_aload_n F dX6_advance_65 rfl (q := 0) rfl ?_
          refine z_aload_n F dX6_advance_66 rfl (q := 0) rfl ?_
          refine gf_X6_33 F hI gs_18 rfl bd_18_5 dX6_advance_67 (fun v255 ev255 av255 bv255 => ?_)
          have q256 : u12 = M252 18 5 := eu12.trans (f251 18 5 (fun q => absurd q.2 (by decide))).symm
          have q257 : u12 = M254 18 5 := q256.trans (f253 18 5 (fun q => absurd q.2 (by decide))).symm
          have zv255 : u12 = v255 := q257.trans ev255.symm
          subst zv255
          refine z_aload_n F dX6_advance_70 rfl (q := 0) rfl ?_
          refine gf_X6_30 F hI gs_18 rfl bd_18_4 dX6_advance_71 (fun v258 ev258 av258 bv258 => ?_)
          have q259 : u11 = M252 18 4 := eu11.trans (f251 18 4 (fun q => absurd q.2 (by decide))).symm
          have q260 : u11 = M254 18 4 := q259.trans (f253 18 4 (fun q => absurd q.2 (by decide))).symm
          have zv258 : u11 = v258 := q260.trans ev258.symm
          subst zv258
          refine z_icmp_ge (tgt := 92) F dX6_advance_74 (by decide +kernel) (by omega) (by omega) (fun c261 => ?_) (fun c261 => ?_)
          · refine z_iconst F dX6_advance_92 ?_
            refine pf_X6_48 F hI gs_18 rfl bd_18_7 rfl rfl dX6_advance_93 (by omega) (by omega) (fun M263 hI sf262 f262 => ?_)
            have tM263_18_1 : M263 18 1 = M254 18 1 := f262 18 1 (fun q => absurd q.2 (by decide))
            have tM263_18_2 : M263 18 2 = M254 18 2 := f262 18 2 (fun q => absurd q.2 (by decide))
            have tM263_18_4 : M263 18 4 = M254 18 4 := f262 18 4 (fun q => absurd q.2 (by decide))
            have tM263_18_5 : M263 18 5 = M254 18 5 := f262 18 5 (fun q => absurd q.2 (by decide))
            have tM263_18_6 : M263 18 6 = M254 18 6 := f262 18 6 (fun q => absurd q.2 (by decide))
            have tM263_18_8 : M263 18 8 = M254 18 8 := f262 18 8 (fun q => absurd q.2 (by decide))
            have hF := hF.wr f262 (by decide) (by decide)
            have hW : WFk M263 := hW.site f262 (by decide)
            refine z_aload_n F dX6_advance_96 rfl (q := 0) rfl ?_
            refine gf_X6_48 F hI gs_18 rfl bd_18_7 dX6_advance_97 (fun v264 ev264 av264 bv264 => ?_)
            have zv264 : 0 = v264 := sf262.symm.trans ev264.symm
            subst zv264
            refine z_iconst F dX6_advance_100 ?_
            refine z_icmp_eq (tgt := 112) F dX6_advance_101 (by decide +kernel) (by omega) (by omega) (fun c265 => by exfalso; omega) (fun c265 => ?_)
            refine z_aload_n F dX6_advance_104 rfl (q := 0) rfl ?_
            refine gf_X6_48 F hI gs_18 rfl bd_18_7 dX6_advance_105 (fun v266 ev266 av266 bv266 => ?_)
            have zv266 : 0 = v266 := sf262.symm.trans ev266.symm
            subst zv266
            refine z_iconst F dX6_advance_108 ?_
            refine z_icmp_ne (tgt := 138) F dX6_advance_109 (by decide +kernel) (by omega) (by omega) (fun c267 => ?_) (fun c267 => by exfalso; omega)
            refine z_aload_n F dX6_advance_138 rfl (q := 0) rfl ?_
            refine gf_X6_48 F hI gs_18 rfl bd_18_7 dX6_advance_139 (fun v268 ev268 av268 bv268 => ?_)
            have zv268 : 0 = v268 := sf262.symm.trans ev268.symm
            subst zv268
            refine z_if_eq (tgt := 241) F dX6_advance_142 (by decide +kernel) (by omega) (fun c269 => ?_) (fun c269 => by exfalso; omega)
            have q270 : u9 = M252 18 1 := eu9.trans (f251 18 1 (fun q => absurd q.2 (by decide))).symm
            have q271 : u9 = M254 18 1 := q270.trans (f253 18 1 (fun q => absurd q.2 (by decide))).symm
            have q272 : u9 = M263 18 1 := q271.trans (f262 18 1 (fun q => absurd q.2 (by decide))).symm
            have q273 : u10 = M252 18 2 := eu10.trans (f251 18 2 (fun q => absurd q.2 (by decide))).symm
            have q274 : u10 = M254 18 2 := q273.trans (f253 18 2 (fun q => absurd q.2 (by decide))).symm
            have q275 : u10 = M263 18 2 := q274.trans (f262 18 2 (fun q => absurd q.2 (by decide))).symm
            have q276 : u11 = M263 18 4 := q260.trans (f262 18 4 (fun q => absurd q.2 (by decide))).symm
            have q277 : u12 = M263 18 5 := q257.trans (f262 18 5 (fun q => absurd q.2 (by decide))).symm
            have q278 : u12 = M254 18 6 := sf251.symm.trans (f253 18 6 (fun q => absurd q.2 (by decide))).symm
            have q279 : u12 = M263 18 6 := q278.trans (f262 18 6 (fun q => absurd q.2 (by decide))).symm
            have q280 : 0 = M263 18 8 := sf253.symm.trans (f262 18 8 (fun q => absurd q.2 (by decide))).symm
            exact hret _ 241 _ ⟨hI, hW⟩ ⟨hF, (by omega), (fun h0 => advC h0 (by omega) (by omega) (fun j => hF.at (by decide)) (by omega) (show tkC M263 = 0 from by unfold tkC; rw [if_neg (by omega), if_neg (by omega)]; omega) (show vlC M263 = 0 from by unfold vlC; rw [if_neg (by omega)]) (by rw [show M263 18 5 = M263 18 6 from by omega]; exact adv_E (by omega) (by omega) (by omega) (run_C (by omega) (fun j a b => i0_3 j a (by omega)))))⟩ dX6_advance_241
          · refine z_aload_n F dX6_advance_77 rfl (q := 0) rfl ?_
            refine rf_X6_22 F gs_18 rfl dX6_advance_78 ?_
            refine z_aload_n F dX6_advance_81 rfl (q := 0) rfl ?_
            refine gf_X6_33 F hI gs_18 rfl bd_18_5 dX6_advance_82 (fun v281 ev281 av281 bv281 => ?_)
            have zv281 : u12 = v281 := q257.trans ev281.symm
            subst zv281
            refine z_bald F hI gs_1 (by omega) (by omega) (by decide) bd_1 dX6_advance_85 (fun v282 (ev282 : v282 = M254 1 _) av282 bv282 => ?_)
            have q283 : v235 = M252 1 (u12).toNat := ev235.trans (f251 1 (u12).toNat (fun q => absurd q.1 (by decide))).symm
            have q284 : v235 = M254 1 (u12).toNat := q283.trans (f253 1 (u12).toNat (fun q => absurd q.1 (by decide))).symm
            have frv282 : M254 1 (u12).toNat = M 1 (u12).toNat := hF.at (by decide)
            have zv282 : v235 = v282 := q284.trans ev282.symm
            subst zv282
            refine zs_i (rest := [.ref (ad 18)]) F (kp_X6_sortOf l M254 ⟨hI, hW⟩ v235 (by omega) (by omega)) cs_X6_63 (by decide) (by decide) rfl rfl rfl (Nat.le_of_ble_eq_true rfl) dX6_advance_86 (fun v285 M286 rv285 hI p287 => ?_)
            obtain ⟨hI, hW⟩ := hI
            obtain ⟨⟨av285, bv285⟩, rfl, yp287⟩ := p287
            refine z_goto (tgt := 93) F dX6_advance_89 (by decide +kernel) ?_
            refine pf_X6_48 F hI gs_18 rfl bd_18_7 rfl rfl dX6_advance_93 (by omega) (by omega) (fun M289 hI sf288 f288 => ?_)
            have tM289_18_1 : M289 18 1 = M254 18 1 := f288 18 1 (fun q => absurd q.2 (by decide))
            have tM289_18_2 : M289 18 2 = M254 18 2 := f288 18 2 (fun q => absurd q.2 (by decide))
            have tM289_18_4 : M289 18 4 = M254 18 4 := f288 18 4 (fun q => absurd q.2 (by decide))
            have tM289_18_5 : M289 18 5 = M254 18 5 := f288 18 5 (fun q => absurd q.2 (by decide))
            have tM289_18_6 : M289 18 6 = M254 18 6 := f288 18 6 (fun q => absurd q.2 (by decide))
            have tM289_18_8 : M289 18 8 = M254 18 8 := f288 18 8 (fun q => absurd q.2 (by decide))
            have hF := hF.wr f288 (by decide) (by decide)
            have hW : WFk M289 := hW.site f288 (by decide)
            refine z_aload_n F dX6_advance_96 rfl (q := 0) rfl ?_
            refine gf_X6_48 F hI gs_18 rfl bd_18_7 dX6_advance_97 (fun v290 ev290 av290 bv290 => ?_)
            have zv290 : v285 = v290 := sf288.symm.trans ev290.symm
            subst zv290
            refine z_iconst F dX6_advance_100 ?_
            refine z_icmp_eq (tgt := 112) F dX6_advance_101 (by decide +kernel) (by omega) (by omega) (fun c291 => ?_) (fun c291 => ?_)
            · refine z_aload_n F dX6_advance_112 rfl (q := 0) rfl ?_
              refine z_aload_n F dX6_advance_113 rfl (q := 0) rfl ?_
              refine rf_X6_22 F gs_18 rfl dX6_advance_114 ?_
              refine z_aload_n F dX6_advance_117 rfl (q := 0) rfl ?_
              refine gf_X6_33 F hI gs_18 rfl bd_18_5 dX6_advance_118 (fun v292 ev292 av292 bv292 => ?_)
              have q293 : u12 = M289 18 5 := q257.trans (f288 18 5 (fun q => absurd q.2 (by decide))).symm
              have zv292 : u12 = v292 := q293.trans ev292.symm
              subst zv292
              refine z_bald F hI gs_1 (by omega) (by omega) (by decide) bd_1 dX6_advance_121 (fun v294 (ev294 : v294 = M289 1 _) av294 bv294 => ?_)
              have q295 : v235 = M289 1 (u12).toNat := q284.trans (f288 1 (u12).toNat (fun q => absurd q.1 (by decide))).symm
              have frv294 : M289 1 (u12).toNat = M 1 (u12).toNat := hF.at (by decide)
              have zv294 : v235 = v294 := q295.trans ev294.symm
              subst zv294
              refine pf_X6_60 F hI gs_18 rfl bd_18_8 rfl rfl dX6_advance_122 (by omega) (by omega) (fun M297 hI sf296 f296 => ?_)
              have tM297_18_1 : M297 18 1 = M289 18 1 := f296 18 1 (fun q => absurd q.2 (by decide))
              have tM297_18_2 : M297 18 2 = M289 18 2 := f296 18 2 (fun q => absurd q.2 (by decide))
              have tM297_18_4 : M297 18 4 = M289 18 4 := f296 18 4 (fun q => absurd q.2 (by decide))
              have tM297_18_5 : M297 18 5 = M289 18 5 := f296 18 5 (fun q => absurd q.2 (by decide))
              have tM297_18_6 : M297 18 6 = M289 18 6 := f296 18 6 (fun q => absurd q.2 (by decide))
              have tM297_18_7 : M297 18 7 = M289 18 7 := f296 18 7 (fun q => absurd q.2 (by decide))
              have hF := hF.wr f296 (by decide) (by decide)
              have hW : WFk M297 := hW.site f296 (by decide)
              refine z_aload_n F dX6_advance_125 rfl (q := 0) rfl ?_
              refine z_dup F dX6_advance_126 rfl ?_
              refine gf_X6_33 F hI gs_18 rfl bd_18_5 dX6_advance_127 (fun v298 ev298 av298 bv298 => ?_)
              have q299 : u12 = M297 18 5 := q293.trans (f296 18 5 (fun q => absurd q.2 (by decide))).symm
              have zv298 : u12 = v298 := q299.trans ev298.symm
              subst zv298
              refine z_iconst F dX6_advance_130 ?_
              refine z_iadd F dX6_advance_131 ?_
              refine z_nm (fun v300 ev300 => ?_)
              refine pf_X6_33 F hI gs_18 rfl bd_18_5 rfl rfl dX6_advance_132 (by omega) (by omega) (fun M302 hI sf301 f301 => ?_)
              have tM302_18_1 : M302 18 1 = M297 18 1 := f301 18 1 (fun q => absurd q.2 (by decide))
              have tM302_18_2 : M302 18 2 = M297 18 2 := f301 18 2 (fun q => absurd q.2 (by decide))
              have tM302_18_4 : M302 18 4 = M297 18 4 := f301 18 4 (fun q => absurd q.2 (by decide))
              have tM302_18_6 : M302 18 6 = M297 18 6 := f301 18 6 (fun q => absurd q.2 (by decide))
              have tM302_18_7 : M302 18 7 = M297 18 7 := f301 18 7 (fun q => absurd q.2 (by decide))
              have tM302_18_8 : M302 18 8 = M297 18 8 := f301 18 8 (fun q => absurd q.2 (by decide))
              have hF := hF.wr f301 (by decide) (by decide)
              have hW : WFk M302 := hW.site f301 (by decide)
              refine z_goto (tgt := 241) F dX6_advance_135 (by decide +kernel) ?_
              have q303 : u9 = M252 18 1 := eu9.trans (f251 18 1 (fun q => absurd q.2 (by decide))).symm
              have q304 : u9 = M254 18 1 := q303.trans (f253 18 1 (fun q => absurd q.2 (by decide))).symm
              have q305 : u9 = M289 18 1 := q304.trans (f288 18 1 (fun q => absurd q.2 (by decide))).symm
              have q306 : u9 = M297 18 1 := q305.trans (f296 18 1 (fun q => absurd q.2 (by decide))).symm
              have q307 : u9 = M302 18 1 := q306.trans (f301 18 1 (fun q => absurd q.2 (by decide))).symm
              have q308 : u10 = M252 18 2 := eu10.trans (f251 18 2 (fun q => absurd q.2 (by decide))).symm
              have q309 : u10 = M254 18 2 := q308.trans (f253 18 2 (fun q => absurd q.2 (by decide))).symm
              have q310 : u10 = M289 18 2 := q309.trans (f288 18 2 (fun q => absurd q.2 (by decide))).symm
              have q311 : u10 = M297 18 2 := q310.trans (f296 18 2 (fun q => absurd q.2 (by decide))).symm
              have q312 : u10 = M302 18 2 := q311.trans (f301 18 2 (fun q => absurd q.2 (by decide))).symm
              have q313 : u11 = M289 18 4 := q260.trans (f288 18 4 (fun q => absurd q.2 (by decide))).symm
              have q314 : u11 = M297 18 4 := q313.trans (f296 18 4 (fun q => absurd q.2 (by decide))).symm
              have q315 : u11 = M302 18 4 := q314.trans (f301 18 4 (fun q => absurd q.2 (by decide))).symm
              have q316 : u12 = M254 18 6 := sf251.symm.trans (f253 18 6 (fun q => absurd q.2 (by decide))).symm
              have q317 : u12 = M289 18 6 := q316.trans (f288 18 6 (fun q => absurd q.2 (by decide))).symm
              have q318 : u12 = M297 18 6 := q317.trans (f296 18 6 (fun q => absurd q.2 (by decide))).symm
              have q319 : u12 = M302 18 6 := q318.trans (f301 18 6 (fun q => absurd q.2 (by decide))).symm
              have q320 : v285 = M297 18 7 := sf288.symm.trans (f296 18 7 (fun q => absurd q.2 (by decide))).symm
              have q321 : v285 = M302 18 7 := q320.trans (f301 18 7 (fun q => absurd q.2 (by decide))).symm
              have q322 : v235 = M302 18 8 := sf296.symm.trans (f301 18 8 (fun q => absurd q.2 (by decide))).symm
              have cv9 : M 1 (u12).toNat = v235 := by omega
              have sg40 := (so_3 yp287 (by omega)).2.2
              exact hret _ 241 _ ⟨hI, hW⟩ ⟨hF, (by omega), (fun h0 => advC h0 (by omega) (by omega) (fun j => hF.at (by decide)) (by omega) (show tkC M302 = v235 from by unfold tkC; rw [if_pos (by omega), if_pos (by omega)]; omega) (show vlC M302 = 0 from by unfold vlC; rw [if_neg (by omega)]) (by rw [show M302 18 5 = M302 18 6 + 1 from by omega]; exact adv_S (by omega) (by omega) (by omega) (run_C (by omega) (fun j a b => i0_3 j a (by omega))) (by rw [UC_at (by omega), ← q319, cv9]; unfold c_bl; omega) (by rw [UC_at (by omega), ← q319, cv9]; exact so_n1 yp287 (by omega) (by omega)) (by rw [UC_at (by omega), ← q319, cv9]; exact so_n2 yp287 (by omega) (by omega)) (Or.inl ⟨(by rw [UC_at (by omega), ← q319, cv9]; exact (so_3 yp287 (by omega)).1), (by rw [UC_at (by omega), ← q319, cv9]; exact (so_3 yp287 (by omega)).2.1.symm)⟩)))⟩ dX6_advance_241
            · refine z_aload_n F dX6_advance_104 rfl (q := 0) rfl ?_
              refine gf_X6_48 F hI gs_18 rfl bd_18_7 dX6_advance_105 (fun v323 ev323 av323 bv323 => ?_)
              have zv323 : v285 = v323 := sf288.symm.trans ev323.symm
              subst zv323
              refine z_iconst F dX6_advance_108 ?_
              refine z_icmp_ne (tgt := 138) F dX6_advance_109 (by decide +kernel) (by omega) (by omega) (fun c324 => ?_) (fun c324 => ?_)
              · refine z_aload_n F dX6_advance_138 rfl (q := 0) rfl ?_
                refine gf_X6_48 F hI gs_18 rfl bd_18_7 dX6_advance_139 (fun v325 ev325 av325 bv325 => ?_)
                have zv325 : v285 = v325 := sf288.symm.trans ev325.symm
                subst zv325
                refine z_if_eq (tgt := 241) F dX6_advance_142 (by decide +kernel) (by omega) (fun c326 => by exfalso; omega) (fun c326 => ?_)
                refine z_aload_n F dX6_advance_145 rfl (q := 0) rfl ?_
                refine gf_X6_48 F hI gs_18 rfl bd_18_7 dX6_advance_146 (fun v327 ev327 av327 bv327 => ?_)
                have zv327 : v285 = v327 := sf288.symm.trans ev327.symm
                subst zv327
                refine z_istore_n F dX6_advance_149 rfl (by decide) (ls' := [(1, ii v285), (0, .ref (ad 18))]) rfl ?_
                have q329 : u12 = M254 18 6 := sf251.symm.trans (f253 18 6 (fun q => absurd q.2 (by decide))).symm
                have q330 : u12 = M289 18 6 := q329.trans (f288 18 6 (fun q => absurd q.2 (by decide))).symm
                refine z_loc [1, 0] (ls' := [(0, .ref (ad 18)), (1, ii v285)]) rfl ?_
                have q331 : u9 = M252 18 1 := eu9.trans (f251 18 1 (fun q => absurd q.2 (by decide))).symm
                have q332 : u9 = M254 18 1 := q331.trans (f253 18 1 (fun q => absurd q.2 (by decide))).symm
                have q333 : u9 = M289 18 1 := q332.trans (f288 18 1 (fun q => absurd q.2 (by decide))).symm
                have q334 : u10 = M252 18 2 := eu10.trans (f251 18 2 (fun q => absurd q.2 (by decide))).symm
                have q335 : u10 = M254 18 2 := q334.trans (f253 18 2 (fun q => absurd q.2 (by decide))).symm
                have q336 : u10 = M289 18 2 := q335.trans (f288 18 2 (fun q => absurd q.2 (by decide))).symm
                have q337 : u11 = M289 18 4 := q260.trans (f288 18 4 (fun q => absurd q.2 (by decide))).symm
                have q338 : u12 = M289 18 5 := q257.trans (f288 18 5 (fun q => absurd q.2 (by decide))).symm
                have q339 : 0 = M289 18 8 := sf253.symm.trans (f288 18 8 (fun q => absurd q.2 (by decide))).symm
                suffices key150 : ∀ (n : Nat) (M328 : Mem), Inv M328 → WFk M328 → Fr [18] M M328 → (M328 18 4 = M 18 4) → (M328 18 1 = M 18 1) → (M328 18 6 ≤ M328 18 5 ∧ M328 18 5 ≤ M328 18 4) → (M 18 5 ≤ M328 18 6 ∧ M328 18 6 < M328 18 4) → (∀ j : Nat, M 18 5 ≤ j → (j : Int) < M328 18 6 → c_bl (bC M j)) → (∀ j : Nat, M328 18 6 ≤ j → (j : Int) < M328 18 5 → So v285 (M 1 j)) → (So v285 (M 1 (M328 18 6).toNat)) → (Im (M328 18 5 - M328 18 6 ≤ 3) (Im (v285 = 2) (M328 18 8 = dec3 (bC M) (M328 18 6).toNat (M328 18 5 - M328 18 6).toNat))) → (Im (v285 = 2) (Im (M328 18 5 - M328 18 6 = 0) (0 ≤ M328 18 8 ∧ M328 18 8 ≤ 0))) → (Im (v285 = 2) (Im (M328 18 5 - M328 18 6 = 1) (0 ≤ M328 18 8 ∧ M328 18 8 ≤ 9))) → (Im (v285 = 2) (Im (M328 18 5 - M328 18 6 = 2) (0 ≤ M328 18 8 ∧ M328 18 8 ≤ 99))) → (M328 18 2 = M 18 2) → 900 - M328 18 5 < (n : Int) → Z D cy ad p l e (RMh 6) s m args below meth c A 2 0 0 Q 150 [(0, .ref (ad 18)), (1, ii v285)] [] M328 from key150 901 M289 hI hW hF (by omega) (by omega) (by omega) (by omega) (fun j a b => i0_3 j a (by omega)) (fun j a b => by exfalso; omega) (show So v285 (M 1 (M289 18 6).toNat) from by rw [← q330, show M 1 (u12).toNat = v235 from by omega, show v285 = v285 from by omega]; exact yp287) (fun q r => by rw [show (M289 18 5 - M289 18 6).toNat = 0 from by omega]; show _ = (0 : Int); omega) (fun q r => by omega) (fun q r => by omega) (fun q r => by omega) (by omega) (by omega)
                intro n150
                induction n150 with
                | zero => intro M328 hI hW hF i150_0 i150_1 i150_2 i150_3 i150_4 i150_5 i150_6 i150_7 i150_8 i150_9 i150_10 i150_11 hn150; exfalso; omega
                | succ n150 ih150 =>
                  intro M328 hI hW hF i150_0 i150_1 i150_2 i150_3 i150_4 i150_5 i150_6 i150_7 i150_8 i150_9 i150_10 i150_11 hn150
                  obtain ⟨u340, eu340⟩ : ∃ v : Int, v = M328 18 1 := ⟨_, rfl⟩
                  have ku340 : (-2147483648) ≤ u340 ∧ u340 ≤ 2147483647 := by have := hI.at (show Bd 18 1 = (-2147483648, 2147483647) from rfl); omega
                  obtain ⟨u341, eu341⟩ : ∃ v : Int, v = M328 18 2 := ⟨_, rfl⟩
                  have ku341 : (-2147483648) ≤ u341 ∧ u341 ≤ 2147483647 := by have := hI.at (show Bd 18 2 = (-2147483648, 2147483647) from rfl); omega
                  obtain ⟨u342, eu342⟩ : ∃ v : Int, v = M328 18 4 := ⟨_, rfl⟩
                  have ku342 : 0 ≤ u342 ∧ u342 ≤ 900 := by have := hI.at (show Bd 18 4 = (0, 900) from rfl); omega
                  obtain ⟨u343, eu343⟩ : ∃ v : Int, v = M328 18 5 := ⟨_, rfl⟩
                  have ku343 : 0 ≤ u343 ∧ u343 ≤ 900 := by have := hI.at (show Bd 18 5 = (0, 900) from rfl); omega
                  obtain ⟨u344, eu344⟩ : ∃ v : Int, v = M328 18 6 := ⟨_, rfl⟩
                  have ku344 : 0 ≤ u344 ∧ u344 ≤ 900 := by have := hI.at (show Bd 18 6 = (0, 900) from rfl); omega
                  obtain ⟨u345, eu345⟩ : ∃ v : Int, v = M328 18 7 := ⟨_, rfl⟩
                  have ku345 : 0 ≤ u345 ∧ u345 ≤ 4 := by have := hI.at (show Bd 18 7 = (0, 4) from rfl); omega
                  obtain ⟨u346, eu346⟩ : ∃ v : Int, v = M328 18 8 := ⟨_, rfl⟩
                  have ku346 : (-2147483648) ≤ u346 ∧ u346 ≤ 2147483647 := by have := hI.at (show Bd 18 8 = (-2147483648, 2147483647) from rfl); omega
                  have fr1 : M328 1 (u343).toNat = M 1 (u343).toNat := hF.at (by decide)
                  have bd1 : -128 ≤ M 1 (u343).toNat ∧ M 1 (u343).toNat ≤ 127 := by have h9 := hI.at (show Bd 1 (u343).toNat = (-128, 127) from bd_1); omega
                  refine z_aload_n F dX6_advance_150 rfl (q := 0) rfl ?_
                  refine gf_X6_33 F hI gs_18 rfl bd_18_5 dX6_advance_151 (fun v347 ev347 av347 bv347 => ?_)
                  have zv347 : u343 = v347 := eu343.trans ev347.symm
                  subst zv347
                  refine z_aload_n F dX6_advance_154 rfl (q := 0) rfl ?_
                  refine gf_X6_30 F hI gs_18 rfl bd_18_4 dX6_advance_155 (fun v348 ev348 av348 bv348 => ?_)
                  have zv348 : u342 = v348 := eu342.trans ev348.symm
                  subst zv348
                  refine z_icmp_ge (tgt := 214) F dX6_advance_158 (by decide +kernel) (by omega) (by omega) (fun c349 => ?_) (fun c349 => ?_)
                  · refine z_aload_n F dX6_advance_214 rfl (q := 0) rfl ?_
                    refine z_iload_n F dX6_advance_215 rfl (q := 1) rfl ?_
                    refine z_iconst F dX6_advance_216 ?_
                    refine z_icmp_ne (tgt := 237) F dX6_advance_217 (by decide +kernel) (by omega) (by omega) (fun c350 => ?_) (fun c350 => ?_)
                    · refine z_iload_n F dX6_advance_237 rfl (q := 1) rfl ?_
                      refine pf_X6_48 F hI gs_18 rfl bd_18_7 rfl rfl dX6_advance_238 (by omega) (by omega) (fun M352 hI sf351 f351 => ?_)
                      have tM352_18_1 : M352 18 1 = M328 18 1 := f351 18 1 (fun q => absurd q.2 (by decide))
                      have tM352_18_2 : M352 18 2 = M328 18 2 := f351 18 2 (fun q => absurd q.2 (by decide))
                      have tM352_18_4 : M352 18 4 = M328 18 4 := f351 18 4 (fun q => absurd q.2 (by decide))
                      have tM352_18_5 : M352 18 5 = M328 18 5 := f351 18 5 (fun q => absurd q.2 (by decide))
                      have tM352_18_6 : M352 18 6 = M328 18 6 := f351 18 6 (fun q => absurd q.2 (by decide))
                      have tM352_18_8 : M352 18 8 = M328 18 8 := f351 18 8 (fun q => absurd q.2 (by decide))
                      have hF := hF.wr f351 (by decide) (by decide)
                      have hW : WFk M352 := hW.site f351 (by decide)
                      have q353 : u340 = M352 18 1 := eu340.trans (f351 18 1 (fun q => absurd q.2 (by decide))).symm
                      have q354 : u341 = M352 18 2 := eu341.trans (f351 18 2 (fun q => absurd q.2 (by decide))).symm
                      have q355 : u342 = M352 18 4 := eu342.trans (f351 18 4 (fun q => absurd q.2 (by decide))).symm
                      have q356 : u343 = M352 18 5 := eu343.trans (f351 18 5 (fun q => absurd q.2 (by decide))).symm
                      have q357 : u344 = M352 18 6 := eu344.trans (f351 18 6 (fun q => absurd q.2 (by decide))).symm
                      have q358 : u346 = M352 18 8 := eu346.trans (f351 18 8 (fun q => absurd q.2 (by decide))).symm
                      exact hret _ 241 _ ⟨hI, hW⟩ ⟨hF, (by omega), (fun h0 => advC h0 (by omega) (by omega) (fun j => hF.at (by decide)) (by omega) (show tkC M352 = 1 from by unfold tkC; rw [if_neg (by omega), if_neg (by omega)]; omega) (show vlC M352 = 0 from by unfold vlC; rw [if_neg (by omega)]) (adv_W (by omega) (by omega) (by omega) (run_C (by omega) (fun j a b => i150_4 j a (by omega))) (by rw [UC_at (by omega), show M352 18 6 = M328 18 6 from by omega]; exact so_1 i150_6 (by omega)) (by omega) (by omega) (run_C (by omega) (fun j a b => so_1 (i150_5 j (by omega) (by omega)) (by omega))) (Or.inl (by omega))))⟩ dX6_advance_241
                    · refine z_aload_n F dX6_advance_220 rfl (q := 0) rfl ?_
                      refine gf_X6_33 F hI gs_18 rfl bd_18_5 dX6_advance_221 (fun v359 ev359 av359 bv359 => ?_)
                      have zv359 : u343 = v359 := eu343.trans ev359.symm
                      subst zv359
                      refine z_aload_n F dX6_advance_224 rfl (q := 0) rfl ?_
                      refine gf_X6_57 F hI gs_18 rfl bd_18_6 dX6_advance_225 (fun v360 ev360 av360 bv360 => ?_)
                      have zv360 : u344 = v360 := eu344.trans ev360.symm
                      subst zv360
                      refine z_isub F dX6_advance_228 ?_
                      refine z_iconst F dX6_advance_229 ?_
                      refine z_icmp_le (tgt := 237) F dX6_advance_230 (by decide +kernel) (by omega) (by omega) (fun c361 => ?_) (fun c361 => ?_)
                      · refine z_iload_n F dX6_advance_237 rfl (q := 1) rfl ?_
                        refine pf_X6_48 F hI gs_18 rfl bd_18_7 rfl rfl dX6_advance_238 (by omega) (by omega) (fun M363 hI sf362 f362 => ?_)
                        have tM363_18_1 : M363 18 1 = M328 18 1 := f362 18 1 (fun q => absurd q.2 (by decide))
                        have tM363_18_2 : M363 18 2 = M328 18 2 := f362 18 2 (fun q => absurd q.2 (by decide))
                        have tM363_18_4 : M363 18 4 = M328 18 4 := f362 18 4 (fun q => absurd q.2 (by decide))
                        have tM363_18_5 : M363 18 5 = M328 18 5 := f362 18 5 (fun q => absurd q.2 (by decide))
                        have tM363_18_6 : M363 18 6 = M328 18 6 := f362 18 6 (fun q => absurd q.2 (by decide))
                        have tM363_18_8 : M363 18 8 = M328 18 8 := f362 18 8 (fun q => absurd q.2 (by decide))
                        have hF := hF.wr f362 (by decide) (by decide)
                        have hW : WFk M363 := hW.site f362 (by decide)
                        have q364 : u340 = M363 18 1 := eu340.trans (f362 18 1 (fun q => absurd q.2 (by decide))).symm
                        have q365 : u341 = M363 18 2 := eu341.trans (f362 18 2 (fun q => absurd q.2 (by decide))).symm
                        have q366 : u342 = M363 18 4 := eu342.trans (f362 18 4 (fun q => absurd q.2 (by decide))).symm
                        have q367 : u343 = M363 18 5 := eu343.trans (f362 18 5 (fun q => absurd q.2 (by decide))).symm
                        have q368 : u344 = M363 18 6 := eu344.trans (f362 18 6 (fun q => absurd q.2 (by decide))).symm
                        have q369 : u346 = M363 18 8 := eu346.trans (f362 18 8 (fun q => absurd q.2 (by decide))).symm
                        exact hret _ 241 _ ⟨hI, hW⟩ ⟨hF, (by omega), (fun h0 => advC h0 (by omega) (by omega) (fun j => hF.at (by decide)) (by omega) (show tkC M363 = 2 from by unfold tkC; rw [if_neg (by omega), if_neg (by omega)]; omega) (show vlC M363 = M363 18 8 from by unfold vlC; rw [if_pos (by omega)]) (adv_N (by omega) (by omega) (by omega) (run_C (by omega) (fun j a b => i150_4 j a (by omega))) (by rw [UC_at (by omega), show M363 18 6 = M328 18 6 from by omega]; exact so_2m i150_6 (by omega)) (by omega) (by omega) (run_C (by omega) (fun j a b => so_2m (i150_5 j (by omega) (by omega)) (by omega))) (Or.inl (by omega)) (Or.inr ⟨by omega, rfl, (by rw [dec3_c (V := bC M) _ (fun k hk => UC_at (by omega)), show M363 18 8 = M328 18 8 from by omega, show M363 18 6 = M328 18 6 from by omega, show M363 18 5 = M328 18 5 from by omega]; exact i150_7 (by omega) (by omega))⟩)))⟩ dX6_advance_241
                      · refine z_iconst F dX6_advance_233 ?_
                        refine z_goto (tgt := 238) F dX6_advance_234 (by decide +kernel) ?_
                        refine pf_X6_48 F hI gs_18 rfl bd_18_7 rfl rfl dX6_advance_238 (by omega) (by omega) (fun M371 hI sf370 f370 => ?_)
                        have tM371_18_1 : M371 18 1 = M328 18 1 := f370 18 1 (fun q => absurd q.2 (by decide))
                        have tM371_18_2 : M371 18 2 = M328 18 2 := f370 18 2 (fun q => absurd q.2 (by decide))
                        have tM371_18_4 : M371 18 4 = M328 18 4 := f370 18 4 (fun q => absurd q.2 (by decide))
                        have tM371_18_5 : M371 18 5 = M328 18 5 := f370 18 5 (fun q => absurd q.2 (by decide))
                        have tM371_18_6 : M371 18 6 = M328 18 6 := f370 18 6 (fun q => absurd q.2 (by decide))
                        have tM371_18_8 : M371 18 8 = M328 18 8 := f370 18 8 (fun q => absurd q.2 (by decide))
                        have hF := hF.wr f370 (by decide) (by decide)
                        have hW : WFk M371 := hW.site f370 (by decide)
                        have q372 : u340 = M371 18 1 := eu340.trans (f370 18 1 (fun q => absurd q.2 (by decide))).symm
                        have q373 : u341 = M371 18 2 := eu341.trans (f370 18 2 (fun q => absurd q.2 (by decide))).symm
                        have q374 : u342 = M371 18 4 := eu342.trans (f370 18 4 (fun q => absurd q.2 (by decide))).symm
                        have q375 : u343 = M371 18 5 := eu343.trans (f370 18 5 (fun q => absurd q.2 (by decide))).symm
                        have q376 : u344 = M371 18 6 := eu344.trans (f370 18 6 (fun q => absurd q.2 (by decide))).symm
                        have q377 : u346 = M371 18 8 := eu346.trans (f370 18 8 (fun q => absurd q.2 (by decide))).symm
                        exact hret _ 241 _ ⟨hI, hW⟩ ⟨hF, (by omega), (fun h0 => advC h0 (by omega) (by omega) (fun j => hF.at (by decide)) (by omega) (show tkC M371 = 3 from by unfold tkC; rw [if_neg (by omega), if_pos (by omega)]) (show vlC M371 = 0 from by unfold vlC; rw [if_neg (by omega)]) (adv_N (by omega) (by omega) (by omega) (run_C (by omega) (fun j a b => i150_4 j a (by omega))) (by rw [UC_at (by omega), show M371 18 6 = M328 18 6 from by omega]; exact so_2m i150_6 (by omega)) (by omega) (by omega) (run_C (by omega) (fun j a b => so_2m (i150_5 j (by omega) (by omega)) (by omega))) (Or.inl (by omega)) (Or.inl ⟨by omega, rfl, rfl⟩)))⟩ dX6_advance_241
                  · refine z_aload_n F dX6_advance_161 rfl (q := 0) rfl ?_
                    refine rf_X6_22 F gs_18 rfl dX6_advance_162 ?_
                    refine z_aload_n F dX6_advance_165 rfl (q := 0) rfl ?_
                    refine gf_X6_33 F hI gs_18 rfl bd_18_5 dX6_advance_166 (fun v378 ev378 av378 bv378 => ?_)
                    have zv378 : u343 = v378 := eu343.trans ev378.symm
                    subst zv378
                    refine z_bald F hI gs_1 (by omega) (by omega) (by decide) bd_1 dX6_advance_169 (fun v379 (ev379 : v379 = M328 1 _) av379 bv379 => ?_)
                    have frv379 : M328 1 (u343).toNat = M 1 (u343).toNat := hF.at (by decide)
                    refine zs_i (rest := []) F (kp_X6_sortOf l M328 ⟨hI, hW⟩ v379 (by omega) (by omega)) cs_X6_63 (by decide) (by decide) rfl rfl rfl (Nat.le_of_ble_eq_true rfl) dX6_advance_170 (fun v380 M381 rv380 hI p382 => ?_)
                    obtain ⟨hI, hW⟩ := hI
                    obtain ⟨⟨av380, bv380⟩, rfl, yp382⟩ := p382
                    refine z_iload_n F dX6_advance_173 rfl (q := 1) rfl ?_
                    refine z_icmp_ne (tgt := 214) F dX6_advance_174 (by decide +kernel) (by omega) (by omega) (fun c383 => ?_) (fun c383 => ?_)
                    · refine z_aload_n F dX6_advance_214 rfl (q := 0) rfl ?_
                      refine z_iload_n F dX6_advance_215 rfl (q := 1) rfl ?_
                      refine z_iconst F dX6_advance_216 ?_
                      refine z_icmp_ne (tgt := 237) F dX6_advance_217 (by decide +kernel) (by omega) (by omega) (fun c384 => ?_) (fun c384 => ?_)
                      · refine z_iload_n F dX6_advance_237 rfl (q := 1) rfl ?_
                        refine pf_X6_48 F hI gs_18 rfl bd_18_7 rfl rfl dX6_advance_238 (by omega) (by omega) (fun M386 hI sf385 f385 => ?_)
                        have tM386_18_1 : M386 18 1 = M328 18 1 := f385 18 1 (fun q => absurd q.2 (by decide))
                        have tM386_18_2 : M386 18 2 = M328 18 2 := f385 18 2 (fun q => absurd q.2 (by decide))
                        have tM386_18_4 : M386 18 4 = M328 18 4 := f385 18 4 (fun q => absurd q.2 (by decide))
                        have tM386_18_5 : M386 18 5 = M328 18 5 := f385 18 5 (fun q => absurd q.2 (by decide))
                        have tM386_18_6 : M386 18 6 = M328 18 6 := f385 18 6 (fun q => absurd q.2 (by decide))
                        have tM386_18_8 : M386 18 8 = M328 18 8 := f385 18 8 (fun q => absurd q.2 (by decide))
                        have hF := hF.wr f385 (by decide) (by decide)
                        have hW : WFk M386 := hW.site f385 (by decide)
                        have q387 : u340 = M386 18 1 := eu340.trans (f385 18 1 (fun q => absurd q.2 (by decide))).symm
                        have q388 : u341 = M386 18 2 := eu341.trans (f385 18 2 (fun q => absurd q.2 (by decide))).symm
                        have q389 : u342 = M386 18 4 := eu342.trans (f385 18 4 (fun q => absurd q.2 (by decide))).symm
                        have q390 : u343 = M386 18 5 := eu343.trans (f385 18 5 (fun q => absurd q.2 (by decide))).symm
                        have q391 : u344 = M386 18 6 := eu344.trans (f385 18 6 (fun q => absurd q.2 (by decide))).symm
                        have q392 : u346 = M386 18 8 := eu346.trans (f385 18 8 (fun q => absurd q.2 (by decide))).symm
                        have pr9 : ¬ M328 18 5 = M328 18 6 := fun q => by have g1 : So v285 (M 1 (M328 18 5).toNat) := (by rw [q]; exact i150_6); have g2 := so_u g1 (show So v380 (M 1 (M328 18 5).toNat) from (by rw [← eu343, show M 1 (u343).toNat = v379 from by omega]; exact yp382)); omega
                        exact hret _ 241 _ ⟨hI, hW⟩ ⟨hF, (by omega), (fun h0 => advC h0 (by omega) (by omega) (fun j => hF.at (by decide)) (by omega) (show tkC M386 = 1 from by unfold tkC; rw [if_neg (by omega), if_neg (by omega)]; omega) (show vlC M386 = 0 from by unfold vlC; rw [if_neg (by omega)]) (adv_W (by omega) (by omega) (by omega) (run_C (by omega) (fun j a b => i150_4 j a (by omega))) (by rw [UC_at (by omega), show M386 18 6 = M328 18 6 from by omega]; exact so_1 i150_6 (by omega)) (by omega) (by omega) (run_C (by omega) (fun j a b => so_1 (i150_5 j (by omega) (by omega)) (by omega))) (Or.inr (by rw [UC_at (by omega), ← q390, show M 1 (u343).toNat = v379 from by omega]; exact so_n1 yp382 (by omega) (by omega)))))⟩ dX6_advance_241
                      · refine z_aload_n F dX6_advance_220 rfl (q := 0) rfl ?_
                        refine gf_X6_33 F hI gs_18 rfl bd_18_5 dX6_advance_221 (fun v393 ev393 av393 bv393 => ?_)
                        have zv393 : u343 = v393 := eu343.trans ev393.symm
                        subst zv393
                        refine z_aload_n F dX6_advance_224 rfl (q := 0) rfl ?_
                        refine gf_X6_57 F hI gs_18 rfl bd_18_6 dX6_advance_225 (fun v394 ev394 av394 bv394 => ?_)
                        have zv394 : u344 = v394 := eu344.trans ev394.symm
                        subst zv394
                        refine z_isub F dX6_advance_228 ?_
                        refine z_iconst F dX6_advance_229 ?_
                        refine z_icmp_le (tgt := 237) F dX6_advance_230 (by decide +kernel) (by omega) (by omega) (fun c395 => ?_) (fun c395 => ?_)
                        · refine z_iload_n F dX6_advance_237 rfl (q := 1) rfl ?_
                          refine pf_X6_48 F hI gs_18 rfl bd_18_7 rfl rfl dX6_advance_238 (by omega) (by omega) (fun M397 hI sf396 f396 => ?_)
                          have tM397_18_1 : M397 18 1 = M328 18 1 := f396 18 1 (fun q => absurd q.2 (by decide))
                          have tM397_18_2 : M397 18 2 = M328 18 2 := f396 18 2 (fun q => absurd q.2 (by decide))
                          have tM397_18_4 : M397 18 4 = M328 18 4 := f396 18 4 (fun q => absurd q.2 (by decide))
                          have tM397_18_5 : M397 18 5 = M328 18 5 := f396 18 5 (fun q => absurd q.2 (by decide))
                          have tM397_18_6 : M397 18 6 = M328 18 6 := f396 18 6 (fun q => absurd q.2 (by decide))
                          have tM397_18_8 : M397 18 8 = M328 18 8 := f396 18 8 (fun q => absurd q.2 (by decide))
                          have hF := hF.wr f396 (by decide) (by decide)
                          have hW : WFk M397 := hW.site f396 (by decide)
                          have q398 : u340 = M397 18 1 := eu340.trans (f396 18 1 (fun q => absurd q.2 (by decide))).symm
                          have q399 : u341 = M397 18 2 := eu341.trans (f396 18 2 (fun q => absurd q.2 (by decide))).symm
                          have q400 : u342 = M397 18 4 := eu342.trans (f396 18 4 (fun q => absurd q.2 (by decide))).symm
                          have q401 : u343 = M397 18 5 := eu343.trans (f396 18 5 (fun q => absurd q.2 (by decide))).symm
                          have q402 : u344 = M397 18 6 := eu344.trans (f396 18 6 (fun q => absurd q.2 (by decide))).symm
                          have q403 : u346 = M397 18 8 := eu346.trans (f396 18 8 (fun q => absurd q.2 (by decide))).symm
                          have pr9 : ¬ M328 18 5 = M328 18 6 := fun q => by have g1 : So v285 (M 1 (M328 18 5).toNat) := (by rw [q]; exact i150_6); have g2 := so_u g1 (show So v380 (M 1 (M328 18 5).toNat) from (by rw [← eu343, show M 1 (u343).toNat = v379 from by omega]; exact yp382)); omega
                          exact hret _ 241 _ ⟨hI, hW⟩ ⟨hF, (by omega), (fun h0 => advC h0 (by omega) (by omega) (fun j => hF.at (by decide)) (by omega) (show tkC M397 = 2 from by unfold tkC; rw [if_neg (by omega), if_neg (by omega)]; omega) (show vlC M397 = M397 18 8 from by unfold vlC; rw [if_pos (by omega)]) (adv_N (by omega) (by omega) (by omega) (run_C (by omega) (fun j a b => i150_4 j a (by omega))) (by rw [UC_at (by omega), show M397 18 6 = M328 18 6 from by omega]; exact so_2m i150_6 (by omega)) (by omega) (by omega) (run_C (by omega) (fun j a b => so_2m (i150_5 j (by omega) (by omega)) (by omega))) (Or.inr (by rw [UC_at (by omega), ← q401, show M 1 (u343).toNat = v379 from by omega]; exact so_n2 yp382 (by omega) (by omega))) (Or.inr ⟨by omega, rfl, (by rw [dec3_c (V := bC M) _ (fun k hk => UC_at (by omega)), show M397 18 8 = M328 18 8 from by omega, show M397 18 6 = M328 18 6 from by omega, show M397 18 5 = M328 18 5 from by omega]; exact i150_7 (by omega) (by omega))⟩)))⟩ dX6_advance_241
                        · refine z_iconst F dX6_advance_233 ?_
                          refine z_goto (tgt := 238) F dX6_advance_234 (by decide +kernel) ?_
                          refine pf_X6_48 F hI gs_18 rfl bd_18_7 rfl rfl dX6_advance_238 (by omega) (by omega) (fun M405 hI sf404 f404 => ?_)
                          have tM405_18_1 : M405 18 1 = M328 18 1 := f404 18 1 (fun q => absurd q.2 (by decide))
                          have tM405_18_2 : M405 18 2 = M328 18 2 := f404 18 2 (fun q => absurd q.2 (by decide))
                          have tM405_18_4 : M405 18 4 = M328 18 4 := f404 18 4 (fun q => absurd q.2 (by decide))
                          have tM405_18_5 : M405 18 5 = M328 18 5 := f404 18 5 (fun q => absurd q.2 (by decide))
                          have tM405_18_6 : M405 18 6 = M328 18 6 := f404 18 6 (fun q => absurd q.2 (by decide))
                          have tM405_18_8 : M405 18 8 = M328 18 8 := f404 18 8 (fun q => absurd q.2 (by decide))
                          have hF := hF.wr f404 (by decide) (by decide)
                          have hW : WFk M405 := hW.site f404 (by decide)
                          have q406 : u340 = M405 18 1 := eu340.trans (f404 18 1 (fun q => absurd q.2 (by decide))).symm
                          have q407 : u341 = M405 18 2 := eu341.trans (f404 18 2 (fun q => absurd q.2 (by decide))).symm
                          have q408 : u342 = M405 18 4 := eu342.trans (f404 18 4 (fun q => absurd q.2 (by decide))).symm
                          have q409 : u343 = M405 18 5 := eu343.trans (f404 18 5 (fun q => absurd q.2 (by decide))).symm
                          have q410 : u344 = M405 18 6 := eu344.trans (f404 18 6 (fun q => absurd q.2 (by decide))).symm
                          have q411 : u346 = M405 18 8 := eu346.trans (f404 18 8 (fun q => absurd q.2 (by decide))).symm
                          have pr9 : ¬ M328 18 5 = M328 18 6 := fun q => by have g1 : So v285 (M 1 (M328 18 5).toNat) := (by rw [q]; exact i150_6); have g2 := so_u g1 (show So v380 (M 1 (M328 18 5).toNat) from (by rw [← eu343, show M 1 (u343).toNat = v379 from by omega]; exact yp382)); omega
                          exact hret _ 241 _ ⟨hI, hW⟩ ⟨hF, (by omega), (fun h0 => advC h0 (by omega) (by omega) (fun j => hF.at (by decide)) (by omega) (show tkC M405 = 3 from by unfold tkC; rw [if_neg (by omega), if_pos (by omega)]) (show vlC M405 = 0 from by unfold vlC; rw [if_neg (by omega)]) (adv_N (by omega) (by omega) (by omega) (run_C (by omega) (fun j a b => i150_4 j a (by omega))) (by rw [UC_at (by omega), show M405 18 6 = M328 18 6 from by omega]; exact so_2m i150_6 (by omega)) (by omega) (by omega) (run_C (by omega) (fun j a b => so_2m (i150_5 j (by omega) (by omega)) (by omega))) (Or.inr (by rw [UC_at (by omega), ← q409, show M 1 (u343).toNat = v379 from by omega]; exact so_n2 yp382 (by omega) (by omega))) (Or.inl ⟨by omega, rfl, rfl⟩)))⟩ dX6_advance_241
                    · refine z_aload_n F dX6_advance_177 rfl (q := 0) rfl ?_
                      refine z_bipush F dX6_advance_178 (by decide +kernel) ?_
                      refine z_aload_n F dX6_advance_180 rfl (q := 0) rfl ?_
                      refine gf_X6_60 F hI gs_18 rfl bd_18_8 dX6_advance_181 (fun v412 ev412 av412 bv412 => ?_)
                      have zv412 : u346 = v412 := eu346.trans ev412.symm
                      subst zv412
                      refine z_imul F dX6_advance_184 ?_
                      refine z_wrap (fun v413 rv413 wv413 => ?_)
                      refine z_aload_n F dX6_advance_185 rfl (q := 0) rfl ?_
                      refine rf_X6_22 F gs_18 rfl dX6_advance_186 ?_
                      refine z_aload_n F dX6_advance_189 rfl (q := 0) rfl ?_
                      refine gf_X6_33 F hI gs_18 rfl bd_18_5 dX6_advance_190 (fun v414 ev414 av414 bv414 => ?_)
                      have zv414 : u343 = v414 := eu343.trans ev414.symm
                      subst zv414
                      refine z_bald F hI gs_1 (by omega) (by omega) (by decide) bd_1 dX6_advance_193 (fun v415 (ev415 : v415 = M328 1 _) av415 bv415 => ?_)
                      have frv415 : M328 1 (u343).toNat = M 1 (u343).toNat := hF.at (by decide)
                      have zv415 : v379 = v415 := ev379.trans ev415.symm
                      subst zv415
                      refine z_iadd F dX6_advance_194 ?_
                      refine z_wrap (fun v416 rv416 wv416 => ?_)
                      refine z_bipush F dX6_advance_195 (by decide +kernel) ?_
                      refine z_isub F dX6_advance_197 ?_
                      refine z_wrap (fun v417 rv417 wv417 => ?_)
                      have z3 : True := trivial
                      refine pf_X6_60 F hI gs_18 rfl bd_18_8 rfl rfl dX6_advance_198 (by omega) (by omega) (fun M419 hI sf418 f418 => ?_)
                      have tM419_18_1 : M419 18 1 = M328 18 1 := f418 18 1 (fun q => absurd q.2 (by decide))
                      have tM419_18_2 : M419 18 2 = M328 18 2 := f418 18 2 (fun q => absurd q.2 (by decide))
                      have tM419_18_4 : M419 18 4 = M328 18 4 := f418 18 4 (fun q => absurd q.2 (by decide))
                      have tM419_18_5 : M419 18 5 = M328 18 5 := f418 18 5 (fun q => absurd q.2 (by decide))
                      have tM419_18_6 : M419 18 6 = M328 18 6 := f418 18 6 (fun q => absurd q.2 (by decide))
                      have tM419_18_7 : M419 18 7 = M328 18 7 := f418 18 7 (fun q => absurd q.2 (by decide))
                      have hF := hF.wr f418 (by decide) (by decide)
                      have hW : WFk M419 := hW.site f418 (by decide)
                      refine z_aload_n F dX6_advance_201 rfl (q := 0) rfl ?_
                      refine z_dup F dX6_advance_202 rfl ?_
                      refine gf_X6_33 F hI gs_18 rfl bd_18_5 dX6_advance_203 (fun v420 ev420 av420 bv420 => ?_)
                      have q421 : u343 = M419 18 5 := eu343.trans (f418 18 5 (fun q => absurd q.2 (by decide))).symm
                      have zv420 : u343 = v420 := q421.trans ev420.symm
                      subst zv420
                      refine z_iconst F dX6_advance_206 ?_
                      refine z_iadd F dX6_advance_207 ?_
                      refine z_nm (fun v422 ev422 => ?_)
                      refine pf_X6_33 F hI gs_18 rfl bd_18_5 rfl rfl dX6_advance_208 (by omega) (by omega) (fun M424 hI sf423 f423 => ?_)
                      have tM424_18_1 : M424 18 1 = M419 18 1 := f423 18 1 (fun q => absurd q.2 (by decide))
                      have tM424_18_2 : M424 18 2 = M419 18 2 := f423 18 2 (fun q => absurd q.2 (by decide))
                      have tM424_18_4 : M424 18 4 = M419 18 4 := f423 18 4 (fun q => absurd q.2 (by decide))
                      have tM424_18_6 : M424 18 6 = M419 18 6 := f423 18 6 (fun q => absurd q.2 (by decide))
                      have tM424_18_7 : M424 18 7 = M419 18 7 := f423 18 7 (fun q => absurd q.2 (by decide))
                      have tM424_18_8 : M424 18 8 = M419 18 8 := f423 18 8 (fun q => absurd q.2 (by decide))
                      have hF := hF.wr f423 (by decide) (by decide)
                      have hW : WFk M424 := hW.site f423 (by decide)
                      refine z_goto (tgt := 150) F dX6_advance_211 (by decide +kernel) ?_
                      refine z_loc [0, 1] (ls' := [(0, .ref (ad 18)), (1, ii v285)]) rfl ?_
                      have dg2 : Im (v285 = 2) (48 ≤ v379 ∧ v379 ≤ 57) := fun q => so_2 yp382 (by omega)
                      have nw : Im (v285 = 2) (Im (M328 18 5 - M328 18 6 ≤ 2) (v417 = 10 * u346 + v379 - 48)) := fun q r => by have g1 := dg2 q; have g2 := fun r => i150_8 q r; have g3 := fun r => i150_9 q r; have g4 := fun r => i150_10 q r; have w1 := wv413.1 ⟨by omega, by omega⟩; have w2 := wv416.1 ⟨by omega, by omega⟩; have w3 := wv417.1 ⟨by omega, by omega⟩; omega
                      have q425 : u340 = M419 18 1 := eu340.trans (f418 18 1 (fun q => absurd q.2 (by decide))).symm
                      have q426 : u340 = M424 18 1 := q425.trans (f423 18 1 (fun q => absurd q.2 (by decide))).symm
                      have q427 : u341 = M419 18 2 := eu341.trans (f418 18 2 (fun q => absurd q.2 (by decide))).symm
                      have q428 : u341 = M424 18 2 := q427.trans (f423 18 2 (fun q => absurd q.2 (by decide))).symm
                      have q429 : u342 = M419 18 4 := eu342.trans (f418 18 4 (fun q => absurd q.2 (by decide))).symm
                      have q430 : u342 = M424 18 4 := q429.trans (f423 18 4 (fun q => absurd q.2 (by decide))).symm
                      have q431 : u344 = M419 18 6 := eu344.trans (f418 18 6 (fun q => absurd q.2 (by decide))).symm
                      have q432 : u344 = M424 18 6 := q431.trans (f423 18 6 (fun q => absurd q.2 (by decide))).symm
                      have q433 : u345 = M419 18 7 := eu345.trans (f418 18 7 (fun q => absurd q.2 (by decide))).symm
                      have q434 : u345 = M424 18 7 := q433.trans (f423 18 7 (fun q => absurd q.2 (by decide))).symm
                      have q435 : v417 = M424 18 8 := sf418.symm.trans (f423 18 8 (fun q => absurd q.2 (by decide))).symm
                      exact ih150 M424 hI hW hF (by omega) (by omega) (by omega) (by omega) (fun j a b => i150_4 j a (by omega)) (fun j a b => run_sn (U := M 1) (P := So v285) i150_5 (show So v285 (M 1 (M328 18 5).toNat) from by rw [← eu343, show M 1 (u343).toNat = v379 from by omega, show v285 = v380 from by omega]; exact yp382) (by omega) j (by omega) (by omega)) (by rw [show M424 18 6 = M328 18 6 from by omega]; exact i150_6) (fun q r => by have g1 := dg2 r; have g2 := nw r (by omega); rw [show (M424 18 5 - M424 18 6).toNat = (M328 18 5 - M328 18 6).toNat + 1 from by omega, show M424 18 6 = M328 18 6 from by omega]; exact dec3_sn (i150_7 (by omega) r) (by rw [show (M328 18 6).toNat + (M328 18 5 - M328 18 6).toNat = (M328 18 5).toNat from by omega, ← eu343]; show _ = _ + M 1 (u343).toNat % 256 - 48; omega)) (fun q r => by exfalso; omega) (fun q r => by have g1 := dg2 q; have g2 := nw q (by omega); have g3 := i150_8 q (by omega); omega) (fun q r => by have g1 := dg2 q; have g2 := nw q (by omega); have g3 := i150_9 q (by omega); omega) (by omega) (by omega)
              · refine z_aload_n F dX6_advance_112 rfl (q := 0) rfl ?_
                refine z_aload_n F dX6_advance_113 rfl (q := 0) rfl ?_
                refine rf_X6_22 F gs_18 rfl dX6_advance_114 ?_
                refine z_aload_n F dX6_advance_117 rfl (q := 0) rfl ?_
                refine gf_X6_33 F hI gs_18 rfl bd_18_5 dX6_advance_118 (fun v436 ev436 av436 bv436 => ?_)
                have q437 : u12 = M289 18 5 := q257.trans (f288 18 5 (fun q => absurd q.2 (by decide))).symm
                have zv436 : u12 = v436 := q437.trans ev436.symm
                subst zv436
                refine z_bald F hI gs_1 (by omega) (by omega) (by decide) bd_1 dX6_advance_121 (fun v438 (ev438 : v438 = M289 1 _) av438 bv438 => ?_)
                have q439 : v235 = M289 1 (u12).toNat := q284.trans (f288 1 (u12).toNat (fun q => absurd q.1 (by decide))).symm
                have frv438 : M289 1 (u12).toNat = M 1 (u12).toNat := hF.at (by decide)
                have zv438 : v235 = v438 := q439.trans ev438.symm
                subst zv438
                refine pf_X6_60 F hI gs_18 rfl bd_18_8 rfl rfl dX6_advance_122 (by omega) (by omega) (fun M441 hI sf440 f440 => ?_)
                have tM441_18_1 : M441 18 1 = M289 18 1 := f440 18 1 (fun q => absurd q.2 (by decide))
                have tM441_18_2 : M441 18 2 = M289 18 2 := f440 18 2 (fun q => absurd q.2 (by decide))
                have tM441_18_4 : M441 18 4 = M289 18 4 := f440 18 4 (fun q => absurd q.2 (by decide))
                have tM441_18_5 : M441 18 5 = M289 18 5 := f440 18 5 (fun q => absurd q.2 (by decide))
                have tM441_18_6 : M441 18 6 = M289 18 6 := f440 18 6 (fun q => absurd q.2 (by decide))
                have tM441_18_7 : M441 18 7 = M289 18 7 := f440 18 7 (fun q => absurd q.2 (by decide))
                have hF := hF.wr f440 (by decide) (by decide)
                have hW : WFk M441 := hW.site f440 (by decide)
                refine z_aload_n F dX6_advance_125 rfl (q := 0) rfl ?_
                refine z_dup F dX6_advance_126 rfl ?_
                refine gf_X6_33 F hI gs_18 rfl bd_18_5 dX6_advance_127 (fun v442 ev442 av442 bv442 => ?_)
                have q443 : u12 = M441 18 5 := q437.trans (f440 18 5 (fun q => absurd q.2 (by decide))).symm
                have zv442 : u12 = v442 := q443.trans ev442.symm
                subst zv442
                refine z_iconst F dX6_advance_130 ?_
                refine z_iadd F dX6_advance_131 ?_
                refine z_nm (fun v444 ev444 => ?_)
                refine pf_X6_33 F hI gs_18 rfl bd_18_5 rfl rfl dX6_advance_132 (by omega) (by omega) (fun M446 hI sf445 f445 => ?_)
                have tM446_18_1 : M446 18 1 = M441 18 1 := f445 18 1 (fun q => absurd q.2 (by decide))
                have tM446_18_2 : M446 18 2 = M441 18 2 := f445 18 2 (fun q => absurd q.2 (by decide))
                have tM446_18_4 : M446 18 4 = M441 18 4 := f445 18 4 (fun q => absurd q.2 (by decide))
                have tM446_18_6 : M446 18 6 = M441 18 6 := f445 18 6 (fun q => absurd q.2 (by decide))
                have tM446_18_7 : M446 18 7 = M441 18 7 := f445 18 7 (fun q => absurd q.2 (by decide))
                have tM446_18_8 : M446 18 8 = M441 18 8 := f445 18 8 (fun q => absurd q.2 (by decide))
                have hF := hF.wr f445 (by decide) (by decide)
                have hW : WFk M446 := hW.site f445 (by decide)
                refine z_goto (tgt := 241) F dX6_advance_135 (by decide +kernel) ?_
                have q447 : u9 = M252 18 1 := eu9.trans (f251 18 1 (fun q => absurd q.2 (by decide))).symm
                have q448 : u9 = M254 18 1 := q447.trans (f253 18 1 (fun q => absurd q.2 (by decide))).symm
                have q449 : u9 = M289 18 1 := q448.trans (f288 18 1 (fun q => absurd q.2 (by decide))).symm
                have q450 : u9 = M441 18 1 := q449.trans (f440 18 1 (fun q => absurd q.2 (by decide))).symm
                have q451 : u9 = M446 18 1 := q450.trans (f445 18 1 (fun q => absurd q.2 (by decide))).symm
                have q452 : u10 = M252 18 2 := eu10.trans (f251 18 2 (fun q => absurd q.2 (by decide))).symm
                have q453 : u10 = M254 18 2 := q452.trans (f253 18 2 (fun q => absurd q.2 (by decide))).symm
                have q454 : u10 = M289 18 2 := q453.trans (f288 18 2 (fun q => absurd q.2 (by decide))).symm
                have q455 : u10 = M441 18 2 := q454.trans (f440 18 2 (fun q => absurd q.2 (by decide))).symm
                have q456 : u10 = M446 18 2 := q455.trans (f445 18 2 (fun q => absurd q.2 (by decide))).symm
                have q457 : u11 = M289 18 4 := q260.trans (f288 18 4 (fun q => absurd q.2 (by decide))).symm
                have q458 : u11 = M441 18 4 := q457.trans (f440 18 4 (fun q => absurd q.2 (by decide))).symm
                have q459 : u11 = M446 18 4 := q458.trans (f445 18 4 (fun q => absurd q.2 (by decide))).symm
                have q460 : u12 = M254 18 6 := sf251.symm.trans (f253 18 6 (fun q => absurd q.2 (by decide))).symm
                have q461 : u12 = M289 18 6 := q460.trans (f288 18 6 (fun q => absurd q.2 (by decide))).symm
                have q462 : u12 = M441 18 6 := q461.trans (f440 18 6 (fun q => absurd q.2 (by decide))).symm
                have q463 : u12 = M446 18 6 := q462.trans (f445 18 6 (fun q => absurd q.2 (by decide))).symm
                have q464 : v285 = M441 18 7 := sf288.symm.trans (f440 18 7 (fun q => absurd q.2 (by decide))).symm
                have q465 : v285 = M446 18 7 := q464.trans (f445 18 7 (fun q => absurd q.2 (by decide))).symm
                have q466 : v235 = M446 18 8 := sf440.symm.trans (f445 18 8 (fun q => absurd q.2 (by decide))).symm
                have cv9 : M 1 (u12).toNat = v235 := by omega
                exact hret _ 241 _ ⟨hI, hW⟩ ⟨hF, (by omega), (fun h0 => advC h0 (by omega) (by omega) (fun j => hF.at (by decide)) (by omega) (show tkC M446 = 3 from by unfold tkC; rw [if_neg (by omega), if_pos (by omega)]) (show vlC M446 = 0 from by unfold vlC; rw [if_neg (by omega)]) (by rw [show M446 18 5 = M446 18 6 + 1 from by omega]; exact adv_S (by omega) (by omega) (by omega) (run_C (by omega) (fun j a b => i0_3 j a (by omega))) (by rw [UC_at (by omega), ← q463, cv9]; unfold c_bl; omega) (by rw [UC_at (by omega), ← q463, cv9]; exact so_n1 yp287 (by omega) (by omega)) (by rw [UC_at (by omega), ← q463, cv9]; exact so_n2 yp287 (by omega) (by omega)) (Or.inr ⟨(by rw [UC_at (by omega), ← q463, cv9]; exact so_4 yp287 (by omega) (by omega)), rfl⟩)))⟩ dX6_advance_241
        · refine z_aload_n F dX6_advance_39 rfl (q := 0) rfl ?_
          refine z_dup F dX6_advance_40 rfl ?_
          refine gf_X6_33 F hI gs_18 rfl bd_18_5 dX6_advance_41 (fun v467 ev467 av467 bv467 => ?_)
          have zv467 : u12 = v467 := eu12.trans ev467.symm
          subst zv467
          refine z_iconst F dX6_advance_44 ?_
          refine z_iadd F dX6_advance_45 ?_
          refine z_nm (fun v468 ev468 => ?_)
          refine pf_X6_33 F hI gs_18 rfl bd_18_5 rfl rfl dX6_advance_46 (by omega) (by omega) (fun M470 hI sf469 f469 => ?_)
          have tM470_18_1 : M470 18 1 = M8 18 1 := f469 18 1 (fun q => absurd q.2 (by decide))
          have tM470_18_2 : M470 18 2 = M8 18 2 := f469 18 2 (fun q => absurd q.2 (by decide))
          have tM470_18_4 : M470 18 4 = M8 18 4 := f469 18 4 (fun q => absurd q.2 (by decide))
          have tM470_18_6 : M470 18 6 = M8 18 6 := f469 18 6 (fun q => absurd q.2 (by decide))
          have tM470_18_7 : M470 18 7 = M8 18 7 := f469 18 7 (fun q => absurd q.2 (by decide))
          have tM470_18_8 : M470 18 8 = M8 18 8 := f469 18 8 (fun q => absurd q.2 (by decide))
          have hF := hF.wr f469 (by decide) (by decide)
          have hW : WFk M470 := hW.site f469 (by decide)
          refine z_goto (tgt := 0) F dX6_advance_49 (by decide +kernel) ?_
          refine z_loc [0] (ls' := [(0, .ref (ad 18))]) rfl ?_
          have q471 : u9 = M470 18 1 := eu9.trans (f469 18 1 (fun q => absurd q.2 (by decide))).symm
          have q472 : u10 = M470 18 2 := eu10.trans (f469 18 2 (fun q => absurd q.2 (by decide))).symm
          have q473 : u11 = M470 18 4 := eu11.trans (f469 18 4 (fun q => absurd q.2 (by decide))).symm
          have q474 : u13 = M470 18 6 := eu13.trans (f469 18 6 (fun q => absurd q.2 (by decide))).symm
          have q475 : u14 = M470 18 7 := eu14.trans (f469 18 7 (fun q => absurd q.2 (by decide))).symm
          have q476 : u15 = M470 18 8 := eu15.trans (f469 18 8 (fun q => absurd q.2 (by decide))).symm
          exact ih0 M470 hI hW hF (by omega) (by omega) (by omega) (fun j a b => run_sn (U := bC M) (P := c_bl) i0_3 (show c_bl (bC M (M8 18 5).toNat) from by rw [← eu12]; show c_bl (M 1 (u12).toNat % 256); unfold c_bl; omega) (by omega) j a (by omega)) (by omega) (by omega) (by omega)
