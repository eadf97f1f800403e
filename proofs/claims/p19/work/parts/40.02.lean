theorem dX12_readsOn_0 : decode cX12_readsOn 0 = .ok (.aload_n 0, 1) := by decide +kernel
theorem dX12_readsOn_1 : decode cX12_readsOn 1 = .ok (.getfield 82, 3) := by decide +kernel
theorem dX12_readsOn_102 : decode cX12_readsOn 102 = .ok (.invokestatic 91, 3) := by decide +kernel
theorem dX12_readsOn_105 : decode cX12_readsOn 105 = .ok (.ifCond .eq 16, 3) := by decide +kernel
theorem dX12_readsOn_108 : decode cX12_readsOn 108 = .ok (.aload_n 0, 1) := by decide +kernel
theorem dX12_readsOn_109 : decode cX12_readsOn 109 = .ok (.dup, 1) := by decide +kernel
theorem dX12_readsOn_11 : decode cX12_readsOn 11 = .ok (.aload_n 0, 1) := by decide +kernel
theorem dX12_readsOn_110 : decode cX12_readsOn 110 = .ok (.getfield 82, 3) := by decide +kernel
theorem dX12_readsOn_113 : decode cX12_readsOn 113 = .ok (.iconst 1, 1) := by decide +kernel
theorem dX12_readsOn_114 : decode cX12_readsOn 114 = .ok (.iadd, 1) := by decide +kernel
theorem dX12_readsOn_115 : decode cX12_readsOn 115 = .ok (.putfield 82, 3) := by decide +kernel
theorem dX12_readsOn_118 : decode cX12_readsOn 118 = .ok (.goto (-24), 3) := by decide +kernel
theorem dX12_readsOn_12 : decode cX12_readsOn 12 = .ok (.getfield 23, 3) := by decide +kernel
theorem dX12_readsOn_121 : decode cX12_readsOn 121 = .ok (.aload_n 0, 1) := by decide +kernel
theorem dX12_readsOn_122 : decode cX12_readsOn 122 = .ok (.iconst 1, 1) := by decide +kernel
theorem dX12_readsOn_123 : decode cX12_readsOn 123 = .ok (.putfield 88, 3) := by decide +kernel
theorem dX12_readsOn_126 : decode cX12_readsOn 126 = .ok (.goto 137, 3) := by decide +kernel
theorem dX12_readsOn_129 : decode cX12_readsOn 129 = .ok (.iload_n 1, 1) := by decide +kernel
theorem dX12_readsOn_130 : decode cX12_readsOn 130 = .ok (.invokestatic 99, 3) := by decide +kernel
theorem dX12_readsOn_133 : decode cX12_readsOn 133 = .ok (.ifCond .eq 104, 3) := by decide +kernel
theorem dX12_readsOn_136 : decode cX12_readsOn 136 = .ok (.aload_n 0, 1) := by decide +kernel
theorem dX12_readsOn_137 : decode cX12_readsOn 137 = .ok (.iconst 0, 1) := by decide +kernel
theorem dX12_readsOn_138 : decode cX12_readsOn 138 = .ok (.putfield 102, 3) := by decide +kernel
theorem dX12_readsOn_141 : decode cX12_readsOn 141 = .ok (.aload_n 0, 1) := by decide +kernel
theorem dX12_readsOn_142 : decode cX12_readsOn 142 = .ok (.aload_n 0, 1) := by decide +kernel
theorem dX12_readsOn_143 : decode cX12_readsOn 143 = .ok (.getfield 82, 3) := by decide +kernel
theorem dX12_readsOn_146 : decode cX12_readsOn 146 = .ok (.invokevirtual 95, 3) := by decide +kernel
theorem dX12_readsOn_149 : decode cX12_readsOn 149 = .ok (.invokestatic 99, 3) := by decide +kernel
theorem dX12_readsOn_15 : decode cX12_readsOn 15 = .ok (.aload_n 0, 1) := by decide +kernel
theorem dX12_readsOn_152 : decode cX12_readsOn 152 = .ok (.ifCond .eq 60, 3) := by decide +kernel
theorem dX12_readsOn_155 : decode cX12_readsOn 155 = .ok (.aload_n 0, 1) := by decide +kernel
theorem dX12_readsOn_156 : decode cX12_readsOn 156 = .ok (.aload_n 0, 1) := by decide +kernel
theorem dX12_readsOn_157 : decode cX12_readsOn 157 = .ok (.getfield 82, 3) := by decide +kernel
theorem dX12_readsOn_16 : decode cX12_readsOn 16 = .ok (.getfield 82, 3) := by decide +kernel
theorem dX12_readsOn_160 : decode cX12_readsOn 160 = .ok (.aload_n 0, 1) := by decide +kernel
theorem dX12_readsOn_161 : decode cX12_readsOn 161 = .ok (.getfield 85, 3) := by decide +kernel
theorem dX12_readsOn_164 : decode cX12_readsOn 164 = .ok (.isub, 1) := by decide +kernel
theorem dX12_readsOn_165 : decode cX12_readsOn 165 = .ok (.iconst 3, 1) := by decide +kernel
theorem dX12_readsOn_166 : decode cX12_readsOn 166 = .ok (.if_icmp .ge 26, 3) := by decide +kernel
theorem dX12_readsOn_169 : decode cX12_readsOn 169 = .ok (.bipush 10, 2) := by decide +kernel
theorem dX12_readsOn_171 : decode cX12_readsOn 171 = .ok (.aload_n 0, 1) := by decide +kernel
theorem dX12_readsOn_172 : decode cX12_readsOn 172 = .ok (.getfield 102, 3) := by decide +kernel
theorem dX12_readsOn_175 : decode cX12_readsOn 175 = .ok (.imul, 1) := by decide +kernel
theorem dX12_readsOn_176 : decode cX12_readsOn 176 = .ok (.aload_n 0, 1) := by decide +kernel
theorem dX12_readsOn_177 : decode cX12_readsOn 177 = .ok (.getfield 23, 3) := by decide +kernel
theorem dX12_readsOn_180 : decode cX12_readsOn 180 = .ok (.aload_n 0, 1) := by decide +kernel
theorem dX12_readsOn_181 : decode cX12_readsOn 181 = .ok (.getfield 82, 3) := by decide +kernel
theorem dX12_readsOn_184 : decode cX12_readsOn 184 = .ok (.iaload, 1) := by decide +kernel
theorem dX12_readsOn_185 : decode cX12_readsOn 185 = .ok (.iadd, 1) := by decide +kernel
theorem dX12_readsOn_186 : decode cX12_readsOn 186 = .ok (.bipush 48, 2) := by decide +kernel
theorem dX12_readsOn_188 : decode cX12_readsOn 188 = .ok (.isub, 1) := by decide +kernel
theorem dX12_readsOn_189 : decode cX12_readsOn 189 = .ok (.goto 7, 3) := by decide +kernel
theorem dX12_readsOn_19 : decode cX12_readsOn 19 = .ok (.iaload, 1) := by decide +kernel
theorem dX12_readsOn_192 : decode cX12_readsOn 192 = .ok (.aload_n 0, 1) := by decide +kernel
theorem dX12_readsOn_193 : decode cX12_readsOn 193 = .ok (.getfield 102, 3) := by decide +kernel
theorem dX12_readsOn_196 : decode cX12_readsOn 196 = .ok (.putfield 102, 3) := by decide +kernel
theorem dX12_readsOn_199 : decode cX12_readsOn 199 = .ok (.aload_n 0, 1) := by decide +kernel
theorem dX12_readsOn_20 : decode cX12_readsOn 20 = .ok (.bipush 32, 2) := by decide +kernel
theorem dX12_readsOn_200 : decode cX12_readsOn 200 = .ok (.dup, 1) := by decide +kernel
theorem dX12_readsOn_201 : decode cX12_readsOn 201 = .ok (.getfield 82, 3) := by decide +kernel
theorem dX12_readsOn_204 : decode cX12_readsOn 204 = .ok (.iconst 1, 1) := by decide +kernel
theorem dX12_readsOn_205 : decode cX12_readsOn 205 = .ok (.iadd, 1) := by decide +kernel
theorem dX12_readsOn_206 : decode cX12_readsOn 206 = .ok (.putfield 82, 3) := by decide +kernel
theorem dX12_readsOn_209 : decode cX12_readsOn 209 = .ok (.goto (-68), 3) := by decide +kernel
theorem dX12_readsOn_212 : decode cX12_readsOn 212 = .ok (.aload_n 0, 1) := by decide +kernel
theorem dX12_readsOn_213 : decode cX12_readsOn 213 = .ok (.aload_n 0, 1) := by decide +kernel
theorem dX12_readsOn_214 : decode cX12_readsOn 214 = .ok (.getfield 82, 3) := by decide +kernel
theorem dX12_readsOn_217 : decode cX12_readsOn 217 = .ok (.aload_n 0, 1) := by decide +kernel
theorem dX12_readsOn_218 : decode cX12_readsOn 218 = .ok (.getfield 85, 3) := by decide +kernel
theorem dX12_readsOn_22 : decode cX12_readsOn 22 = .ok (.if_icmp .eq 17, 3) := by decide +kernel
theorem dX12_readsOn_221 : decode cX12_readsOn 221 = .ok (.isub, 1) := by decide +kernel
theorem dX12_readsOn_222 : decode cX12_readsOn 222 = .ok (.iconst 3, 1) := by decide +kernel
theorem dX12_readsOn_223 : decode cX12_readsOn 223 = .ok (.if_icmp .le 7, 3) := by decide +kernel
theorem dX12_readsOn_226 : decode cX12_readsOn 226 = .ok (.iconst 3, 1) := by decide +kernel
theorem dX12_readsOn_227 : decode cX12_readsOn 227 = .ok (.goto 4, 3) := by decide +kernel
theorem dX12_readsOn_230 : decode cX12_readsOn 230 = .ok (.iconst 2, 1) := by decide +kernel
theorem dX12_readsOn_231 : decode cX12_readsOn 231 = .ok (.putfield 88, 3) := by decide +kernel
theorem dX12_readsOn_234 : decode cX12_readsOn 234 = .ok (.goto 29, 3) := by decide +kernel
theorem dX12_readsOn_237 : decode cX12_readsOn 237 = .ok (.aload_n 0, 1) := by decide +kernel
theorem dX12_readsOn_238 : decode cX12_readsOn 238 = .ok (.iload_n 1, 1) := by decide +kernel
theorem dX12_readsOn_239 : decode cX12_readsOn 239 = .ok (.invokestatic 105, 3) := by decide +kernel
theorem dX12_readsOn_242 : decode cX12_readsOn 242 = .ok (.ifCond .eq 7, 3) := by decide +kernel
theorem dX12_readsOn_245 : decode cX12_readsOn 245 = .ok (.iload_n 1, 1) := by decide +kernel
theorem dX12_readsOn_246 : decode cX12_readsOn 246 = .ok (.goto 4, 3) := by decide +kernel
theorem dX12_readsOn_249 : decode cX12_readsOn 249 = .ok (.iconst 3, 1) := by decide +kernel
theorem dX12_readsOn_25 : decode cX12_readsOn 25 = .ok (.aload_n 0, 1) := by decide +kernel
theorem dX12_readsOn_250 : decode cX12_readsOn 250 = .ok (.putfield 88, 3) := by decide +kernel
theorem dX12_readsOn_253 : decode cX12_readsOn 253 = .ok (.aload_n 0, 1) := by decide +kernel
theorem dX12_readsOn_254 : decode cX12_readsOn 254 = .ok (.dup, 1) := by decide +kernel
theorem dX12_readsOn_255 : decode cX12_readsOn 255 = .ok (.getfield 82, 3) := by decide +kernel
theorem dX12_readsOn_258 : decode cX12_readsOn 258 = .ok (.iconst 1, 1) := by decide +kernel
theorem dX12_readsOn_259 : decode cX12_readsOn 259 = .ok (.iadd, 1) := by decide +kernel
theorem dX12_readsOn_26 : decode cX12_readsOn 26 = .ok (.getfield 23, 3) := by decide +kernel
theorem dX12_readsOn_260 : decode cX12_readsOn 260 = .ok (.putfield 82, 3) := by decide +kernel
theorem dX12_readsOn_263 : decode cX12_readsOn 263 = .ok (.return_, 1) := by decide +kernel
theorem dX12_readsOn_29 : decode cX12_readsOn 29 = .ok (.aload_n 0, 1) := by decide +kernel
theorem dX12_readsOn_30 : decode cX12_readsOn 30 = .ok (.getfield 82, 3) := by decide +kernel
theorem dX12_readsOn_33 : decode cX12_readsOn 33 = .ok (.iaload, 1) := by decide +kernel
theorem dX12_readsOn_34 : decode cX12_readsOn 34 = .ok (.bipush 10, 2) := by decide +kernel
theorem dX12_readsOn_36 : decode cX12_readsOn 36 = .ok (.if_icmp .ne 16, 3) := by decide +kernel
theorem dX12_readsOn_39 : decode cX12_readsOn 39 = .ok (.aload_n 0, 1) := by decide +kernel
theorem dX12_readsOn_4 : decode cX12_readsOn 4 = .ok (.aload_n 0, 1) := by decide +kernel
theorem dX12_readsOn_40 : decode cX12_readsOn 40 = .ok (.dup, 1) := by decide +kernel
theorem dX12_readsOn_41 : decode cX12_readsOn 41 = .ok (.getfield 82, 3) := by decide +kernel
theorem dX12_readsOn_44 : decode cX12_readsOn 44 = .ok (.iconst 1, 1) := by decide +kernel
theorem dX12_readsOn_45 : decode cX12_readsOn 45 = .ok (.iadd, 1) := by decide +kernel
theorem dX12_readsOn_46 : decode cX12_readsOn 46 = .ok (.putfield 82, 3) := by decide +kernel
theorem dX12_readsOn_49 : decode cX12_readsOn 49 = .ok (.goto (-49), 3) := by decide +kernel
theorem dX12_readsOn_5 : decode cX12_readsOn 5 = .ok (.getfield 79, 3) := by decide +kernel
theorem dX12_readsOn_52 : decode cX12_readsOn 52 = .ok (.aload_n 0, 1) := by decide +kernel
theorem dX12_readsOn_53 : decode cX12_readsOn 53 = .ok (.aload_n 0, 1) := by decide +kernel
theorem dX12_readsOn_54 : decode cX12_readsOn 54 = .ok (.getfield 82, 3) := by decide +kernel
theorem dX12_readsOn_57 : decode cX12_readsOn 57 = .ok (.putfield 85, 3) := by decide +kernel
theorem dX12_readsOn_60 : decode cX12_readsOn 60 = .ok (.aload_n 0, 1) := by decide +kernel
theorem dX12_readsOn_61 : decode cX12_readsOn 61 = .ok (.getfield 82, 3) := by decide +kernel
theorem dX12_readsOn_64 : decode cX12_readsOn 64 = .ok (.aload_n 0, 1) := by decide +kernel
theorem dX12_readsOn_65 : decode cX12_readsOn 65 = .ok (.getfield 79, 3) := by decide +kernel
theorem dX12_readsOn_68 : decode cX12_readsOn 68 = .ok (.if_icmp .lt 9, 3) := by decide +kernel
theorem dX12_readsOn_71 : decode cX12_readsOn 71 = .ok (.aload_n 0, 1) := by decide +kernel
theorem dX12_readsOn_72 : decode cX12_readsOn 72 = .ok (.iconst 0, 1) := by decide +kernel
theorem dX12_readsOn_73 : decode cX12_readsOn 73 = .ok (.putfield 88, 3) := by decide +kernel
theorem dX12_readsOn_76 : decode cX12_readsOn 76 = .ok (.return_, 1) := by decide +kernel
theorem dX12_readsOn_77 : decode cX12_readsOn 77 = .ok (.aload_n 0, 1) := by decide +kernel
theorem dX12_readsOn_78 : decode cX12_readsOn 78 = .ok (.getfield 23, 3) := by decide +kernel
theorem dX12_readsOn_8 : decode cX12_readsOn 8 = .ok (.if_icmp .ge 44, 3) := by decide +kernel
theorem dX12_readsOn_81 : decode cX12_readsOn 81 = .ok (.aload_n 0, 1) := by decide +kernel
theorem dX12_readsOn_82 : decode cX12_readsOn 82 = .ok (.getfield 82, 3) := by decide +kernel
theorem dX12_readsOn_85 : decode cX12_readsOn 85 = .ok (.iaload, 1) := by decide +kernel
theorem dX12_readsOn_86 : decode cX12_readsOn 86 = .ok (.istore_n 1, 1) := by decide +kernel
theorem dX12_readsOn_87 : decode cX12_readsOn 87 = .ok (.iload_n 1, 1) := by decide +kernel
theorem dX12_readsOn_88 : decode cX12_readsOn 88 = .ok (.invokestatic 91, 3) := by decide +kernel
theorem dX12_readsOn_91 : decode cX12_readsOn 91 = .ok (.ifCond .eq 38, 3) := by decide +kernel
theorem dX12_readsOn_94 : decode cX12_readsOn 94 = .ok (.aload_n 0, 1) := by decide +kernel
theorem dX12_readsOn_95 : decode cX12_readsOn 95 = .ok (.aload_n 0, 1) := by decide +kernel
theorem dX12_readsOn_96 : decode cX12_readsOn 96 = .ok (.getfield 82, 3) := by decide +kernel
theorem dX12_readsOn_99 : decode cX12_readsOn 99 = .ok (.invokevirtual 95, 3) := by decide +kernel
set_option maxHeartbeats 4000000 in
set_option maxRecDepth 4000 in
theorem kp_X12_readsOn (l : Launch) (M : Mem) (hJ : Iw M) (hp0 : M 131 8 ≤ M 131 7) : CV l yX12_readsOn cX12_readsOn 2 none 2 (fun ad => [.ref (ad 131)]) M (fun M' => Fr [131] M M' ∧ (M 131 8 ≤ M' 131 9 ∧ 0 ≤ M' 131 9 ∧ M' 131 9 ≤ M' 131 8 ∧ M' 131 8 ≤ M' 131 7 ∧ M' 131 7 ≤ 900 ∧ (M' 131 10 = 0 ∨ M' 131 9 < M' 131 8) ∧ M' 131 7 = M 131 7 ∧ M' 131 12 = M 131 12 ∧ M' 131 16 = M 131 16) ∧ (Im (M 131 12 = 0) (adv (absR M) = absR M'))) := by
  obtain ⟨hI, hW⟩ := hJ
  have hF : Fr [131] M M := Fr.rf
  refine en_v (by decide +kernel) (fun ad => by exact Nat.le_of_ble_eq_true rfl) (fun D cy ad A p e s m args below meth c Q F hret => ?_)
  refine z_eq (ls' := [(0, .ref (ad 131))]) rfl rfl rfl ?_
  obtain ⟨u1, eu1⟩ : ∃ v : Int, v = M 131 7 := ⟨_, rfl⟩
  have ku1 : 0 ≤ u1 ∧ u1 ≤ 900 := by have := hI.at (show Bd 131 7 = (0, 900) from rfl); omega
  obtain ⟨u2, eu2⟩ : ∃ v : Int, v = M 131 8 := ⟨_, rfl⟩
  have ku2 : 0 ≤ u2 ∧ u2 ≤ 900 := by have := hI.at (show Bd 131 8 = (0, 900) from rfl); omega
  obtain ⟨u3, eu3⟩ : ∃ v : Int, v = M 131 9 := ⟨_, rfl⟩
  have ku3 : 0 ≤ u3 ∧ u3 ≤ 900 := by have := hI.at (show Bd 131 9 = (0, 900) from rfl); omega
  obtain ⟨u4, eu4⟩ : ∃ v : Int, v = M 131 10 := ⟨_, rfl⟩
  have ku4 : (-2147483648) ≤ u4 ∧ u4 ≤ 2147483647 := by have := hI.at (show Bd 131 10 = (-2147483648, 2147483647) from rfl); omega
  obtain ⟨u5, eu5⟩ : ∃ v : Int, v = M 131 12 := ⟨_, rfl⟩
  have ku5 : 0 ≤ u5 ∧ u5 ≤ 4 := by have := hI.at (show Bd 131 12 = (0, 4) from rfl); omega
  obtain ⟨u6, eu6⟩ : ∃ v : Int, v = M 131 16 := ⟨_, rfl⟩
  have ku6 : (-2147483648) ≤ u6 ∧ u6 ≤ 2147483647 := by have := hI.at (show Bd 131 16 = (-2147483648, 2147483647) from rfl); omega
  obtain ⟨u7, eu7⟩ : ∃ v : Int, v = M 131 11 := ⟨_, rfl⟩
  have ku7 : 0 ≤ u7 ∧ u7 ≤ 999 := by have := hI.at (show Bd 131 11 = (0, 999) from rfl); omega
  obtain ⟨u8, eu8⟩ : ∃ v : Int, v = M 131 13 := ⟨_, rfl⟩
  have ku8 : 0 ≤ u8 ∧ u8 ≤ 900 := by have := hI.at (show Bd 131 13 = (0, 900) from rfl); omega
  refine z_loc [0] (ls' := [(0, .ref (ad 131))]) rfl ?_
  suffices key0 : ∀ (n : Nat) (M9 : Mem), Inv M9 → WFk M9 → Fr [131] M M9 → (M9 131 7 = M 131 7) → (M9 131 12 = M 131 12) → (M9 131 16 = M 131 16) → (M 131 8 ≤ M9 131 8) → (M9 131 8 ≤ M9 131 7) → (∀ j : Nat, M 131 8 ≤ j → (j : Int) < M9 131 8 → c_bl (M 136 j)) → (M9 131 13 = M 131 13) → 900 - M9 131 8 < (n : Int) → Z D cy ad p l e (RMh 2) s m args below meth c A 2 0 0 Q 0 [(0, .ref (ad 131))] [] M9 from key0 901 M hI hW hF (by omega) (by omega) (by omega) (by omega) (by omega) (fun j a b => by exfalso; omega) (by omega) (by omega)
  intro n0
  induction n0 with
  | zero => intro M9 hI hW hF i0_0 i0_1 i0_2 i0_3 i0_4 i0_5 i0_6 hn0; exfalso; omega
  | succ n0 ih0 =>
    intro M9 hI hW hF i0_0 i0_1 i0_2 i0_3 i0_4 i0_5 i0_6 hn0
    obtain ⟨u10, eu10⟩ : ∃ v : Int, v = M9 131 7 := ⟨_, rfl⟩
    have ku10 : 0 ≤ u10 ∧ u10 ≤ 900 := by have := hI.at (show Bd 131 7 = (0, 900) from rfl); omega
    obtain ⟨u11, eu11⟩ : ∃ v : Int, v = M9 131 8 := ⟨_, rfl⟩
    have ku11 : 0 ≤ u11 ∧ u11 ≤ 900 := by have := hI.at (show Bd 131 8 = (0, 900) from rfl); omega
    obtain ⟨u12, eu12⟩ : ∃ v : Int, v = M9 131 9 := ⟨_, rfl⟩
    have ku12 : 0 ≤ u12 ∧ u12 ≤ 900 := by have := hI.at (show Bd 131 9 = (0, 900) from rfl); omega
    obtain ⟨u13, eu13⟩ : ∃ v : Int, v = M9 131 10 := ⟨_, rfl⟩
    have ku13 : (-2147483648) ≤ u13 ∧ u13 ≤ 2147483647 := by have := hI.at (show Bd 131 10 = (-2147483648, 2147483647) from rfl); omega
    obtain ⟨u14, eu14⟩ : ∃ v : Int, v = M9 131 12 := ⟨_, rfl⟩
    have ku14 : 0 ≤ u14 ∧ u14 ≤ 4 := by have := hI.at (show Bd 131 12 = (0, 4) from rfl); omega
    obtain ⟨u15, eu15⟩ : ∃ v : Int, v = M9 131 16 := ⟨_, rfl⟩
    have ku15 : (-2147483648) ≤ u15 ∧ u15 ≤ 2147483647 := by have := hI.at (show Bd 131 16 = (-2147483648, 2147483647) from rfl); omega
    obtain ⟨u16, eu16⟩ : ∃ v : Int, v = M9 131 11 := ⟨_, rfl⟩
    have ku16 : 0 ≤ u16 ∧ u16 ≤ 999 := by have := hI.at (show Bd 131 11 = (0, 999) from rfl); omega
    obtain ⟨u17, eu17⟩ : ∃ v : Int, v = M9 131 13 := ⟨_, rfl⟩
    have ku17 : 0 ≤ u17 ∧ u17 ≤ 900 := by have := hI.at (show Bd 131 13 = (0, 900) from rfl); omega
    have fr136 : M9 136 (u11).toNat = M 136 (u11).toNat := hF.at (by decide)
    refine z_aload_n F dX12_readsOn_0 rfl (q := 0) rfl ?_
    refine gf_X12_82 F hI gs_131 rfl bd_131_8 dX12_readsOn_1 (fun v18 ev18 av18 bv18 => ?_)
    have zv18 : u11 = v18 := eu11.trans ev18.symm
    subst zv18
    refine z_aload_n F dX12_readsOn_4 rfl (q := 0) rfl ?_
    refine gf_X12_79 F hI gs_131 rfl bd_131_7 dX12_readsOn_5 (fun v19 ev19 av19 bv19 => ?_)
    have zv19 : u10 = v19 := eu10.trans ev19.symm
    subst zv19
    refine z_icmp_ge (tgt := 52) F dX12_readsOn_8 (by decide +kernel) (by omega) (by omega) (fun c20 => ?_) (fun c20 => ?_)
    · refine z_aload_n F dX12_readsOn_52 rfl (q := 0) rfl ?_
      refine z_aload_n F dX12_readsOn_53 rfl (q := 0) rfl ?_
      refine gf_X12_82 F hI gs_131 rfl bd_131_8 dX12_readsOn_54 (fun v21 ev21 av21 bv21 => ?_)
      have zv21 : u11 = v21 := eu11.trans ev21.symm
      subst zv21
      refine pf_X12_85 F hI gs_131 rfl bd_131_9 rfl rfl dX12_readsOn_57 (by omega) (by omega) (fun M23 hI sf22 f22 => ?_)
      have hF := hF.wrf f22 (by decide) (by decide)
      have hW : WFk M23 := hW.site f22 (by decide)
      refine z_aload_n F dX12_readsOn_60 rfl (q := 0) rfl ?_
      refine gf_X12_82 F hI gs_131 rfl bd_131_8 dX12_readsOn_61 (fun v24 ev24 av24 bv24 => ?_)
      have q25 : u11 = M23 131 8 := eu11.trans (f22 131 8 (fun q => absurd q.2 (by decide))).symm
      have zv24 : u11 = v24 := q25.trans ev24.symm
      subst zv24
      refine z_aload_n F dX12_readsOn_64 rfl (q := 0) rfl ?_
      refine gf_X12_79 F hI gs_131 rfl bd_131_7 dX12_readsOn_65 (fun v26 ev26 av26 bv26 => ?_)
      have q27 : u10 = M23 131 7 := eu10.trans (f22 131 7 (fun q => absurd q.2 (by decide))).symm
      have zv26 : u10 = v26 := q27.trans ev26.symm
      subst zv26
      refine z_icmp_lt (tgt := 77) F dX12_readsOn_68 (by decide +kernel) (by omega) (by omega) (fun c28 => ?_) (fun c28 => ?_)
      · refine z_aload_n F dX12_readsOn_77 rfl (q := 0) rfl ?_
        refine rf_X12_23 F gs_131 rfl dX12_readsOn_78 ?_
        refine z_aload_n F dX12_readsOn_81 rfl (q := 0) rfl ?_
        refine gf_X12_82 F hI gs_131 rfl bd_131_8 dX12_readsOn_82 (fun v29 ev29 av29 bv29 => ?_)
        have zv29 : u11 = v29 := q25.trans ev29.symm
        subst zv29
        refine z_iald F hI gs_136 (by omega) (by omega) (by decide) bd_136 dX12_readsOn_85 (fun v30 (ev30 : v30 = M23 136 _) av30 bv30 => ?_)
        have frv30 : M23 136 (u11).toNat = M 136 (u11).toNat := hF.at (by decide)
        refine z_istore_n F dX12_readsOn_86 rfl (by decide) (ls' := [(1, ii v30), (0, .ref (ad 131))]) rfl ?_
        refine z_iload_n F dX12_readsOn_87 rfl (q := 0) rfl ?_
        refine zs_i (rest := []) F (kp_X12_isLetter l M23 ⟨hI, hW⟩ v30 (by omega) (by omega)) cs_X12_91 (by decide) (by decide) rfl rfl rfl (Nat.le_of_ble_eq_true rfl) dX12_readsOn_88 (fun v31 M32 rv31 hI p33 => ?_)
        obtain ⟨hI, hW⟩ := hI
        obtain ⟨⟨av31, bv31⟩, rfl, xp33⟩ := p33
        refine z_if_eq (tgt := 129) F dX12_readsOn_91 (by decide +kernel) (by omega) (fun c34 => ?_) (fun c34 => ?_)
        · refine z_iload_n F dX12_readsOn_129 rfl (q := 0) rfl ?_
          refine zs_i (rest := []) F (kp_X12_isDigit l M23 ⟨hI, hW⟩ v30 (by omega) (by omega)) cs_X12_99 (by decide) (by decide) rfl rfl rfl (Nat.le_of_ble_eq_true rfl) dX12_readsOn_130 (fun v35 M36 rv35 hI p37 => ?_)
          obtain ⟨hI, hW⟩ := hI
          obtain ⟨⟨av35, bv35⟩, rfl, xp37⟩ := p37
          refine z_if_eq (tgt := 237) F dX12_readsOn_133 (by decide +kernel) (by omega) (fun c38 => ?_) (fun c38 => ?_)
          · refine z_aload_n F dX12_readsOn_237 rfl (q := 1) rfl ?_
            refine z_iload_n F dX12_readsOn_238 rfl (q := 0) rfl ?_
            refine zs_i (rest := [.ref (ad 131)]) F (kp_X12_isSignByte l M23 ⟨hI, hW⟩ v30 (by omega) (by omega)) cs_X12_105 (by decide) (by decide) rfl rfl rfl (Nat.le_of_ble_eq_true rfl) dX12_readsOn_239 (fun v39 M40 rv39 hI p41 => ?_)
            obtain ⟨hI, hW⟩ := hI
            obtain ⟨⟨av39, bv39⟩, rfl, yp41⟩ := p41
            refine z_if_eq (tgt := 249) F dX12_readsOn_242 (by decide +kernel) (by omega) (fun c42 => ?_) (fun c42 => ?_)
            · refine z_iconst F dX12_readsOn_249 ?_
              refine pf_X12_88 F hI gs_131 rfl bd_131_10 rfl rfl dX12_readsOn_250 (by omega) (by omega) (fun M44 hI sf43 f43 => ?_)
              have hF := hF.wrf f43 (by decide) (by decide)
              have hW : WFk M44 := hW.site f43 (by decide)
              refine z_aload_n F dX12_readsOn_253 rfl (q := 1) rfl ?_
              refine z_dup F dX12_readsOn_254 rfl ?_
              refine gf_X12_82 F hI gs_131 rfl bd_131_8 dX12_readsOn_255 (fun v45 ev45 av45 bv45 => ?_)
              have q46 : u11 = M44 131 8 := q25.trans (f43 131 8 (fun q => absurd q.2 (by decide))).symm
              have zv45 : u11 = v45 := q46.trans ev45.symm
              subst zv45
              refine z_iconst F dX12_readsOn_258 ?_
              refine z_iadd F dX12_readsOn_259 ?_
              refine z_nm (fun v47 ev47 => ?_)
              refine pf_X12_82 F hI gs_131 rfl bd_131_8 rfl rfl dX12_readsOn_260 (by omega) (by omega) (fun M49 hI sf48 f48 => ?_)
              have hF := hF.wrf f48 (by decide) (by decide)
              have hW : WFk M49 := hW.site f48 (by decide)
              have q50 : u10 = M44 131 7 := q27.trans (f43 131 7 (fun q => absurd q.2 (by decide))).symm
              have q51 : u10 = M49 131 7 := q50.trans (f48 131 7 (fun q => absurd q.2 (by decide))).symm
              have q52 : u11 = M44 131 9 := sf22.symm.trans (f43 131 9 (fun q => absurd q.2 (by decide))).symm
              have q53 : u11 = M49 131 9 := q52.trans (f48 131 9 (fun q => absurd q.2 (by decide))).symm
              have q54 : 3 = M49 131 10 := sf43.symm.trans (f48 131 10 (fun q => absurd q.2 (by decide))).symm
              have q55 : u14 = M23 131 12 := eu14.trans (f22 131 12 (fun q => absurd q.2 (by decide))).symm
              have q56 : u14 = M44 131 12 := q55.trans (f43 131 12 (fun q => absurd q.2 (by decide))).symm
              have q57 : u14 = M49 131 12 := q56.trans (f48 131 12 (fun q => absurd q.2 (by decide))).symm
              have q58 : u15 = M23 131 16 := eu15.trans (f22 131 16 (fun q => absurd q.2 (by decide))).symm
              have q59 : u15 = M44 131 16 := q58.trans (f43 131 16 (fun q => absurd q.2 (by decide))).symm
              have q60 : u15 = M49 131 16 := q59.trans (f48 131 16 (fun q => absurd q.2 (by decide))).symm
              have q61 : u16 = M23 131 11 := eu16.trans (f22 131 11 (fun q => absurd q.2 (by decide))).symm
              have q62 : u16 = M44 131 11 := q61.trans (f43 131 11 (fun q => absurd q.2 (by decide))).symm
              have q63 : u16 = M49 131 11 := q62.trans (f48 131 11 (fun q => absurd q.2 (by decide))).symm
              have q64 : u17 = M23 131 13 := eu17.trans (f22 131 13 (fun q => absurd q.2 (by decide))).symm
              have q65 : u17 = M44 131 13 := q64.trans (f43 131 13 (fun q => absurd q.2 (by decide))).symm
              have q66 : u17 = M49 131 13 := q65.trans (f48 131 13 (fun q => absurd q.2 (by decide))).symm
              have cv9 : M 136 (u11).toNat = v30 := by omega
              exact hret _ 263 _ ⟨hI, hW⟩ ⟨hF, (by omega), (fun h0 => advR h0 (by omega) (by omega) (fun j => hF.at (by decide)) (by omega) (show tkR M49 = 3 from by unfold tkR; omega) (show vlR M49 = 0 from by unfold vlR; rw [if_neg (by omega)]) (by rw [show M49 131 8 = M49 131 9 + 1 from by omega]; exact adv_S (by omega) (by omega) (by omega) (run_R (by omega) (fun j a b => i0_5 j a (by omega))) (by rw [UR_at (by omega), ← q53]; unfold c_bl; omega) (by rw [UR_at (by omega), ← q53]; unfold c_lt; omega) (by rw [UR_at (by omega), ← q53]; unfold c_dg; omega) (Or.inr ⟨(by rw [UR_at (by omega), ← q53, cv9]; exact (yp41.elim (fun q => absurd q.1 (by omega)) (fun q => q.2))), rfl⟩)))⟩ dX12_readsOn_263
            · refine z_iload_n F dX12_readsOn_245 rfl (q := 0) rfl ?_
              refine z_goto (tgt := 250) F dX12_readsOn_246 (by decide +kernel) ?_
              refine pf_X12_88 F hI gs_131 rfl bd_131_10 rfl rfl dX12_readsOn_250 (by omega) (by omega) (fun M68 hI sf67 f67 => ?_)
              have hF := hF.wrf f67 (by decide) (by decide)
              have hW : WFk M68 := hW.site f67 (by decide)
              refine z_aload_n F dX12_readsOn_253 rfl (q := 1) rfl ?_
              refine z_dup F dX12_readsOn_254 rfl ?_
              refine gf_X12_82 F hI gs_131 rfl bd_131_8 dX12_readsOn_255 (fun v69 ev69 av69 bv69 => ?_)
              have q70 : u11 = M68 131 8 := q25.trans (f67 131 8 (fun q => absurd q.2 (by decide))).symm
              have zv69 : u11 = v69 := q70.trans ev69.symm
              subst zv69
              refine z_iconst F dX12_readsOn_258 ?_
              refine z_iadd F dX12_readsOn_259 ?_
              refine z_nm (fun v71 ev71 => ?_)
              refine pf_X12_82 F hI gs_131 rfl bd_131_8 rfl rfl dX12_readsOn_260 (by omega) (by omega) (fun M73 hI sf72 f72 => ?_)
              have hF := hF.wrf f72 (by decide) (by decide)
              have hW : WFk M73 := hW.site f72 (by decide)
              have q74 : u10 = M68 131 7 := q27.trans (f67 131 7 (fun q => absurd q.2 (by decide))).symm
              have q75 : u10 = M73 131 7 := q74.trans (f72 131 7 (fun q => absurd q.2 (by decide))).symm
              have q76 : u11 = M68 131 9 := sf22.symm.trans (f67 131 9 (fun q => absurd q.2 (by decide))).symm
              have q77 : u11 = M73 131 9 := q76.trans (f72 131 9 (fun q => absurd q.2 (by decide))).symm
              have q78 : v30 = M73 131 10 := sf67.symm.trans (f72 131 10 (fun q => absurd q.2 (by decide))).symm
              have q79 : u14 = M23 131 12 := eu14.trans (f22 131 12 (fun q => absurd q.2 (by decide))).symm
              have q80 : u14 = M68 131 12 := q79.trans (f67 131 12 (fun q => absurd q.2 (by decide))).symm
              have q81 : u14 = M73 131 12 := q80.trans (f72 131 12 (fun q => absurd q.2 (by decide))).symm
              have q82 : u15 = M23 131 16 := eu15.trans (f22 131 16 (fun q => absurd q.2 (by decide))).symm
              have q83 : u15 = M68 131 16 := q82.trans (f67 131 16 (fun q => absurd q.2 (by decide))).symm
              have q84 : u15 = M73 131 16 := q83.trans (f72 131 16 (fun q => absurd q.2 (by decide))).symm
              have q85 : u16 = M23 131 11 := eu16.trans (f22 131 11 (fun q => absurd q.2 (by decide))).symm
              have q86 : u16 = M68 131 11 := q85.trans (f67 131 11 (fun q => absurd q.2 (by decide))).symm
              have q87 : u16 = M73 131 11 := q86.trans (f72 131 11 (fun q => absurd q.2 (by decide))).symm
              have q88 : u17 = M23 131 13 := eu17.trans (f22 131 13 (fun q => absurd q.2 (by decide))).symm
              have q89 : u17 = M68 131 13 := q88.trans (f67 131 13 (fun q => absurd q.2 (by decide))).symm
              have q90 : u17 = M73 131 13 := q89.trans (f72 131 13 (fun q => absurd q.2 (by decide))).symm
              have cv9 : M 136 (u11).toNat = v30 := by omega
              have sg40 := ws_40 yp41 (by omega)
              exact hret _ 263 _ ⟨hI, hW⟩ ⟨hF, (by omega), (fun h0 => advR h0 (by omega) (by omega) (fun j => hF.at (by decide)) (by omega) (show tkR M73 = v30 from by unfold tkR; omega) (show vlR M73 = 0 from by unfold vlR; rw [if_neg (by omega)]) (by rw [show M73 131 8 = M73 131 9 + 1 from by omega]; exact adv_S (by omega) (by omega) (by omega) (run_R (by omega) (fun j a b => i0_5 j a (by omega))) (by rw [UR_at (by omega), ← q77]; unfold c_bl; omega) (by rw [UR_at (by omega), ← q77]; unfold c_lt; omega) (by rw [UR_at (by omega), ← q77]; unfold c_dg; omega) (Or.inl ⟨(by rw [UR_at (by omega), ← q77, cv9]; exact (yp41.elim (fun q => q.2) (fun q => absurd q.1 (by omega)))), (by rw [UR_at (by omega), ← q77, cv9])⟩)))⟩ dX12_readsOn_263
          · refine z_aload_n F dX12_readsOn_136 rfl (q := 1) rfl ?_
            refine z_iconst F dX12_readsOn_137 ?_
            refine pf_X12_102 F hI gs_131 rfl bd_131_11 rfl rfl dX12_readsOn_138 (by omega) (by omega) (fun M92 hI sf91 f91 => ?_)
            have hF := hF.wrf f91 (by decide) (by decide)
            have hW : WFk M92 := hW.site f91 (by decide)
            have q94 : u11 = M92 131 8 := q25.trans (f91 131 8 (fun q => absurd q.2 (by decide))).symm
            have q95 : v30 = M92 136 (u11).toNat := ev30.trans (f91 136 (u11).toNat (fun q => absurd q.1 (by decide))).symm
            have q96 : u11 = M92 131 9 := sf22.symm.trans (f91 131 9 (fun q => absurd q.2 (by decide))).symm
            refine z_loc [1] (ls' := [(0, .ref (ad 131))]) rfl ?_
            have q97 : u10 = M92 131 7 := q27.trans (f91 131 7 (fun q => absurd q.2 (by decide))).symm
            have q98 : u13 = M23 131 10 := eu13.trans (f22 131 10 (fun q => absurd q.2 (by decide))).symm
            have q99 : u13 = M92 131 10 := q98.trans (f91 131 10 (fun q => absurd q.2 (by decide))).symm
            have q100 : u14 = M23 131 12 := eu14.trans (f22 131 12 (fun q => absurd q.2 (by decide))).symm
            have q101 : u14 = M92 131 12 := q100.trans (f91 131 12 (fun q => absurd q.2 (by decide))).symm
            have q102 : u15 = M23 131 16 := eu15.trans (f22 131 16 (fun q => absurd q.2 (by decide))).symm
            have q103 : u15 = M92 131 16 := q102.trans (f91 131 16 (fun q => absurd q.2 (by decide))).symm
            have q104 : u17 = M23 131 13 := eu17.trans (f22 131 13 (fun q => absurd q.2 (by decide))).symm
            have q105 : u17 = M92 131 13 := q104.trans (f91 131 13 (fun q => absurd q.2 (by decide))).symm
            suffices key141 : ∀ (n : Nat) (M93 : Mem), Inv M93 → WFk M93 → Fr [131] M M93 → (M93 131 7 = M 131 7) → (M93 131 12 = M 131 12) → (M93 131 16 = M 131 16) → (M 131 8 ≤ M93 131 8) → (M93 131 8 ≤ M93 131 7) → (M 131 8 ≤ M93 131 9) → (M93 131 9 ≤ M93 131 8) → (M93 131 9 < M93 131 8 ∨ M93 131 8 < M93 131 7 ∧ 48 ≤ M93 136 (M93 131 8).toNat ∧ M93 136 (M93 131 8).toNat ≤ 57) → (∀ j : Nat, M 131 8 ≤ j → (j : Int) < M93 131 9 → c_bl (M 136 j)) → (c_dg (M 136 (M93 131 9).toNat)) → (∀ j : Nat, M93 131 9 ≤ j → (j : Int) < M93 131 8 → c_dg (M 136 j)) → (M93 131 8 - M93 131 9 ≤ 3 → M93 131 11 = dec3 (M 136) (M93 131 9).toNat (M93 131 8 - M93 131 9).toNat) → (M93 131 8 = M93 131 9 → M93 131 11 = 0) → (M93 131 8 - M93 131 9 = 1 → M93 131 11 ≤ 9) → (M93 131 8 - M93 131 9 = 2 → M93 131 11 ≤ 99) → (M93 131 13 = M 131 13) → 900 - M93 131 8 < (n : Int) → Z D cy ad p l e (RMh 2) s m args below meth c A 2 0 0 Q 141 [(0, .ref (ad 131))] [] M93 from key141 901 M92 hI hW hF (by omega) (by omega) (by omega) (by omega) (by omega) (by omega) (by omega) (Or.inr (by rw [← q94]; omega)) (fun j a b => i0_5 j a (by omega)) (show c_dg (M 136 (M92 131 9).toNat) from by rw [← q96]; unfold c_dg; omega) (fun j a b => by exfalso; omega) (fun q => by rw [show (M92 131 8 - M92 131 9).toNat = 0 from by omega]; show _ = (0 : Int); omega) (by omega) (by omega) (by omega) (by omega) (by omega)
            intro n141
            induction n141 with
            | zero => intro M93 hI hW hF i141_0 i141_1 i141_2 i141_3 i141_4 i141_5 i141_6 i141_7 i141_8 i141_9 i141_10 i141_11 i141_12 i141_13 i141_14 i141_15 hn141; exfalso; omega
            | succ n141 ih141 =>
              intro M93 hI hW hF i141_0 i141_1 i141_2 i141_3 i141_4 i141_5 i141_6 i141_7 i141_8 i141_9 i141_10 i141_11 i141_12 i141_13 i141_14 i141_15 hn141
              obtain ⟨u106, eu106⟩ : ∃ v : Int, v = M93 131 7 := ⟨_, rfl⟩
              have ku106 : 0 ≤ u106 ∧ u106 ≤ 900 := by have := hI.at (show Bd 131 7 = (0, 900) from rfl); omega
              obtain ⟨u107, eu107⟩ : ∃ v : Int, v = M93 131 8 := ⟨_, rfl⟩
              have ku107 : 0 ≤ u107 ∧ u107 ≤ 900 := by have := hI.at (show Bd 131 8 = (0, 900) from rfl); omega
              obtain ⟨u108, eu108⟩ : ∃ v : Int, v = M93 131 9 := ⟨_, rfl⟩
              have ku108 : 0 ≤ u108 ∧ u108 ≤ 900 := by have := hI.at (show Bd 131 9 = (0, 900) from rfl); omega
              obtain ⟨u109, eu109⟩ : ∃ v : Int, v = M93 131 10 := ⟨_, rfl⟩
              have ku109 : (-2147483648) ≤ u109 ∧ u109 ≤ 2147483647 := by have := hI.at (show Bd 131 10 = (-2147483648, 2147483647) from rfl); omega
              obtain ⟨u110, eu110⟩ : ∃ v : Int, v = M93 131 12 := ⟨_, rfl⟩
              have ku110 : 0 ≤ u110 ∧ u110 ≤ 4 := by have := hI.at (show Bd 131 12 = (0, 4) from rfl); omega
              obtain ⟨u111, eu111⟩ : ∃ v : Int, v = M93 131 16 := ⟨_, rfl⟩
              have ku111 : (-2147483648) ≤ u111 ∧ u111 ≤ 2147483647 := by have := hI.at (show Bd 131 16 = (-2147483648, 2147483647) from rfl); omega
              obtain ⟨u112, eu112⟩ : ∃ v : Int, v = M93 131 11 := ⟨_, rfl⟩
              have ku112 : 0 ≤ u112 ∧ u112 ≤ 999 := by have := hI.at (show Bd 131 11 = (0, 999) from rfl); omega
              obtain ⟨u113, eu113⟩ : ∃ v : Int, v = M93 131 13 := ⟨_, rfl⟩
              have ku113 : 0 ≤ u113 ∧ u113 ≤ 900 := by have := hI.at (show Bd 131 13 = (0, 900) from rfl); omega
              rw [← eu107] at i141_7
              have fr136 : M93 136 (u107).toNat = M 136 (u107).toNat := hF.at (by decide)
              refine z_aload_n F dX12_readsOn_141 rfl (q := 0) rfl ?_
              refine z_aload_n F dX12_readsOn_142 rfl (q := 0) rfl ?_
              refine gf_X12_82 F hI gs_131 rfl bd_131_8 dX12_readsOn_143 (fun v114 ev114 av114 bv114 => ?_)
              have zv114 : u107 = v114 := eu107.trans ev114.symm
              subst zv114
              refine zv_i (rest := []) F (kp_X12_see l M93 ⟨hI, hW⟩ u107 (by omega) (by omega)) cs_X12_95 (T := TX12) (N := 44) (ci := 12) rfl gs_131 (by decide) (by decide) rfl rfl rfl (Nat.le_of_ble_eq_true rfl) dX12_readsOn_146 (fun v115 M116 rv115 hI p117 => ?_)
              obtain ⟨hI, hW⟩ := hI
              obtain ⟨⟨av115, bv115⟩, rfl, xp117⟩ := p117
              refine zs_i (rest := []) F (kp_X12_isDigit l M93 ⟨hI, hW⟩ v115 (by omega) (by omega)) cs_X12_99 (by decide) (by decide) rfl rfl rfl (Nat.le_of_ble_eq_true rfl) dX12_readsOn_149 (fun v118 M119 rv118 hI p120 => ?_)
              obtain ⟨hI, hW⟩ := hI
              obtain ⟨⟨av118, bv118⟩, rfl, xp120⟩ := p120
              refine z_if_eq (tgt := 212) F dX12_readsOn_152 (by decide +kernel) (by omega) (fun c121 => ?_) (fun c121 => ?_)
              · refine z_aload_n F dX12_readsOn_212 rfl (q := 0) rfl ?_
                refine z_aload_n F dX12_readsOn_213 rfl (q := 0) rfl ?_
                refine gf_X12_82 F hI gs_131 rfl bd_131_8 dX12_readsOn_214 (fun v122 ev122 av122 bv122 => ?_)
                have zv122 : u107 = v122 := eu107.trans ev122.symm
                subst zv122
                refine z_aload_n F dX12_readsOn_217 rfl (q := 0) rfl ?_
                refine gf_X12_85 F hI gs_131 rfl bd_131_9 dX12_readsOn_218 (fun v123 ev123 av123 bv123 => ?_)
                have zv123 : u108 = v123 := eu108.trans ev123.symm
                subst zv123
                refine z_isub F dX12_readsOn_221 ?_
                refine z_iconst F dX12_readsOn_222 ?_
                refine z_icmp_le (tgt := 230) F dX12_readsOn_223 (by decide +kernel) (by omega) (by omega) (fun c124 => ?_) (fun c124 => ?_)
                · refine z_iconst F dX12_readsOn_230 ?_
                  refine pf_X12_88 F hI gs_131 rfl bd_131_10 rfl rfl dX12_readsOn_231 (by omega) (by omega) (fun M126 hI sf125 f125 => ?_)
                  have hF := hF.wrf f125 (by decide) (by decide)
                  have hW : WFk M126 := hW.site f125 (by decide)
                  refine z_goto (tgt := 263) F dX12_readsOn_234 (by decide +kernel) ?_
                  have q127 : u106 = M126 131 7 := eu106.trans (f125 131 7 (fun q => absurd q.2 (by decide))).symm
                  have q128 : u107 = M126 131 8 := eu107.trans (f125 131 8 (fun q => absurd q.2 (by decide))).symm
                  have q129 : u108 = M126 131 9 := eu108.trans (f125 131 9 (fun q => absurd q.2 (by decide))).symm
                  have q130 : u110 = M126 131 12 := eu110.trans (f125 131 12 (fun q => absurd q.2 (by decide))).symm
                  have q131 : u111 = M126 131 16 := eu111.trans (f125 131 16 (fun q => absurd q.2 (by decide))).symm
                  have q132 : u112 = M126 131 11 := eu112.trans (f125 131 11 (fun q => absurd q.2 (by decide))).symm
                  have q133 : u113 = M126 131 13 := eu113.trans (f125 131 13 (fun q => absurd q.2 (by decide))).symm
                  exact hret _ 263 _ ⟨hI, hW⟩ ⟨hF, (by omega), (fun h0 => advR h0 (by omega) (by omega) (fun j => hF.at (by decide)) (by omega) (show tkR M126 = 2 from by unfold tkR; omega) (show vlR M126 = M126 131 11 from by unfold vlR; rw [if_pos (by omega)]) (adv_N (by omega) (by omega) (by omega) (run_R (by omega) (fun j a b => i141_8 j a (by omega))) (by rw [UR_at (by omega), show M126 131 9 = M93 131 9 from by omega]; exact i141_9) (by omega) (by omega) (run_R (by omega) (fun j a b => i141_10 j (by omega) (by omega))) (if hq : M126 131 8 = M 131 7 then Or.inl hq else Or.inr (by rw [UR_at (by omega), ← q128]; unfold c_dg; omega)) (Or.inr ⟨by omega, rfl, (by rw [dec3_c (V := M 136) _ (fun k hk => UR_at (by omega)), show M126 131 11 = M93 131 11 from by omega, show M126 131 9 = M93 131 9 from by omega, show M126 131 8 = M93 131 8 from by omega]; exact i141_11 (by omega))⟩)))⟩ dX12_readsOn_263
                · refine z_iconst F dX12_readsOn_226 ?_
                  refine z_goto (tgt := 231) F dX12_readsOn_227 (by decide +kernel) ?_
                  refine pf_X12_88 F hI gs_131 rfl bd_131_10 rfl rfl dX12_readsOn_231 (by omega) (by omega) (fun M135 hI sf134 f134 => ?_)
                  have hF := hF.wrf f134 (by decide) (by decide)
                  have hW : WFk M135 := hW.site f134 (by decide)
                  refine z_goto (tgt := 263) F dX12_readsOn_234 (by decide +kernel) ?_
                  have q136 : u106 = M135 131 7 := eu106.trans (f134 131 7 (fun q => absurd q.2 (by decide))).symm
                  have q137 : u107 = M135 131 8 := eu107.trans (f134 131 8 (fun q => absurd q.2 (by decide))).symm
                  have q138 : u108 = M135 131 9 := eu108.trans (f134 131 9 (fun q => absurd q.2 (by decide))).symm
                  have q139 : u110 = M135 131 12 := eu110.trans (f134 131 12 (fun q => absurd q.2 (by decide))).symm
                  have q140 : u111 = M135 131 16 := eu111.trans (f134 131 16 (fun q => absurd q.2 (by decide))).symm
                  have q141 : u112 = M135 131 11 := eu112.trans (f134 131 11 (fun q => absurd q.2 (by decide))).symm
                  have q142 : u113 = M135 131 13 := eu113.trans (f134 131 13 (fun q => absurd q.2 (by decide))).symm
                  exact hret _ 263 _ ⟨hI, hW⟩ ⟨hF, (by omega), (fun h0 => advR h0 (by omega) (by omega) (fun j => hF.at (by decide)) (by omega) (show tkR M135 = 3 from by unfold tkR; omega) (show vlR M135 = 0 from by unfold vlR; rw [if_neg (by omega)]) (adv_N (by omega) (by omega) (by omega) (run_R (by omega) (fun j a b => i141_8 j a (by omega))) (by rw [UR_at (by omega), show M135 131 9 = M93 131 9 from by omega]; exact i141_9) (by omega) (by omega) (run_R (by omega) (fun j a b => i141_10 j (by omega) (by omega))) (if hq : M135 131 8 = M 131 7 then Or.inl hq else Or.inr (by rw [UR_at (by omega), ← q137]; unfold c_dg; omega)) (Or.inl ⟨by omega, rfl, rfl⟩)))⟩ dX12_readsOn_263
              · refine z_aload_n F dX12_readsOn_155 rfl (q := 0) rfl ?_
                refine z_aload_n F dX12_readsOn_156 rfl (q := 0) rfl ?_
                refine gf_X12_82 F hI gs_131 rfl bd_131_8 dX12_readsOn_157 (fun v143 ev143 av143 bv143 => ?_)
                have zv143 : u107 = v143 := eu107.trans ev143.symm
                subst zv143
                refine z_aload_n F dX12_readsOn_160 rfl (q := 0) rfl ?_
                refine gf_X12_85 F hI gs_131 rfl bd_131_9 dX12_readsOn_161 (fun v144 ev144 av144 bv144 => ?_)
                have zv144 : u108 = v144 := eu108.trans ev144.symm
                subst zv144
                refine z_isub F dX12_readsOn_164 ?_
                refine z_iconst F dX12_readsOn_165 ?_
                refine z_icmp_ge (tgt := 192) F dX12_readsOn_166 (by decide +kernel) (by omega) (by omega) (fun c145 => ?_) (fun c145 => ?_)
                · refine z_aload_n F dX12_readsOn_192 rfl (q := 0) rfl ?_
                  refine gf_X12_102 F hI gs_131 rfl bd_131_11 dX12_readsOn_193 (fun v146 ev146 av146 bv146 => ?_)
                  have zv146 : u112 = v146 := eu112.trans ev146.symm
                  subst zv146
                  have k147 : 0 ≤ u112 ∧ u112 ≤ 999 := by omega
                  refine pf_X12_102 F hI gs_131 rfl bd_131_11 rfl rfl dX12_readsOn_196 (by omega) (by omega) (fun M149 hI sf148 f148 => ?_)
                  have hF := hF.wrf f148 (by decide) (by decide)
                  have hW : WFk M149 := hW.site f148 (by decide)
                  refine z_aload_n F dX12_readsOn_199 rfl (q := 0) rfl ?_
                  refine z_dup F dX12_readsOn_200 rfl ?_
                  refine gf_X12_82 F hI gs_131 rfl bd_131_8 dX12_readsOn_201 (fun v150 ev150 av150 bv150 => ?_)
                  have q151 : u107 = M149 131 8 := eu107.trans (f148 131 8 (fun q => absurd q.2 (by decide))).symm
                  have zv150 : u107 = v150 := q151.trans ev150.symm
                  subst zv150
                  have k152 : 0 ≤ u107 ∧ u107 ≤ 899 := by omega
                  refine z_iconst F dX12_readsOn_204 ?_
                  refine z_iadd F dX12_readsOn_205 ?_
                  refine z_nm (fun v153 ev153 => ?_)
                  refine pf_X12_82 F hI gs_131 rfl bd_131_8 rfl rfl dX12_readsOn_206 (by omega) (by omega) (fun M155 hI sf154 f154 => ?_)
                  have hF := hF.wrf f154 (by decide) (by decide)
                  have hW : WFk M155 := hW.site f154 (by decide)
                  refine z_goto (tgt := 141) F dX12_readsOn_209 (by decide +kernel) ?_
                  refine z_loc [0] (ls' := [(0, .ref (ad 131))]) rfl ?_
                  have q156 : u106 = M149 131 7 := eu106.trans (f148 131 7 (fun q => absurd q.2 (by decide))).symm
                  have q157 : u106 = M155 131 7 := q156.trans (f154 131 7 (fun q => absurd q.2 (by decide))).symm
                  have q158 : u108 = M149 131 9 := eu108.trans (f148 131 9 (fun q => absurd q.2 (by decide))).symm
                  have q159 : u108 = M155 131 9 := q158.trans (f154 131 9 (fun q => absurd q.2 (by decide))).symm
                  have q160 : u109 = M149 131 10 := eu109.trans (f148 131 10 (fun q => absurd q.2 (by decide))).symm
                  have q161 : u109 = M155 131 10 := q160.trans (f154 131 10 (fun q => absurd q.2 (by decide))).symm
                  have q162 : u110 = M149 131 12 := eu110.trans (f148 131 12 (fun q => absurd q.2 (by decide))).symm
                  have q163 : u110 = M155 131 12 := q162.trans (f154 131 12 (fun q => absurd q.2 (by decide))).symm
                  have q164 : u111 = M149 131 16 := eu111.trans (f148 131 16 (fun q => absurd q.2 (by decide))).symm
                  have q165 : u111 = M155 131 16 := q164.trans (f154 131 16 (fun q => absurd q.2 (by decide))).symm
                  have q166 : u112 = M155 131 11 := sf148.symm.trans (f154 131 11 (fun q => absurd q.2 (by decide))).symm
                  have q167 : u113 = M149 131 13 := eu113.trans (f148 131 13 (fun q => absurd q.2 (by decide))).symm
                  have q168 : u113 = M155 131 13 := q167.trans (f154 131 13 (fun q => absurd q.2 (by decide))).symm
                  exact ih141 M155 hI hW hF (by omega) (by omega) (by omega) (by omega) (by omega) (by omega) (by omega) (Or.inl (by omega)) (fun j a b => i141_8 j a (by omega)) (by rw [show M155 131 9 = M93 131 9 from by omega]; exact i141_9) (fun j a b => run_sn (U := M 136) (P := c_dg) i141_10 (show c_dg (M 136 (M93 131 8).toNat) from by rw [← eu107]; unfold c_dg; omega) (by omega) j (by omega) (by omega)) (fun q => by rw [show (M155 131 8 - M155 131 9).toNat = (M93 131 8 - M93 131 9).toNat + 1 from by omega, show M155 131 9 = M93 131 9 from by omega]; exact dec3_sn (i141_11 (by omega)) (by rw [show (M93 131 9).toNat + (M93 131 8 - M93 131 9).toNat = (M93 131 8).toNat from by omega, ← eu107]; omega)) (by omega) (by omega) (by omega) (by omega) (by omega)
                · refine z_bipush F dX12_readsOn_169 (by decide +kernel) ?_
                  refine z_aload_n F dX12_readsOn_171 rfl (q := 0) rfl ?_
                  refine gf_X12_102 F hI gs_131 rfl bd_131_11 dX12_readsOn_172 (fun v169 ev169 av169 bv169 => ?_)
                  have zv169 : u112 = v169 := eu112.trans ev169.symm
                  subst zv169
                  refine z_imul F dX12_readsOn_175 ?_
                  refine z_aload_n F dX12_readsOn_176 rfl (q := 0) rfl ?_
                  refine rf_X12_23 F gs_131 rfl dX12_readsOn_177 ?_
                  refine z_aload_n F dX12_readsOn_180 rfl (q := 0) rfl ?_
                  refine gf_X12_82 F hI gs_131 rfl bd_131_8 dX12_readsOn_181 (fun v170 ev170 av170 bv170 => ?_)
                  have zv170 : u107 = v170 := eu107.trans ev170.symm
                  subst zv170
                  have k171 : 0 ≤ u107 ∧ u107 ≤ 899 := by omega
                  refine z_iald F hI gs_136 (by omega) (by omega) (by decide) bd_136 dX12_readsOn_184 (fun v172 (ev172 : v172 = M93 136 _) av172 bv172 => ?_)
                  have frv172 : M93 136 (u107).toNat = M 136 (u107).toNat := hF.at (by decide)
                  refine z_iadd F dX12_readsOn_185 ?_
                  refine z_wrap (fun v173 rv173 wv173 => ?_)
                  refine z_bipush F dX12_readsOn_186 (by decide +kernel) ?_
                  refine z_isub F dX12_readsOn_188 ?_
                  refine z_wrap (fun v174 rv174 wv174 => ?_)
                  refine z_goto (tgt := 196) F dX12_readsOn_189 (by decide +kernel) ?_
                  have k175 : 0 ≤ v174 ∧ v174 ≤ 999 := by omega
                  refine pf_X12_102 F hI gs_131 rfl bd_131_11 rfl rfl dX12_readsOn_196 (by omega) (by omega) (fun M177 hI sf176 f176 => ?_)
                  have hF := hF.wrf f176 (by decide) (by decide)
                  have hW : WFk M177 := hW.site f176 (by decide)
                  refine z_aload_n F dX12_readsOn_199 rfl (q := 0) rfl ?_
                  refine z_dup F dX12_readsOn_200 rfl ?_
                  refine gf_X12_82 F hI gs_131 rfl bd_131_8 dX12_readsOn_201 (fun v178 ev178 av178 bv178 => ?_)
                  have q179 : u107 = M177 131 8 := eu107.trans (f176 131 8 (fun q => absurd q.2 (by decide))).symm
                  have zv178 : u107 = v178 := q179.trans ev178.symm
                  subst zv178
                  have k180 : 0 ≤ u107 ∧ u107 ≤ 899 := by omega
                  refine z_iconst F dX12_readsOn_204 ?_
                  refine z_iadd F dX12_readsOn_205 ?_
                  refine z_nm (fun v181 ev181 => ?_)
                  refine pf_X12_82 F hI gs_131 rfl bd_131_8 rfl rfl dX12_readsOn_206 (by omega) (by omega) (fun M183 hI sf182 f182 => ?_)
                  have hF := hF.wrf f182 (by decide) (by decide)
                  have hW : WFk M183 := hW.site f182 (by decide)
                  refine z_goto (tgt := 141) F dX12_readsOn_209 (by decide +kernel) ?_
                  refine z_loc [0] (ls' := [(0, .ref (ad 131))]) rfl ?_
                  have q184 : u106 = M177 131 7 := eu106.trans (f176 131 7 (fun q => absurd q.2 (by decide))).symm
                  have q185 : u106 = M183 131 7 := q184.trans (f182 131 7 (fun q => absurd q.2 (by decide))).symm
                  have q186 : u108 = M177 131 9 := eu108.trans (f176 131 9 (fun q => absurd q.2 (by decide))).symm
                  have q187 : u108 = M183 131 9 := q186.trans (f182 131 9 (fun q => absurd q.2 (by decide))).symm
                  have q188 : u109 = M177 131 10 := eu109.trans (f176 131 10 (fun q => absurd q.2 (by decide))).symm
                  have q189 : u109 = M183 131 10 := q188.trans (f182 131 10 (fun q => absurd q.2 (by decide))).symm
                  have q190 : u110 = M177 131 12 := eu110.trans (f176 131 12 (fun q => absurd q.2 (by decide))).symm
                  have q191 : u110 = M183 131 12 := q190.trans (f182 131 12 (fun q => absurd q.2 (by decide))).symm
                  have q192 : u111 = M177 131 16 := eu111.trans (f176 131 16 (fun q => absurd q.2 (by decide))).symm
                  have q193 : u111 = M183 131 16 := q192.trans (f182 131 16 (fun q => absurd q.2 (by decide))).symm
                  have q194 : v174 = M183 131 11 := sf176.symm.trans (f182 131 11 (fun q => absurd q.2 (by decide))).symm
                  have q195 : u113 = M177 131 13 := eu113.trans (f176 131 13 (fun q => absurd q.2 (by decide))).symm
                  have q196 : u113 = M183 131 13 := q195.trans (f182 131 13 (fun q => absurd q.2 (by decide))).symm
                  exact ih141 M183 hI hW hF (by omega) (by omega) (by omega) (by omega) (by omega) (by omega) (by omega) (Or.inl (by omega)) (fun j a b => i141_8 j a (by omega)) (by rw [show M183 131 9 = M93 131 9 from by omega]; exact i141_9) (fun j a b => run_sn (U := M 136) (P := c_dg) i141_10 (show c_dg (M 136 (M93 131 8).toNat) from by rw [← eu107]; unfold c_dg; omega) (by omega) j (by omega) (by omega)) (fun q => by rw [show (M183 131 8 - M183 131 9).toNat = (M93 131 8 - M93 131 9).toNat + 1 from by omega, show M183 131 9 = M93 131 9 from by omega]; exact dec3_sn (i141_11 (by omega)) (by rw [show (M93 131 9).toNat + (M93 131 8 - M93 131 9).toNat = (M93 131 8).toNat from by omega, ← eu107]; omega)) (by omega) (by omega) (by omega) (by omega) (by omega)
        · refine z_loc [1] (ls' := [(0, .ref (ad 131))]) rfl ?_
          have q198 : u13 = M23 131 10 := eu13.trans (f22 131 10 (fun q => absurd q.2 (by decide))).symm
          have q199 : u14 = M23 131 12 := eu14.trans (f22 131 12 (fun q => absurd q.2 (by decide))).symm
          have q200 : u15 = M23 131 16 := eu15.trans (f22 131 16 (fun q => absurd q.2 (by decide))).symm
          have q201 : u16 = M23 131 11 := eu16.trans (f22 131 11 (fun q => absurd q.2 (by decide))).symm
          have q202 : u17 = M23 131 13 := eu17.trans (f22 131 13 (fun q => absurd q.2 (by decide))).symm
          suffices key94 : ∀ (n : Nat) (M197 : Mem), Inv M197 → WFk M197 → Fr [131] M M197 → (M197 131 7 = M 131 7) → (M197 131 12 = M 131 12) → (M197 131 16 = M 131 16) → (M 131 8 ≤ M197 131 8) → (M197 131 8 ≤ M197 131 7) → (M 131 8 ≤ M197 131 9) → (M197 131 9 ≤ M197 131 8) → (M197 131 9 < M197 131 8 ∨ M197 131 8 < M197 131 7 ∧ 97 ≤ M197 136 (M197 131 8).toNat ∧ M197 136 (M197 131 8).toNat ≤ 122) → (∀ j : Nat, M 131 8 ≤ j → (j : Int) < M197 131 9 → c_bl (M 136 j)) → (c_lt (M 136 (M197 131 9).toNat)) → (∀ j : Nat, M197 131 9 ≤ j → (j : Int) < M197 131 8 → c_lt (M 136 j)) → (M197 131 13 = M 131 13) → 900 - M197 131 8 < (n : Int) → Z D cy ad p l e (RMh 2) s m args below meth c A 2 0 0 Q 94 [(0, .ref (ad 131))] [] M197 from key94 901 M23 hI hW hF (by omega) (by omega) (by omega) (by omega) (by omega) (by omega) (by omega) (Or.inr (by rw [← q25]; omega)) (fun j a b => i0_5 j a (by omega)) (show c_lt (M 136 (M23 131 9).toNat) from by rw [← sf22.symm]; unfold c_lt; omega) (fun j a b => by exfalso; omega) (by omega) (by omega)
          intro n94
          induction n94 with
          | zero => intro M197 hI hW hF i94_0 i94_1 i94_2 i94_3 i94_4 i94_5 i94_6 i94_7 i94_8 i94_9 i94_10 i94_11 hn94; exfalso; omega
          | succ n94 ih94 =>
            intro M197 hI hW hF i94_0 i94_1 i94_2 i94_3 i94_4 i94_5 i94_6 i94_7 i94_8 i94_9 i94_10 i94_11 hn94
            obtain ⟨u203, eu203⟩ : ∃ v : Int, v = M197 131 7 := ⟨_, rfl⟩
            have ku203 : 0 ≤ u203 ∧ u203 ≤ 900 := by have := hI.at (show Bd 131 7 = (0, 900) from rfl); omega
            obtain ⟨u204, eu204⟩ : ∃ v : Int, v = M197 131 8 := ⟨_, rfl⟩
            have ku204 : 0 ≤ u204 ∧ u204 ≤ 900 := by have := hI.at (show Bd 131 8 = (0, 900) from rfl); omega
            obtain ⟨u205, eu205⟩ : ∃ v : Int, v = M197 131 9 := ⟨_, rfl⟩
            have ku205 : 0 ≤ u205 ∧ u205 ≤ 900 := by have := hI.at (show Bd 131 9 = (0, 900) from rfl); omega
            obtain ⟨u206, eu206⟩ : ∃ v : Int, v = M197 131 10 := ⟨_, rfl⟩
            have ku206 : (-2147483648) ≤ u206 ∧ u206 ≤ 2147483647 := by have := hI.at (show Bd 131 10 = (-2147483648, 2147483647) from rfl); omega
            obtain ⟨u207, eu207⟩ : ∃ v : Int, v = M197 131 12 := ⟨_, rfl⟩
            have ku207 : 0 ≤ u207 ∧ u207 ≤ 4 := by have := hI.at (show Bd 131 12 = (0, 4) from rfl); omega
            obtain ⟨u208, eu208⟩ : ∃ v : Int, v = M197 131 16 := ⟨_, rfl⟩
            have ku208 : (-2147483648) ≤ u208 ∧ u208 ≤ 2147483647 := by have := hI.at (show Bd 131 16 = (-2147483648, 2147483647) from rfl); omega
            obtain ⟨u209, eu209⟩ : ∃ v : Int, v = M197 131 11 := ⟨_, rfl⟩
            have ku209 : 0 ≤ u209 ∧ u209 ≤ 999 := by have := hI.at (show Bd 131 11 = (0, 999) from rfl); omega
            obtain ⟨u210, eu210⟩ : ∃ v : Int, v = M197 131 13 := ⟨_, rfl⟩
            have ku210 : 0 ≤ u210 ∧ u210 ≤ 900 := by have := hI.at (show Bd 131 13 = (0, 900) from rfl); omega
            rw [← eu204] at i94_7
            have fr136 : M197 136 (u204).toNat = M 136 (u204).toNat := hF.at (by decide)
            refine z_aload_n F dX12_readsOn_94 rfl (q := 0) rfl ?_
            refine z_aload_n F dX12_readsOn_95 rfl (q := 0) rfl ?_
            refine gf_X12_82 F hI gs_131 rfl bd_131_8 dX12_readsOn_96 (fun v211 ev211 av211 bv211 => ?_)
            have zv211 : u204 = v211 := eu204.trans ev211.symm
            subst zv211
            refine zv_i (rest := []) F (kp_X12_see l M197 ⟨hI, hW⟩ u204 (by omega) (by omega)) cs_X12_95 (T := TX12) (N := 44) (ci := 12) rfl gs_131 (by decide) (by decide) rfl rfl rfl (Nat.le_of_ble_eq_true rfl) dX12_readsOn_99 (fun v212 M213 rv212 hI p214 => ?_)
            obtain ⟨hI, hW⟩ := hI
            obtain ⟨⟨av212, bv212⟩, rfl, xp214⟩ := p214
            refine zs_i (rest := []) F (kp_X12_isLetter l M197 ⟨hI, hW⟩ v212 (by omega) (by omega)) cs_X12_91 (by decide) (by decide) rfl rfl rfl (Nat.le_of_ble_eq_true rfl) dX12_readsOn_102 (fun v215 M216 rv215 hI p217 => ?_)
            obtain ⟨hI, hW⟩ := hI
            obtain ⟨⟨av215, bv215⟩, rfl, xp217⟩ := p217
            refine z_if_eq (tgt := 121) F dX12_readsOn_105 (by decide +kernel) (by omega) (fun c218 => ?_) (fun c218 => ?_)
            · refine z_aload_n F dX12_readsOn_121 rfl (q := 0) rfl ?_
              refine z_iconst F dX12_readsOn_122 ?_
              refine pf_X12_88 F hI gs_131 rfl bd_131_10 rfl rfl dX12_readsOn_123 (by omega) (by omega) (fun M220 hI sf219 f219 => ?_)
              have hF := hF.wrf f219 (by decide) (by decide)
              have hW : WFk M220 := hW.site f219 (by decide)
              refine z_goto (tgt := 263) F dX12_readsOn_126 (by decide +kernel) ?_
              have q221 : u203 = M220 131 7 := eu203.trans (f219 131 7 (fun q => absurd q.2 (by decide))).symm
              have q222 : u204 = M220 131 8 := eu204.trans (f219 131 8 (fun q => absurd q.2 (by decide))).symm
              have q223 : u205 = M220 131 9 := eu205.trans (f219 131 9 (fun q => absurd q.2 (by decide))).symm
              have q224 : u207 = M220 131 12 := eu207.trans (f219 131 12 (fun q => absurd q.2 (by decide))).symm
              have q225 : u208 = M220 131 16 := eu208.trans (f219 131 16 (fun q => absurd q.2 (by decide))).symm
              have q226 : u209 = M220 131 11 := eu209.trans (f219 131 11 (fun q => absurd q.2 (by decide))).symm
              have q227 : u210 = M220 131 13 := eu210.trans (f219 131 13 (fun q => absurd q.2 (by decide))).symm
              exact hret _ 263 _ ⟨hI, hW⟩ ⟨hF, (by omega), (fun h0 => advR h0 (by omega) (by omega) (fun j => hF.at (by decide)) (by omega) (show tkR M220 = 1 from by unfold tkR; omega) (show vlR M220 = 0 from by unfold vlR; rw [if_neg (by omega)]) (adv_W (by omega) (by omega) (by omega) (run_R (by omega) (fun j a b => i94_8 j a (by omega))) (by rw [UR_at (by omega), show M220 131 9 = M197 131 9 from by omega]; exact i94_9) (by omega) (by omega) (run_R (by omega) (fun j a b => i94_10 j (by omega) (by omega))) (if hq : M220 131 8 = M 131 7 then Or.inl hq else Or.inr (by rw [UR_at (by omega), ← q222]; unfold c_lt; omega))))⟩ dX12_readsOn_263
            · refine z_aload_n F dX12_readsOn_108 rfl (q := 0) rfl ?_
              refine z_dup F dX12_readsOn_109 rfl ?_
              refine gf_X12_82 F hI gs_131 rfl bd_131_8 dX12_readsOn_110 (fun v228 ev228 av228 bv228 => ?_)
              have zv228 : u204 = v228 := eu204.trans ev228.symm
              subst zv228
              have k229 : 0 ≤ u204 ∧ u204 ≤ 899 := by omega
              refine z_iconst F dX12_readsOn_113 ?_
              refine z_iadd F dX12_readsOn_114 ?_
              refine z_nm (fun v230 ev230 => ?_)
              refine pf_X12_82 F hI gs_131 rfl bd_131_8 rfl rfl dX12_readsOn_115 (by omega) (by omega) (fun M232 hI sf231 f231 => ?_)
              have hF := hF.wrf f231 (by decide) (by decide)
              have hW : WFk M232 := hW.site f231 (by decide)
              refine z_goto (tgt := 94) F dX12_readsOn_118 (by decide +kernel) ?_
              refine z_loc [0] (ls' := [(0, .ref (ad 131))]) rfl ?_
              have q233 : u203 = M232 131 7 := eu203.trans (f231 131 7 (fun q => absurd q.2 (by decide))).symm
              have q234 : u205 = M232 131 9 := eu205.trans (f231 131 9 (fun q => absurd q.2 (by decide))).symm
              have q235 : u206 = M232 131 10 := eu206.trans (f231 131 10 (fun q => absurd q.2 (by decide))).symm
              have q236 : u207 = M232 131 12 := eu207.trans (f231 131 12 (fun q => absurd q.2 (by decide))).symm
              have q237 : u208 = M232 131 16 := eu208.trans (f231 131 16 (fun q => absurd q.2 (by decide))).symm
              have q238 : u209 = M232 131 11 := eu209.trans (f231 131 11 (fun q => absurd q.2 (by decide))).symm
              have q239 : u210 = M232 131 13 := eu210.trans (f231 131 13 (fun q => absurd q.2 (by decide))).symm
              exact ih94 M232 hI hW hF (by omega) (by omega) (by omega) (by omega) (by omega) (by omega) (by omega) (Or.inl (by omega)) (fun j a b => i94_8 j a (by omega)) (by rw [show M232 131 9 = M197 131 9 from by omega]; exact i94_9) (fun j a b => run_sn (U := M 136) (P := c_lt) i94_10 (show c_lt (M 136 (M197 131 8).toNat) from by rw [← eu204]; unfold c_lt; omega) (by omega) j (by omega) (by omega)) (by omega) (by omega)
      · refine z_aload_n F dX12_readsOn_71 rfl (q := 0) rfl ?_
        refine z_iconst F dX12_readsOn_72 ?_
        refine pf_X12_88 F hI gs_131 rfl bd_131_10 rfl rfl dX12_readsOn_73 (by omega) (by omega) (fun M241 hI sf240 f240 => ?_)
        have hF := hF.wrf f240 (by decide) (by decide)
        have hW : WFk M241 := hW.site f240 (by decide)
        have q242 : u10 = M241 131 7 := q27.trans (f240 131 7 (fun q => absurd q.2 (by decide))).symm
        have q243 : u11 = M241 131 8 := q25.trans (f240 131 8 (fun q => absurd q.2 (by decide))).symm
        have q244 : u11 = M241 131 9 := sf22.symm.trans (f240 131 9 (fun q => absurd q.2 (by decide))).symm
        have q245 : u14 = M23 131 12 := eu14.trans (f22 131 12 (fun q => absurd q.2 (by decide))).symm
        have q246 : u14 = M241 131 12 := q245.trans (f240 131 12 (fun q => absurd q.2 (by decide))).symm
        have q247 : u15 = M23 131 16 := eu15.trans (f22 131 16 (fun q => absurd q.2 (by decide))).symm
        have q248 : u15 = M241 131 16 := q247.trans (f240 131 16 (fun q => absurd q.2 (by decide))).symm
        have q249 : u16 = M23 131 11 := eu16.trans (f22 131 11 (fun q => absurd q.2 (by decide))).symm
        have q250 : u16 = M241 131 11 := q249.trans (f240 131 11 (fun q => absurd q.2 (by decide))).symm
        have q251 : u17 = M23 131 13 := eu17.trans (f22 131 13 (fun q => absurd q.2 (by decide))).symm
        have q252 : u17 = M241 131 13 := q251.trans (f240 131 13 (fun q => absurd q.2 (by decide))).symm
        exact hret _ 76 _ ⟨hI, hW⟩ ⟨hF, (by omega), (fun h0 => advR h0 (by omega) (by omega) (fun j => hF.at (by decide)) (by omega) (show tkR M241 = 0 from by unfold tkR; omega) (show vlR M241 = 0 from by unfold vlR; rw [if_neg (by omega)]) (by rw [show M241 131 8 = M241 131 9 from by omega]; exact adv_E (by omega) (by omega) (by omega) (run_R (by omega) (fun j a b => i0_5 j a (by omega)))))⟩ dX12_readsOn_76
    · refine z_aload_n F dX12_readsOn_11 rfl (q := 0) rfl ?_
      refine rf_X12_23 F gs_131 rfl dX12_readsOn_12 ?_
      refine z_aload_n F dX12_readsOn_15 rfl (q := 0) rfl ?_
      refine gf_X12_82 F hI gs_131 rfl bd_131_8 dX12_readsOn_16 (fun v253 ev253 av253 bv253 => ?_)
      have zv253 : u11 = v253 := eu11.trans ev253.symm
      subst zv253
      refine z_iald F hI gs_136 (by omega) (by omega) (by decide) bd_136 dX12_readsOn_19 (fun v254 (ev254 : v254 = M9 136 _) av254 bv254 => ?_)
      have frv254 : M9 136 (u11).toNat = M 136 (u11).toNat := hF.at (by decide)
      refine z_bipush F dX12_readsOn_20 (by decide +kernel) ?_
      refine z_icmp_eq (tgt := 39) F dX12_readsOn_22 (by decide +kernel) (by omega) (by omega) (fun c255 => ?_) (fun c255 => ?_)
      · refine z_aload_n F dX12_readsOn_39 rfl (q := 0) rfl ?_
        refine z_dup F dX12_readsOn_40 rfl ?_
        refine gf_X12_82 F hI gs_131 rfl bd_131_8 dX12_readsOn_41 (fun v256 ev256 av256 bv256 => ?_)
        have zv256 : u11 = v256 := eu11.trans ev256.symm
        subst zv256
        refine z_iconst F dX12_readsOn_44 ?_
        refine z_iadd F dX12_readsOn_45 ?_
        refine z_nm (fun v257 ev257 => ?_)
        refine pf_X12_82 F hI gs_131 rfl bd_131_8 rfl rfl dX12_readsOn_46 (by omega) (by omega) (fun M259 hI sf258 f258 => ?_)
        have hF := hF.wrf f258 (by decide) (by decide)
        have hW : WFk M259 := hW.site f258 (by decide)
        refine z_goto (tgt := 0) F dX12_readsOn_49 (by decide +kernel) ?_
        refine z_loc [0] (ls' := [(0, .ref (ad 131))]) rfl ?_
        have q260 : u10 = M259 131 7 := eu10.trans (f258 131 7 (fun q => absurd q.2 (by decide))).symm
        have q261 : u12 = M259 131 9 := eu12.trans (f258 131 9 (fun q => absurd q.2 (by decide))).symm
        have q262 : u13 = M259 131 10 := eu13.trans (f258 131 10 (fun q => absurd q.2 (by decide))).symm
        have q263 : u14 = M259 131 12 := eu14.trans (f258 131 12 (fun q => absurd q.2 (by decide))).symm
        have q264 : u15 = M259 131 16 := eu15.trans (f258 131 16 (fun q => absurd q.2 (by decide))).symm
        have q265 : u16 = M259 131 11 := eu16.trans (f258 131 11 (fun q => absurd q.2 (by decide))).symm
        have q266 : u17 = M259 131 13 := eu17.trans (f258 131 13 (fun q => absurd q.2 (by decide))).symm
        exact ih0 M259 hI hW hF (by omega) (by omega) (by omega) (by omega) (by omega) (fun j a b => run_sn (U := M 136) (P := c_bl) i0_5 (show c_bl (M 136 (M9 131 8).toNat) from by rw [← eu11]; unfold c_bl; omega) (by omega) j a (by omega)) (by omega) (by omega)
      · refine z_aload_n F dX12_readsOn_25 rfl (q := 0) rfl ?_
        refine rf_X12_23 F gs_131 rfl dX12_readsOn_26 ?_
        refine z_aload_n F dX12_readsOn_29 rfl (q := 0) rfl ?_
        refine gf_X12_82 F hI gs_131 rfl bd_131_8 dX12_readsOn_30 (fun v267 ev267 av267 bv267 => ?_)
        have zv267 : u11 = v267 := eu11.trans ev267.symm
        subst zv267
        refine z_iald F hI gs_136 (by omega) (by omega) (by decide) bd_136 dX12_readsOn_33 (fun v268 (ev268 : v268 = M9 136 _) av268 bv268 => ?_)
        have frv268 : M9 136 (u11).toNat = M 136 (u11).toNat := hF.at (by decide)
        have zv268 : v254 = v268 := ev254.trans ev268.symm
        subst zv268
        refine z_bipush F dX12_readsOn_34 (by decide +kernel) ?_
        refine z_icmp_ne (tgt := 52) F dX12_readsOn_36 (by decide +kernel) (by omega) (by omega) (fun c269 => ?_) (fun c269 => ?_)
        · refine z_aload_n F dX12_readsOn_52 rfl (q := 0) rfl ?_
          refine z_aload_n F dX12_readsOn_53 rfl (q := 0) rfl ?_
          refine gf_X12_82 F hI gs_131 rfl bd_131_8 dX12_readsOn_54 (fun v270 ev270 av270 bv270 => ?_)
          have zv270 : u11 = v270 := eu11.trans ev270.symm
          subst zv270
          refine pf_X12_85 F hI gs_131 rfl bd_131_9 rfl rfl dX12_readsOn_57 (by omega) (by omega) (fun M272 hI sf271 f271 => ?_)
          have hF := hF.wrf f271 (by decide) (by decide)
          have hW : WFk M272 := hW.site f271 (by decide)
          refine z_aload_n F dX12_readsOn_60 rfl (q := 0) rfl ?_
          refine gf_X12_82 F hI gs_131 rfl bd_131_8 dX12_readsOn_61 (fun v273 ev273 av273 bv273 => ?_)
          have q274 : u11 = M272 131 8 := eu11.trans (f271 131 8 (fun q => absurd q.2 (by decide))).symm
          have zv273 : u11 = v273 := q274.trans ev273.symm
          subst zv273
          refine z_aload_n F dX12_readsOn_64 rfl (q := 0) rfl ?_
          refine gf_X12_79 F hI gs_131 rfl bd_131_7 dX12_readsOn_65 (fun v275 ev275 av275 bv275 => ?_)
          have q276 : u10 = M272 131 7 := eu10.trans (f271 131 7 (fun q => absurd q.2 (by decide))).symm
          have zv275 : u10 = v275 := q276.trans ev275.symm
          subst zv275
          refine z_icmp_lt (tgt := 77) F dX12_readsOn_68 (by decide +kernel) (by omega) (by omega) (fun c277 => ?_) (fun c277 => ?_)
          · refine z_aload_n F dX12_readsOn_77 rfl (q := 0) rfl ?_
            refine rf_X12_23 F gs_131 rfl dX12_readsOn_78 ?_
            refine z_aload_n F dX12_readsOn_81 rfl (q := 0) rfl ?_
            refine gf_X12_82 F hI gs_131 rfl bd_131_8 dX12_readsOn_82 (fun v278 ev278 av278 bv278 => ?_)
            have zv278 : u11 = v278 := q274.trans ev278.symm
            subst zv278
            refine z_iald F hI gs_136 (by omega) (by omega) (by decide) bd_136 dX12_readsOn_85 (fun v279 (ev279 : v279 = M272 136 _) av279 bv279 => ?_)
            have q280 : v254 = M272 136 (u11).toNat := ev254.trans (f271 136 (u11).toNat (fun q => absurd q.1 (by decide))).symm
            have frv279 : M272 136 (u11).toNat = M 136 (u11).toNat := hF.at (by decide)
            have zv279 : v254 = v279 := q280.trans ev279.symm
            subst zv279
            refine z_istore_n F dX12_readsOn_86 rfl (by decide) (ls' := [(1, ii v254), (0, .ref (ad 131))]) rfl ?_
            refine z_iload_n F dX12_readsOn_87 rfl (q := 0) rfl ?_
            refine zs_i (rest := []) F (kp_X12_isLetter l M272 ⟨hI, hW⟩ v254 (by omega) (by omega)) cs_X12_91 (by decide) (by decide) rfl rfl rfl (Nat.le_of_ble_eq_true rfl) dX12_readsOn_88 (fun v281 M282 rv281 hI p283 => ?_)
            obtain ⟨hI, hW⟩ := hI
            obtain ⟨⟨av281, bv281⟩, rfl, xp283⟩ := p283
            refine z_if_eq (tgt := 129) F dX12_readsOn_91 (by decide +kernel) (by omega) (fun c284 => ?_) (fun c284 => ?_)
            · refine z_iload_n F dX12_readsOn_129 rfl (q := 0) rfl ?_
              refine zs_i (rest := []) F (kp_X12_isDigit l M272 ⟨hI, hW⟩ v254 (by omega) (by omega)) cs_X12_99 (by decide) (by decide) rfl rfl rfl (Nat.le_of_ble_eq_true rfl) dX12_readsOn_130 (fun v285 M286 rv285 hI p287 => ?_)
              obtain ⟨hI, hW⟩ := hI
              obtain ⟨⟨av285, bv285⟩, rfl, xp287⟩ := p287
              refine z_if_eq (tgt := 237) F dX12_readsOn_133 (by decide +kernel) (by omega) (fun c288 => ?_) (fun c288 => ?_)
              · refine z_aload_n F dX12_readsOn_237 rfl (q := 1) rfl ?_
                refine z_iload_n F dX12_readsOn_238 rfl (q := 0) rfl ?_
                refine zs_i (rest := [.ref (ad 131)]) F (kp_X12_isSignByte l M272 ⟨hI, hW⟩ v254 (by omega) (by omega)) cs_X12_105 (by decide) (by decide) rfl rfl rfl (Nat.le_of_ble_eq_true rfl) dX12_readsOn_239 (fun v289 M290 rv289 hI p291 => ?_)
                obtain ⟨hI, hW⟩ := hI
                obtain ⟨⟨av289, bv289⟩, rfl, yp291⟩ := p291
                refine z_if_eq (tgt := 249) F dX12_readsOn_242 (by decide +kernel) (by omega) (fun c292 => ?_) (fun c292 => ?_)
                · refine z_iconst F dX12_readsOn_249 ?_
                  refine pf_X12_88 F hI gs_131 rfl bd_131_10 rfl rfl dX12_readsOn_250 (by omega) (by omega) (fun M294 hI sf293 f293 => ?_)
                  have hF := hF.wrf f293 (by decide) (by decide)
                  have hW : WFk M294 := hW.site f293 (by decide)
                  refine z_aload_n F dX12_readsOn_253 rfl (q := 1) rfl ?_
                  refine z_dup F dX12_readsOn_254 rfl ?_
                  refine gf_X12_82 F hI gs_131 rfl bd_131_8 dX12_readsOn_255 (fun v295 ev295 av295 bv295 => ?_)
                  have q296 : u11 = M294 131 8 := q274.trans (f293 131 8 (fun q => absurd q.2 (by decide))).symm
                  have zv295 : u11 = v295 := q296.trans ev295.symm
                  subst zv295
                  refine z_iconst F dX12_readsOn_258 ?_
                  refine z_iadd F dX12_readsOn_259 ?_
                  refine z_nm (fun v297 ev297 => ?_)
                  refine pf_X12_82 F hI gs_131 rfl bd_131_8 rfl rfl dX12_readsOn_260 (by omega) (by omega) (fun M299 hI sf298 f298 => ?_)
                  have hF := hF.wrf f298 (by decide) (by decide)
                  have hW : WFk M299 := hW.site f298 (by decide)
                  have q300 : u10 = M294 131 7 := q276.trans (f293 131 7 (fun q => absurd q.2 (by decide))).symm
                  have q301 : u10 = M299 131 7 := q300.trans (f298 131 7 (fun q => absurd q.2 (by decide))).symm
                  have q302 : u11 = M294 131 9 := sf271.symm.trans (f293 131 9 (fun q => absurd q.2 (by decide))).symm
                  have q303 : u11 = M299 131 9 := q302.trans (f298 131 9 (fun q => absurd q.2 (by decide))).symm
                  have q304 : 3 = M299 131 10 := sf293.symm.trans (f298 131 10 (fun q => absurd q.2 (by decide))).symm
                  have q305 : u14 = M272 131 12 := eu14.trans (f271 131 12 (fun q => absurd q.2 (by decide))).symm
                  have q306 : u14 = M294 131 12 := q305.trans (f293 131 12 (fun q => absurd q.2 (by decide))).symm
                  have q307 : u14 = M299 131 12 := q306.trans (f298 131 12 (fun q => absurd q.2 (by decide))).symm
                  have q308 : u15 = M272 131 16 := eu15.trans (f271 131 16 (fun q => absurd q.2 (by decide))).symm
                  have q309 : u15 = M294 131 16 := q308.trans (f293 131 16 (fun q => absurd q.2 (by decide))).symm
                  have q310 : u15 = M299 131 16 := q309.trans (f298 131 16 (fun q => absurd q.2 (by decide))).symm
                  have q311 : u16 = M272 131 11 := eu16.trans (f271 131 11 (fun q => absurd q.2 (by decide))).symm
                  have q312 : u16 = M294 131 11 := q311.trans (f293 131 11 (fun q => absurd q.2 (by decide))).symm
                  have q313 : u16 = M299 131 11 := q312.trans (f298 131 11 (fun q => absurd q.2 (by decide))).symm
                  have q314 : u17 = M272 131 13 := eu17.trans (f271 131 13 (fun q => absurd q.2 (by decide))).symm
                  have q315 : u17 = M294 131 13 := q314.trans (f293 131 13 (fun q => absurd q.2 (by decide))).symm
                  have q316 : u17 = M299 131 13 := q315.trans (f298 131 13 (fun q => absurd q.2 (by decide))).symm
                  have cv9 : M 136 (u11).toNat = v254 := by omega
                  exact hret _ 263 _ ⟨hI, hW⟩ ⟨hF, (by omega), (fun h0 => advR h0 (by omega) (by omega) (fun j => hF.at (by decide)) (by omega) (show tkR M299 = 3 from by unfold tkR; omega) (show vlR M299 = 0 from by unfold vlR; rw [if_neg (by omega)]) (by rw [show M299 131 8 = M299 131 9 + 1 from by omega]; exact adv_S (by omega) (by omega) (by omega) (run_R (by omega) (fun j a b => i0_5 j a (by omega))) (by rw [UR_at (by omega), ← q303]; unfold c_bl; omega) (by rw [UR_at (by omega), ← q303]; unfold c_lt; omega) (by rw [UR_at (by omega), ← q303]; unfold c_dg; omega) (Or.inr ⟨(by rw [UR_at (by omega), ← q303, cv9]; exact (yp291.elim (fun q => absurd q.1 (by omega)) (fun q => q.2))), rfl⟩)))⟩ dX12_readsOn_263
                · refine z_iload_n F dX12_readsOn_245 rfl (q := 0) rfl ?_
                  refine z_goto (tgt := 250) F dX12_readsOn_246 (by decide +kernel) ?_
                  refine pf_X12_88 F hI gs_131 rfl bd_131_10 rfl rfl dX12_readsOn_250 (by omega) (by omega) (fun M318 hI sf317 f317 => ?_)
                  have hF := hF.wrf f317 (by decide) (by decide)
                  have hW : WFk M318 := hW.site f317 (by decide)
                  refine z_aload_n F dX12_readsOn_253 rfl (q := 1) rfl ?_
                  refine z_dup F dX12_readsOn_254 rfl ?_
                  refine gf_X12_82 F hI gs_131 rfl bd_131_8 dX12_readsOn_255 (fun v319 ev319 av319 bv319 => ?_)
                  have q320 : u11 = M318 131 8 := q274.trans (f317 131 8 (fun q => absurd q.2 (by decide))).symm
                  have zv319 : u11 = v319 := q320.trans ev319.symm
                  subst zv319
                  refine z_iconst F dX12_readsOn_258 ?_
                  refine z_iadd F dX12_readsOn_259 ?_
                  refine z_nm (fun v321 ev321 => ?_)
                  refine pf_X12_82 F hI gs_131 rfl bd_131_8 rfl rfl dX12_readsOn_260 (by omega) (by omega) (fun M323 hI sf322 f322 => ?_)
                  have hF := hF.wrf f322 (by decide) (by decide)
                  have hW : WFk M323 := hW.site f322 (by decide)
                  have q324 : u10 = M318 131 7 := q276.trans (f317 131 7 (fun q => absurd q.2 (by decide))).symm
                  have q325 : u10 = M323 131 7 := q324.trans (f322 131 7 (fun q => absurd q.2 (by decide))).symm
                  have q326 : u11 = M318 131 9 := sf271.symm.trans (f317 131 9 (fun q => absurd q.2 (by decide))).symm
                  have q327 : u11 = M323 131 9 := q326.trans (f322 131 9 (fun q => absurd q.2 (by decide))).symm
                  have q328 : v254 = M323 131 10 := sf317.symm.trans (f322 131 10 (fun q => absurd q.2 (by decide))).symm
                  have q329 : u14 = M272 131 12 := eu14.trans (f271 131 12 (fun q => absurd q.2 (by decide))).symm
                  have q330 : u14 = M318 131 12 := q329.trans (f317 131 12 (fun q => absurd q.2 (by decide))).symm
                  have q331 : u14 = M323 131 12 := q330.trans (f322 131 12 (fun q => absurd q.2 (by decide))).symm
                  have q332 : u15 = M272 131 16 := eu15.trans (f271 131 16 (fun q => absurd q.2 (by decide))).symm
                  have q333 : u15 = M318 131 16 := q332.trans (f317 131 16 (fun q => absurd q.2 (by decide))).symm
                  have q334 : u15 = M323 131 16 := q333.trans (f322 131 16 (fun q => absurd q.2 (by decide))).symm
                  have q335 : u16 = M272 131 11 := eu16.trans (f271 131 11 (fun q => absurd q.2 (by decide))).symm
                  have q336 : u16 = M318 131 11 := q335.trans (f317 131 11 (fun q => absurd q.2 (by decide))).symm
                  have q337 : u16 = M323 131 11 := q336.trans (f322 131 11 (fun q => absurd q.2 (by decide))).symm
                  have q338 : u17 = M272 131 13 := eu17.trans (f271 131 13 (fun q => absurd q.2 (by decide))).symm
                  have q339 : u17 = M318 131 13 := q338.trans (f317 131 13 (fun q => absurd q.2 (by decide))).symm
                  have q340 : u17 = M323 131 13 := q339.trans (f322 131 13 (fun q => absurd q.2 (by decide))).symm
                  have cv9 : M 136 (u11).toNat = v254 := by omega
                  have sg40 := ws_40 yp291 (by omega)
                  exact hret _ 263 _ ⟨hI, hW⟩ ⟨hF, (by omega), (fun h0 => advR h0 (by omega) (by omega) (fun j => hF.at (by decide)) (by omega) (show tkR M323 = v254 from by unfold tkR; omega) (show vlR M323 = 0 from by unfold vlR; rw [if_neg (by omega)]) (by rw [show M323 131 8 = M323 131 9 + 1 from by omega]; exact adv_S (by omega) (by omega) (by omega) (run_R (by omega) (fun j a b => i0_5 j a (by omega))) (by rw [UR_at (by omega), ← q327]; unfold c_bl; omega) (by rw [UR_at (by omega), ← q327]; unfold c_lt; omega) (by rw [UR_at (by omega), ← q327]; unfold c_dg; omega) (Or.inl ⟨(by rw [UR_at (by omega), ← q327, cv9]; exact (yp291.elim (fun q => q.2) (fun q => absurd q.1 (by omega)))), (by rw [UR_at (by omega), ← q327, cv9])⟩)))⟩ dX12_readsOn_263
              · refine z_aload_n F dX12_readsOn_136 rfl (q := 1) rfl ?_
                refine z_iconst F dX12_readsOn_137 ?_
                refine pf_X12_102 F hI gs_131 rfl bd_131_11 rfl rfl dX12_readsOn_138 (by omega) (by omega) (fun M342 hI sf341 f341 => ?_)
                have hF := hF.wrf f341 (by decide) (by decide)
                have hW : WFk M342 := hW.site f341 (by decide)
                have q344 : u11 = M342 131 8 := q274.trans (f341 131 8 (fun q => absurd q.2 (by decide))).symm
                have q345 : v254 = M342 136 (u11).toNat := q280.trans (f341 136 (u11).toNat (fun q => absurd q.1 (by decide))).symm
                have q346 : u11 = M342 131 9 := sf271.symm.trans (f341 131 9 (fun q => absurd q.2 (by decide))).symm
                refine z_loc [1] (ls' := [(0, .ref (ad 131))]) rfl ?_
                have q347 : u10 = M342 131 7 := q276.trans (f341 131 7 (fun q => absurd q.2 (by decide))).symm
                have q348 : u13 = M272 131 10 := eu13.trans (f271 131 10 (fun q => absurd q.2 (by decide))).symm
                have q349 : u13 = M342 131 10 := q348.trans (f341 131 10 (fun q => absurd q.2 (by decide))).symm
                have q350 : u14 = M272 131 12 := eu14.trans (f271 131 12 (fun q => absurd q.2 (by decide))).symm
                have q351 : u14 = M342 131 12 := q350.trans (f341 131 12 (fun q => absurd q.2 (by decide))).symm
                have q352 : u15 = M272 131 16 := eu15.trans (f271 131 16 (fun q => absurd q.2 (by decide))).symm
                have q353 : u15 = M342 131 16 := q352.trans (f341 131 16 (fun q => absurd q.2 (by decide))).symm
                have q354 : u17 = M272 131 13 := eu17.trans (f271 131 13 (fun q => absurd q.2 (by decide))).symm
                have q355 : u17 = M342 131 13 := q354.trans (f341 131 13 (fun q => absurd q.2 (by decide))).symm
                suffices key141 : ∀ (n : Nat) (M343 : Mem), Inv M343 → WFk M343 → Fr [131] M M343 → (M343 131 7 = M 131 7) → (M343 131 12 = M 131 12) → (M343 131 16 = M 131 16) → (M 131 8 ≤ M343 131 8) → (M343 131 8 ≤ M343 131 7) → (M 131 8 ≤ M343 131 9) → (M343 131 9 ≤ M343 131 8) → (M343 131 9 < M343 131 8 ∨ M343 131 8 < M343 131 7 ∧ 48 ≤ M343 136 (M343 131 8).toNat ∧ M343 136 (M343 131 8).toNat ≤ 57) → (∀ j : Nat, M 131 8 ≤ j → (j : Int) < M343 131 9 → c_bl (M 136 j)) → (c_dg (M 136 (M343 131 9).toNat)) → (∀ j : Nat, M343 131 9 ≤ j → (j : Int) < M343 131 8 → c_dg (M 136 j)) → (M343 131 8 - M343 131 9 ≤ 3 → M343 131 11 = dec3 (M 136) (M343 131 9).toNat (M343 131 8 - M343 131 9).toNat) → (M343 131 8 = M343 131 9 → M343 131 11 = 0) → (M343 131 8 - M343 131 9 = 1 → M343 131 11 ≤ 9) → (M343 131 8 - M343 131 9 = 2 → M343 131 11 ≤ 99) → (M343 131 13 = M 131 13) → 900 - M343 131 8 < (n : Int) → Z D cy ad p l e (RMh 2) s m args below meth c A 2 0 0 Q 141 [(0, .ref (ad 131))] [] M343 from key141 901 M342 hI hW hF (by omega) (by omega) (by omega) (by omega) (by omega) (by omega) (by omega) (Or.inr (by rw [← q344]; omega)) (fun j a b => i0_5 j a (by omega)) (show c_dg (M 136 (M342 131 9).toNat) from by rw [← q346]; unfold c_dg; omega) (fun j a b => by exfalso; omega) (fun q => by rw [show (M342 131 8 - M342 131 9).toNat = 0 from by omega]; show _ = (0 : Int); omega) (by omega) (by omega) (by omega) (by omega) (by omega)
                intro n141
                induction n141 with
                | zero => intro M343 hI hW hF i141_0 i141_1 i141_2 i141_3 i141_4 i141_5 i141_6 i141_7 i141_8 i141_9 i141_10 i141_11 i141_12 i141_13 i141_14 i141_15 hn141; exfalso; omega
                | succ n141 ih141 =>
                  intro M343 hI hW hF i141_0 i141_1 i141_2 i141_3 i141_4 i141_5 i141_6 i141_7 i141_8 i141_9 i141_10 i141_11 i141_12 i141_13 i141_14 i141_15 hn141
                  obtain ⟨u356, eu356⟩ : ∃ v : Int, v = M343 131 7 := ⟨_, rfl⟩
                  have ku356 : 0 ≤ u356 ∧ u356 ≤ 900 := by have := hI.at (show Bd 131 7 = (0, 900) from rfl); omega
                  obtain ⟨u357, eu357⟩ : ∃ v : Int, v = M343 131 8 := ⟨_, rfl⟩
                  have ku357 : 0 ≤ u357 ∧ u357 ≤ 900 := by have := hI.at (show Bd 131 8 = (0, 900) from rfl); omega
                  obtain ⟨u358, eu358⟩ : ∃ v : Int, v = M343 131 9 := ⟨_, rfl⟩
                  have ku358 : 0 ≤ u358 ∧ u358 ≤ 900 := by have := hI.at (show Bd 131 9 = (0, 900) from rfl); omega
                  obtain ⟨u359, eu359⟩ : ∃ v : Int, v = M343 131 10 := ⟨_, rfl⟩
                  have ku359 : (-2147483648) ≤ u359 ∧ u359 ≤ 2147483647 := by have := hI.at (show Bd 131 10 = (-2147483648, 2147483647) from rfl); omega
                  obtain ⟨u360, eu360⟩ : ∃ v : Int, v = M343 131 12 := ⟨_, rfl⟩
                  have ku360 : 0 ≤ u360 ∧ u360 ≤ 4 := by have := hI.at (show Bd 131 12 = (0, 4) from rfl); omega
                  obtain ⟨u361, eu361⟩ : ∃ v : Int, v = M343 131 16 := ⟨_, rfl⟩
                  have ku361 : (-2147483648) ≤ u361 ∧ u361 ≤ 2147483647 := by have := hI.at (show Bd 131 16 = (-2147483648, 2147483647) from rfl); omega
                  obtain ⟨u362, eu362⟩ : ∃ v : Int, v = M343 131 11 := ⟨_, rfl⟩
                  have ku362 : 0 ≤ u362 ∧ u362 ≤ 999 := by have := hI.at (show Bd 131 11 = (0, 999) from rfl); omega
                  obtain ⟨u363, eu363⟩ : ∃ v : Int, v = M343 131 13 := ⟨_, rfl⟩
                  have ku363 : 0 ≤ u363 ∧ u363 ≤ 900 := by have := hI.at (show Bd 131 13 = (0, 900) from rfl); omega
                  rw [← eu357] at i141_7
                  have fr136 : M343 136 (u357).toNat = M 136 (u357).toNat := hF.at (by decide)
                  refine z_aload_n F dX12_readsOn_141 rfl (q := 0) rfl ?_
                  refine z_aload_n F dX12_readsOn_142 rfl (q := 0) rfl ?_
                  refine gf_X12_82 F hI gs_131 rfl bd_131_8 dX12_readsOn_143 (fun v364 ev364 av364 bv364 => ?_)
                  have zv364 : u357 = v364 := eu357.trans ev364.symm
                  subst zv364
                  refine zv_i (rest := []) F (kp_X12_see l M343 ⟨hI, hW⟩ u357 (by omega) (by omega)) cs_X12_95 (T := TX12) (N := 44) (ci := 12) rfl gs_131 (by decide) (by decide) rfl rfl rfl (Nat.le_of_ble_eq_true rfl) dX12_readsOn_146 (fun v365 M366 rv365 hI p367 => ?_)
                  obtain ⟨hI, hW⟩ := hI
                  obtain ⟨⟨av365, bv365⟩, rfl, xp367⟩ := p367
                  refine zs_i (rest := []) F (kp_X12_isDigit l M343 ⟨hI, hW⟩ v365 (by omega) (by omega)) cs_X12_99 (by decide) (by decide) rfl rfl rfl (Nat.le_of_ble_eq_true rfl) dX12_readsOn_149 (fun v368 M369 rv368 hI p370 => ?_)
                  obtain ⟨hI, hW⟩ := hI
                  obtain ⟨⟨av368, bv368⟩, rfl, xp370⟩ := p370
                  refine z_if_eq (tgt := 212) F dX12_readsOn_152 (by decide +kernel) (by omega) (fun c371 => ?_) (fun c371 => ?_)
                  · refine z_aload_n F dX12_readsOn_212 rfl (q := 0) rfl ?_
                    refine z_aload_n F dX12_readsOn_213 rfl (q := 0) rfl ?_
                    refine gf_X12_82 F hI gs_131 rfl bd_131_8 dX12_readsOn_214 (fun v372 ev372 av372 bv372 => ?_)
                    have zv372 : u357 = v372 := eu357.trans ev372.symm
                    subst zv372
                    refine z_aload_n F dX12_readsOn_217 rfl (q := 0) rfl ?_
                    refine gf_X12_85 F hI gs_131 rfl bd_131_9 dX12_readsOn_218 (fun v373 ev373 av373 bv373 => ?_)
                    have zv373 : u358 = v373 := eu358.trans ev373.symm
                    subst zv373
                    refine z_isub F dX12_readsOn_221 ?_
                    refine z_iconst F dX12_readsOn_222 ?_
                    refine z_icmp_le (tgt := 230) F dX12_readsOn_223 (by decide +kernel) (by omega) (by omega) (fun c374 => ?_) (fun c374 => ?_)
                    · refine z_iconst F dX12_readsOn_230 ?_
                      refine pf_X12_88 F hI gs_131 rfl bd_131_10 rfl rfl dX12_readsOn_231 (by omega) (by omega) (fun M376 hI sf375 f375 => ?_)
                      have hF := hF.wrf f375 (by decide) (by decide)
                      have hW : WFk M376 := hW.site f375 (by decide)
                      refine z_goto (tgt := 263) F dX12_readsOn_234 (by decide +kernel) ?_
                      have q377 : u356 = M376 131 7 := eu356.trans (f375 131 7 (fun q => absurd q.2 (by decide))).symm
                      have q378 : u357 = M376 131 8 := eu357.trans (f375 131 8 (fun q => absurd q.2 (by decide))).symm
                      have q379 : u358 = M376 131 9 := eu358.trans (f375 131 9 (fun q => absurd q.2 (by decide))).symm
                      have q380 : u360 = M376 131 12 := eu360.trans (f375 131 12 (fun q => absurd q.2 (by decide))).symm
                      have q381 : u361 = M376 131 16 := eu361.trans (f375 131 16 (fun q => absurd q.2 (by decide))).symm
                      have q382 : u362 = M376 131 11 := eu362.trans (f375 131 11 (fun q => absurd q.2 (by decide))).symm
                      have q383 : u363 = M376 131 13 := eu363.trans (f375 131 13 (fun q => absurd q.2 (by decide))).symm
                      exact hret _ 263 _ ⟨hI, hW⟩ ⟨hF, (by omega), (fun h0 => advR h0 (by omega) (by omega) (fun j => hF.at (by decide)) (by omega) (show tkR M376 = 2 from by unfold tkR; omega) (show vlR M376 = M376 131 11 from by unfold vlR; rw [if_pos (by omega)]) (adv_N (by omega) (by omega) (by omega) (run_R (by omega) (fun j a b => i141_8 j a (by omega))) (by rw [UR_at (by omega), show M376 131 9 = M343 131 9 from by omega]; exact i141_9) (by omega) (by omega) (run_R (by omega) (fun j a b => i141_10 j (by omega) (by omega))) (if hq : M376 131 8 = M 131 7 then Or.inl hq else Or.inr (by rw [UR_at (by omega), ← q378]; unfold c_dg; omega)) (Or.inr ⟨by omega, rfl, (by rw [dec3_c (V := M 136) _ (fun k hk => UR_at (by omega)), show M376 131 11 = M343 131 11 from by omega, show M376 131 9 = M343 131 9 from by omega, show M376 131 8 = M343 131 8 from by omega]; exact i141_11 (by omega))⟩)))⟩ dX12_readsOn_263
                    · refine z_iconst F dX12_readsOn_226 ?_
                      refine z_goto (tgt := 231) F dX12_readsOn_227 (by decide +kernel) ?_
                      refine pf_X12_88 F hI gs_131 rfl bd_131_10 rfl rfl dX12_readsOn_231 (by omega) (by omega) (fun M385 hI sf384 f384 => ?_)
                      have hF := hF.wrf f384 (by decide) (by decide)
                      have hW : WFk M385 := hW.site f384 (by decide)
                      refine z_goto (tgt := 263) F dX12_readsOn_234 (by decide +kernel) ?_
                      have q386 : u356 = M385 131 7 := eu356.trans (f384 131 7 (fun q => absurd q.2 (by decide))).symm
                      have q387 : u357 = M385 131 8 := eu357.trans (f384 131 8 (fun q => absurd q.2 (by decide))).symm
                      have q388 : u358 = M385 131 9 := eu358.trans (f384 131 9 (fun q => absurd q.2 (by decide))).symm
                      have q389 : u360 = M385 131 12 := eu360.trans (f384 131 12 (fun q => absurd q.2 (by decide))).symm
                      have q390 : u361 = M385 131 16 := eu361.trans (f384 131 16 (fun q => absurd q.2 (by decide))).symm
                      have q391 : u362 = M385 131 11 := eu362.trans (f384 131 11 (fun q => absurd q.2 (by decide))).symm
                      have q392 : u363 = M385 131 13 := eu363.trans (f384 131 13 (fun q => absurd q.2 (by decide))).symm
                      exact hret _ 263 _ ⟨hI, hW⟩ ⟨hF, (by omega), (fun h0 => advR h0 (by omega) (by omega) (fun j => hF.at (by decide)) (by omega) (show tkR M385 = 3 from by unfold tkR; omega) (show vlR M385 = 0 from by unfold vlR; rw [if_neg (by omega)]) (adv_N (by omega) (by omega) (by omega) (run_R (by omega) (fun j a b => i141_8 j a (by omega))) (by rw [UR_at (by omega), show M385 131 9 = M343 131 9 from by omega]; exact i141_9) (by omega) (by omega) (run_R (by omega) (fun j a b => i141_10 j (by omega) (by omega))) (if hq : M385 131 8 = M 131 7 then Or.inl hq else Or.inr (by rw [UR_at (by omega), ← q387]; unfold c_dg; omega)) (Or.inl ⟨by omega, rfl, rfl⟩)))⟩ dX12_readsOn_263
                  · refine z_aload_n F dX12_readsOn_155 rfl (q := 0) rfl ?_
                    refine z_aload_n F dX12_readsOn_156 rfl (q := 0) rfl ?_
                    refine gf_X12_82 F hI gs_131 rfl bd_131_8 dX12_readsOn_157 (fun v393 ev393 av393 bv393 => ?_)
                    have zv393 : u357 = v393 := eu357.trans ev393.symm
                    subst zv393
                    refine z_aload_n F dX12_readsOn_160 rfl (q := 0) rfl ?_
                    refine gf_X12_85 F hI gs_131 rfl bd_131_9 dX12_readsOn_161 (fun v394 ev394 av394 bv394 => ?_)
                    have zv394 : u358 = v394 := eu358.trans ev394.symm
                    subst zv394
                    refine z_isub F dX12_readsOn_164 ?_
                    refine z_iconst F dX12_readsOn_165 ?_
                    refine z_icmp_ge (tgt := 192) F dX12_readsOn_166 (by decide +kernel) (by omega) (by omega) (fun c395 => ?_) (fun c395 => ?_)
                    · refine z_aload_n F dX12_readsOn_192 rfl (q := 0) rfl ?_
                      refine gf_X12_102 F hI gs_131 rfl bd_131_11 dX12_readsOn_193 (fun v396 ev396 av396 bv396 => ?_)
                      have zv396 : u362 = v396 := eu362.trans ev396.symm
                      subst zv396
                      have k397 : 0 ≤ u362 ∧ u362 ≤ 999 := by omega
                      refine pf_X12_102 F hI gs_131 rfl bd_131_11 rfl rfl dX12_readsOn_196 (by omega) (by omega) (fun M399 hI sf398 f398 => ?_)
                      have hF := hF.wrf f398 (by decide) (by decide)
                      have hW : WFk M399 := hW.site f398 (by decide)
                      refine z_aload_n F dX12_readsOn_199 rfl (q := 0) rfl ?_
                      refine z_dup F dX12_readsOn_200 rfl ?_
                      refine gf_X12_82 F hI gs_131 rfl bd_131_8 dX12_readsOn_201 (fun v400 ev400 av400 bv400 => ?_)
                      have q401 : u357 = M399 131 8 := eu357.trans (f398 131 8 (fun q => absurd q.2 (by decide))).symm
                      have zv400 : u357 = v400 := q401.trans ev400.symm
                      subst zv400
                      have k402 : 0 ≤ u357 ∧ u357 ≤ 899 := by omega
                      refine z_iconst F dX12_readsOn_204 ?_
                      refine z_iadd F dX12_readsOn_205 ?_
                      refine z_nm (fun v403 ev403 => ?_)
                      refine pf_X12_82 F hI gs_131 rfl bd_131_8 rfl rfl dX12_readsOn_206 (by omega) (by omega) (fun M405 hI sf404 f404 => ?_)
                      have hF := hF.wrf f404 (by decide) (by decide)
                      have hW : WFk M405 := hW.site f404 (by decide)
                      refine z_goto (tgt := 141) F dX12_readsOn_209 (by decide +kernel) ?_
                      refine z_loc [0] (ls' := [(0, .ref (ad 131))]) rfl ?_
                      have q406 : u356 = M399 131 7 := eu356.trans (f398 131 7 (fun q => absurd q.2 (by decide))).symm
                      have q407 : u356 = M405 131 7 := q406.trans (f404 131 7 (fun q => absurd q.2 (by decide))).symm
                      have q408 : u358 = M399 131 9 := eu358.trans (f398 131 9 (fun q => absurd q.2 (by decide))).symm
                      have q409 : u358 = M405 131 9 := q408.trans (f404 131 9 (fun q => absurd q.2 (by decide))).symm
                      have q410 : u359 = M399 131 10 := eu359.trans (f398 131 10 (fun q => absurd q.2 (by decide))).symm
                      have q411 : u359 = M405 131 10 := q410.trans (f404 131 10 (fun q => absurd q.2 (by decide))).symm
                      have q412 : u360 = M399 131 12 := eu360.trans (f398 131 12 (fun q => absurd q.2 (by decide))).symm
                      have q413 : u360 = M405 131 12 := q412.trans (f404 131 12 (fun q => absurd q.2 (by decide))).symm
                      have q414 : u361 = M399 131 16 := eu361.trans (f398 131 16 (fun q => absurd q.2 (by decide))).symm
                      have q415 : u361 = M405 131 16 := q414.trans (f404 131 16 (fun q => absurd q.2 (by decide))).symm
                      have q416 : u362 = M405 131 11 := sf398.symm.trans (f404 131 11 (fun q => absurd q.2 (by decide))).symm
                      have q417 : u363 = M399 131 13 := eu363.trans (f398 131 13 (fun q => absurd q.2 (by decide))).symm
                      have q418 : u363 = M405 131 13 := q417.trans (f404 131 13 (fun q => absurd q.2 (by decide))).symm
                      exact ih141 M405 hI hW hF (by omega) (by omega) (by omega) (by omega) (by omega) (by omega) (by omega) (Or.inl (by omega)) (fun j a b => i141_8 j a (by omega)) (by rw [show M405 131 9 = M343 131 9 from by omega]; exact i141_9) (fun j a b => run_sn (U := M 136) (P := c_dg) i141_10 (show c_dg (M 136 (M343 131 8).toNat) from by rw [← eu357]; unfold c_dg; omega) (by omega) j (by omega) (by omega)) (fun q => by rw [show (M405 131 8 - M405 131 9).toNat = (M343 131 8 - M343 131 9).toNat + 1 from by omega, show M405 131 9 = M343 131 9 from by omega]; exact dec3_sn (i141_11 (by omega)) (by rw [show (M343 131 9).toNat + (M343 131 8 - M343 131 9).toNat = (M343 131 8).toNat from by omega, ← eu357]; omega)) (by omega) (by omega) (by omega) (by omega) (by omega)
                    · refine z_bipush F dX12_readsOn_169 (by decide +kernel) ?_
                      refine z_aload_n F dX12_readsOn_171 rfl (q := 0) rfl ?_
                      refine gf_X12_102 F hI gs_131 rfl bd_131_11 dX12_readsOn_172 (fun v419 ev419 av419 bv419 => ?_)
                      have zv419 : u362 = v419 := eu362.trans ev419.symm
                      subst zv419
                      refine z_imul F dX12_readsOn_175 ?_
                      refine z_aload_n F dX12_readsOn_176 rfl (q := 0) rfl ?_
                      refine rf_X12_23 F gs_131 rfl dX12_readsOn_177 ?_
                      refine z_aload_n F dX12_readsOn_180 rfl (q := 0) rfl ?_
                      refine gf_X12_82 F hI gs_131 rfl bd_131_8 dX12_readsOn_181 (fun v420 ev420 av420 bv420 => ?_)
                      have zv420 : u357 = v420 := eu357.trans ev420.symm
                      subst zv420
                      have k421 : 0 ≤ u357 ∧ u357 ≤ 899 := by omega
                      refine z_iald F hI gs_136 (by omega) (by omega) (by decide) bd_136 dX12_readsOn_184 (fun v422 (ev422 : v422 = M343 136 _) av422 bv422 => ?_)
                      have frv422 : M343 136 (u357).toNat = M 136 (u357).toNat := hF.at (by decide)
                      refine z_iadd F dX12_readsOn_185 ?_
                      refine z_wrap (fun v423 rv423 wv423 => ?_)
                      refine z_bipush F dX12_readsOn_186 (by decide +kernel) ?_
                      refine z_isub F dX12_readsOn_188 ?_
                      refine z_wrap (fun v424 rv424 wv424 => ?_)
                      refine z_goto (tgt := 196) F dX12_readsOn_189 (by decide +kernel) ?_
                      have k425 : 0 ≤ v424 ∧ v424 ≤ 999 := by omega
                      refine pf_X12_102 F hI gs_131 rfl bd_131_11 rfl rfl dX12_readsOn_196 (by omega) (by omega) (fun M427 hI sf426 f426 => ?_)
                      have hF := hF.wrf f426 (by decide) (by decide)
                      have hW : WFk M427 := hW.site f426 (by decide)
                      refine z_aload_n F dX12_readsOn_199 rfl (q := 0) rfl ?_
                      refine z_dup F dX12_readsOn_200 rfl ?_
                      refine gf_X12_82 F hI gs_131 rfl bd_131_8 dX12_readsOn_201 (fun v428 ev428 av428 bv428 => ?_)
                      have q429 : u357 = M427 131 8 := eu357.trans (f426 131 8 (fun q => absurd q.2 (by decide))).symm
                      have zv428 : u357 = v428 := q429.trans ev428.symm
                      subst zv428
                      have k430 : 0 ≤ u357 ∧ u357 ≤ 899 := by omega
                      refine z_iconst F dX12_readsOn_204 ?_
                      refine z_iadd F dX12_readsOn_205 ?_
                      refine z_nm (fun v431 ev431 => ?_)
                      refine pf_X12_82 F hI gs_131 rfl bd_131_8 rfl rfl dX12_readsOn_206 (by omega) (by omega) (fun M433 hI sf432 f432 => ?_)
                      have hF := hF.wrf f432 (by decide) (by decide)
                      have hW : WFk M433 := hW.site f432 (by decide)
                      refine z_goto (tgt := 141) F dX12_readsOn_209 (by decide +kernel) ?_
                      refine z_loc [0] (ls' := [(0, .ref (ad 131))]) rfl ?_
                      have q434 : u356 = M427 131 7 := eu356.trans (f426 131 7 (fun q => absurd q.2 (by decide))).symm
                      have q435 : u356 = M433 131 7 := q434.trans (f432 131 7 (fun q => absurd q.2 (by decide))).symm
                      have q436 : u358 = M427 131 9 := eu358.trans (f426 131 9 (fun q => absurd q.2 (by decide))).symm
                      have q437 : u358 = M433 131 9 := q436.trans (f432 131 9 (fun q => absurd q.2 (by decide))).symm
                      have q438 : u359 = M427 131 10 := eu359.trans (f426 131 10 (fun q => absurd q.2 (by decide))).symm
                      have q439 : u359 = M433 131 10 := q438.trans (f432 131 10 (fun q => absurd q.2 (by decide))).symm
                      have q440 : u360 = M427 131 12 := eu360.trans (f426 131 12 (fun q => absurd q.2 (by decide))).symm
                      have q441 : u360 = M433 131 12 := q440.trans (f432 131 12 (fun q => absurd q.2 (by decide))).symm
                      have q442 : u361 = M427 131 16 := eu361.trans (f426 131 16 (fun q => absurd q.2 (by decide))).symm
                      have q443 : u361 = M433 131 16 := q442.trans (f432 131 16 (fun q => absurd q.2 (by decide))).symm
                      have q444 : v424 = M433 131 11 := sf426.symm.trans (f432 131 11 (fun q => absurd q.2 (by decide))).symm
                      have q445 : u363 = M427 131 13 := eu363.trans (f426 131 13 (fun q => absurd q.2 (by decide))).symm
                      have q446 : u363 = M433 131 13 := q445.trans (f432 131 13 (fun q => absurd q.2 (by decide))).symm
                      exact ih141 M433 hI hW hF (by omega) (by omega) (by omega) (by omega) (by omega) (by omega) (by omega) (Or.inl (by omega)) (fun j a b => i141_8 j a (by omega)) (by rw [show M433 131 9 = M343 131 9 from by omega]; exact i141_9) (fun j a b => run_sn (U := M 136) (P := c_dg) i141_10 (show c_dg (M 136 (M343 131 8).toNat) from by rw [← eu357]; unfold c_dg; omega) (by omega) j (by omega) (by omega)) (fun q => by rw [show (M433 131 8 - M433 131 9).toNat = (M343 131 8 - M343 131 9).toNat + 1 from by omega, show M433 131 9 = M343 131 9 from by omega]; exact dec3_sn (i141_11 (by omega)) (by rw [show (M343 131 9).toNat + (M343 131 8 - M343 131 9).toNat = (M343 131 8).toNat from by omega, ← eu357]; omega)) (by omega) (by omega) (by omega) (by omega) (by omega)
            · refine z_loc [1] (ls' := [(0, .ref (ad 131))]) rfl ?_
              have q448 : u13 = M272 131 10 := eu13.trans (f271 131 10 (fun q => absurd q.2 (by decide))).symm
              have q449 : u14 = M272 131 12 := eu14.trans (f271 131 12 (fun q => absurd q.2 (by decide))).symm
              have q450 : u15 = M272 131 16 := eu15.trans (f271 131 16 (fun q => absurd q.2 (by decide))).symm
              have q451 : u16 = M272 131 11 := eu16.trans (f271 131 11 (fun q => absurd q.2 (by decide))).symm
              have q452 : u17 = M272 131 13 := eu17.trans (f271 131 13 (fun q => absurd q.2 (by decide))).symm
              suffices key94 : ∀ (n : Nat) (M447 : Mem), Inv M447 → WFk M447 → Fr [131] M M447 → (M447 131 7 = M 131 7) → (M447 131 12 = M 131 12) → (M447 131 16 = M 131 16) → (M 131 8 ≤ M447 131 8) → (M447 131 8 ≤ M447 131 7) → (M 131 8 ≤ M447 131 9) → (M447 131 9 ≤ M447 131 8) → (M447 131 9 < M447 131 8 ∨ M447 131 8 < M447 131 7 ∧ 97 ≤ M447 136 (M447 131 8).toNat ∧ M447 136 (M447 131 8).toNat ≤ 122) → (∀ j : Nat, M 131 8 ≤ j → (j : Int) < M447 131 9 → c_bl (M 136 j)) → (c_lt (M 136 (M447 131 9).toNat)) → (∀ j : Nat, M447 131 9 ≤ j → (j : Int) < M447 131 8 → c_lt (M 136 j)) → (M447 131 13 = M 131 13) → 900 - M447 131 8 < (n : Int) → Z D cy ad p l e (RMh 2) s m args below meth c A 2 0 0 Q 94 [(0, .ref (ad 131))] [] M447 from key94 901 M272 hI hW hF (by omega) (by omega) (by omega) (by omega) (by omega) (by omega) (by omega) (Or.inr (by rw [← q274]; omega)) (fun j a b => i0_5 j a (by omega)) (show c_lt (M 136 (M272 131 9).toNat) from by rw [← sf271.symm]; unfold c_lt; omega) (fun j a b => by exfalso; omega) (by omega) (by omega)
              intro n94
              induction n94 with
              | zero => intro M447 hI hW hF i94_0 i94_1 i94_2 i94_3 i94_4 i94_5 i94_6 i94_7 i94_8 i94_9 i94_10 i94_11 hn94; exfalso; omega
              | succ n94 ih94 =>
                intro M447 hI hW hF i94_0 i94_1 i94_2 i94_3 i94_4 i94_5 i94_6 i94_7 i94_8 i94_9 i94_10 i94_11 hn94
                obtain ⟨u453, eu453⟩ : ∃ v : Int, v = M447 131 7 := ⟨_, rfl⟩
                have ku453 : 0 ≤ u453 ∧ u453 ≤ 900 := by have := hI.at (show Bd 131 7 = (0, 900) from rfl); omega
                obtain ⟨u454, eu454⟩ : ∃ v : Int, v = M447 131 8 := ⟨_, rfl⟩
                have ku454 : 0 ≤ u454 ∧ u454 ≤ 900 := by have := hI.at (show Bd 131 8 = (0, 900) from rfl); omega
                obtain ⟨u455, eu455⟩ : ∃ v : Int, v = M447 131 9 := ⟨_, rfl⟩
                have ku455 : 0 ≤ u455 ∧ u455 ≤ 900 := by have := hI.at (show Bd 131 9 = (0, 900) from rfl); omega
                obtain ⟨u456, eu456⟩ : ∃ v : Int, v = M447 131 10 := ⟨_, rfl⟩
                have ku456 : (-2147483648) ≤ u456 ∧ u456 ≤ 2147483647 := by have := hI.at (show Bd 131 10 = (-2147483648, 2147483647) from rfl); omega
                obtain ⟨u457, eu457⟩ : ∃ v : Int, v = M447 131 12 := ⟨_, rfl⟩
                have ku457 : 0 ≤ u457 ∧ u457 ≤ 4 := by have := hI.at (show Bd 131 12 = (0, 4) from rfl); omega
                obtain ⟨u458, eu458⟩ : ∃ v : Int, v = M447 131 16 := ⟨_, rfl⟩
                have ku458 : (-2147483648) ≤ u458 ∧ u458 ≤ 2147483647 := by have := hI.at (show Bd 131 16 = (-2147483648, 2147483647) from rfl); omega
                obtain ⟨u459, eu459⟩ : ∃ v : Int, v = M447 131 11 := ⟨_, rfl⟩
                have ku459 : 0 ≤ u459 ∧ u459 ≤ 999 := by have := hI.at (show Bd 131 11 = (0, 999) from rfl); omega
                obtain ⟨u460, eu460⟩ : ∃ v : Int, v = M447 131 13 := ⟨_, rfl⟩
                have ku460 : 0 ≤ u460 ∧ u460 ≤ 900 := by have := hI.at (show Bd 131 13 = (0, 900) from rfl); omega
                rw [← eu454] at i94_7
                have fr136 : M447 136 (u454).toNat = M 136 (u454).toNat := hF.at (by decide)
                refine z_aload_n F dX12_readsOn_94 rfl (q := 0) rfl ?_
                refine z_aload_n F dX12_readsOn_95 rfl (q := 0) rfl ?_
                refine gf_X12_82 F hI gs_131 rfl bd_131_8 dX12_readsOn_96 (fun v461 ev461 av461 bv461 => ?_)
                have zv461 : u454 = v461 := eu454.trans ev461.symm
                subst zv461
                refine zv_i (rest := []) F (kp_X12_see l M447 ⟨hI, hW⟩ u454 (by omega) (by omega)) cs_X12_95 (T := TX12) (N := 44) (ci := 12) rfl gs_131 (by decide) (by decide) rfl rfl rfl (Nat.le_of_ble_eq_true rfl) dX12_readsOn_99 (fun v462 M463 rv462 hI p464 => ?_)
                obtain ⟨hI, hW⟩ := hI
                obtain ⟨⟨av462, bv462⟩, rfl, xp464⟩ := p464
                refine zs_i (rest := []) F (kp_X12_isLetter l M447 ⟨hI, hW⟩ v462 (by omega) (by omega)) cs_X12_91 (by decide) (by decide) rfl rfl rfl (Nat.le_of_ble_eq_true rfl) dX12_readsOn_102 (fun v465 M466 rv465 hI p467 => ?_)
                obtain ⟨hI, hW⟩ := hI
                obtain ⟨⟨av465, bv465⟩, rfl, xp467⟩ := p467
                refine z_if_eq (tgt := 121) F dX12_readsOn_105 (by decide +kernel) (by omega) (fun c468 => ?_) (fun c468 => ?_)
                · refine z_aload_n F dX12_readsOn_121 rfl (q := 0) rfl ?_
                  refine z_iconst F dX12_readsOn_122 ?_
                  refine pf_X12_88 F hI gs_131 rfl bd_131_10 rfl rfl dX12_readsOn_123 (by omega) (by omega) (fun M470 hI sf469 f469 => ?_)
                  have hF := hF.wrf f469 (by decide) (by decide)
                  have hW : WFk M470 := hW.site f469 (by decide)
                  refine z_goto (tgt := 263) F dX12_readsOn_126 (by decide +kernel) ?_
                  have q471 : u453 = M470 131 7 := eu453.trans (f469 131 7 (fun q => absurd q.2 (by decide))).symm
                  have q472 : u454 = M470 131 8 := eu454.trans (f469 131 8 (fun q => absurd q.2 (by decide))).symm
                  have q473 : u455 = M470 131 9 := eu455.trans (f469 131 9 (fun q => absurd q.2 (by decide))).symm
                  have q474 : u457 = M470 131 12 := eu457.trans (f469 131 12 (fun q => absurd q.2 (by decide))).symm
                  have q475 : u458 = M470 131 16 := eu458.trans (f469 131 16 (fun q => absurd q.2 (by decide))).symm
                  have q476 : u459 = M470 131 11 := eu459.trans (f469 131 11 (fun q => absurd q.2 (by decide))).symm
                  have q477 : u460 = M470 131 13 := eu460.trans (f469 131 13 (fun q => absurd q.2 (by decide))).symm
                  exact hret _ 263 _ ⟨hI, hW⟩ ⟨hF, (by omega), (fun h0 => advR h0 (by omega) (by omega) (fun j => hF.at (by decide)) (by omega) (show tkR M470 = 1 from by unfold tkR; omega) (show vlR M470 = 0 from by unfold vlR; rw [if_neg (by omega)]) (adv_W (by omega) (by omega) (by omega) (run_R (by omega) (fun j a b => i94_8 j a (by omega))) (by rw [UR_at (by omega), show M470 131 9 = M447 131 9 from by omega]; exact i94_9) (by omega) (by omega) (run_R (by omega) (fun j a b => i94_10 j (by omega) (by omega))) (if hq : M470 131 8 = M 131 7 then Or.inl hq else Or.inr (by rw [UR_at (by omega), ← q472]; unfold c_lt; omega))))⟩ dX12_readsOn_263
                · refine z_aload_n F dX12_readsOn_108 rfl (q := 0) rfl ?_
                  refine z_dup F dX12_readsOn_109 rfl ?_
                  refine gf_X12_82 F hI gs_131 rfl bd_131_8 dX12_readsOn_110 (fun v478 ev478 av478 bv478 => ?_)
                  have zv478 : u454 = v478 := eu454.trans ev478.symm
                  subst zv478
                  have k479 : 0 ≤ u454 ∧ u454 ≤ 899 := by omega
                  refine z_iconst F dX12_readsOn_113 ?_
                  refine z_iadd F dX12_readsOn_114 ?_
                  refine z_nm (fun v480 ev480 => ?_)
                  refine pf_X12_82 F hI gs_131 rfl bd_131_8 rfl rfl dX12_readsOn_115 (by omega) (by omega) (fun M482 hI sf481 f481 => ?_)
                  have hF := hF.wrf f481 (by decide) (by decide)
                  have hW : WFk M482 := hW.site f481 (by decide)
                  refine z_goto (tgt := 94) F dX12_readsOn_118 (by decide +kernel) ?_
                  refine z_loc [0] (ls' := [(0, .ref (ad 131))]) rfl ?_
                  have q483 : u453 = M482 131 7 := eu453.trans (f481 131 7 (fun q => absurd q.2 (by decide))).symm
                  have q484 : u455 = M482 131 9 := eu455.trans (f481 131 9 (fun q => absurd q.2 (by decide))).symm
                  have q485 : u456 = M482 131 10 := eu456.trans (f481 131 10 (fun q => absurd q.2 (by decide))).symm
                  have q486 : u457 = M482 131 12 := eu457.trans (f481 131 12 (fun q => absurd q.2 (by decide))).symm
                  have q487 : u458 = M482 131 16 := eu458.trans (f481 131 16 (fun q => absurd q.2 (by decide))).symm
                  have q488 : u459 = M482 131 11 := eu459.trans (f481 131 11 (fun q => absurd q.2 (by decide))).symm
                  have q489 : u460 = M482 131 13 := eu460.trans (f481 131 13 (fun q => absurd q.2 (by decide))).symm
                  exact ih94 M482 hI hW hF (by omega) (by omega) (by omega) (by omega) (by omega) (by omega) (by omega) (Or.inl (by omega)) (fun j a b => i94_8 j a (by omega)) (by rw [show M482 131 9 = M447 131 9 from by omega]; exact i94_9) (fun j a b => run_sn (U := M 136) (P := c_lt) i94_10 (show c_lt (M 136 (M447 131 8).toNat) from by rw [← eu454]; unfold c_lt; omega) (by omega) j (by omega) (by omega)) (by omega) (by omega)
          · refine z_aload_n F dX12_readsOn_71 rfl (q := 0) rfl ?_
            refine z_iconst F dX12_readsOn_72 ?_
            refine pf_X12_88 F hI gs_131 rfl bd_131_10 rfl rfl dX12_readsOn_73 (by omega) (by omega) (fun M491 hI sf490 f490 => ?_)
            have hF := hF.wrf f490 (by decide) (by decide)
            have hW : WFk M491 := hW.site f490 (by decide)
            have q492 : u10 = M491 131 7 := q276.trans (f490 131 7 (fun q => absurd q.2 (by decide))).symm
            have q493 : u11 = M491 131 8 := q274.trans (f490 131 8 (fun q => absurd q.2 (by decide))).symm
            have q494 : u11 = M491 131 9 := sf271.symm.trans (f490 131 9 (fun q => absurd q.2 (by decide))).symm
            have q495 : u14 = M272 131 12 := eu14.trans (f271 131 12 (fun q => absurd q.2 (by decide))).symm
            have q496 : u14 = M491 131 12 := q495.trans (f490 131 12 (fun q => absurd q.2 (by decide))).symm
            have q497 : u15 = M272 131 16 := eu15.trans (f271 131 16 (fun q => absurd q.2 (by decide))).symm
            have q498 : u15 = M491 131 16 := q497.trans (f490 131 16 (fun q => absurd q.2 (by decide))).symm
            have q499 : u16 = M272 131 11 := eu16.trans (f271 131 11 (fun q => absurd q.2 (by decide))).symm
            have q500 : u16 = M491 131 11 := q499.trans (f490 131 11 (fun q => absurd q.2 (by decide))).symm
            have q501 : u17 = M272 131 13 := eu17.trans (f271 131 13 (fun q => absurd q.2 (by decide))).symm
            have q502 : u17 = M491 131 13 := q501.trans (f490 131 13 (fun q => absurd q.2 (by decide))).symm
            exact hret _ 76 _ ⟨hI, hW⟩ ⟨hF, (by omega), (fun h0 => advR h0 (by omega) (by omega) (fun j => hF.at (by decide)) (by omega) (show tkR M491 = 0 from by unfold tkR; omega) (show vlR M491 = 0 from by unfold vlR; rw [if_neg (by omega)]) (by rw [show M491 131 8 = M491 131 9 from by omega]; exact adv_E (by omega) (by omega) (by omega) (run_R (by omega) (fun j a b => i0_5 j a (by omega)))))⟩ dX12_readsOn_76
        · refine z_aload_n F dX12_readsOn_39 rfl (q := 0) rfl ?_
          refine z_dup F dX12_readsOn_40 rfl ?_
          refine gf_X12_82 F hI gs_131 rfl bd_131_8 dX12_readsOn_41 (fun v503 ev503 av503 bv503 => ?_)
          have zv503 : u11 = v503 := eu11.trans ev503.symm
          subst zv503
          refine z_iconst F dX12_readsOn_44 ?_
          refine z_iadd F dX12_readsOn_45 ?_
          refine z_nm (fun v504 ev504 => ?_)
          refine pf_X12_82 F hI gs_131 rfl bd_131_8 rfl rfl dX12_readsOn_46 (by omega) (by omega) (fun M506 hI sf505 f505 => ?_)
          have hF := hF.wrf f505 (by decide) (by decide)
          have hW : WFk M506 := hW.site f505 (by decide)
          refine z_goto (tgt := 0) F dX12_readsOn_49 (by decide +kernel) ?_
          refine z_loc [0] (ls' := [(0, .ref (ad 131))]) rfl ?_
          have q507 : u10 = M506 131 7 := eu10.trans (f505 131 7 (fun q => absurd q.2 (by decide))).symm
          have q508 : u12 = M506 131 9 := eu12.trans (f505 131 9 (fun q => absurd q.2 (by decide))).symm
          have q509 : u13 = M506 131 10 := eu13.trans (f505 131 10 (fun q => absurd q.2 (by decide))).symm
          have q510 : u14 = M506 131 12 := eu14.trans (f505 131 12 (fun q => absurd q.2 (by decide))).symm
          have q511 : u15 = M506 131 16 := eu15.trans (f505 131 16 (fun q => absurd q.2 (by decide))).symm
          have q512 : u16 = M506 131 11 := eu16.trans (f505 131 11 (fun q => absurd q.2 (by decide))).symm
          have q513 : u17 = M506 131 13 := eu17.trans (f505 131 13 (fun q => absurd q.2 (by decide))).symm
          exact ih0 M506 hI hW hF (by omega) (by omega) (by omega) (by omega) (by omega) (fun j a b => run_sn (U := M 136) (P := c_bl) i0_5 (show c_bl (M 136 (M9 131 8).toNat) from by rw [← eu11]; unfold c_bl; omega) (by omega) j a (by omega)) (by omega) (by omega)
