theorem dX12_begins_0 : decode cX12_begins 0 = .ok (.aload_n 0, 1) := by decide +kernel
theorem dX12_begins_1 : decode cX12_begins 1 = .ok (.getfield 13, 3) := by decide +kernel
theorem dX12_begins_10 : decode cX12_begins 10 = .ok (.aload_n 0, 1) := by decide +kernel
theorem dX12_begins_11 : decode cX12_begins 11 = .ok (.iconst 4, 1) := by decide +kernel
theorem dX12_begins_12 : decode cX12_begins 12 = .ok (.invokevirtual 133, 3) := by decide +kernel
theorem dX12_begins_15 : decode cX12_begins 15 = .ok (.aload_n 0, 1) := by decide +kernel
theorem dX12_begins_16 : decode cX12_begins 16 = .ok (.getfield 108, 3) := by decide +kernel
theorem dX12_begins_19 : decode cX12_begins 19 = .ok (.ifCond .ne 7, 3) := by decide +kernel
theorem dX12_begins_22 : decode cX12_begins 22 = .ok (.aload_n 0, 1) := by decide +kernel
theorem dX12_begins_23 : decode cX12_begins 23 = .ok (.invokevirtual 127, 3) := by decide +kernel
theorem dX12_begins_26 : decode cX12_begins 26 = .ok (.aload_n 0, 1) := by decide +kernel
theorem dX12_begins_27 : decode cX12_begins 27 = .ok (.getfield 108, 3) := by decide +kernel
theorem dX12_begins_30 : decode cX12_begins 30 = .ok (.ifCond .ne 7, 3) := by decide +kernel
theorem dX12_begins_33 : decode cX12_begins 33 = .ok (.iconst 1, 1) := by decide +kernel
theorem dX12_begins_34 : decode cX12_begins 34 = .ok (.goto 4, 3) := by decide +kernel
theorem dX12_begins_37 : decode cX12_begins 37 = .ok (.iconst 0, 1) := by decide +kernel
theorem dX12_begins_38 : decode cX12_begins 38 = .ok (.ireturn, 1) := by decide +kernel
theorem dX12_begins_4 : decode cX12_begins 4 = .ok (.iload_n 1, 1) := by decide +kernel
theorem dX12_begins_5 : decode cX12_begins 5 = .ok (.iaload, 1) := by decide +kernel
theorem dX12_begins_6 : decode cX12_begins 6 = .ok (.iload_n 2, 1) := by decide +kernel
theorem dX12_begins_7 : decode cX12_begins 7 = .ok (.if_icmp .ne 8, 3) := by decide +kernel
theorem dX12_number_0 : decode cX12_number 0 = .ok (.aload_n 0, 1) := by decide +kernel
theorem dX12_number_1 : decode cX12_number 1 = .ok (.getfield 88, 3) := by decide +kernel
theorem dX12_number_10 : decode cX12_number 10 = .ok (.invokevirtual 133, 3) := by decide +kernel
theorem dX12_number_13 : decode cX12_number 13 = .ok (.goto 23, 3) := by decide +kernel
theorem dX12_number_16 : decode cX12_number 16 = .ok (.aload_n 0, 1) := by decide +kernel
theorem dX12_number_17 : decode cX12_number 17 = .ok (.getfield 102, 3) := by decide +kernel
theorem dX12_number_20 : decode cX12_number 20 = .ok (.i2l, 1) := by decide +kernel
theorem dX12_number_21 : decode cX12_number 21 = .ok (.iload_n 1, 1) := by decide +kernel
theorem dX12_number_22 : decode cX12_number 22 = .ok (.i2l, 1) := by decide +kernel
theorem dX12_number_23 : decode cX12_number 23 = .ok (.iload_n 2, 1) := by decide +kernel
theorem dX12_number_24 : decode cX12_number 24 = .ok (.i2l, 1) := by decide +kernel
theorem dX12_number_25 : decode cX12_number 25 = .ok (.invokestatic 137, 3) := by decide +kernel
theorem dX12_number_28 : decode cX12_number 28 = .ok (.ifCond .ne 8, 3) := by decide +kernel
theorem dX12_number_31 : decode cX12_number 31 = .ok (.aload_n 0, 1) := by decide +kernel
theorem dX12_number_32 : decode cX12_number 32 = .ok (.iconst 3, 1) := by decide +kernel
theorem dX12_number_33 : decode cX12_number 33 = .ok (.invokevirtual 133, 3) := by decide +kernel
theorem dX12_number_36 : decode cX12_number 36 = .ok (.aload_n 0, 1) := by decide +kernel
theorem dX12_number_37 : decode cX12_number 37 = .ok (.getfield 102, 3) := by decide +kernel
theorem dX12_number_4 : decode cX12_number 4 = .ok (.iconst 2, 1) := by decide +kernel
theorem dX12_number_40 : decode cX12_number 40 = .ok (.istore_n 3, 1) := by decide +kernel
theorem dX12_number_41 : decode cX12_number 41 = .ok (.aload_n 0, 1) := by decide +kernel
theorem dX12_number_42 : decode cX12_number 42 = .ok (.getfield 108, 3) := by decide +kernel
theorem dX12_number_45 : decode cX12_number 45 = .ok (.ifCond .ne 7, 3) := by decide +kernel
theorem dX12_number_48 : decode cX12_number 48 = .ok (.aload_n 0, 1) := by decide +kernel
theorem dX12_number_49 : decode cX12_number 49 = .ok (.invokevirtual 127, 3) := by decide +kernel
theorem dX12_number_5 : decode cX12_number 5 = .ok (.if_icmp .eq 11, 3) := by decide +kernel
theorem dX12_number_52 : decode cX12_number 52 = .ok (.aload_n 0, 1) := by decide +kernel
theorem dX12_number_53 : decode cX12_number 53 = .ok (.getfield 108, 3) := by decide +kernel
theorem dX12_number_56 : decode cX12_number 56 = .ok (.ifCond .ne 7, 3) := by decide +kernel
theorem dX12_number_59 : decode cX12_number 59 = .ok (.iload_n 3, 1) := by decide +kernel
theorem dX12_number_60 : decode cX12_number 60 = .ok (.goto 4, 3) := by decide +kernel
theorem dX12_number_63 : decode cX12_number 63 = .ok (.iload_n 1, 1) := by decide +kernel
theorem dX12_number_64 : decode cX12_number 64 = .ok (.ireturn, 1) := by decide +kernel
theorem dX12_number_8 : decode cX12_number 8 = .ok (.aload_n 0, 1) := by decide +kernel
theorem dX12_number_9 : decode cX12_number 9 = .ok (.iconst 2, 1) := by decide +kernel
theorem dX12_readAtom_0 : decode cX12_readAtom 0 = .ok (.aload_n 0, 1) := by decide +kernel
theorem dX12_readAtom_1 : decode cX12_readAtom 1 = .ok (.getfield 108, 3) := by decide +kernel
theorem dX12_readAtom_12 : decode cX12_readAtom 12 = .ok (.istore_n 1, 1) := by decide +kernel
theorem dX12_readAtom_13 : decode cX12_readAtom 13 = .ok (.iload_n 1, 1) := by decide +kernel
theorem dX12_readAtom_14 : decode cX12_readAtom 14 = .ok (.iconst (-1), 1) := by decide +kernel
theorem dX12_readAtom_15 : decode cX12_readAtom 15 = .ok (.if_icmp .eq 14, 3) := by decide +kernel
theorem dX12_readAtom_18 : decode cX12_readAtom 18 = .ok (.aload_n 0, 1) := by decide +kernel
theorem dX12_readAtom_19 : decode cX12_readAtom 19 = .ok (.bipush 100, 2) := by decide +kernel
theorem dX12_readAtom_21 : decode cX12_readAtom 21 = .ok (.iload_n 1, 1) := by decide +kernel
theorem dX12_readAtom_22 : decode cX12_readAtom 22 = .ok (.iadd, 1) := by decide +kernel
theorem dX12_readAtom_23 : decode cX12_readAtom 23 = .ok (.invokevirtual 149, 3) := by decide +kernel
theorem dX12_readAtom_26 : decode cX12_readAtom 26 = .ok (.goto 57, 3) := by decide +kernel
theorem dX12_readAtom_29 : decode cX12_readAtom 29 = .ok (.aload_n 0, 1) := by decide +kernel
theorem dX12_readAtom_30 : decode cX12_readAtom 30 = .ok (.bipush 40, 2) := by decide +kernel
theorem dX12_readAtom_32 : decode cX12_readAtom 32 = .ok (.invokevirtual 162, 3) := by decide +kernel
theorem dX12_readAtom_35 : decode cX12_readAtom 35 = .ok (.ifCond .eq 30, 3) := by decide +kernel
theorem dX12_readAtom_38 : decode cX12_readAtom 38 = .ok (.aload_n 0, 1) := by decide +kernel
theorem dX12_readAtom_39 : decode cX12_readAtom 39 = .ok (.invokevirtual 159, 3) := by decide +kernel
theorem dX12_readAtom_4 : decode cX12_readAtom 4 = .ok (.ifCond .eq 4, 3) := by decide +kernel
theorem dX12_readAtom_42 : decode cX12_readAtom 42 = .ok (.aload_n 0, 1) := by decide +kernel
theorem dX12_readAtom_43 : decode cX12_readAtom 43 = .ok (.invokevirtual 171, 3) := by decide +kernel
theorem dX12_readAtom_46 : decode cX12_readAtom 46 = .ok (.aload_n 0, 1) := by decide +kernel
theorem dX12_readAtom_47 : decode cX12_readAtom 47 = .ok (.bipush 41, 2) := by decide +kernel
theorem dX12_readAtom_49 : decode cX12_readAtom 49 = .ok (.invokevirtual 168, 3) := by decide +kernel
theorem dX12_readAtom_52 : decode cX12_readAtom 52 = .ok (.aload_n 0, 1) := by decide +kernel
theorem dX12_readAtom_53 : decode cX12_readAtom 53 = .ok (.dup, 1) := by decide +kernel
theorem dX12_readAtom_54 : decode cX12_readAtom 54 = .ok (.getfield 141, 3) := by decide +kernel
theorem dX12_readAtom_57 : decode cX12_readAtom 57 = .ok (.iconst 1, 1) := by decide +kernel
theorem dX12_readAtom_58 : decode cX12_readAtom 58 = .ok (.isub, 1) := by decide +kernel
theorem dX12_readAtom_59 : decode cX12_readAtom 59 = .ok (.putfield 141, 3) := by decide +kernel
theorem dX12_readAtom_62 : decode cX12_readAtom 62 = .ok (.goto 21, 3) := by decide +kernel
theorem dX12_readAtom_65 : decode cX12_readAtom 65 = .ok (.aload_n 0, 1) := by decide +kernel
theorem dX12_readAtom_66 : decode cX12_readAtom 66 = .ok (.iconst 0, 1) := by decide +kernel
theorem dX12_readAtom_67 : decode cX12_readAtom 67 = .ok (.sipush 999, 3) := by decide +kernel
theorem dX12_readAtom_7 : decode cX12_readAtom 7 = .ok (.return_, 1) := by decide +kernel
theorem dX12_readAtom_70 : decode cX12_readAtom 70 = .ok (.invokevirtual 199, 3) := by decide +kernel
theorem dX12_readAtom_73 : decode cX12_readAtom 73 = .ok (.istore_n 2, 1) := by decide +kernel
theorem dX12_readAtom_74 : decode cX12_readAtom 74 = .ok (.aload_n 0, 1) := by decide +kernel
theorem dX12_readAtom_75 : decode cX12_readAtom 75 = .ok (.sipush 1000, 3) := by decide +kernel
theorem dX12_readAtom_78 : decode cX12_readAtom 78 = .ok (.iload_n 2, 1) := by decide +kernel
theorem dX12_readAtom_79 : decode cX12_readAtom 79 = .ok (.iadd, 1) := by decide +kernel
theorem dX12_readAtom_8 : decode cX12_readAtom 8 = .ok (.aload_n 0, 1) := by decide +kernel
theorem dX12_readAtom_80 : decode cX12_readAtom 80 = .ok (.invokevirtual 149, 3) := by decide +kernel
theorem dX12_readAtom_83 : decode cX12_readAtom 83 = .ok (.return_, 1) := by decide +kernel
theorem dX12_readAtom_9 : decode cX12_readAtom 9 = .ok (.invokevirtual 196, 3) := by decide +kernel
theorem dX12_readTerm_0 : decode cX12_readTerm 0 = .ok (.aload_n 0, 1) := by decide +kernel
theorem dX12_readTerm_1 : decode cX12_readTerm 1 = .ok (.invokevirtual 177, 3) := by decide +kernel
theorem dX12_readTerm_10 : decode cX12_readTerm 10 = .ok (.ifCond .eq 20, 3) := by decide +kernel
theorem dX12_readTerm_13 : decode cX12_readTerm 13 = .ok (.aload_n 0, 1) := by decide +kernel
theorem dX12_readTerm_14 : decode cX12_readTerm 14 = .ok (.invokevirtual 127, 3) := by decide +kernel
theorem dX12_readTerm_17 : decode cX12_readTerm 17 = .ok (.aload_n 0, 1) := by decide +kernel
theorem dX12_readTerm_18 : decode cX12_readTerm 18 = .ok (.invokevirtual 177, 3) := by decide +kernel
theorem dX12_readTerm_21 : decode cX12_readTerm 21 = .ok (.aload_n 0, 1) := by decide +kernel
theorem dX12_readTerm_22 : decode cX12_readTerm 22 = .ok (.bipush 12, 2) := by decide +kernel
theorem dX12_readTerm_24 : decode cX12_readTerm 24 = .ok (.invokevirtual 149, 3) := by decide +kernel
theorem dX12_readTerm_27 : decode cX12_readTerm 27 = .ok (.goto (-23), 3) := by decide +kernel
theorem dX12_readTerm_30 : decode cX12_readTerm 30 = .ok (.return_, 1) := by decide +kernel
theorem dX12_readTerm_4 : decode cX12_readTerm 4 = .ok (.aload_n 0, 1) := by decide +kernel
theorem dX12_readTerm_5 : decode cX12_readTerm 5 = .ok (.bipush 42, 2) := by decide +kernel
theorem dX12_readTerm_7 : decode cX12_readTerm 7 = .ok (.invokevirtual 162, 3) := by decide +kernel
set_option maxHeartbeats 4000000 in
set_option maxRecDepth 4000 in
theorem kp_X12_readTerm (l : Launch) (nr : Nat) (ih : RdR l nr) : ∀ (M : Mem) (hJ : Iw M) (hp0 : 0 ≤ M 131 9 ∧ M 131 9 ≤ M 131 8 ∧ M 131 8 ≤ M 131 7 ∧ M 131 7 ≤ 900 ∧ (M 131 10 = 0 ∨ M 131 9 < M 131 8)) (hp1 : 0 ≤ M 131 16 ∧ (M 131 16 ≤ 6 ∨ M 131 16 = 7 ∧ ¬ M 131 12 = 0)) (hp2 : M 133 6 ≤ M 131 9) (hp3 : ¬ M 131 12 = 0 ∨ 0 ≤ Cu M ∧ Cu M + 2 * (6 - M 131 16) + 2 ≤ 64) (hp4 : Wl M) (hmu : (7 - M 131 16) * 8 + 2 < ((nr + 1 : Nat) : Int)), CV l yX12_readTerm cX12_readTerm 1 none (14 + (nr + 1)) (fun ad => [.ref (ad 131)]) M (fun M' => Fr [131, 133] M M' ∧ (Wl M' ∧ 0 ≤ M' 131 9 ∧ M' 131 9 ≤ M' 131 8 ∧ M' 131 8 ≤ M' 131 7 ∧ M' 131 7 ≤ 900 ∧ (M' 131 10 = 0 ∨ M' 131 9 < M' 131 8) ∧ M' 131 7 = M 131 7 ∧ M' 131 16 = M 131 16 ∧ M 131 9 ≤ M' 131 9 ∧ M' 133 6 + M 131 9 ≤ M 133 6 + M' 131 9 ∧ (M' 131 12 = 0 → M 131 12 = 0 ∧ Cu M' = Cu M + 1) ∧ M' 133 1 = M 133 1) ∧ (RdE 4 (M 131 16) (absR M) (absR M'))) := by
  intro M hJ hp0 hp1 hp2 hp3 hp4 hmu
  obtain ⟨hI, hW⟩ := hJ
  have hF : Fr [131, 133] M M := Fr.rf
  refine en_v (by decide +kernel) (fun ad => by exact Nat.le_of_ble_eq_true rfl) (fun D cy ad A p e s m args below meth c Q F hret => ?_)
  refine z_eq (ls' := [(0, .ref (ad 131))]) rfl rfl rfl ?_
  have hL := hp4
  refine z_aload_n F dX12_readTerm_0 rfl (q := 0) rfl ?_
  refine zv_v (rest := []) F (ih.2.2.2.2.2 M ⟨hI, hW⟩ (by omega) (by omega) (by omega) (by omega) hL (by omega)) cs_X12_177 (T := TX12) (N := 44) (ci := 12) rfl gs_131 (by omega) (by decide) rfl rfl rfl (Nat.le_of_ble_eq_true rfl) dX12_readTerm_1 (fun M1 hI p2 => ?_)
  obtain ⟨hI, hW⟩ := hI
  obtain ⟨fp2, xp2, yp2⟩ := p2
  have hF := hF.call fp2 (by decide)
  have tM1_133_1 : M1 133 1 = M 133 1 := fp2.fr (by decide) (by decide)
  obtain ⟨hL, xp2⟩ := xp2
  refine z_loc [0] (ls' := [(0, .ref (ad 131))]) rfl ?_
  suffices key4 : ∀ (n : Nat) (M3 : Mem), Inv M3 → WFk M3 → Fr [131, 133] M M3 → (0 ≤ M3 131 9 ∧ M3 131 9 ≤ M3 131 8 ∧ M3 131 8 ≤ M3 131 7 ∧ M3 131 7 ≤ 900 ∧ (M3 131 10 = 0 ∨ M3 131 9 < M3 131 8)) → (M3 131 7 = M 131 7 ∧ M3 131 16 = M 131 16 ∧ M 131 9 ≤ M3 131 9 ∧ M3 133 6 + M 131 9 ≤ M 133 6 + M3 131 9 ∧ (M3 131 12 = 0 → M 131 12 = 0 ∧ Cu M3 = Cu M + 1) ∧ M3 133 1 = M 133 1) → (Wl M3) → (LpI 4 9 (M 131 16) (absR M) (absR M3)) → 900 - M3 131 9 < (n : Int) → Z D cy ad p l e (RMh (14 + (nr + 1))) s m args below meth c A 1 0 0 Q 4 [(0, .ref (ad 131))] [] M3 from key4 901 M1 hI hW hF (by omega) (by omega) hL (lp_i4 yp2) (by omega)
  intro n4
  induction n4 with
  | zero => intro M3 hI hW hF i4_0 i4_1 i4_2 i4_3 hn4; exfalso; omega
  | succ n4 ih4 =>
    intro M3 hI hW hF i4_0 i4_1 i4_2 i4_3 hn4
    have hL := i4_2
    refine z_aload_n F dX12_readTerm_4 rfl (q := 0) rfl ?_
    refine z_bipush F dX12_readTerm_5 (by decide +kernel) ?_
    refine zv_i (rest := []) F (kp_X12_isSign l M3 ⟨hI, hW⟩ 42 (by omega) (by omega)) cs_X12_162 (T := TX12) (N := 44) (ci := 12) rfl gs_131 (by omega) (by decide) rfl rfl rfl (Nat.le_of_ble_eq_true rfl) dX12_readTerm_7 (fun v4 M5 rv4 hI p6 => ?_)
    obtain ⟨hI, hW⟩ := hI
    obtain ⟨⟨av4, bv4⟩, rfl, xp6, yp6⟩ := p6
    refine z_if_eq (tgt := 30) F dX12_readTerm_10 (by decide +kernel) (by omega) (fun c7 => ?_) (fun c7 => ?_)
    · exact hret _ 30 _ ⟨hI, hW⟩ ⟨hF, ⟨hL, by omega⟩, (lp_e4 i4_3 (wz_f yp6 (by omega)))⟩ dX12_readTerm_30
    · refine z_aload_n F dX12_readTerm_13 rfl (q := 0) rfl ?_
      refine zv_v (rest := []) F (kp_X12_readsOn l M3 ⟨hI, hW⟩ (by omega)) cs_X12_127 (T := TX12) (N := 44) (ci := 12) rfl gs_131 (by omega) (by decide) rfl rfl rfl (Nat.le_of_ble_eq_true rfl) dX12_readTerm_14 (fun M8 hI p9 => ?_)
      obtain ⟨hI, hW⟩ := hI
      obtain ⟨fp9, xp9, yp9⟩ := p9
      have hF := hF.call fp9 (by decide)
      have tM8_133_6 : M8 133 6 = M3 133 6 := fp9.at (by decide)
      have tM8_133_1 : M8 133 1 = M3 133 1 := fp9.at (by decide)
      have hq9 := wl_fr fp9 (by decide)
      have hL := hq9.2 hL
      have cM8 := hq9.1
      clear hq9
      refine z_aload_n F dX12_readTerm_17 rfl (q := 0) rfl ?_
      refine zv_v (rest := []) F (ih.2.2.2.2.2 M8 ⟨hI, hW⟩ (by omega) (by omega) (by omega) (by omega) hL (by omega)) cs_X12_177 (T := TX12) (N := 44) (ci := 12) rfl gs_131 (by omega) (by decide) rfl rfl rfl (Nat.le_of_ble_eq_true rfl) dX12_readTerm_18 (fun M10 hI p11 => ?_)
      obtain ⟨hI, hW⟩ := hI
      obtain ⟨fp11, xp11, yp11⟩ := p11
      have hF := hF.call fp11 (by decide)
      have tM10_133_1 : M10 133 1 = M8 133 1 := fp11.fr (by decide) (by decide)
      obtain ⟨hL, xp11⟩ := xp11
      refine z_aload_n F dX12_readTerm_21 rfl (q := 0) rfl ?_
      refine z_bipush F dX12_readTerm_22 (by decide +kernel) ?_
      refine zv_v (rest := []) F (kp_X12_laysStep l M10 ⟨hI, hW⟩ 12 (by omega) (by omega) (by omega) hL (by omega)) cs_X12_149 (T := TX12) (N := 44) (ci := 12) rfl gs_131 (by omega) (by decide) rfl rfl rfl (Nat.le_of_ble_eq_true rfl) dX12_readTerm_24 (fun M12 hI p13 => ?_)
      obtain ⟨hI, hW⟩ := hI
      obtain ⟨fp13, xp13, yp13⟩ := p13
      have hF := hF.call fp13 (by decide)
      have tM12_131_7 : M12 131 7 = M10 131 7 := fp13.at (by decide)
      have tM12_131_8 : M12 131 8 = M10 131 8 := fp13.at (by decide)
      have tM12_131_9 : M12 131 9 = M10 131 9 := fp13.at (by decide)
      have tM12_131_10 : M12 131 10 = M10 131 10 := fp13.at (by decide)
      have tM12_131_12 : M12 131 12 = M10 131 12 := fp13.at (by decide)
      have tM12_131_16 : M12 131 16 = M10 131 16 := fp13.at (by decide)
      have tM12_133_1 : M12 133 1 = M10 133 1 := fp13.fr (by decide) (by decide)
      obtain ⟨hL, xp13⟩ := xp13
      refine z_goto (tgt := 4) F dX12_readTerm_27 (by decide +kernel) ?_
      refine z_loc [0] (ls' := [(0, .ref (ad 131))]) rfl ?_
      have q14 := yp9 (by omega)
      have y15 := yp11
      rw [show M8 131 16 = M 131 16 from by omega, ← q14] at y15
      exact ih4 M12 hI hW hF (by omega) (by omega) hL (by rw [yp13]; exact lp_b4 i4_3 (wz_t yp6 (by omega)) y15) (by omega)
set_option maxHeartbeats 4000000 in
set_option maxRecDepth 4000 in
theorem kp_X12_number (l : Launch) (M : Mem) (hJ : Iw M) (x0 : Int) (hx0a : (-2147483648) ≤ x0) (hx0b : x0 ≤ 2147483647) (x1 : Int) (hx1a : (-2147483648) ≤ x1) (hx1b : x1 ≤ 2147483647) (hp0 : 0 ≤ M 131 9 ∧ M 131 9 ≤ M 131 8 ∧ M 131 8 ≤ M 131 7 ∧ M 131 7 ≤ 900 ∧ (M 131 10 = 0 ∨ M 131 9 < M 131 8)) : CI l yX12_number cX12_number 4 (some .int) 3 (fun ad => [.ref (ad 131), ii x0, ii x1]) M (fun z M' => ((-2147483648) ≤ z ∧ z ≤ 2147483647) ∧ Fr [131] M M' ∧ (M' 131 7 = M 131 7 ∧ M' 131 16 = M 131 16 ∧ M 131 9 ≤ M' 131 9 ∧ 0 ≤ M' 131 9 ∧ M' 131 9 ≤ M' 131 8 ∧ M' 131 8 ≤ M' 131 7 ∧ M' 131 7 ≤ 900 ∧ (M' 131 10 = 0 ∨ M' 131 9 < M' 131 8) ∧ (z = x0 ∨ x0 ≤ z ∧ z ≤ x1) ∧ (M' 131 12 = 0 → M 131 12 = 0 ∧ x0 ≤ z ∧ z ≤ x1 ∧ M 131 9 < M' 131 9)) ∧ (numB x0 x1 noB (absR M) = absR M' ∧ Im (M' 131 12 = 0) (z = s_vl (absR M)))) := by
  obtain ⟨hI, hW⟩ := hJ
  have hF : Fr [131] M M := Fr.rf
  refine en_i (by decide +kernel) (fun ad => by exact Nat.le_of_ble_eq_true rfl) (fun D cy ad A p e s m args below meth c Q F hret => ?_)
  refine z_eq (ls' := [(0, .ref (ad 131)), (1, ii x0), (2, ii x1)]) rfl rfl rfl ?_
  obtain ⟨u1, eu1⟩ : ∃ v : Int, v = M 131 11 := ⟨_, rfl⟩
  have ku1 : 0 ≤ u1 ∧ u1 ≤ 999 := by have := hI.at (show Bd 131 11 = (0, 999) from rfl); omega
  refine z_aload_n F dX12_number_0 rfl (q := 0) rfl ?_
  refine gf_X12_88 F hI gs_131 rfl bd_131_10 dX12_number_1 (fun v2 ev2 av2 bv2 => ?_)
  refine z_iconst F dX12_number_4 ?_
  refine z_icmp_eq (tgt := 16) F dX12_number_5 (by decide +kernel) (by omega) (by omega) (fun c3 => ?_) (fun c3 => ?_)
  · refine z_aload_n F dX12_number_16 rfl (q := 0) rfl ?_
    refine gf_X12_102 F hI gs_131 rfl bd_131_11 dX12_number_17 (fun v4 ev4 av4 bv4 => ?_)
    have zv4 : u1 = v4 := eu1.trans ev4.symm
    subst zv4
    refine z_i2l F dX12_number_20 (by omega) ?_
    refine z_iload_n F dX12_number_21 rfl (q := 1) rfl ?_
    refine z_i2l F dX12_number_22 (by omega) ?_
    refine z_iload_n F dX12_number_23 rfl (q := 2) rfl ?_
    refine z_i2l F dX12_number_24 (by omega) ?_
    refine zs_i (rest := []) F (k_X12_within l M ⟨hI, hW⟩ u1 (by omega) (by omega) x0 (by omega) (by omega) x1 (by omega) (by omega)) cs_X12_137 (by decide) (by decide) rfl rfl rfl (Nat.le_of_ble_eq_true rfl) dX12_number_25 (fun v5 M6 rv5 hI p7 => ?_)
    obtain ⟨hI, hW⟩ := hI
    obtain ⟨⟨av5, bv5⟩, rfl, xp7⟩ := p7
    refine z_if_ne (tgt := 36) F dX12_number_28 (by decide +kernel) (by omega) (fun c8 => ?_) (fun c8 => ?_)
    · refine z_aload_n F dX12_number_36 rfl (q := 0) rfl ?_
      refine gf_X12_102 F hI gs_131 rfl bd_131_11 dX12_number_37 (fun v9 ev9 av9 bv9 => ?_)
      have zv9 : u1 = v9 := eu1.trans ev9.symm
      subst zv9
      refine z_istore_n F dX12_number_40 rfl (by decide) (ls' := [(3, ii u1), (0, .ref (ad 131)), (1, ii x0), (2, ii x1)]) rfl ?_
      refine z_aload_n F dX12_number_41 rfl (q := 1) rfl ?_
      refine gf_X12_108 F hI gs_131 rfl bd_131_12 dX12_number_42 (fun v10 ev10 av10 bv10 => ?_)
      refine z_if_ne (tgt := 52) F dX12_number_45 (by decide +kernel) (by omega) (fun c11 => ?_) (fun c11 => ?_)
      · refine z_aload_n F dX12_number_52 rfl (q := 1) rfl ?_
        refine gf_X12_108 F hI gs_131 rfl bd_131_12 dX12_number_53 (fun v12 ev12 av12 bv12 => ?_)
        have zv12 : v10 = v12 := ev10.trans ev12.symm
        subst zv12
        refine z_if_ne (tgt := 63) F dX12_number_56 (by decide +kernel) (by omega) (fun c13 => ?_) (fun c13 => by exfalso; omega)
        refine z_iload_n F dX12_number_63 rfl (q := 2) rfl ?_
        exact hret _ _ 64 _ (by omega) ⟨hI, hW⟩ ⟨⟨by omega, by omega⟩, hF, (by omega), ⟨nbfR (by omega), (fun q => by exfalso; omega)⟩⟩ dX12_number_64
      · refine z_aload_n F dX12_number_48 rfl (q := 1) rfl ?_
        refine zv_v (rest := []) F (kp_X12_readsOn l M ⟨hI, hW⟩ (by omega)) cs_X12_127 (T := TX12) (N := 44) (ci := 12) rfl gs_131 (by decide) (by decide) rfl rfl rfl (Nat.le_of_ble_eq_true rfl) dX12_number_49 (fun M14 hI p15 => ?_)
        obtain ⟨hI, hW⟩ := hI
        obtain ⟨fp15, xp15, yp15⟩ := p15
        have hF := hF.call fp15 (by decide)
        have tM14_133_6 : M14 133 6 = M 133 6 := fp15.at (by decide)
        have tM14_133_1 : M14 133 1 = M 133 1 := fp15.at (by decide)
        refine z_aload_n F dX12_number_52 rfl (q := 1) rfl ?_
        refine gf_X12_108 F hI gs_131 rfl bd_131_12 dX12_number_53 (fun v16 ev16 av16 bv16 => ?_)
        refine z_if_ne (tgt := 63) F dX12_number_56 (by decide +kernel) (by omega) (fun c17 => ?_) (fun c17 => ?_)
        · refine z_iload_n F dX12_number_63 rfl (q := 2) rfl ?_
          exact hret _ _ 64 _ (by omega) ⟨hI, hW⟩ ⟨⟨by omega, by omega⟩, hF, (by omega), ⟨nbaR (by omega) (by unfold tkR; omega) ⟨(by unfold vlR; rw [if_pos (by omega)]; omega), (by unfold vlR; rw [if_pos (by omega)]; omega), rfl⟩ (yp15 (by omega)), fun q => (show _ = s_vl (absR M) from by rw [(vR_tk (by omega)).2.2.2]; unfold vlR; rw [if_pos (by omega)]; omega)⟩⟩ dX12_number_64
        · refine z_iload_n F dX12_number_59 rfl (q := 0) rfl ?_
          refine z_goto (tgt := 64) F dX12_number_60 (by decide +kernel) ?_
          exact hret _ _ 64 _ (by omega) ⟨hI, hW⟩ ⟨⟨by omega, by omega⟩, hF, (by omega), ⟨nbaR (by omega) (by unfold tkR; omega) ⟨(by unfold vlR; rw [if_pos (by omega)]; omega), (by unfold vlR; rw [if_pos (by omega)]; omega), rfl⟩ (yp15 (by omega)), fun q => (show _ = s_vl (absR M) from by rw [(vR_tk (by omega)).2.2.2]; unfold vlR; rw [if_pos (by omega)]; omega)⟩⟩ dX12_number_64
    · refine z_aload_n F dX12_number_31 rfl (q := 0) rfl ?_
      refine z_iconst F dX12_number_32 ?_
      refine zv_v (rest := []) F (kp_X12_blames l M ⟨hI, hW⟩ 3 (by omega) (by omega)) cs_X12_133 (T := TX12) (N := 44) (ci := 12) rfl gs_131 (by decide) (by decide) rfl rfl rfl (Nat.le_of_ble_eq_true rfl) dX12_number_33 (fun M18 hI p19 => ?_)
      obtain ⟨hI, hW⟩ := hI
      obtain ⟨fp19, xp19, yp19⟩ := p19
      have hF := hF.call fp19 (by decide)
      have tM18_133_6 : M18 133 6 = M 133 6 := fp19.at (by decide)
      have tM18_133_1 : M18 133 1 = M 133 1 := fp19.at (by decide)
      refine z_aload_n F dX12_number_36 rfl (q := 0) rfl ?_
      refine gf_X12_102 F hI gs_131 rfl bd_131_11 dX12_number_37 (fun v20 ev20 av20 bv20 => ?_)
      refine z_istore_n F dX12_number_40 rfl (by decide) (ls' := [(3, ii v20), (0, .ref (ad 131)), (1, ii x0), (2, ii x1)]) rfl ?_
      refine z_aload_n F dX12_number_41 rfl (q := 1) rfl ?_
      refine gf_X12_108 F hI gs_131 rfl bd_131_12 dX12_number_42 (fun v21 ev21 av21 bv21 => ?_)
      refine z_if_ne (tgt := 52) F dX12_number_45 (by decide +kernel) (by omega) (fun c22 => ?_) (fun c22 => ?_)
      · refine z_aload_n F dX12_number_52 rfl (q := 1) rfl ?_
        refine gf_X12_108 F hI gs_131 rfl bd_131_12 dX12_number_53 (fun v23 ev23 av23 bv23 => ?_)
        have zv23 : v21 = v23 := ev21.trans ev23.symm
        subst zv23
        refine z_if_ne (tgt := 63) F dX12_number_56 (by decide +kernel) (by omega) (fun c24 => ?_) (fun c24 => by exfalso; omega)
        refine z_iload_n F dX12_number_63 rfl (q := 2) rfl ?_
        exact hret _ _ 64 _ (by omega) ⟨hI, hW⟩ ⟨⟨by omega, by omega⟩, hF, (by omega), ⟨nb3R (by unfold tkR; omega) (fun q => by have q1 := q.1; have q2 := q.2.1; unfold vlR at q1 q2; rw [if_pos (by omega)] at q1 q2; omega) yp19, (fun q => by exfalso; omega)⟩⟩ dX12_number_64
      · refine z_aload_n F dX12_number_48 rfl (q := 1) rfl ?_
        refine zv_v (rest := []) F (kp_X12_readsOn l M18 ⟨hI, hW⟩ (by omega)) cs_X12_127 (T := TX12) (N := 44) (ci := 12) rfl gs_131 (by decide) (by decide) rfl rfl rfl (Nat.le_of_ble_eq_true rfl) dX12_number_49 (fun M25 hI p26 => ?_)
        obtain ⟨hI, hW⟩ := hI
        obtain ⟨fp26, xp26, yp26⟩ := p26
        have hF := hF.call fp26 (by decide)
        have tM25_133_6 : M25 133 6 = M18 133 6 := fp26.at (by decide)
        have tM25_133_1 : M25 133 1 = M18 133 1 := fp26.at (by decide)
        refine z_aload_n F dX12_number_52 rfl (q := 1) rfl ?_
        refine gf_X12_108 F hI gs_131 rfl bd_131_12 dX12_number_53 (fun v27 ev27 av27 bv27 => ?_)
        refine z_if_ne (tgt := 63) F dX12_number_56 (by decide +kernel) (by omega) (fun c28 => ?_) (fun c28 => ?_)
        · refine z_iload_n F dX12_number_63 rfl (q := 2) rfl ?_
          exact hret _ _ 64 _ (by omega) ⟨hI, hW⟩ ⟨⟨by omega, by omega⟩, hF, (by omega), (by exfalso; omega)⟩ dX12_number_64
        · refine z_iload_n F dX12_number_59 rfl (q := 0) rfl ?_
          refine z_goto (tgt := 64) F dX12_number_60 (by decide +kernel) ?_
          exact hret _ _ 64 _ (by omega) ⟨hI, hW⟩ ⟨⟨by omega, by omega⟩, hF, (by omega), (by exfalso; omega)⟩ dX12_number_64
  · refine z_aload_n F dX12_number_8 rfl (q := 0) rfl ?_
    refine z_iconst F dX12_number_9 ?_
    refine zv_v (rest := []) F (kp_X12_blames l M ⟨hI, hW⟩ 2 (by omega) (by omega)) cs_X12_133 (T := TX12) (N := 44) (ci := 12) rfl gs_131 (by decide) (by decide) rfl rfl rfl (Nat.le_of_ble_eq_true rfl) dX12_number_10 (fun M29 hI p30 => ?_)
    obtain ⟨hI, hW⟩ := hI
    obtain ⟨fp30, xp30, yp30⟩ := p30
    have hF := hF.call fp30 (by decide)
    have tM29_133_6 : M29 133 6 = M 133 6 := fp30.at (by decide)
    have tM29_133_1 : M29 133 1 = M 133 1 := fp30.at (by decide)
    refine z_goto (tgt := 36) F dX12_number_13 (by decide +kernel) ?_
    refine z_aload_n F dX12_number_36 rfl (q := 0) rfl ?_
    refine gf_X12_102 F hI gs_131 rfl bd_131_11 dX12_number_37 (fun v31 ev31 av31 bv31 => ?_)
    refine z_istore_n F dX12_number_40 rfl (by decide) (ls' := [(3, ii v31), (0, .ref (ad 131)), (1, ii x0), (2, ii x1)]) rfl ?_
    refine z_aload_n F dX12_number_41 rfl (q := 1) rfl ?_
    refine gf_X12_108 F hI gs_131 rfl bd_131_12 dX12_number_42 (fun v32 ev32 av32 bv32 => ?_)
    refine z_if_ne (tgt := 52) F dX12_number_45 (by decide +kernel) (by omega) (fun c33 => ?_) (fun c33 => ?_)
    · refine z_aload_n F dX12_number_52 rfl (q := 1) rfl ?_
      refine gf_X12_108 F hI gs_131 rfl bd_131_12 dX12_number_53 (fun v34 ev34 av34 bv34 => ?_)
      have zv34 : v32 = v34 := ev32.trans ev34.symm
      subst zv34
      refine z_if_ne (tgt := 63) F dX12_number_56 (by decide +kernel) (by omega) (fun c35 => ?_) (fun c35 => by exfalso; omega)
      refine z_iload_n F dX12_number_63 rfl (q := 2) rfl ?_
      exact hret _ _ 64 _ (by omega) ⟨hI, hW⟩ ⟨⟨by omega, by omega⟩, hF, (by omega), ⟨nb2R (by unfold tkR; omega) yp30, (fun q => by exfalso; omega)⟩⟩ dX12_number_64
    · refine z_aload_n F dX12_number_48 rfl (q := 1) rfl ?_
      refine zv_v (rest := []) F (kp_X12_readsOn l M29 ⟨hI, hW⟩ (by omega)) cs_X12_127 (T := TX12) (N := 44) (ci := 12) rfl gs_131 (by decide) (by decide) rfl rfl rfl (Nat.le_of_ble_eq_true rfl) dX12_number_49 (fun M36 hI p37 => ?_)
      obtain ⟨hI, hW⟩ := hI
      obtain ⟨fp37, xp37, yp37⟩ := p37
      have hF := hF.call fp37 (by decide)
      have tM36_133_6 : M36 133 6 = M29 133 6 := fp37.at (by decide)
      have tM36_133_1 : M36 133 1 = M29 133 1 := fp37.at (by decide)
      refine z_aload_n F dX12_number_52 rfl (q := 1) rfl ?_
      refine gf_X12_108 F hI gs_131 rfl bd_131_12 dX12_number_53 (fun v38 ev38 av38 bv38 => ?_)
      refine z_if_ne (tgt := 63) F dX12_number_56 (by decide +kernel) (by omega) (fun c39 => ?_) (fun c39 => ?_)
      · refine z_iload_n F dX12_number_63 rfl (q := 2) rfl ?_
        exact hret _ _ 64 _ (by omega) ⟨hI, hW⟩ ⟨⟨by omega, by omega⟩, hF, (by omega), (by exfalso; omega)⟩ dX12_number_64
      · refine z_iload_n F dX12_number_59 rfl (q := 0) rfl ?_
        refine z_goto (tgt := 64) F dX12_number_60 (by decide +kernel) ?_
        exact hret _ _ 64 _ (by omega) ⟨hI, hW⟩ ⟨⟨by omega, by omega⟩, hF, (by omega), (by exfalso; omega)⟩ dX12_number_64
set_option maxHeartbeats 4000000 in
set_option maxRecDepth 4000 in
theorem kp_X12_readAtom (l : Launch) (nr : Nat) (ih : RdR l nr) : ∀ (M : Mem) (hJ : Iw M) (hp0 : 0 ≤ M 131 9 ∧ M 131 9 ≤ M 131 8 ∧ M 131 8 ≤ M 131 7 ∧ M 131 7 ≤ 900 ∧ (M 131 10 = 0 ∨ M 131 9 < M 131 8)) (hp1 : 0 ≤ M 131 16 ∧ (M 131 16 ≤ 6 ∨ M 131 16 = 7 ∧ ¬ M 131 12 = 0)) (hp2 : M 133 6 ≤ M 131 9) (hp3 : ¬ M 131 12 = 0 ∨ 0 ≤ Cu M ∧ Cu M + 2 * (6 - M 131 16) + 1 ≤ 64) (hp4 : Wl M) (hmu : (7 - M 131 16) * 8 + 1 < ((nr + 1 : Nat) : Int)), CV l yX12_readAtom cX12_readAtom 3 none (14 + (nr + 1)) (fun ad => [.ref (ad 131)]) M (fun M' => Fr [131, 133] M M' ∧ (Wl M' ∧ 0 ≤ M' 131 9 ∧ M' 131 9 ≤ M' 131 8 ∧ M' 131 8 ≤ M' 131 7 ∧ M' 131 7 ≤ 900 ∧ (M' 131 10 = 0 ∨ M' 131 9 < M' 131 8) ∧ M' 131 7 = M 131 7 ∧ M' 131 16 = M 131 16 ∧ M 131 9 ≤ M' 131 9 ∧ M' 133 6 + M 131 9 ≤ M 133 6 + M' 131 9 ∧ (M' 131 12 = 0 → M 131 12 = 0 ∧ Cu M' = Cu M + 1) ∧ M' 133 1 = M 133 1) ∧ (RdE 5 (M 131 16) (absR M) (absR M'))) := by
  intro M hJ hp0 hp1 hp2 hp3 hp4 hmu
  obtain ⟨hI, hW⟩ := hJ
  have hF : Fr [131, 133] M M := Fr.rf
  refine en_v (by decide +kernel) (fun ad => by exact Nat.le_of_ble_eq_true rfl) (fun D cy ad A p e s m args below meth c Q F hret => ?_)
  refine z_eq (ls' := [(0, .ref (ad 131))]) rfl rfl rfl ?_
  have hL := hp4
  refine z_aload_n F dX12_readAtom_0 rfl (q := 0) rfl ?_
  refine gf_X12_108 F hI gs_131 rfl bd_131_12 dX12_readAtom_1 (fun v1 ev1 av1 bv1 => ?_)
  refine z_if_eq (tgt := 8) F dX12_readAtom_4 (by decide +kernel) (by omega) (fun c2 => ?_) (fun c2 => ?_)
  · refine z_aload_n F dX12_readAtom_8 rfl (q := 0) rfl ?_
    refine zv_i (rest := []) F (kp_X12_lawWord l M ⟨hI, hW⟩ (by omega)) cs_X12_196 (T := TX12) (N := 44) (ci := 12) rfl gs_131 (by omega) (by decide) rfl rfl rfl (Nat.le_of_ble_eq_true rfl) dX12_readAtom_9 (fun v3 M4 rv3 hI p5 => ?_)
    obtain ⟨hI, hW⟩ := hI
    obtain ⟨⟨av3, bv3⟩, fp5, xp5, yp5⟩ := p5
    have hF := hF.call fp5 (by decide)
    have tM4_133_6 : M4 133 6 = M 133 6 := fp5.at (by decide)
    have tM4_133_1 : M4 133 1 = M 133 1 := fp5.at (by decide)
    have hq9 := wl_fr fp5 (by decide)
    have hL := hq9.2 hL
    have cM4 := hq9.1
    clear hq9
    refine z_istore_n F dX12_readAtom_12 rfl (by decide) (ls' := [(1, ii v3), (0, .ref (ad 131))]) rfl ?_
    refine z_iload_n F dX12_readAtom_13 rfl (q := 0) rfl ?_
    refine z_iconst F dX12_readAtom_14 ?_
    refine z_icmp_eq (tgt := 29) F dX12_readAtom_15 (by decide +kernel) (by omega) (by omega) (fun c6 => ?_) (fun c6 => ?_)
    · refine z_aload_n F dX12_readAtom_29 rfl (q := 1) rfl ?_
      refine z_bipush F dX12_readAtom_30 (by decide +kernel) ?_
      refine zv_i (rest := []) F (kp_X12_isSign l M4 ⟨hI, hW⟩ 40 (by omega) (by omega)) cs_X12_162 (T := TX12) (N := 44) (ci := 12) rfl gs_131 (by omega) (by decide) rfl rfl rfl (Nat.le_of_ble_eq_true rfl) dX12_readAtom_32 (fun v7 M8 rv7 hI p9 => ?_)
      obtain ⟨hI, hW⟩ := hI
      obtain ⟨⟨av7, bv7⟩, rfl, xp9, yp9⟩ := p9
      refine z_if_eq (tgt := 65) F dX12_readAtom_35 (by decide +kernel) (by omega) (fun c10 => ?_) (fun c10 => ?_)
      · refine z_aload_n F dX12_readAtom_65 rfl (q := 1) rfl ?_
        refine z_iconst F dX12_readAtom_66 ?_
        refine z_sipush F dX12_readAtom_67 (by decide +kernel) ?_
        have hv11 := hI.at (show Bd 131 11 = (0, 999) from rfl)
        refine zv_i (rest := []) F (kp_X12_number l M4 ⟨hI, hW⟩ 0 (by omega) (by omega) 999 (by omega) (by omega) (by omega)) cs_X12_199 (T := TX12) (N := 44) (ci := 12) rfl gs_131 (by omega) (by decide) rfl rfl rfl (Nat.le_of_ble_eq_true rfl) dX12_readAtom_70 (fun v11 M12 rv11 hI p13 => ?_)
        obtain ⟨hI, hW⟩ := hI
        obtain ⟨⟨av11, bv11⟩, fp13, xp13, yp13⟩ := p13
        have hF := hF.call fp13 (by decide)
        have tM12_133_6 : M12 133 6 = M4 133 6 := fp13.at (by decide)
        have tM12_133_1 : M12 133 1 = M4 133 1 := fp13.at (by decide)
        have hq9 := wl_fr fp13 (by decide)
        have hL := hq9.2 hL
        have cM12 := hq9.1
        clear hq9
        have hkv11 : 0 ≤ v11 ∧ v11 ≤ 999 := by omega
        refine z_istore_n F dX12_readAtom_73 rfl (by decide) (ls' := [(2, ii v11), (1, ii v3), (0, .ref (ad 131))]) rfl ?_
        refine z_aload_n F dX12_readAtom_74 rfl (q := 2) rfl ?_
        refine z_sipush F dX12_readAtom_75 (by decide +kernel) ?_
        refine z_iload_n F dX12_readAtom_78 rfl (q := 0) rfl ?_
        refine z_iadd F dX12_readAtom_79 ?_
        refine zv_v (rest := []) F (kp_X12_laysStep l M12 ⟨hI, hW⟩ (1000 + v11) (by omega) (by omega) (by omega) hL (by omega)) cs_X12_149 (T := TX12) (N := 44) (ci := 12) rfl gs_131 (by omega) (by decide) rfl rfl rfl (Nat.le_of_ble_eq_true rfl) dX12_readAtom_80 (fun M14 hI p15 => ?_)
        obtain ⟨hI, hW⟩ := hI
        obtain ⟨fp15, xp15, yp15⟩ := p15
        have hF := hF.call fp15 (by decide)
        have tM14_131_7 : M14 131 7 = M12 131 7 := fp15.at (by decide)
        have tM14_131_8 : M14 131 8 = M12 131 8 := fp15.at (by decide)
        have tM14_131_9 : M14 131 9 = M12 131 9 := fp15.at (by decide)
        have tM14_131_10 : M14 131 10 = M12 131 10 := fp15.at (by decide)
        have tM14_131_12 : M14 131 12 = M12 131 12 := fp15.at (by decide)
        have tM14_131_16 : M14 131 16 = M12 131 16 := fp15.at (by decide)
        have tM14_133_1 : M14 133 1 = M12 133 1 := fp15.fr (by decide) (by decide)
        obtain ⟨hL, xp15⟩ := xp15
        obtain ⟨b16, a17⟩ : lawW (absR M) = false ∧ absR M4 = absR M := yp5.elim (fun q => absurd (by omega) q.1) (fun q => q.2)
        have c20 := wz_f yp9 (by omega)
        rw [a17] at c20
        have y18 := yp13.1
        rw [num_any (vlR_b hv11).1 (vlR_b hv11).2, a17] at y18
        exact hret _ 83 _ ⟨hI, hW⟩ ⟨hF, ⟨hL, by omega⟩, (by rw [yp15, ← y18]; exact r_num b16 c20)⟩ dX12_readAtom_83
      · refine z_aload_n F dX12_readAtom_38 rfl (q := 1) rfl ?_
        refine zv_v (rest := []) F (kp_X12_goesIn l M4 ⟨hI, hW⟩ (by omega) (by omega)) cs_X12_159 (T := TX12) (N := 44) (ci := 12) rfl gs_131 (by omega) (by decide) rfl rfl rfl (Nat.le_of_ble_eq_true rfl) dX12_readAtom_39 (fun M21 hI p22 => ?_)
        obtain ⟨hI, hW⟩ := hI
        obtain ⟨fp22, xp22, yp22⟩ := p22
        have hF := hF.call fp22 (by decide)
        have tM21_133_6 : M21 133 6 = M4 133 6 := fp22.at (by decide)
        have tM21_133_1 : M21 133 1 = M4 133 1 := fp22.at (by decide)
        have hq9 := wl_fr fp22 (by decide)
        have hL := hq9.2 hL
        have cM21 := hq9.1
        clear hq9
        refine z_aload_n F dX12_readAtom_42 rfl (q := 1) rfl ?_
        refine zv_v (rest := []) F (ih.2.2.2.1 M21 ⟨hI, hW⟩ (by omega) (by omega) (by omega) (by omega) hL (by omega)) cs_X12_171 (T := TX12) (N := 44) (ci := 12) rfl gs_131 (by omega) (by decide) rfl rfl rfl (Nat.le_of_ble_eq_true rfl) dX12_readAtom_43 (fun M23 hI p24 => ?_)
        obtain ⟨hI, hW⟩ := hI
        obtain ⟨fp24, xp24, yp24⟩ := p24
        have hF := hF.call fp24 (by decide)
        have tM23_133_1 : M23 133 1 = M21 133 1 := fp24.fr (by decide) (by decide)
        obtain ⟨hL, xp24⟩ := xp24
        refine z_aload_n F dX12_readAtom_46 rfl (q := 1) rfl ?_
        refine z_bipush F dX12_readAtom_47 (by decide +kernel) ?_
        refine zv_v (rest := []) F (kp_X12_mustSign l M23 ⟨hI, hW⟩ 41 (by omega) (by omega) (by omega)) cs_X12_168 (T := TX12) (N := 44) (ci := 12) rfl gs_131 (by omega) (by decide) rfl rfl rfl (Nat.le_of_ble_eq_true rfl) dX12_readAtom_49 (fun M25 hI p26 => ?_)
        obtain ⟨hI, hW⟩ := hI
        obtain ⟨fp26, xp26, yp26⟩ := p26
        have hF := hF.call fp26 (by decide)
        have tM25_133_6 : M25 133 6 = M23 133 6 := fp26.at (by decide)
        have tM25_133_1 : M25 133 1 = M23 133 1 := fp26.at (by decide)
        have hq9 := wl_fr fp26 (by decide)
        have hL := hq9.2 hL
        have cM25 := hq9.1
        clear hq9
        refine z_aload_n F dX12_readAtom_52 rfl (q := 1) rfl ?_
        refine z_dup F dX12_readAtom_53 rfl ?_
        refine gf_X12_141 F hI gs_131 rfl bd_131_16 dX12_readAtom_54 (fun v27 ev27 av27 bv27 => ?_)
        refine z_iconst F dX12_readAtom_57 ?_
        refine z_isub F dX12_readAtom_58 ?_
        refine z_wrap (fun v28 rv28 wv28 => ?_)
        refine pf_X12_141 F hI gs_131 rfl bd_131_16 rfl rfl dX12_readAtom_59 (by omega) (by omega) (fun M30 hI sf29 f29 => ?_)
        have tM30_131_7 : M30 131 7 = M25 131 7 := f29 131 7 (fun q => absurd q.2 (by decide))
        have tM30_131_8 : M30 131 8 = M25 131 8 := f29 131 8 (fun q => absurd q.2 (by decide))
        have tM30_131_9 : M30 131 9 = M25 131 9 := f29 131 9 (fun q => absurd q.2 (by decide))
        have tM30_131_10 : M30 131 10 = M25 131 10 := f29 131 10 (fun q => absurd q.2 (by decide))
        have tM30_131_12 : M30 131 12 = M25 131 12 := f29 131 12 (fun q => absurd q.2 (by decide))
        have tM30_133_6 : M30 133 6 = M25 133 6 := f29 133 6 (fun q => absurd q.1 (by decide))
        have tM30_133_1 : M30 133 1 = M25 133 1 := f29 133 1 (fun q => absurd q.1 (by decide))
        have hq9 := wl_ws f29 (by decide)
        have hL := hq9.2 hL
        have cM30 := hq9.1
        clear hq9
        have hF := hF.wrf f29 (by decide) (by decide)
        have hW : WFk M30 := hW.site f29 (by decide)
        refine z_goto (tgt := 83) F dX12_readAtom_62 (by decide +kernel) ?_
        obtain ⟨b31, a32⟩ : lawW (absR M) = false ∧ absR M4 = absR M := yp5.elim (fun q => absurd (by omega) q.1) (fun q => q.2)
        have c35 := wz_t yp9 (by omega)
        rw [a32] at c35
        have q34 := yp22 (by omega) (by omega)
        rw [show M4 131 16 = M 131 16 from by omega, a32] at q34
        have y33 := yp24
        rw [show M21 131 16 = M 131 16 + 1 from by omega, ← q34] at y33
        exact hret _ 83 _ ⟨hI, hW⟩ ⟨hF, ⟨hL, by omega⟩, (by rw [absR_16 f29, ← yp26]; exact r_par b31 c35 y33)⟩ dX12_readAtom_83
    · refine z_aload_n F dX12_readAtom_18 rfl (q := 1) rfl ?_
      refine z_bipush F dX12_readAtom_19 (by decide +kernel) ?_
      refine z_iload_n F dX12_readAtom_21 rfl (q := 0) rfl ?_
      refine z_iadd F dX12_readAtom_22 ?_
      refine zv_v (rest := []) F (kp_X12_laysStep l M4 ⟨hI, hW⟩ (100 + v3) (by omega) (by omega) (by omega) hL (by omega)) cs_X12_149 (T := TX12) (N := 44) (ci := 12) rfl gs_131 (by omega) (by decide) rfl rfl rfl (Nat.le_of_ble_eq_true rfl) dX12_readAtom_23 (fun M36 hI p37 => ?_)
      obtain ⟨hI, hW⟩ := hI
      obtain ⟨fp37, xp37, yp37⟩ := p37
      have hF := hF.call fp37 (by decide)
      have tM36_131_7 : M36 131 7 = M4 131 7 := fp37.at (by decide)
      have tM36_131_8 : M36 131 8 = M4 131 8 := fp37.at (by decide)
      have tM36_131_9 : M36 131 9 = M4 131 9 := fp37.at (by decide)
      have tM36_131_10 : M36 131 10 = M4 131 10 := fp37.at (by decide)
      have tM36_131_12 : M36 131 12 = M4 131 12 := fp37.at (by decide)
      have tM36_131_16 : M36 131 16 = M4 131 16 := fp37.at (by decide)
      have tM36_133_1 : M36 133 1 = M4 133 1 := fp37.fr (by decide) (by decide)
      obtain ⟨hL, xp37⟩ := xp37
      refine z_goto (tgt := 83) F dX12_readAtom_26 (by decide +kernel) ?_
      obtain ⟨b38, a39⟩ : lawW (absR M) = true ∧ adv (absR M) = absR M4 := yp5.elim (fun q => q.2) (fun q => absurd q.1 (by omega))
      exact hret _ 83 _ ⟨hI, hW⟩ ⟨hF, ⟨hL, by omega⟩, (by rw [yp37, ← a39]; exact r_law b38)⟩ dX12_readAtom_83
  · exact hret _ 7 _ ⟨hI, hW⟩ ⟨hF, ⟨hL, by omega⟩, (rdE_f (by rw [vR_fl]; omega))⟩ dX12_readAtom_7
theorem RdR_all (l : Launch) : ∀ nr : Nat, RdR l nr := by
  intro nr
  induction nr with
  | zero => exact ⟨fun M hJ hp0 hp1 hp2 hp3 hp4 hmu => by exfalso; omega, fun M hJ hp0 hp1 hp2 hp3 hp4 hmu => by exfalso; omega, fun M hJ hp0 hp1 hp2 hp3 hp4 hmu => by exfalso; omega, fun M hJ hp0 hp1 hp2 hp3 hp4 hmu => by exfalso; omega, fun M hJ hp0 hp1 hp2 hp3 hp4 hmu => by exfalso; omega, fun M hJ hp0 hp1 hp2 hp3 hp4 hmu => by exfalso; omega⟩
  | succ nr ih => exact ⟨kp_X12_readTruth l nr ih, kp_X12_readBoth l nr ih, kp_X12_readUnit l nr ih, kp_X12_readSum l nr ih, kp_X12_readTerm l nr ih, kp_X12_readAtom l nr ih⟩
set_option maxHeartbeats 4000000 in
set_option maxRecDepth 4000 in
theorem kp_X12_begins (l : Launch) (M : Mem) (hJ : Iw M) (x0 : Int) (hx0a : 2 ≤ x0) (hx0b : x0 ≤ 4) (x1 : Int) (hx1a : 6 ≤ x1) (hx1b : x1 ≤ 20) (hp0 : 0 ≤ M 131 9 ∧ M 131 9 ≤ M 131 8 ∧ M 131 8 ≤ M 131 7 ∧ M 131 7 ≤ 900 ∧ (M 131 10 = 0 ∨ M 131 9 < M 131 8)) : CI l yX12_begins cX12_begins 3 (some .boolean) 3 (fun ad => [.ref (ad 131), ii x0, ii x1]) M (fun z M' => (0 ≤ z ∧ z ≤ 1) ∧ Fr [131] M M' ∧ (M' 131 7 = M 131 7 ∧ M' 131 16 = M 131 16 ∧ M 131 9 ≤ M' 131 9 ∧ 0 ≤ M' 131 9 ∧ M' 131 9 ≤ M' 131 8 ∧ M' 131 8 ≤ M' 131 7 ∧ M' 131 7 ≤ 900 ∧ (M' 131 10 = 0 ∨ M' 131 9 < M' 131 8) ∧ (z = 1 → M' 131 12 = 0 ∧ M 131 12 = 0 ∧ ¬ M 133 x0.toNat = x1) ∧ (M' 131 12 = 0 → M 131 12 = 0) ∧ (z = 0 → ¬ M' 131 12 = 0)) ∧ (Im (M 131 12 = 0) (Im (¬ M 131 10 = 3) (Im (M 133 x0.toNat ≤ x1) (begT (M 133 x0.toNat) x1 (absR M) = absR M'))))) := by
  obtain ⟨hI, hW⟩ := hJ
  have hF : Fr [131] M M := Fr.rf
  refine en_z (by decide +kernel) (fun ad => by exact Nat.le_of_ble_eq_true rfl) (fun D cy ad A p e s m args below meth c Q F hret => ?_)
  refine z_eq (ls' := [(0, .ref (ad 131)), (1, ii x0), (2, ii x1)]) rfl rfl rfl ?_
  refine z_aload_n F dX12_begins_0 rfl (q := 0) rfl ?_
  refine rf_X12_13 F gs_131 rfl dX12_begins_1 ?_
  refine z_iload_n F dX12_begins_4 rfl (q := 1) rfl ?_
  refine z_ialdB F hI gs_133 (by omega) (by omega) (by decide) kn_w dX12_begins_5 (fun v1 ev1 av1 bv1 rv1 => ?_)
  refine z_iload_n F dX12_begins_6 rfl (q := 2) rfl ?_
  refine z_icmp_ne (tgt := 15) F dX12_begins_7 (by decide +kernel) (by omega) (by omega) (fun c2 => ?_) (fun c2 => ?_)
  · refine z_aload_n F dX12_begins_15 rfl (q := 0) rfl ?_
    refine gf_X12_108 F hI gs_131 rfl bd_131_12 dX12_begins_16 (fun v3 ev3 av3 bv3 => ?_)
    refine z_if_ne (tgt := 26) F dX12_begins_19 (by decide +kernel) (by omega) (fun c4 => ?_) (fun c4 => ?_)
    · refine z_aload_n F dX12_begins_26 rfl (q := 0) rfl ?_
      refine gf_X12_108 F hI gs_131 rfl bd_131_12 dX12_begins_27 (fun v5 ev5 av5 bv5 => ?_)
      have zv5 : v3 = v5 := ev3.trans ev5.symm
      subst zv5
      refine z_if_ne (tgt := 37) F dX12_begins_30 (by decide +kernel) (by omega) (fun c6 => ?_) (fun c6 => by exfalso; omega)
      refine z_iconst F dX12_begins_37 ?_
      exact hret _ _ 38 _ ⟨by omega, by omega⟩ ⟨hI, hW⟩ ⟨⟨by omega, by omega⟩, hF, (by omega), (fun h0 ht hn => by exfalso; omega)⟩ dX12_begins_38
    · refine z_aload_n F dX12_begins_22 rfl (q := 0) rfl ?_
      refine zv_v (rest := []) F (kp_X12_readsOn l M ⟨hI, hW⟩ (by omega)) cs_X12_127 (T := TX12) (N := 44) (ci := 12) rfl gs_131 (by decide) (by decide) rfl rfl rfl (Nat.le_of_ble_eq_true rfl) dX12_begins_23 (fun M7 hI p8 => ?_)
      obtain ⟨hI, hW⟩ := hI
      obtain ⟨fp8, xp8, yp8⟩ := p8
      have hF := hF.call fp8 (by decide)
      have tM7_133_6 : M7 133 6 = M 133 6 := fp8.at (by decide)
      have tM7_133_1 : M7 133 1 = M 133 1 := fp8.at (by decide)
      refine z_aload_n F dX12_begins_26 rfl (q := 0) rfl ?_
      refine gf_X12_108 F hI gs_131 rfl bd_131_12 dX12_begins_27 (fun v9 ev9 av9 bv9 => ?_)
      refine z_if_ne (tgt := 37) F dX12_begins_30 (by decide +kernel) (by omega) (fun c10 => ?_) (fun c10 => ?_)
      · refine z_iconst F dX12_begins_37 ?_
        exact hret _ _ 38 _ ⟨by omega, by omega⟩ ⟨hI, hW⟩ ⟨⟨by omega, by omega⟩, hF, (by omega), (fun h0 ht hn => beg_a (by omega) (yp8 h0))⟩ dX12_begins_38
      · refine z_iconst F dX12_begins_33 ?_
        refine z_goto (tgt := 38) F dX12_begins_34 (by decide +kernel) ?_
        exact hret _ _ 38 _ ⟨by omega, by omega⟩ ⟨hI, hW⟩ ⟨⟨by omega, by omega⟩, hF, (by omega), (fun h0 ht hn => beg_a (by omega) (yp8 h0))⟩ dX12_begins_38
  · refine z_aload_n F dX12_begins_10 rfl (q := 0) rfl ?_
    refine z_iconst F dX12_begins_11 ?_
    refine zv_v (rest := []) F (kp_X12_blames l M ⟨hI, hW⟩ 4 (by omega) (by omega)) cs_X12_133 (T := TX12) (N := 44) (ci := 12) rfl gs_131 (by decide) (by decide) rfl rfl rfl (Nat.le_of_ble_eq_true rfl) dX12_begins_12 (fun M11 hI p12 => ?_)
    obtain ⟨hI, hW⟩ := hI
    obtain ⟨fp12, xp12, yp12⟩ := p12
    have hF := hF.call fp12 (by decide)
    have tM11_133_6 : M11 133 6 = M 133 6 := fp12.at (by decide)
    have tM11_133_1 : M11 133 1 = M 133 1 := fp12.at (by decide)
    refine z_aload_n F dX12_begins_15 rfl (q := 0) rfl ?_
    refine gf_X12_108 F hI gs_131 rfl bd_131_12 dX12_begins_16 (fun v13 ev13 av13 bv13 => ?_)
    refine z_if_ne (tgt := 26) F dX12_begins_19 (by decide +kernel) (by omega) (fun c14 => ?_) (fun c14 => ?_)
    · refine z_aload_n F dX12_begins_26 rfl (q := 0) rfl ?_
      refine gf_X12_108 F hI gs_131 rfl bd_131_12 dX12_begins_27 (fun v15 ev15 av15 bv15 => ?_)
      have zv15 : v13 = v15 := ev13.trans ev15.symm
      subst zv15
      refine z_if_ne (tgt := 37) F dX12_begins_30 (by decide +kernel) (by omega) (fun c16 => ?_) (fun c16 => by exfalso; omega)
      refine z_iconst F dX12_begins_37 ?_
      exact hret _ _ 38 _ ⟨by omega, by omega⟩ ⟨hI, hW⟩ ⟨⟨by omega, by omega⟩, hF, (by omega), (fun h0 ht hn => beg_4 (by omega) (bl_set (by rw [(vR_tk h0).1]; exact ht) yp12))⟩ dX12_begins_38
    · refine z_aload_n F dX12_begins_22 rfl (q := 0) rfl ?_
      refine zv_v (rest := []) F (kp_X12_readsOn l M11 ⟨hI, hW⟩ (by omega)) cs_X12_127 (T := TX12) (N := 44) (ci := 12) rfl gs_131 (by decide) (by decide) rfl rfl rfl (Nat.le_of_ble_eq_true rfl) dX12_begins_23 (fun M17 hI p18 => ?_)
      obtain ⟨hI, hW⟩ := hI
      obtain ⟨fp18, xp18, yp18⟩ := p18
      have hF := hF.call fp18 (by decide)
      have tM17_133_6 : M17 133 6 = M11 133 6 := fp18.at (by decide)
      have tM17_133_1 : M17 133 1 = M11 133 1 := fp18.at (by decide)
      refine z_aload_n F dX12_begins_26 rfl (q := 0) rfl ?_
      refine gf_X12_108 F hI gs_131 rfl bd_131_12 dX12_begins_27 (fun v19 ev19 av19 bv19 => ?_)
      refine z_if_ne (tgt := 37) F dX12_begins_30 (by decide +kernel) (by omega) (fun c20 => ?_) (fun c20 => ?_)
      · refine z_iconst F dX12_begins_37 ?_
        exact hret _ _ 38 _ ⟨by omega, by omega⟩ ⟨hI, hW⟩ ⟨⟨by omega, by omega⟩, hF, (by omega), (fun h0 ht hn => by exfalso; omega)⟩ dX12_begins_38
      · refine z_iconst F dX12_begins_33 ?_
        refine z_goto (tgt := 38) F dX12_begins_34 (by decide +kernel) ?_
        exact hret _ _ 38 _ ⟨by omega, by omega⟩ ⟨hI, hW⟩ ⟨⟨by omega, by omega⟩, hF, (by omega), (fun h0 ht hn => by exfalso; omega)⟩ dX12_begins_38
