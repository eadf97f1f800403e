theorem dX6_sortOf_0 : decode cX6_sortOf 0 = .ok (.iload_n 0, 1) := by decide +kernel
theorem dX6_sortOf_1 : decode cX6_sortOf 1 = .ok (.bipush 97, 2) := by decide +kernel
theorem dX6_sortOf_12 : decode cX6_sortOf 12 = .ok (.iconst 1, 1) := by decide +kernel
theorem dX6_sortOf_13 : decode cX6_sortOf 13 = .ok (.ireturn, 1) := by decide +kernel
theorem dX6_sortOf_14 : decode cX6_sortOf 14 = .ok (.iload_n 0, 1) := by decide +kernel
theorem dX6_sortOf_15 : decode cX6_sortOf 15 = .ok (.bipush 48, 2) := by decide +kernel
theorem dX6_sortOf_17 : decode cX6_sortOf 17 = .ok (.if_icmp .lt 11, 3) := by decide +kernel
theorem dX6_sortOf_20 : decode cX6_sortOf 20 = .ok (.iload_n 0, 1) := by decide +kernel
theorem dX6_sortOf_21 : decode cX6_sortOf 21 = .ok (.bipush 57, 2) := by decide +kernel
theorem dX6_sortOf_23 : decode cX6_sortOf 23 = .ok (.if_icmp .gt 5, 3) := by decide +kernel
theorem dX6_sortOf_26 : decode cX6_sortOf 26 = .ok (.iconst 2, 1) := by decide +kernel
theorem dX6_sortOf_27 : decode cX6_sortOf 27 = .ok (.ireturn, 1) := by decide +kernel
theorem dX6_sortOf_28 : decode cX6_sortOf 28 = .ok (.iload_n 0, 1) := by decide +kernel
theorem dX6_sortOf_29 : decode cX6_sortOf 29 = .ok (.ifCond .le 17, 3) := by decide +kernel
theorem dX6_sortOf_3 : decode cX6_sortOf 3 = .ok (.if_icmp .lt 11, 3) := by decide +kernel
theorem dX6_sortOf_32 : decode cX6_sortOf 32 = .ok (.ldc 67, 2) := by decide +kernel
theorem dX6_sortOf_34 : decode cX6_sortOf 34 = .ok (.iload_n 0, 1) := by decide +kernel
theorem dX6_sortOf_35 : decode cX6_sortOf 35 = .ok (.i2c, 1) := by decide +kernel
theorem dX6_sortOf_36 : decode cX6_sortOf 36 = .ok (.invokevirtual 69, 3) := by decide +kernel
theorem dX6_sortOf_39 : decode cX6_sortOf 39 = .ok (.ifCond .lt 7, 3) := by decide +kernel
theorem dX6_sortOf_42 : decode cX6_sortOf 42 = .ok (.iconst 3, 1) := by decide +kernel
theorem dX6_sortOf_43 : decode cX6_sortOf 43 = .ok (.goto 4, 3) := by decide +kernel
theorem dX6_sortOf_46 : decode cX6_sortOf 46 = .ok (.iconst 4, 1) := by decide +kernel
theorem dX6_sortOf_47 : decode cX6_sortOf 47 = .ok (.ireturn, 1) := by decide +kernel
theorem dX6_sortOf_6 : decode cX6_sortOf 6 = .ok (.iload_n 0, 1) := by decide +kernel
theorem dX6_sortOf_7 : decode cX6_sortOf 7 = .ok (.bipush 122, 2) := by decide +kernel
theorem dX6_sortOf_9 : decode cX6_sortOf 9 = .ok (.if_icmp .gt 5, 3) := by decide +kernel
set_option maxHeartbeats 4000000 in
set_option maxRecDepth 4000 in
theorem kp_X6_sortOf (l : Launch) (M : Mem) (hJ : Iw M) (x0 : Int) (hx0a : (-128) ≤ x0) (hx0b : x0 ≤ 127) : CI l yX6_sortOf cX6_sortOf 1 (some .int) 5 (fun ad => [ii x0]) M (fun z M' => (1 ≤ z ∧ z ≤ 4) ∧ M = M' ∧ (So z x0)) := by
  obtain ⟨hI, hW⟩ := hJ
  refine en_i (by decide +kernel) (fun ad => by exact Nat.le_of_ble_eq_true rfl) (fun D cy ad A p e s m args below meth c Q F hret => ?_)
  refine z_eq (ls' := [(0, ii x0)]) rfl rfl rfl ?_
  refine z_iload_n F dX6_sortOf_0 rfl (q := 0) rfl ?_
  refine z_bipush F dX6_sortOf_1 (by decide +kernel) ?_
  refine z_icmp_lt (tgt := 14) F dX6_sortOf_3 (by decide +kernel) (by omega) (by omega) (fun c1 => ?_) (fun c1 => ?_)
  · refine z_iload_n F dX6_sortOf_14 rfl (q := 0) rfl ?_
    refine z_bipush F dX6_sortOf_15 (by decide +kernel) ?_
    refine z_icmp_lt (tgt := 28) F dX6_sortOf_17 (by decide +kernel) (by omega) (by omega) (fun c2 => ?_) (fun c2 => ?_)
    · refine z_iload_n F dX6_sortOf_28 rfl (q := 0) rfl ?_
      refine z_if_le (tgt := 46) F dX6_sortOf_29 (by decide +kernel) (by omega) (fun c3 => ?_) (fun c3 => ?_)
      · refine z_iconst F dX6_sortOf_46 ?_
        exact hret _ _ 47 _ (by omega) ⟨hI, hW⟩ ⟨⟨by omega, by omega⟩, rfl, (Or.inr (Or.inr (Or.inr ⟨rfl, by unfold c_sg; omega, by unfold c_lt; omega, by unfold c_dg; omega⟩)))⟩ dX6_sortOf_47
      · refine z_ldcS (j := 1) F dX6_sortOf_32 rfl rfl rfl ?_
        refine z_eq (st' := [.ref (ad 1001)]) rfl rfl rfl ?_
        refine z_iload_n F dX6_sortOf_34 rfl (q := 0) rfl ?_
        refine z_i2c F dX6_sortOf_35 (fun v4 ev4 av4 => ?_)
        refine zvs_i (i := 1) (rest := []) F (kS_ix l M ⟨hI, hW⟩ 1 (by decide) v4 (by omega)) cs_X6_69 (by decide) (by decide) (by decide) rfl rfl rfl (Nat.le_of_ble_eq_true rfl) dX6_sortOf_36 (fun v5 M9 rv5 hI9 pv5 => ?_)
        obtain ⟨⟨⟨av5, bv5⟩, iv5⟩, rfl⟩ := pv5
        rw [show ((sbyt.getD 1 []).length : Int) = 11 from by decide] at bv5 iv5
        clear hI9
        have soc : v4 = x0 := i2c_s (by omega) (by omega) ev4
        have sox := sg_ix1 (iv5 (by omega) (by omega)) bv5
        rw [soc] at sox
        refine z_if_lt (tgt := 46) F dX6_sortOf_39 (by decide +kernel) (by omega) (fun c6 => ?_) (fun c6 => ?_)
        · refine z_iconst F dX6_sortOf_46 ?_
          exact hret _ _ 47 _ (by omega) ⟨hI, hW⟩ ⟨⟨by omega, by omega⟩, rfl, (Or.inr (Or.inr (Or.inr ⟨rfl, sox.2 (by omega), by unfold c_lt; omega, by unfold c_dg; omega⟩)))⟩ dX6_sortOf_47
        · refine z_iconst F dX6_sortOf_42 ?_
          refine z_goto (tgt := 47) F dX6_sortOf_43 (by decide +kernel) ?_
          exact hret _ _ 47 _ (by omega) ⟨hI, hW⟩ ⟨⟨by omega, by omega⟩, rfl, (Or.inr (Or.inr (Or.inl ⟨rfl, sox.1 (by omega), by unfold c_lt; omega, by unfold c_dg; omega⟩)))⟩ dX6_sortOf_47
    · refine z_iload_n F dX6_sortOf_20 rfl (q := 0) rfl ?_
      refine z_bipush F dX6_sortOf_21 (by decide +kernel) ?_
      refine z_icmp_gt (tgt := 28) F dX6_sortOf_23 (by decide +kernel) (by omega) (by omega) (fun c7 => ?_) (fun c7 => ?_)
      · refine z_iload_n F dX6_sortOf_28 rfl (q := 0) rfl ?_
        refine z_if_le (tgt := 46) F dX6_sortOf_29 (by decide +kernel) (by omega) (fun c8 => by exfalso; omega) (fun c8 => ?_)
        refine z_ldcS (j := 1) F dX6_sortOf_32 rfl rfl rfl ?_
        refine z_eq (st' := [.ref (ad 1001)]) rfl rfl rfl ?_
        refine z_iload_n F dX6_sortOf_34 rfl (q := 0) rfl ?_
        refine z_i2c F dX6_sortOf_35 (fun v9 ev9 av9 => ?_)
        refine zvs_i (i := 1) (rest := []) F (kS_ix l M ⟨hI, hW⟩ 1 (by decide) v9 (by omega)) cs_X6_69 (by decide) (by decide) (by decide) rfl rfl rfl (Nat.le_of_ble_eq_true rfl) dX6_sortOf_36 (fun v10 M9 rv10 hI9 pv10 => ?_)
        obtain ⟨⟨⟨av10, bv10⟩, iv10⟩, rfl⟩ := pv10
        rw [show ((sbyt.getD 1 []).length : Int) = 11 from by decide] at bv10 iv10
        clear hI9
        have soc : v9 = x0 := i2c_s (by omega) (by omega) ev9
        have sox := sg_ix1 (iv10 (by omega) (by omega)) bv10
        rw [soc] at sox
        refine z_if_lt (tgt := 46) F dX6_sortOf_39 (by decide +kernel) (by omega) (fun c11 => ?_) (fun c11 => ?_)
        · refine z_iconst F dX6_sortOf_46 ?_
          exact hret _ _ 47 _ (by omega) ⟨hI, hW⟩ ⟨⟨by omega, by omega⟩, rfl, (Or.inr (Or.inr (Or.inr ⟨rfl, sox.2 (by omega), by unfold c_lt; omega, by unfold c_dg; omega⟩)))⟩ dX6_sortOf_47
        · refine z_iconst F dX6_sortOf_42 ?_
          refine z_goto (tgt := 47) F dX6_sortOf_43 (by decide +kernel) ?_
          exact hret _ _ 47 _ (by omega) ⟨hI, hW⟩ ⟨⟨by omega, by omega⟩, rfl, (Or.inr (Or.inr (Or.inl ⟨rfl, sox.1 (by omega), by unfold c_lt; omega, by unfold c_dg; omega⟩)))⟩ dX6_sortOf_47
      · refine z_iconst F dX6_sortOf_26 ?_
        exact hret _ _ 27 _ (by omega) ⟨hI, hW⟩ ⟨⟨by omega, by omega⟩, rfl, (by unfold So c_lt c_dg; omega)⟩ dX6_sortOf_27
  · refine z_iload_n F dX6_sortOf_6 rfl (q := 0) rfl ?_
    refine z_bipush F dX6_sortOf_7 (by decide +kernel) ?_
    refine z_icmp_gt (tgt := 14) F dX6_sortOf_9 (by decide +kernel) (by omega) (by omega) (fun c12 => ?_) (fun c12 => ?_)
    · refine z_iload_n F dX6_sortOf_14 rfl (q := 0) rfl ?_
      refine z_bipush F dX6_sortOf_15 (by decide +kernel) ?_
      refine z_icmp_lt (tgt := 28) F dX6_sortOf_17 (by decide +kernel) (by omega) (by omega) (fun c13 => by exfalso; omega) (fun c13 => ?_)
      refine z_iload_n F dX6_sortOf_20 rfl (q := 0) rfl ?_
      refine z_bipush F dX6_sortOf_21 (by decide +kernel) ?_
      refine z_icmp_gt (tgt := 28) F dX6_sortOf_23 (by decide +kernel) (by omega) (by omega) (fun c14 => ?_) (fun c14 => by exfalso; omega)
      refine z_iload_n F dX6_sortOf_28 rfl (q := 0) rfl ?_
      refine z_if_le (tgt := 46) F dX6_sortOf_29 (by decide +kernel) (by omega) (fun c15 => by exfalso; omega) (fun c15 => ?_)
      refine z_ldcS (j := 1) F dX6_sortOf_32 rfl rfl rfl ?_
      refine z_eq (st' := [.ref (ad 1001)]) rfl rfl rfl ?_
      refine z_iload_n F dX6_sortOf_34 rfl (q := 0) rfl ?_
      refine z_i2c F dX6_sortOf_35 (fun v16 ev16 av16 => ?_)
      refine zvs_i (i := 1) (rest := []) F (kS_ix l M ⟨hI, hW⟩ 1 (by decide) v16 (by omega)) cs_X6_69 (by decide) (by decide) (by decide) rfl rfl rfl (Nat.le_of_ble_eq_true rfl) dX6_sortOf_36 (fun v17 M9 rv17 hI9 pv17 => ?_)
      obtain ⟨⟨⟨av17, bv17⟩, iv17⟩, rfl⟩ := pv17
      rw [show ((sbyt.getD 1 []).length : Int) = 11 from by decide] at bv17 iv17
      clear hI9
      have soc : v16 = x0 := i2c_s (by omega) (by omega) ev16
      have sox := sg_ix1 (iv17 (by omega) (by omega)) bv17
      rw [soc] at sox
      refine z_if_lt (tgt := 46) F dX6_sortOf_39 (by decide +kernel) (by omega) (fun c18 => ?_) (fun c18 => ?_)
      · refine z_iconst F dX6_sortOf_46 ?_
        exact hret _ _ 47 _ (by omega) ⟨hI, hW⟩ ⟨⟨by omega, by omega⟩, rfl, (Or.inr (Or.inr (Or.inr ⟨rfl, sox.2 (by omega), by unfold c_lt; omega, by unfold c_dg; omega⟩)))⟩ dX6_sortOf_47
      · refine z_iconst F dX6_sortOf_42 ?_
        refine z_goto (tgt := 47) F dX6_sortOf_43 (by decide +kernel) ?_
        exact hret _ _ 47 _ (by omega) ⟨hI, hW⟩ ⟨⟨by omega, by omega⟩, rfl, (Or.inr (Or.inr (Or.inl ⟨rfl, sox.1 (by omega), by unfold c_lt; omega, by unfold c_dg; omega⟩)))⟩ dX6_sortOf_47
    · refine z_iconst F dX6_sortOf_12 ?_
      exact hret _ _ 13 _ (by omega) ⟨hI, hW⟩ ⟨⟨by omega, by omega⟩, rfl, (by unfold So c_lt c_dg; omega)⟩ dX6_sortOf_13
