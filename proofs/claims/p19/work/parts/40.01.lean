
set_option maxHeartbeats 4000000 in
set_option maxRecDepth 4000 in
theorem kp_X12_isLetter (l : Launch) (M : Mem) (hJ : Iw M) (x0 : Int) (hx0a : (-2147483648) ≤ x0) (hx0b : x0 ≤ 2147483647) : CI l yX12_isLetter cX12_isLetter 1 (some .boolean) 1 (fun ad => [ii x0]) M (fun z M' => (0 ≤ z ∧ z ≤ 1) ∧ M = M' ∧ (z = 1 ↔ 97 ≤ x0 ∧ x0 ≤ 122)) := by
  obtain ⟨hI, hW⟩ := hJ
  refine en_z (by decide +kernel) (fun ad => by exact Nat.le_of_ble_eq_true rfl) (fun D cy ad A p e s m args below meth c Q F hret => ?_)
  refine z_eq (ls' := [(0, ii x0)]) rfl rfl rfl ?_
  refine z_iload_n F dX12_isLetter_0 rfl (q := 0) rfl ?_
  refine z_bipush F dX12_isLetter_1 (by decide +kernel) ?_
  refine z_icmp_lt (tgt := 16) F dX12_isLetter_3 (by decide +kernel) (by omega) (by omega) (fun c1 => ?_) (fun c1 => ?_)
  · refine z_iconst F dX12_isLetter_16 ?_
    exact hret _ _ 17 _ ⟨by omega, by omega⟩ ⟨hI, hW⟩ ⟨⟨by omega, by omega⟩, rfl, (by omega)⟩ dX12_isLetter_17
  · refine z_iload_n F dX12_isLetter_6 rfl (q := 0) rfl ?_
    refine z_bipush F dX12_isLetter_7 (by decide +kernel) ?_
    refine z_icmp_gt (tgt := 16) F dX12_isLetter_9 (by decide +kernel) (by omega) (by omega) (fun c2 => ?_) (fun c2 => ?_)
    · refine z_iconst F dX12_isLetter_16 ?_
      exact hret _ _ 17 _ ⟨by omega, by omega⟩ ⟨hI, hW⟩ ⟨⟨by omega, by omega⟩, rfl, (by omega)⟩ dX12_isLetter_17
    · refine z_iconst F dX12_isLetter_12 ?_
      refine z_goto (tgt := 17) F dX12_isLetter_13 (by decide +kernel) ?_
      exact hret _ _ 17 _ ⟨by omega, by omega⟩ ⟨hI, hW⟩ ⟨⟨by omega, by omega⟩, rfl, (by omega)⟩ dX12_isLetter_17
set_option maxHeartbeats 4000000 in
set_option maxRecDepth 4000 in
theorem kp_X12_isDigit (l : Launch) (M : Mem) (hJ : Iw M) (x0 : Int) (hx0a : (-2147483648) ≤ x0) (hx0b : x0 ≤ 2147483647) : CI l yX12_isDigit cX12_isDigit 1 (some .boolean) 1 (fun ad => [ii x0]) M (fun z M' => (0 ≤ z ∧ z ≤ 1) ∧ M = M' ∧ (z = 1 ↔ 48 ≤ x0 ∧ x0 ≤ 57)) := by
  obtain ⟨hI, hW⟩ := hJ
  refine en_z (by decide +kernel) (fun ad => by exact Nat.le_of_ble_eq_true rfl) (fun D cy ad A p e s m args below meth c Q F hret => ?_)
  refine z_eq (ls' := [(0, ii x0)]) rfl rfl rfl ?_
  refine z_iload_n F dX12_isDigit_0 rfl (q := 0) rfl ?_
  refine z_bipush F dX12_isDigit_1 (by decide +kernel) ?_
  refine z_icmp_lt (tgt := 16) F dX12_isDigit_3 (by decide +kernel) (by omega) (by omega) (fun c1 => ?_) (fun c1 => ?_)
  · refine z_iconst F dX12_isDigit_16 ?_
    exact hret _ _ 17 _ ⟨by omega, by omega⟩ ⟨hI, hW⟩ ⟨⟨by omega, by omega⟩, rfl, (by omega)⟩ dX12_isDigit_17
  · refine z_iload_n F dX12_isDigit_6 rfl (q := 0) rfl ?_
    refine z_bipush F dX12_isDigit_7 (by decide +kernel) ?_
    refine z_icmp_gt (tgt := 16) F dX12_isDigit_9 (by decide +kernel) (by omega) (by omega) (fun c2 => ?_) (fun c2 => ?_)
    · refine z_iconst F dX12_isDigit_16 ?_
      exact hret _ _ 17 _ ⟨by omega, by omega⟩ ⟨hI, hW⟩ ⟨⟨by omega, by omega⟩, rfl, (by omega)⟩ dX12_isDigit_17
    · refine z_iconst F dX12_isDigit_12 ?_
      refine z_goto (tgt := 17) F dX12_isDigit_13 (by decide +kernel) ?_
      exact hret _ _ 17 _ ⟨by omega, by omega⟩ ⟨hI, hW⟩ ⟨⟨by omega, by omega⟩, rfl, (by omega)⟩ dX12_isDigit_17
set_option maxHeartbeats 4000000 in
set_option maxRecDepth 4000 in
theorem kp_X12_isSignByte (l : Launch) (M : Mem) (hJ : Iw M) (x0 : Int) (hx0a : (-2147483648) ≤ x0) (hx0b : x0 ≤ 2147483647) : CI l yX12_isSignByte cX12_isSignByte 2 (some .boolean) 1 (fun ad => [ii x0]) M (fun z M' => (0 ≤ z ∧ z ≤ 1) ∧ M = M' ∧ (WS z x0)) := by
  obtain ⟨hI, hW⟩ := hJ
  refine en_z (by decide +kernel) (fun ad => by exact Nat.le_of_ble_eq_true rfl) (fun D cy ad A p e s m args below meth c Q F hret => ?_)
  refine z_eq (ls' := [(0, ii x0)]) rfl rfl rfl ?_
  refine z_iload_n F dX12_isSignByte_0 rfl (q := 0) rfl ?_
  refine z_bipush F dX12_isSignByte_1 (by decide +kernel) ?_
  refine z_icmp_eq (tgt := 30) F dX12_isSignByte_3 (by decide +kernel) (by omega) (by omega) (fun c1 => ?_) (fun c1 => ?_)
  · refine z_iconst F dX12_isSignByte_30 ?_
    refine z_goto (tgt := 35) F dX12_isSignByte_31 (by decide +kernel) ?_
    refine z_istore_n F dX12_isSignByte_35 rfl (by decide) (ls' := [(1, ii 1), (0, ii x0)]) rfl ?_
    refine z_iload_n F dX12_isSignByte_36 rfl (q := 0) rfl ?_
    refine z_if_ne (tgt := 76) F dX12_isSignByte_37 (by decide +kernel) (by omega) (fun c2 => ?_) (fun c2 => by exfalso; omega)
    refine z_iconst F dX12_isSignByte_76 ?_
    refine z_goto (tgt := 81) F dX12_isSignByte_77 (by decide +kernel) ?_
    exact hret _ _ 81 _ ⟨by omega, by omega⟩ ⟨hI, hW⟩ ⟨⟨by omega, by omega⟩, rfl, (by unfold WS c_sg; omega)⟩ dX12_isSignByte_81
  · refine z_iload_n F dX12_isSignByte_6 rfl (q := 0) rfl ?_
    refine z_bipush F dX12_isSignByte_7 (by decide +kernel) ?_
    refine z_icmp_eq (tgt := 30) F dX12_isSignByte_9 (by decide +kernel) (by omega) (by omega) (fun c3 => ?_) (fun c3 => ?_)
    · refine z_iconst F dX12_isSignByte_30 ?_
      refine z_goto (tgt := 35) F dX12_isSignByte_31 (by decide +kernel) ?_
      refine z_istore_n F dX12_isSignByte_35 rfl (by decide) (ls' := [(1, ii 1), (0, ii x0)]) rfl ?_
      refine z_iload_n F dX12_isSignByte_36 rfl (q := 0) rfl ?_
      refine z_if_ne (tgt := 76) F dX12_isSignByte_37 (by decide +kernel) (by omega) (fun c4 => ?_) (fun c4 => by exfalso; omega)
      refine z_iconst F dX12_isSignByte_76 ?_
      refine z_goto (tgt := 81) F dX12_isSignByte_77 (by decide +kernel) ?_
      exact hret _ _ 81 _ ⟨by omega, by omega⟩ ⟨hI, hW⟩ ⟨⟨by omega, by omega⟩, rfl, (by unfold WS c_sg; omega)⟩ dX12_isSignByte_81
    · refine z_iload_n F dX12_isSignByte_12 rfl (q := 0) rfl ?_
      refine z_bipush F dX12_isSignByte_13 (by decide +kernel) ?_
      refine z_icmp_eq (tgt := 30) F dX12_isSignByte_15 (by decide +kernel) (by omega) (by omega) (fun c5 => ?_) (fun c5 => ?_)
      · refine z_iconst F dX12_isSignByte_30 ?_
        refine z_goto (tgt := 35) F dX12_isSignByte_31 (by decide +kernel) ?_
        refine z_istore_n F dX12_isSignByte_35 rfl (by decide) (ls' := [(1, ii 1), (0, ii x0)]) rfl ?_
        refine z_iload_n F dX12_isSignByte_36 rfl (q := 0) rfl ?_
        refine z_if_ne (tgt := 76) F dX12_isSignByte_37 (by decide +kernel) (by omega) (fun c6 => ?_) (fun c6 => by exfalso; omega)
        refine z_iconst F dX12_isSignByte_76 ?_
        refine z_goto (tgt := 81) F dX12_isSignByte_77 (by decide +kernel) ?_
        exact hret _ _ 81 _ ⟨by omega, by omega⟩ ⟨hI, hW⟩ ⟨⟨by omega, by omega⟩, rfl, (by unfold WS c_sg; omega)⟩ dX12_isSignByte_81
      · refine z_iload_n F dX12_isSignByte_18 rfl (q := 0) rfl ?_
        refine z_bipush F dX12_isSignByte_19 (by decide +kernel) ?_
        refine z_icmp_eq (tgt := 30) F dX12_isSignByte_21 (by decide +kernel) (by omega) (by omega) (fun c7 => ?_) (fun c7 => ?_)
        · refine z_iconst F dX12_isSignByte_30 ?_
          refine z_goto (tgt := 35) F dX12_isSignByte_31 (by decide +kernel) ?_
          refine z_istore_n F dX12_isSignByte_35 rfl (by decide) (ls' := [(1, ii 1), (0, ii x0)]) rfl ?_
          refine z_iload_n F dX12_isSignByte_36 rfl (q := 0) rfl ?_
          refine z_if_ne (tgt := 76) F dX12_isSignByte_37 (by decide +kernel) (by omega) (fun c8 => ?_) (fun c8 => by exfalso; omega)
          refine z_iconst F dX12_isSignByte_76 ?_
          refine z_goto (tgt := 81) F dX12_isSignByte_77 (by decide +kernel) ?_
          exact hret _ _ 81 _ ⟨by omega, by omega⟩ ⟨hI, hW⟩ ⟨⟨by omega, by omega⟩, rfl, (by unfold WS c_sg; omega)⟩ dX12_isSignByte_81
        · refine z_iload_n F dX12_isSignByte_24 rfl (q := 0) rfl ?_
          refine z_bipush F dX12_isSignByte_25 (by decide +kernel) ?_
          refine z_icmp_ne (tgt := 34) F dX12_isSignByte_27 (by decide +kernel) (by omega) (by omega) (fun c9 => ?_) (fun c9 => ?_)
          · refine z_iconst F dX12_isSignByte_34 ?_
            refine z_istore_n F dX12_isSignByte_35 rfl (by decide) (ls' := [(1, ii 0), (0, ii x0)]) rfl ?_
            refine z_iload_n F dX12_isSignByte_36 rfl (q := 0) rfl ?_
            refine z_if_ne (tgt := 76) F dX12_isSignByte_37 (by decide +kernel) (by omega) (fun c10 => by exfalso; omega) (fun c10 => ?_)
            refine z_iload_n F dX12_isSignByte_40 rfl (q := 1) rfl ?_
            refine z_bipush F dX12_isSignByte_41 (by decide +kernel) ?_
            refine z_icmp_eq (tgt := 76) F dX12_isSignByte_43 (by decide +kernel) (by omega) (by omega) (fun c11 => ?_) (fun c11 => ?_)
            · refine z_iconst F dX12_isSignByte_76 ?_
              refine z_goto (tgt := 81) F dX12_isSignByte_77 (by decide +kernel) ?_
              exact hret _ _ 81 _ ⟨by omega, by omega⟩ ⟨hI, hW⟩ ⟨⟨by omega, by omega⟩, rfl, (by unfold WS c_sg; omega)⟩ dX12_isSignByte_81
            · refine z_iload_n F dX12_isSignByte_46 rfl (q := 1) rfl ?_
              refine z_bipush F dX12_isSignByte_47 (by decide +kernel) ?_
              refine z_icmp_eq (tgt := 76) F dX12_isSignByte_49 (by decide +kernel) (by omega) (by omega) (fun c12 => ?_) (fun c12 => ?_)
              · refine z_iconst F dX12_isSignByte_76 ?_
                refine z_goto (tgt := 81) F dX12_isSignByte_77 (by decide +kernel) ?_
                exact hret _ _ 81 _ ⟨by omega, by omega⟩ ⟨hI, hW⟩ ⟨⟨by omega, by omega⟩, rfl, (by unfold WS c_sg; omega)⟩ dX12_isSignByte_81
              · refine z_iload_n F dX12_isSignByte_52 rfl (q := 1) rfl ?_
                refine z_bipush F dX12_isSignByte_53 (by decide +kernel) ?_
                refine z_icmp_eq (tgt := 76) F dX12_isSignByte_55 (by decide +kernel) (by omega) (by omega) (fun c13 => ?_) (fun c13 => ?_)
                · refine z_iconst F dX12_isSignByte_76 ?_
                  refine z_goto (tgt := 81) F dX12_isSignByte_77 (by decide +kernel) ?_
                  exact hret _ _ 81 _ ⟨by omega, by omega⟩ ⟨hI, hW⟩ ⟨⟨by omega, by omega⟩, rfl, (by unfold WS c_sg; omega)⟩ dX12_isSignByte_81
                · refine z_iload_n F dX12_isSignByte_58 rfl (q := 1) rfl ?_
                  refine z_bipush F dX12_isSignByte_59 (by decide +kernel) ?_
                  refine z_icmp_eq (tgt := 76) F dX12_isSignByte_61 (by decide +kernel) (by omega) (by omega) (fun c14 => ?_) (fun c14 => ?_)
                  · refine z_iconst F dX12_isSignByte_76 ?_
                    refine z_goto (tgt := 81) F dX12_isSignByte_77 (by decide +kernel) ?_
                    exact hret _ _ 81 _ ⟨by omega, by omega⟩ ⟨hI, hW⟩ ⟨⟨by omega, by omega⟩, rfl, (by unfold WS c_sg; omega)⟩ dX12_isSignByte_81
                  · refine z_iload_n F dX12_isSignByte_64 rfl (q := 1) rfl ?_
                    refine z_bipush F dX12_isSignByte_65 (by decide +kernel) ?_
                    refine z_icmp_eq (tgt := 76) F dX12_isSignByte_67 (by decide +kernel) (by omega) (by omega) (fun c15 => ?_) (fun c15 => ?_)
                    · refine z_iconst F dX12_isSignByte_76 ?_
                      refine z_goto (tgt := 81) F dX12_isSignByte_77 (by decide +kernel) ?_
                      exact hret _ _ 81 _ ⟨by omega, by omega⟩ ⟨hI, hW⟩ ⟨⟨by omega, by omega⟩, rfl, (by unfold WS c_sg; omega)⟩ dX12_isSignByte_81
                    · refine z_iload_n F dX12_isSignByte_70 rfl (q := 1) rfl ?_
                      refine z_bipush F dX12_isSignByte_71 (by decide +kernel) ?_
                      refine z_icmp_ne (tgt := 80) F dX12_isSignByte_73 (by decide +kernel) (by omega) (by omega) (fun c16 => ?_) (fun c16 => ?_)
                      · refine z_iconst F dX12_isSignByte_80 ?_
                        exact hret _ _ 81 _ ⟨by omega, by omega⟩ ⟨hI, hW⟩ ⟨⟨by omega, by omega⟩, rfl, (by unfold WS c_sg; omega)⟩ dX12_isSignByte_81
                      · refine z_iconst F dX12_isSignByte_76 ?_
                        refine z_goto (tgt := 81) F dX12_isSignByte_77 (by decide +kernel) ?_
                        exact hret _ _ 81 _ ⟨by omega, by omega⟩ ⟨hI, hW⟩ ⟨⟨by omega, by omega⟩, rfl, (by unfold WS c_sg; omega)⟩ dX12_isSignByte_81
          · refine z_iconst F dX12_isSignByte_30 ?_
            refine z_goto (tgt := 35) F dX12_isSignByte_31 (by decide +kernel) ?_
            refine z_istore_n F dX12_isSignByte_35 rfl (by decide) (ls' := [(1, ii 1), (0, ii x0)]) rfl ?_
            refine z_iload_n F dX12_isSignByte_36 rfl (q := 0) rfl ?_
            refine z_if_ne (tgt := 76) F dX12_isSignByte_37 (by decide +kernel) (by omega) (fun c17 => ?_) (fun c17 => by exfalso; omega)
            refine z_iconst F dX12_isSignByte_76 ?_
            refine z_goto (tgt := 81) F dX12_isSignByte_77 (by decide +kernel) ?_
            exact hret _ _ 81 _ ⟨by omega, by omega⟩ ⟨hI, hW⟩ ⟨⟨by omega, by omega⟩, rfl, (by unfold WS c_sg; omega)⟩ dX12_isSignByte_81
set_option maxHeartbeats 4000000 in
set_option maxRecDepth 4000 in
theorem kp_X12_see (l : Launch) (M : Mem) (hJ : Iw M) (x0 : Int) (hx0a : 0 ≤ x0) (hx0b : x0 ≤ 900) : CI l yX12_see cX12_see 2 (some .int) 1 (fun ad => [.ref (ad 131), ii x0]) M (fun z M' => ((-2147483648) ≤ z ∧ z ≤ 2147483647) ∧ M = M' ∧ (x0 < M 131 7 ∧ z = M 136 x0.toNat ∨ M 131 7 ≤ x0 ∧ z = 0)) := by
  obtain ⟨hI, hW⟩ := hJ
  refine en_i (by decide +kernel) (fun ad => by exact Nat.le_of_ble_eq_true rfl) (fun D cy ad A p e s m args below meth c Q F hret => ?_)
  refine z_eq (ls' := [(0, .ref (ad 131)), (1, ii x0)]) rfl rfl rfl ?_
  refine z_iload_n F dX12_see_0 rfl (q := 1) rfl ?_
  refine z_aload_n F dX12_see_1 rfl (q := 0) rfl ?_
  refine gf_X12_79 F hI gs_131 rfl bd_131_7 dX12_see_2 (fun v1 ev1 av1 bv1 => ?_)
  refine z_icmp_ge (tgt := 17) F dX12_see_5 (by decide +kernel) (by omega) (by omega) (fun c2 => ?_) (fun c2 => ?_)
  · refine z_iconst F dX12_see_17 ?_
    exact hret _ _ 18 _ (by omega) ⟨hI, hW⟩ ⟨⟨by omega, by omega⟩, rfl, (by omega)⟩ dX12_see_18
  · refine z_aload_n F dX12_see_8 rfl (q := 0) rfl ?_
    refine rf_X12_23 F gs_131 rfl dX12_see_9 ?_
    refine z_iload_n F dX12_see_12 rfl (q := 1) rfl ?_
    refine z_iald F hI gs_136 (by omega) (by omega) (by decide) bd_136 dX12_see_13 (fun v3 (ev3 : v3 = M 136 _) av3 bv3 => ?_)
    refine z_goto (tgt := 18) F dX12_see_14 (by decide +kernel) ?_
    exact hret _ _ 18 _ (by omega) ⟨hI, hW⟩ ⟨⟨by omega, by omega⟩, rfl, (by omega)⟩ dX12_see_18
