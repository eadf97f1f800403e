
set_option maxRecDepth 4000 in
theorem k_X12_thingAt_133 (l : Launch) (M : Mem) (hJ : Iw M) (x1 : Int) (hx1a : (-2147483648) ≤ x1) (hx1b : x1 ≤ 2147483647) : CI l yX12_thingAt cX12_thingAt 3 (some .int) 1 (fun ad => [.ref (ad 133), ii x1]) M (fun z M' => ((-1) ≤ z ∧ z ≤ 7) ∧ M = M' ∧ (Or2 (z = -1 ∧ hasN (M 133 2) (fun t => M 133 (8 + t)) x1 = false) (0 ≤ z ∧ hasN (M 133 2) (fun t => M 133 (8 + t)) x1 = true))) := by
  obtain ⟨hI, hW⟩ := hJ
  refine en_i (by decide +kernel) (fun ad => by exact Nat.le_of_ble_eq_true rfl) (fun D cy ad A p e s m args below meth c Q F hret => ?_)
  refine z_eq (ls' := [(0, .ref (ad 133)), (1, ii x1)]) rfl rfl rfl ?_
  refine z_iconst F dX12_thingAt_0 ?_
  refine z_istore_n F dX12_thingAt_1 rfl (by decide) (ls' := [(2, ii 0), (0, .ref (ad 133)), (1, ii x1)]) rfl ?_
  refine z_loc [1, 2, 0] (ls' := [(0, .ref (ad 133)), (1, ii x1), (2, ii 0)]) rfl ?_
  suffices key2 : ∀ (n : Nat) (y2 : Int), 0 ≤ y2 → y2 ≤ 8 → (∀ t : Nat, (t : Int) < y2 → ¬ M 133 (8 + t) = x1) → 8 - y2 < (n : Int) → Z D cy ad p l e (RMh 1) s m args below meth c A 3 0 0 Q 2 [(0, .ref (ad 133)), (1, ii x1), (2, ii y2)] [] M from key2 9 0 (by omega) (by omega) (fun t h => by exfalso; omega) (by omega)
  intro n2
  induction n2 with
  | zero => intro y2 ay2 by2 i2_0 hn2; exfalso; omega
  | succ n2 ih2 =>
    intro y2 ay2 by2 i2_0 hn2
    refine z_iload_n F dX12_thingAt_2 rfl (q := 2) rfl ?_
    refine z_aload_n F dX12_thingAt_3 rfl (q := 0) rfl ?_
    refine z_iconst F dX12_thingAt_4 ?_
    refine z_iald F hI gs_133 (by omega) (by omega) (by decide) (show Bd 133 2 = (0, 8) from rfl) dX12_thingAt_5 (fun v3 (ev3 : v3 = M 133 2) av3 bv3 => ?_)
    refine z_icmp_ge (tgt := 27) F dX12_thingAt_6 (by decide +kernel) (by omega) (by omega) (fun c4 => ?_) (fun c4 => ?_)
    · refine z_iconst F dX12_thingAt_27 ?_
      exact hret _ _ 28 _ (by omega) ⟨hI, hW⟩ ⟨⟨by omega, by omega⟩, rfl, (Or.inl ⟨rfl, hasN_n (fun t h => i2_0 t (by omega))⟩)⟩ dX12_thingAt_28
    · refine z_aload_n F dX12_thingAt_9 rfl (q := 0) rfl ?_
      refine z_bipush F dX12_thingAt_10 (by decide +kernel) ?_
      refine z_iload_n F dX12_thingAt_12 rfl (q := 2) rfl ?_
      refine z_iadd F dX12_thingAt_13 ?_
      refine z_iald F hI gs_133 (by omega) (by omega) (by decide) (bd_133.trans (kn_at (by omega) (by omega))) dX12_thingAt_14 (fun v5 (ev5 : v5 = M 133 _) av5 bv5 => ?_)
      refine z_iload_n F dX12_thingAt_15 rfl (q := 1) rfl ?_
      refine z_icmp_ne (tgt := 21) F dX12_thingAt_16 (by decide +kernel) (by omega) (by omega) (fun c6 => ?_) (fun c6 => ?_)
      · refine z_iincN F dX12_thingAt_21 (q := 2) rfl (by decide) (fun v7 ev7 => ?_)
        refine z_eq (ls' := [(2, ii v7), (0, .ref (ad 133)), (1, ii x1)]) rfl rfl rfl ?_
        refine z_goto (tgt := 2) F dX12_thingAt_24 (by decide +kernel) ?_
        refine z_loc [1, 2, 0] (ls' := [(0, .ref (ad 133)), (1, ii x1), (2, ii v7)]) rfl ?_
        exact ih2 v7 (by omega) (by omega) (fun t h => if hq : (t : Int) < y2 then i2_0 t hq else (by rw [show 8 + t = (8 + y2).toNat from by omega, ← ev5]; omega)) (by omega)
      · refine z_iload_n F dX12_thingAt_19 rfl (q := 2) rfl ?_
        exact hret _ _ 20 _ (by omega) ⟨hI, hW⟩ ⟨⟨by omega, by omega⟩, rfl, (Or.inr ⟨by omega, hasN_t.mpr ⟨(y2).toNat, by omega, (by show M 133 (8 + (y2).toNat) = x1; rw [show 8 + (y2).toNat = (8 + y2).toNat from by omega, ← ev5]; omega)⟩⟩)⟩ dX12_thingAt_20
