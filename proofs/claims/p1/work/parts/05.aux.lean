/-! ===== small rows ===== -/
section AUX
theorem nlt_le {x y : Int32} (h : ¬ x < y) : y ≤ x := by simp only [Int32.lt_iff_toInt_lt, Int32.le_iff_toInt_le] at *; omega
theorem lt_nle {x y : Int32} (h : x < y) : ¬ y ≤ x := by simp only [Int32.lt_iff_toInt_lt, Int32.le_iff_toInt_le] at *; omega
theorem nle_lt {x y : Int32} (h : ¬ x ≤ y) : y < x := by simp only [Int32.lt_iff_toInt_lt, Int32.le_iff_toInt_le] at *; omega
theorem le_nlt {x y : Int32} (h : x ≤ y) : ¬ y < x := by simp only [Int32.lt_iff_toInt_lt, Int32.le_iff_toInt_le] at *; omega
theorem nlt_le_l {x y : Int64} (h : ¬ x < y) : y ≤ x := by simp only [Int64.lt_iff_toInt_lt, Int64.le_iff_toInt_le] at *; omega
theorem lt_nle_l {x y : Int64} (h : x < y) : ¬ y ≤ x := by simp only [Int64.lt_iff_toInt_lt, Int64.le_iff_toInt_le] at *; omega
theorem nle_lt_l {x y : Int64} (h : ¬ x ≤ y) : y < x := by simp only [Int64.lt_iff_toInt_lt, Int64.le_iff_toInt_le] at *; omega
theorem le_nlt_l {x y : Int64} (h : x ≤ y) : ¬ y < x := by simp only [Int64.lt_iff_toInt_lt, Int64.le_iff_toInt_le] at *; omega
theorem ne_of_eq {x y z : Int32} (h : x = y) (n : ¬ y = z) : ¬ x = z := h ▸ n
theorem upd_same {f : Nat → Int32} {k : Nat} {x : Int32} (h : f k = x) : upd f k x = f := by
  funext j; unfold upd; split
  · next e => rw [e]; exact h.symm
  · rfl
theorem updL_same {f : Nat → Int64} {k : Nat} {x : Int64} (h : f k = x) : vp_updL f k x = f := by
  funext j; unfold vp_updL; split
  · next e => rw [e]; exact h.symm
  · rfl
theorem cpy_zero {a b n : Nat} : va_cpy (fun _ => (0 : Int32)) (fun _ => 0) a b n = fun _ => 0 := by
  funext j
  rcases Nat.lt_or_ge j b with h | h
  · rw [pk_cpy_out (Or.inl h)]
  · rcases Nat.lt_or_ge j (b + n) with h2 | h2
    · rw [pk_cpy_in h h2]
    · rw [pk_cpy_out (Or.inr h2)]
theorem cpy_none {f g : Nat → Int32} {a b : Nat} : va_cpy f g a b (0 : Int32).toNatClampNeg = g := by
  funext j
  rcases Nat.lt_or_ge j b with h | h
  · rw [pk_cpy_out (Or.inl h)]
  · rw [pk_cpy_out (Or.inr (by simpa using h))]
/-- a loop of N rounds -/
theorem loopN (N : Nat) {G : Array Slot → Heap → List Loc → Prop} {I : Nat → Array Slot → Heap → List Loc → Prop} (hz : ∀ ls H locs, I N ls H locs → G ls H locs)
    (hs : ∀ k, k < N → ∀ ls H locs, I k ls H locs → (∀ ls H locs, I (k + 1) ls H locs → G ls H locs) → G ls H locs) : ∀ ls H locs, I 0 ls H locs → G ls H locs := by
  have key : ∀ d k, k + d = N → ∀ ls H locs, I k ls H locs → G ls H locs := by
    intro d
    induction d with
    | zero =>
      intro k hk ls H locs h
      have e : k = N := by omega
      subst e
      exact hz ls H locs h
    | succ d ih => intro k hk ls H locs h; exact hs k (by omega) ls H locs h (ih (k + 1) (by omega))
  exact key N 0 (by omega)
theorem vin_add (a : Nat) {k n : Nat} (h : a + k < n) (hn : n < 2 ^ 31) : vp_in (nI a + nI k) n := by rw [nI_add]; exact vp_in_nI h hn
theorem vin_add2 (a : Nat) {k n : Nat} (h : k + a < n) (hn : n < 2 ^ 31) : vp_in (nI k + nI a) n := by rw [nI_add]; exact vp_in_nI h hn
/-- a number and a switch's bounds -/
theorem sw_t (x : Int32) (lo hi : Int) : (x.toInt < lo ∨ hi < x.toInt) ∨ ∃ j : Nat, j < (hi - lo + 1).toNat ∧ x = Int32.ofInt (lo + j) := by
  by_cases h : x.toInt < lo ∨ hi < x.toInt
  · exact Or.inl h
  · refine Or.inr ⟨(x.toInt - lo).toNat, by omega, ?_⟩
    have : lo + ((x.toInt - lo).toNat : Int) = x.toInt := by omega
    rw [this, Int32.ofInt_toInt]
theorem sw_ne {x y : Int32} {lo hi : Int} (h : x.toInt < lo ∨ hi < x.toInt) (hy : ¬ (y.toInt < lo ∨ hi < y.toInt)) : ¬ x = y := fun e => hy (e ▸ h)
theorem ha_I (n : Nat) (cA : ClassId) : vp_cell cA (n, .inl (fun _ => 0)) = arrV cA n (fun _ => defaultValue .int) := rfl
theorem ha_B (n : Nat) (cA : ClassId) : vp_cell cA (n, .inl (fun _ => 0)) = arrV cA n (fun _ => defaultValue .byte) := rfl
theorem ha_Z (n : Nat) (cA : ClassId) : vp_cell cA (n, .inl (fun _ => 0)) = arrV cA n (fun _ => defaultValue .boolean) := rfl
theorem ha_J (n : Nat) (cA : ClassId) : vp_cell cA (n, .inr (.inl (fun _ => 0))) = arrV cA n (fun _ => defaultValue .long) := rfl
end AUX
