/-! ===== small rows ===== -/
section AUX
theorem nlt_le {x y : Int32} (h : ¬ x < y) : y ≤ x := by simp only [Int32.lt_iff_toInt_lt, Int32.le_iff_toInt_le] at *; omega
theorem lt_nle {x y : Int32} (h : x < y) : ¬ y ≤ x := by simp only [Int32.lt_iff_toInt_lt, Int32.le_iff_toInt_le] at *; omega
theorem nle_lt {x y : Int32} (h : ¬ x ≤ y) : y < x := by simp only [Int32.lt_iff_toInt_lt, Int32.le_iff_toInt_le] at *; omega
theorem le_nlt {x y : Int32} (h : x ≤ y) : ¬ y < x := by simp only [Int32.lt_iff_toInt_lt, Int32.le_iff_toInt_le] at *; omega
theorem nlt_le_l {x y : Int64} (h : ¬ x < y) : y ≤ x := by simp only [Int64.lt_iff_toInt_lt, Int64.le_iff_toInt_le] at *; omega
theorem lt_nle_l {x y : Int64} (h : x < y) : ¬ y ≤ x := by simp only [Int64.lt_iff_toInt_lt, Int64.le_iff_toInt_le] at *; omega
theorem nle_lt_l {x y : Int64} (h : ¬ x ≤ y) : y < x := by simp only [Int64.lt_iff_toInt_lt, Int64.le_iff_toInt_le] at *; omega
theorem le_nlt_l {x y : Int64} (h : x ≤ y) : ¬ y < x := by simp only [Int64.lt_iff_toInt_lt, Int64.le_iff_toInt_le] at *; omega
theorem ne_of_eq {x y z : Int32} (h : x = y) (n : ¬ y = z) : ¬ x = z := h ▸ n
theorem upd_same {f : Nat → Int32} {k : Nat} {x : Int32} (h : f k = x) : upd f k x = f := by
  funext j; unfold upd; split
  · next e => rw [e]; exact h.symm
  · rfl
theorem updL_same {f : Nat → Int64} {k : Nat} {x : Int64} (h : f k = x) : vp_updL f k x = f := by
  funext j; unfold vp_updL; split
  · next e => rw [e]; exact h.symm
  · rfl
theorem cpy_zero {a b n : Nat} : va_cpy (fun _ => (0 : Int32)) (fun _ => 0) a b n = fun _ => 0 := by
  funext j
  rcases Nat.lt_or_ge j b with h | h
  · rw [pk_cpy_out (Or.inl h)]
  · rcases Nat.lt_or_ge j (b + n) with h2 | h2
    · rw [pk_cpy_in h h2]
    · rw [pk_cpy_out (Or.inr h2)]
theorem cpy_none {f g : Nat → Int32} {a b : Nat} : va_cpy f g a b (0 : Int32).toNatClampNeg = g := by
  funext j
  rcases Nat.lt_or_ge j b with h | h
  · rw [pk_cpy_out (Or.inl h)]
  · rw [pk_cpy_out (Or.inr (by simpa using h))]
/-- a loop of N rounds -/
theorem loopN (N : Nat) {G : Array Slot → Heap → List Loc → Prop} {I : Nat → Array Slot → Heap → List Loc → Prop} (hz : ∀ ls H locs, I N ls H locs → G ls H locs)
    (hs : ∀ k, k < N → ∀ ls H locs, I k ls H locs → (∀ ls H locs, I (k + 1) ls H locs → G ls H locs) → G ls H locs) : ∀ ls H locs, I 0 ls H locs → G ls H locs := by
  have key : ∀ d k, k + d = N → ∀ ls H locs, I k ls H locs → G ls H locs := by
    intro d
    induction d with
    | zero =>
      intro k hk ls H locs h
      have e : k = N := by omega
      subst e
      exact hz ls H locs h
    | succ d ih => intro k hk ls H locs h; exact hs k (by omega) ls H locs h (ih (k + 1) (by omega))
  exact key N 0 (by omega)
theorem vin_add (a : Nat) {k n : Nat} (h : a + k < n) (hn : n < 2 ^ 31) : vp_in (nI a + nI k) n := by rw [nI_add]; exact vp_in_nI h hn
theorem vin_add2 (a : Nat) {k n : Nat} (h : k + a < n) (hn : n < 2 ^ 31) : vp_in (nI k + nI a) n := by rw [nI_add]; exact vp_in_nI h hn
/-- a number and a switch's bounds -/
theorem sw_t (x : Int32) (lo hi : Int) : (x.toInt < lo ∨ hi < x.toInt) ∨ ∃ j : Nat, j < (hi - lo + 1).toNat ∧ x = Int32.ofInt (lo + j) := by
  by_cases h : x.toInt < lo ∨ hi < x.toInt
  · exact Or.inl h
  · refine Or.inr ⟨(x.toInt - lo).toNat, by omega, ?_⟩
    have : lo + ((x.toInt - lo).toNat : Int) = x.toInt := by omega
    rw [this, Int32.ofInt_toInt]
theorem sw_ne {x y : Int32} {lo hi : Int} (h : x.toInt < lo ∨ hi < x.toInt) (hy : ¬ (y.toInt < lo ∨ hi < y.toInt)) : ¬ x = y := fun e => hy (e ▸ h)
theorem ha_I (n : Nat) (cA : ClassId) : vp_cell cA (n, .inl (fun _ => 0)) = arrV cA n (fun _ => defaultValue .int) := rfl
theorem ha_B (n : Nat) (cA : ClassId) : vp_cell cA (n, .inl (fun _ => 0)) = arrV cA n (fun _ => defaultValue .byte) := rfl
theorem ha_Z (n : Nat) (cA : ClassId) : vp_cell cA (n, .inl (fun _ => 0)) = arrV cA n (fun _ => defaultValue .boolean) := rfl
theorem ha_J (n : Nat) (cA : ClassId) : vp_cell cA (n, .inr (.inl (fun _ => 0))) = arrV cA n (fun _ => defaultValue .long) := rfl
/-- bounds of a number, out of what a branch said -/
theorem lo_le {x k : Int32} (h : k ≤ x) : k.toInt ≤ x.toInt := Int32.le_iff_toInt_le.mp h
theorem lo_lt {x k : Int32} (h : k < x) : k.toInt + 1 ≤ x.toInt := Int32.lt_iff_toInt_lt.mp h
theorem lo_nle {x k : Int32} (h : ¬ x ≤ k) : k.toInt + 1 ≤ x.toInt := lo_lt (nle_lt h)
theorem lo_nlt {x k : Int32} (h : ¬ x < k) : k.toInt ≤ x.toInt := lo_le (nlt_le h)
theorem up_le {x k : Int32} (h : x ≤ k) : x.toInt ≤ k.toInt := Int32.le_iff_toInt_le.mp h
theorem up_lt {x k : Int32} (h : x < k) : x.toInt ≤ k.toInt - 1 := by have := Int32.lt_iff_toInt_lt.mp h; omega
theorem up_nle {x k : Int32} (h : ¬ k ≤ x) : x.toInt ≤ k.toInt - 1 := up_lt (nle_lt h)
theorem up_nlt {x k : Int32} (h : ¬ k < x) : x.toInt ≤ k.toInt := up_le (nlt_le h)
theorem wide_toInt (x : Int32) : x.toInt64.toInt = x.toInt := by simp
theorem lo_le_w {x : Int32} {k : Int64} (h : k ≤ x.toInt64) : k.toInt ≤ x.toInt := by have := Int64.le_iff_toInt_le.mp h; rwa [wide_toInt] at this
theorem lo_lt_w {x : Int32} {k : Int64} (h : k < x.toInt64) : k.toInt + 1 ≤ x.toInt := by have := Int64.lt_iff_toInt_lt.mp h; rw [wide_toInt] at this; omega
theorem lo_nle_w {x : Int32} {k : Int64} (h : ¬ x.toInt64 ≤ k) : k.toInt + 1 ≤ x.toInt := lo_lt_w (nle_lt_l h)
theorem lo_nlt_w {x : Int32} {k : Int64} (h : ¬ x.toInt64 < k) : k.toInt ≤ x.toInt := lo_le_w (nlt_le_l h)
theorem up_le_w {x : Int32} {k : Int64} (h : x.toInt64 ≤ k) : x.toInt ≤ k.toInt := by have := Int64.le_iff_toInt_le.mp h; rwa [wide_toInt] at this
theorem up_lt_w {x : Int32} {k : Int64} (h : x.toInt64 < k) : x.toInt ≤ k.toInt - 1 := by have := Int64.lt_iff_toInt_lt.mp h; rw [wide_toInt] at this; omega
theorem up_nle_w {x : Int32} {k : Int64} (h : ¬ k ≤ x.toInt64) : x.toInt ≤ k.toInt - 1 := up_lt_w (nle_lt_l h)
theorem up_nlt_w {x : Int32} {k : Int64} (h : ¬ k < x.toInt64) : x.toInt ≤ k.toInt := up_le_w (nlt_le_l h)
theorem no_b {x : Int32} {lo hi : Int} (h1 : lo ≤ x.toInt) (h2 : x.toInt ≤ hi) (h : hi < lo) : False := by omega
theorem lo_eq {x k : Int32} (h : x = k) : k.toInt ≤ x.toInt := by rw [h]; exact Int.le_refl _
theorem up_eq {x k : Int32} (h : x = k) : x.toInt ≤ k.toInt := by rw [h]; exact Int.le_refl _
theorem split_b {x : Int32} {lo hi : Int} (h1 : lo ≤ x.toInt) (h2 : x.toInt ≤ hi) (n : Nat) (hn : hi - lo < n) : ∃ j : Nat, j < n ∧ x = Int32.ofInt (lo + j) := by
  refine ⟨(x.toInt - lo).toNat, by omega, ?_⟩
  have : lo + ((x.toInt - lo).toNat : Int) = x.toInt := by omega
  rw [this, Int32.ofInt_toInt]
theorem and_m1 (x : Int32) : x &&& (-1) = x := by
  apply Int32.toBitVec_inj.mp
  show x.toBitVec &&& (-1 : Int32).toBitVec = x.toBitVec
  rw [show (-1 : Int32).toBitVec = BitVec.allOnes 32 from by decide]
  exact BitVec.and_allOnes
theorem ite_p {c : Prop} [Decidable c] {x y : Int32} (h : c) : (if c then x else y) = x := if_pos h
theorem ite_n {c : Prop} [Decidable c] {x y : Int32} (h : ¬ c) : (if c then x else y) = y := if_neg h
section LDW
variable {p : Program} {l : Launch} {e : Env} {R : Room} {s : State} {m : MethodId} {args : Array Value} {below : List Frame} {meth : Method} {c : Code} {H : Heap} {locs : List Loc} {cells slots : Nat} {Q : State → Prop} {cc : ByteArray} {pc : Nat} {ls : Array Slot} {rest : List Value} {D : va_G} {A : Nat → Prop} {w1 w2 : va_W}
theorem ldcSW (hexec : p.tables.exec = Jvm.exec) (hb : c.code = cc) {own tx : String} {index q : Nat} (hown : s.vm.findClass own = some m.cls) (hZ : vk_R own index tx q s) (hdg : decode cc pc = .ok (.ldc_w index, 3))
    (k : W p l e R s m args below meth c H locs cells slots Q (F0 m (pc + 3) ls (.ref q :: rest))) : W p l e R s m args below meth c H locs cells slots Q (F0 m pc ls rest) := by
  intro T hT X
  obtain ⟨t, a1, b1⟩ := k T hT X
  exact ⟨t, X.ldcStringW hexec hown (text := tx) (a := q) hZ.1 hZ.2 (g := F0 m pc ls rest) rfl (by rw [hb]; exact hdg) t a1, b1⟩
theorem left_P (h : va_P D vwCl (w1 ++ w2) H) : va_P D vwCl w1 H := fun k q hk => h k q (by rw [List.getElem?_append_left (List.getElem?_eq_some_iff.mp hk).1]; exact hk)
theorem left_D (h : va_D A (w1 ++ w2)) : va_D A w1 :=
  ⟨fun i j p q hi hj e => h.1 i j p q (by rw [List.getElem?_append_left (List.getElem?_eq_some_iff.mp hi).1]; exact hi) (by rw [List.getElem?_append_left (List.getElem?_eq_some_iff.mp hj).1]; exact hj) e, fun k q hk => h.2 k q (by rw [List.getElem?_append_left (List.getElem?_eq_some_iff.mp hk).1]; exact hk)⟩
end LDW
end AUX
