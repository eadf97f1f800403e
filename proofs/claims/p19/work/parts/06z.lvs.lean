/-! ===== levels of places, steps ===== -/
section LVS
def nx (A : Nat → Nat → Bool) (X : Nat → Bool) (n : Nat) (j : Nat) : Bool := X j || (List.range n).any (fun a => X a && A a j)
def lv (A : Nat → Nat → Bool) (p : Nat) : Nat → Nat → Bool
  | 0, q => q == p
  | d + 1, q => nx A (fun j => lv A p d j) 10 q
theorem nx_t {A : Nat → Nat → Bool} {X : Nat → Bool} {n j : Nat} : nx A X n j = true ↔ X j = true ∨ ∃ a : Nat, a < n ∧ X a = true ∧ A a j = true := by
  unfold nx
  rw [Bool.or_eq_true, List.any_eq_true]
  constructor
  · rintro (h | ⟨a, h1, h2⟩)
    · exact Or.inl h
    · rw [Bool.and_eq_true] at h2; exact Or.inr ⟨a, List.mem_range.mp h1, h2.1, h2.2⟩
  · rintro (h | ⟨a, h1, h2, h3⟩)
    · exact Or.inl h
    · exact Or.inr ⟨a, List.mem_range.mpr h1, by rw [Bool.and_eq_true]; exact ⟨h2, h3⟩⟩
theorem lv_0 {A : Nat → Nat → Bool} {p q : Nat} : lv A p 0 q = true ↔ q = p := by
  show (q == p) = true ↔ _
  exact beq_iff_eq
theorem lv_s {A : Nat → Nat → Bool} {p d q : Nat} : lv A p (d + 1) q = true ↔ lv A p d q = true ∨ ∃ a : Nat, a < 10 ∧ lv A p d a = true ∧ A a q = true := by
  show nx A (fun j => lv A p d j) 10 q = true ↔ _
  exact nx_t
theorem lv_n {A : Nat → Nat → Bool} {p d q : Nat} (h : ¬ lv A p d q = true) : lv A p d q = false := by
  rcases hb : lv A p d q with _ | _
  · rfl
  · exact absurd hb h
theorem lv_mono {A : Nat → Nat → Bool} {p d e q : Nat} (h : d ≤ e) (x : lv A p d q = true) : lv A p e q = true := by
  obtain ⟨k, rfl⟩ := Nat.le.dest h
  induction k with
  | zero => exact x
  | succ k ih => exact lv_s.mpr (Or.inl (ih (Nat.le_add_right d k)))
theorem lv_down {A : Nat → Nat → Bool} {p d e q : Nat} (h : d ≤ e) (x : lv A p e q = false) : lv A p d q = false := lv_n (fun y => by rw [lv_mono h y] at x; exact absurd x (by decide))
theorem lv_stab {A : Nat → Nat → Bool} {p e : Nat} (h : ∀ q, lv A p (e + 1) q = lv A p e q) : ∀ k q, lv A p (e + k) q = lv A p e q := by
  intro k
  induction k with
  | zero => intro q; rfl
  | succ k ih =>
    intro q
    have e1 : (fun j => lv A p (e + k) j) = (fun j => lv A p e j) := funext ih
    rw [← Nat.add_assoc]
    show nx A (fun j => lv A p (e + k) j) 10 q = _
    rw [e1]
    exact h q
theorem lvq_lt {A : Nat → Nat → Bool} {p P : Nat} (hA : ∀ a b, A a b = true → b < P) (hp : p < P) : ∀ d q, lv A p d q = true → q < P := by
  intro d
  induction d with
  | zero => intro q h; rw [lv_0.mp h]; exact hp
  | succ d ih =>
    intro q h
    rcases lv_s.mp h with h | ⟨a, _, _, h⟩
    · exact ih q h
    · exact hA a q h
theorem countP_lt {f g : Nat → Bool} : ∀ l : List Nat, (∀ q ∈ l, f q = true → g q = true) → (∃ q, q ∈ l ∧ g q = true ∧ ¬ f q = true) → l.countP f < l.countP g := by
  intro l
  induction l with
  | nil => intro _ h; obtain ⟨q, hq, _⟩ := h; exact absurd hq List.not_mem_nil
  | cons a l ih =>
    intro h hx
    obtain ⟨q, hq, h1, h2⟩ := hx
    have hm : l.countP f ≤ l.countP g := List.countP_mono_left (fun x hx => h x (List.mem_cons_of_mem _ hx))
    rw [List.countP_cons, List.countP_cons]
    rcases List.mem_cons.mp hq with e | hq
    · rw [← e, if_neg h2, if_pos h1]; omega
    · have h3 := ih (fun x hx => h x (List.mem_cons_of_mem _ hx)) ⟨q, hq, h1, h2⟩
      by_cases hf : f a = true
      · rw [if_pos hf, if_pos (h a List.mem_cons_self hf)]; omega
      · rw [if_neg hf]; split <;> omega
theorem lv_pig {A : Nat → Nat → Bool} {p P : Nat} (hA : ∀ a b, A a b = true → b < P) (hp : p < P) : ∀ d, (∃ e, e < d ∧ ∀ q, lv A p (e + 1) q = lv A p e q) ∨ d + 1 ≤ (List.range P).countP (fun q => lv A p d q) := by
  intro d
  induction d with
  | zero =>
    right
    have h : 0 < (List.range P).countP (fun q => lv A p 0 q) := List.countP_pos_iff.mpr ⟨p, List.mem_range.mpr hp, lv_0.mpr rfl⟩
    omega
  | succ d ih =>
    rcases ih with ⟨e, h1, h2⟩ | h
    · exact Or.inl ⟨e, by omega, h2⟩
    · by_cases hs : ∀ q, lv A p (d + 1) q = lv A p d q
      · exact Or.inl ⟨d, by omega, hs⟩
      · right
        obtain ⟨q, hq⟩ := Classical.not_forall.mp hs
        have h1 : ¬ lv A p d q = true := fun g => hq ((lv_s.mpr (Or.inl g)).trans g.symm)
        have h2 : lv A p (d + 1) q = true := by
          by_cases hb : lv A p (d + 1) q = true
          · exact hb
          · exact absurd ((lv_n hb).trans (lv_n h1).symm) hq
        have h3 := countP_lt (f := fun q => lv A p d q) (g := fun q => lv A p (d + 1) q) (List.range P) (fun x _ hx => lv_s.mpr (Or.inl hx)) ⟨q, List.mem_range.mpr (lvq_lt hA hp _ _ h2), h2, h1⟩
        omega
theorem lv_fin {A : Nat → Nat → Bool} {p P : Nat} (hA : ∀ a b, A a b = true → b < P) (hp : p < P) (hP : P ≤ 10) (q : Nat) : lv A p 9 q = lv A p (P - 1) q := by
  rcases lv_pig hA hp P with ⟨e, h1, h2⟩ | h
  · have a := lv_stab h2 (9 - e) q
    have b := lv_stab h2 (P - 1 - e) q
    rw [show e + (9 - e) = 9 by omega] at a
    rw [show e + (P - 1 - e) = P - 1 by omega] at b
    exact a.trans b.symm
  · exfalso
    have h2 := List.countP_le_length (p := fun q => lv A p P q) (l := List.range P)
    rw [List.length_range] at h2
    omega
/-- how far -/
def Ds (A : Nat → Nat → Bool) (p q : Nat) (z : Int) : Prop := z = -1 ∧ lv A p 9 q = false ∨ 0 ≤ z ∧ z ≤ 9 ∧ lv A p z.toNat q = true ∧ ∀ e : Nat, (e : Int) < z → lv A p e q = false
theorem ds_u {A : Nat → Nat → Bool} {p q : Nat} {z z' : Int} (x : Ds A p q z) (y : Ds A p q z') : z = z' := by
  rcases x with ⟨x1, x2⟩ | ⟨x1, x2, x3, x4⟩
  · rcases y with ⟨y1, _⟩ | ⟨y1, y2, y3, _⟩
    · omega
    · rw [lv_mono (show z'.toNat ≤ 9 by omega) y3] at x2; exact absurd x2 (by decide)
  · rcases y with ⟨y1, y2⟩ | ⟨y1, y2, y3, y4⟩
    · rw [lv_mono (show z.toNat ≤ 9 by omega) x3] at y2; exact absurd y2 (by decide)
    · rcases Int.lt_trichotomy z z' with h | h | h
      · have h9 := y4 z.toNat (by omega); rw [x3] at h9; exact absurd h9 (by decide)
      · exact h
      · have h9 := x4 z'.toNat (by omega); rw [y3] at h9; exact absurd h9 (by decide)
def gC (t : Nat) (M : Mem) : Prop := ∀ p q : Nat, (p : Int) < M t 1 → (q : Int) < M t 1 → Ds (aCx t M) p q (M (t + 3) (10 * p + q))
theorem gc_cp {t t' : Nat} {M M' : Mem} (hP : M t 1 ≤ 10) (c : Cp t t' M M') (h : gC t M) : gC t' M' := by
  intro p q hp hq
  have e1 : M' t' 1 = M t 1 := congrArg (fun X : Sx => X.1) c.1
  have ea : aCx t' M' = aCx t M := congrArg (fun X : Sx => X.2.1) c.1
  rw [e1] at hp hq
  rw [ea, c.2 (10 * p + q) (by omega)]
  exact h p q hp hq
theorem gc_0 {t : Nat} {M : Mem} (h : M t 1 = 0) : gC t M := fun p q hp _ => by rw [h] at hp; exfalso; omega
theorem aC_lt {t : Nat} {M : Mem} (a b : Nat) (h : aCx t M a b = true) : (a : Int) < M t 1 ∧ (b : Int) < M t 1 := (aCx_t.mp h).1
theorem aR_lt {s o : Nat} {M : Mem} (a b : Nat) (h : aRx s o M a b = true) : (a : Int) < M s (o + 1) ∧ (b : Int) < M s (o + 1) := (aRx_t.mp h).1
/-- bits -/
theorem btB_orG {x w z v : Int} (v0 : 0 ≤ v) (v1 : v ≤ 31) (hz : z = (Int32.ofInt x ||| Int32.ofInt w).toInt) : btB z v = (btB x v || btB w v) := by
  rw [btB_lsb v0 v1, btB_lsb v0 v1, btB_lsb v0 v1, hz, Int32.ofInt_toInt, Int32.toBitVec_or, BitVec.getLsbD_or]
theorem btB_andG {x w z v : Int} (v0 : 0 ≤ v) (v1 : v ≤ 31) (hz : z = (Int32.ofInt x &&& Int32.ofInt w).toInt) : btB z v = (btB x v && btB w v) := by
  rw [btB_lsb v0 v1, btB_lsb v0 v1, btB_lsb v0 v1, hz, Int32.ofInt_toInt, Int32.toBitVec_and, BitVec.getLsbD_and]
theorem m1_lsb : ∀ k : Nat, k < 32 → (Int32.ofInt (-1)).toBitVec.getLsbD k = true := by decide +kernel
theorem btB_notG {x z v : Int} (v0 : 0 ≤ v) (v1 : v ≤ 31) (hz : z = (Int32.ofInt x ^^^ Int32.ofInt (-1)).toInt) : btB z v = !btB x v := by
  rw [btB_lsb v0 v1, btB_lsb v0 v1, hz, Int32.ofInt_toInt, Int32.toBitVec_xor, BitVec.getLsbD_xor, m1_lsb v.toNat (by omega), Bool.xor_true]
theorem btB_pow {w p v : Int} (p0 : 0 ≤ p) (p1 : p ≤ 30) (v0 : 0 ≤ v) (v1 : v ≤ 31) (hw : w = 2 ^ p.toNat) : btB w v = (v == p) := by
  rw [btB_lsb v0 v1]
  have h9 := pow_lsb p.toNat (by omega) v.toNat (by omega)
  rw [show ((2 ^ p.toNat : Nat) : Int) = w from by rw [hw]; push_cast; rfl] at h9
  rw [h9, Bool.eq_iff_iff, decide_eq_true_iff, beq_iff_eq]
  omega
/-- the reference's steps -/
def LsI (X : Nat → Bool) (L : Int) : Prop := ∀ j : Nat, j < 10 → btB L (j : Int) = X j
def LsA (A : Nat → Nat → Bool) (X : Nat → Bool) (L a : Int) : Prop := ∀ j : Nat, j < 10 → btB L (j : Int) = nx A X a.toNat j
def LsB (A : Nat → Nat → Bool) (X : Nat → Bool) (L a b : Int) : Prop := ∀ j : Nat, j < 10 → btB L (j : Int) = (nx A X a.toNat j || (decide ((j : Int) < b) && (X a.toNat && A a.toNat j)))
def NoD (A : Nat → Nat → Bool) (p q : Nat) (d : Int) : Prop := ∀ e : Nat, (e : Int) < d → lv A p e q = false
theorem lsi_0 {A : Nat → Nat → Bool} {p w : Int} (p0 : 0 ≤ p) (p1 : p ≤ 9) (hw : w = 2 ^ p.toNat) : LsI (fun j => lv A p.toNat 0 j) w := fun j hj => by
  rw [btB_pow p0 (by omega) (by omega) (by omega) hw, Bool.eq_iff_iff, beq_iff_eq, lv_0]; omega
theorem nx_0 {A : Nat → Nat → Bool} {X : Nat → Bool} {j : Nat} : nx A X 0 j = X j := by
  unfold nx; rw [List.range_zero, List.any_nil, Bool.or_false]
theorem nx_s {A : Nat → Nat → Bool} {X : Nat → Bool} {n j : Nat} : nx A X (n + 1) j = (nx A X n j || (X n && A n j)) := by
  unfold nx; rw [List.range_succ, List.any_append, List.any_cons, List.any_nil, Bool.or_false, Bool.or_assoc]
theorem nx_10 {A : Nat → Nat → Bool} {X : Nat → Bool} {n j : Nat} (hA : ∀ a, A a j = true → a < n) (hn : n ≤ 10) : nx A X n j = nx A X 10 j := by
  rw [Bool.eq_iff_iff, nx_t, nx_t]
  constructor
  · rintro (h | ⟨a, h1, h2, h3⟩)
    · exact Or.inl h
    · exact Or.inr ⟨a, by omega, h2, h3⟩
  · rintro (h | ⟨a, h1, h2, h3⟩)
    · exact Or.inl h
    · exact Or.inr ⟨a, hA a h3, h2, h3⟩
theorem lsa_0 {A : Nat → Nat → Bool} {X : Nat → Bool} {L : Int} (h : LsI X L) : LsA A X L 0 := fun j hj => by rw [h j hj]; exact nx_0.symm
theorem lsb_0 {A : Nat → Nat → Bool} {X : Nat → Bool} {L a : Int} (h : LsA A X L a) : LsB A X L a 0 := fun j hj => by
  rw [h j hj, decide_eq_false (show ¬ (j : Int) < 0 by omega), Bool.false_and, Bool.or_false]
theorem lsb_n {A : Nat → Nat → Bool} {X : Nat → Bool} {L a b : Int} (h : LsB A X L a b) (b0 : 0 ≤ b) (hn : X a.toNat = true → A a.toNat b.toNat = true → False) : LsB A X L a (b + 1) := fun j hj => by
  rw [h j hj]
  by_cases hq : (j : Int) = b
  · have e : (X a.toNat && A a.toNat j) = false := by
      rcases hb : (X a.toNat && A a.toNat j) with _ | _
      · rfl
      · rw [Bool.and_eq_true] at hb; exact (hn hb.1 (by rw [show b.toNat = j by omega]; exact hb.2)).elim
    rw [e, Bool.and_false, Bool.and_false]
  · rw [show decide ((j : Int) < b + 1) = decide ((j : Int) < b) from by rw [Bool.eq_iff_iff, decide_eq_true_iff, decide_eq_true_iff]; omega]
theorem lsb_y {A : Nat → Nat → Bool} {X : Nat → Bool} {L a b w z : Int} (h : LsB A X L a b) (b0 : 0 ≤ b) (b9 : b ≤ 9) (hx : X a.toNat = true) (ha : A a.toNat b.toNat = true) (hw : w = 2 ^ b.toNat) (hz : z = (Int32.ofInt L ||| Int32.ofInt w).toInt) : LsB A X z a (b + 1) := fun j hj => by
  rw [btB_or b0 (by omega) (by omega) (by omega) hw hz, h j hj]
  by_cases hq : (j : Int) = b
  · have e : (X a.toNat && A a.toNat j) = true := by rw [hx, show j = b.toNat by omega, ha]; rfl
    rw [e, decide_eq_true (show (j : Int) < b + 1 by omega), show ((j : Int) == b) = true from beq_iff_eq.mpr hq]
    simp
  · rw [show decide ((j : Int) < b + 1) = decide ((j : Int) < b) from by rw [Bool.eq_iff_iff, decide_eq_true_iff, decide_eq_true_iff]; omega, show ((j : Int) == b) = false from beq_eq_false_iff_ne.mpr hq, Bool.or_false]
theorem lsb_e {A : Nat → Nat → Bool} {X : Nat → Bool} {L a b P : Int} (h : LsB A X L a b) (hb : P ≤ b) (a0 : 0 ≤ a) (hA : ∀ a b : Nat, A a b = true → (a : Int) < P ∧ (b : Int) < P) : LsA A X L (a + 1) := fun j hj => by
  rw [h j hj, show (a + 1).toNat = a.toNat + 1 by omega, nx_s]
  by_cases hq : (j : Int) < b
  · rw [decide_eq_true hq, Bool.true_and]
  · have e : A a.toNat j = false := by
      rcases hc : A a.toNat j with _ | _
      · rfl
      · exact absurd (hA _ _ hc).2 (by omega)
    rw [e, Bool.and_false, Bool.and_false]
theorem lsa_e {A : Nat → Nat → Bool} {p : Nat} {d L a P : Int} (h : LsA A (fun j => lv A p d.toNat j) L a) (ha : P ≤ a) (a1 : a ≤ 10) (d0 : 0 ≤ d) (hA : ∀ a b : Nat, A a b = true → (a : Int) < P ∧ (b : Int) < P) : LsI (fun j => lv A p (d + 1).toNat j) L := fun j hj => by
  rw [h j hj, nx_10 (fun c hc => by have := (hA _ _ hc).1; omega) (by omega), show (d + 1).toNat = d.toNat + 1 by omega]; rfl
theorem nod_0 {A : Nat → Nat → Bool} {p q : Nat} : NoD A p q 0 := fun e h => by exfalso; omega
theorem nod_s {A : Nat → Nat → Bool} {p : Nat} {q d L : Int} (h : NoD A p q.toNat d) (d0 : 0 ≤ d) (hL : LsI (fun j => lv A p d.toNat j) L) (q0 : 0 ≤ q) (q9 : q ≤ 9) (hb : ¬ Bt L q) : NoD A p q.toNat (d + 1) := fun e he => by
  by_cases hq : (e : Int) = d
  · have h9 := hL q.toNat (by omega)
    rw [show ((q.toNat : Nat) : Int) = q by omega, btB_f hb] at h9
    rw [show e = d.toNat by omega]; exact h9.symm
  · exact h e (by omega)
theorem ds_y {A : Nat → Nat → Bool} {p : Nat} {q d L : Int} (h : NoD A p q.toNat d) (d0 : 0 ≤ d) (d9 : d ≤ 9) (hL : LsI (fun j => lv A p d.toNat j) L) (q0 : 0 ≤ q) (q9 : q ≤ 9) (hb : Bt L q) : Ds A p q.toNat d := by
  have h9 := hL q.toNat (by omega)
  rw [show ((q.toNat : Nat) : Int) = q by omega, btB_iff.mpr hb] at h9
  exact Or.inr ⟨d0, d9, h9.symm, h⟩
theorem ds_n {A : Nat → Nat → Bool} {p q : Nat} {d : Int} (h : NoD A p q d) (d9 : 10 ≤ d) : Ds A p q (-1) := Or.inl ⟨rfl, h 9 (by omega)⟩
/-- the class's rows of steps -/
def pv (A : Nat → Nat → Bool) (p : Nat) : Nat → Nat → Bool
  | 0, _ => false
  | d + 1, j => lv A p d j
def ft (A : Nat → Nat → Bool) (p d j : Nat) : Bool := lv A p d j && !pv A p d j
def nf (A : Nat → Nat → Bool) (p d n j : Nat) : Bool := (List.range n).any (fun a => ft A p d a && A a j)
def Bx (P : Int) (X : Nat → Bool) (L : Int) : Prop := ∀ j : Nat, (j : Int) < P → btB L (j : Int) = X j
def SD (A : Nat → Nat → Bool) (p d q : Nat) (z : Int) : Prop := z = -1 ∧ pv A p d q = false ∨ 0 ≤ z ∧ z < (d : Int) ∧ lv A p z.toNat q = true ∧ ∀ e : Nat, (e : Int) < z → lv A p e q = false
def Rw (A : Nat → Nat → Bool) (p P d k : Int) (f : Nat → Int) : Prop := ∀ q : Nat, (q : Int) < P → SD A p.toNat (if (q : Int) < k then d.toNat + 1 else d.toNat) q (f (10 * p.toNat + q))
theorem pv_lv {A : Nat → Nat → Bool} {p d j : Nat} (h : pv A p d j = true) : lv A p d j = true := by
  match d, h with
  | 0, h => exact absurd h (by show ¬ false = true; decide)
  | d + 1, h => exact lv_s.mpr (Or.inl h)
theorem pv_e {A : Nat → Nat → Bool} {p d j e : Nat} (h : pv A p d j = false) (he : e < d) : lv A p e j = false := by
  match d, h with
  | 0, h => omega
  | d + 1, h => exact lv_down (show e ≤ d by omega) h
theorem ft_t {A : Nat → Nat → Bool} {p d j : Nat} : ft A p d j = true ↔ lv A p d j = true ∧ pv A p d j = false := by
  unfold ft; rw [Bool.and_eq_true, Bool.not_eq_true']
theorem nf_s {A : Nat → Nat → Bool} {p d n j : Nat} : nf A p d (n + 1) j = (nf A p d n j || (ft A p d n && A n j)) := by
  unfold nf; rw [List.range_succ, List.any_append, List.any_cons, List.any_nil, Bool.or_false]
theorem nf_t {A : Nat → Nat → Bool} {p d n j : Nat} : nf A p d n j = true ↔ ∃ a : Nat, a < n ∧ ft A p d a = true ∧ A a j = true := by
  unfold nf
  rw [List.any_eq_true]
  constructor
  · rintro ⟨a, h1, h2⟩; rw [Bool.and_eq_true] at h2; exact ⟨a, List.mem_range.mp h1, h2.1, h2.2⟩
  · rintro ⟨a, h1, h2, h3⟩; exact ⟨a, List.mem_range.mpr h1, by rw [Bool.and_eq_true]; exact ⟨h2, h3⟩⟩
theorem rw_0 {A : Nat → Nat → Bool} {p P : Int} {f : Nat → Int} (h : ∀ q : Nat, (q : Int) < P → f (10 * p.toNat + q) = -1) : Rw A p P 0 0 f := fun q hq => by
  rw [if_neg (by omega), h q hq]; exact Or.inl ⟨rfl, rfl⟩
theorem bx_r0 {A : Nat → Nat → Bool} {p : Nat} {P : Int} : Bx P (fun j => pv A p 0 j) 0 := fun j _ => by rw [btB_0]; rfl
theorem bx_f0 {A : Nat → Nat → Bool} {p P w : Int} (hP : P ≤ 10) (p0 : 0 ≤ p) (p1 : p ≤ 9) (hw : w = 2 ^ p.toNat) : Bx P (fun j => ft A p.toNat 0 j) w := fun j hj => by
  rw [btB_pow p0 (by omega) (by omega) (by omega) hw, Bool.eq_iff_iff, beq_iff_eq, ft_t, lv_0]
  exact ⟨fun h => ⟨by omega, rfl⟩, fun h => by have := h.1; omega⟩
theorem bx_n0 {A : Nat → Nat → Bool} {p d : Nat} {P : Int} : Bx P (fun j => nf A p d 0 j) 0 := fun j _ => by rw [btB_0]; rfl
theorem rw_y {A : Nat → Nat → Bool} {p P d q : Int} {f f' : Nat → Int} (h : Rw A p P d q f) (p0 : 0 ≤ p) (q0 : 0 ≤ q) (d0 : 0 ≤ d) (hq : ft A p.toNat d.toNat q.toNat = true) (s : f' (10 * p.toNat + q.toNat) = d) (o : ∀ j : Nat, ¬ j = 10 * p.toNat + q.toNat → f' j = f j) : Rw A p P d (q + 1) f' := fun r hr => by
  by_cases e : r = q.toNat
  · subst e
    rw [if_pos (by omega), s]
    have h9 := ft_t.mp hq
    exact Or.inr ⟨d0, by omega, h9.1, fun e he => pv_e h9.2 (by omega)⟩
  · rw [o _ (by omega)]
    have h9 := h r hr
    by_cases c : (r : Int) < q
    · rw [if_pos (show (r : Int) < q + 1 by omega)]; rw [if_pos c] at h9; exact h9
    · rw [if_neg (show ¬ (r : Int) < q + 1 by omega)]; rw [if_neg c] at h9; exact h9
theorem rw_n {A : Nat → Nat → Bool} {p P d q : Int} {f : Nat → Int} (h : Rw A p P d q f) (q0 : 0 ≤ q) (hq : ¬ ft A p.toNat d.toNat q.toNat = true) : Rw A p P d (q + 1) f := fun r hr => by
  have h9 := h r hr
  by_cases e : r = q.toNat
  · subst e
    rw [if_pos (show ((q.toNat : Nat) : Int) < q + 1 by omega)]
    rw [if_neg (show ¬ ((q.toNat : Nat) : Int) < q by omega)] at h9
    rcases h9 with ⟨z1, z2⟩ | ⟨z1, z2, z3, z4⟩
    · refine Or.inl ⟨z1, ?_⟩
      show lv A p.toNat d.toNat q.toNat = false
      exact lv_n (fun y => hq (ft_t.mpr ⟨y, z2⟩))
    · exact Or.inr ⟨z1, by omega, z3, z4⟩
  · by_cases c : (r : Int) < q
    · rw [if_pos (show (r : Int) < q + 1 by omega)]; rw [if_pos c] at h9; exact h9
    · rw [if_neg (show ¬ (r : Int) < q + 1 by omega)]; rw [if_neg c] at h9; exact h9
theorem rw_e {A : Nat → Nat → Bool} {p P d q : Int} {f : Nat → Int} (h : Rw A p P d q f) (hq : P ≤ q) (d0 : 0 ≤ d) : Rw A p P (d + 1) 0 f := fun r hr => by
  have h9 := h r hr
  rw [if_pos (show (r : Int) < q by omega)] at h9
  rw [if_neg (show ¬ (r : Int) < 0 by omega), show (d + 1).toNat = d.toNat + 1 by omega]; exact h9
theorem bx_t {P L q : Int} {X : Nat → Bool} (h : Bx P X L) (q0 : 0 ≤ q) (q1 : q < P) : Bt L q ↔ X q.toNat = true := by
  have h9 := h q.toNat (by omega)
  rw [show ((q.toNat : Nat) : Int) = q by omega] at h9
  rw [← h9]; exact btB_iff.symm
theorem bx_ny {A : Nat → Nat → Bool} {p d : Nat} {P q L t z : Int} (hP : P ≤ 10) (h : Bx P (fun j => nf A p d q.toNat j) L) (q0 : 0 ≤ q) (hq : ft A p d q.toNat = true) (ht : ∀ j : Nat, (j : Int) < P → btB t (j : Int) = A q.toNat j) (hz : z = (Int32.ofInt L ||| Int32.ofInt t).toInt) : Bx P (fun j => nf A p d (q + 1).toNat j) z := fun j hj => by
  show _ = nf A p d (q + 1).toNat j
  rw [btB_orG (by omega) (by omega) hz, h j hj, ht j hj, show (q + 1).toNat = q.toNat + 1 by omega, nf_s, hq, Bool.true_and]
theorem bx_nn {A : Nat → Nat → Bool} {p d : Nat} {P q L : Int} (h : Bx P (fun j => nf A p d q.toNat j) L) (q0 : 0 ≤ q) (hq : ¬ ft A p d q.toNat = true) : Bx P (fun j => nf A p d (q + 1).toNat j) L := fun j hj => by
  show _ = nf A p d (q + 1).toNat j
  rw [h j hj, show (q + 1).toNat = q.toNat + 1 by omega, nf_s, Bool.eq_false_iff.mpr hq, Bool.false_and, Bool.or_false]
theorem bx_r {A : Nat → Nat → Bool} {p : Nat} {P d L F z : Int} (hP : P ≤ 10) (d0 : 0 ≤ d) (h : Bx P (fun j => pv A p d.toNat j) L) (g : Bx P (fun j => ft A p d.toNat j) F) (hz : z = (Int32.ofInt L ||| Int32.ofInt F).toInt) : Bx P (fun j => pv A p (d + 1).toNat j) z := fun j hj => by
  rw [btB_orG (by omega) (by omega) hz, h j hj, g j hj, show (d + 1).toNat = d.toNat + 1 by omega]
  show (pv A p d.toNat j || ft A p d.toNat j) = lv A p d.toNat j
  rw [Bool.eq_iff_iff, Bool.or_eq_true, ft_t]
  constructor
  · rintro (h | h)
    · exact pv_lv h
    · exact h.1
  · intro h
    by_cases q : pv A p d.toNat j = true
    · exact Or.inl q
    · exact Or.inr ⟨h, Bool.eq_false_iff.mpr q⟩
theorem bx_f {A : Nat → Nat → Bool} {p : Nat} {P d q N R n z : Int} (hP : P ≤ 10) (d0 : 0 ≤ d) (hq : P ≤ q) (q1 : q ≤ 10) (hA : ∀ a b : Nat, A a b = true → (a : Int) < P ∧ (b : Int) < P) (h : Bx P (fun j => nf A p d.toNat q.toNat j) N) (g : Bx P (fun j => pv A p (d + 1).toNat j) R) (hn : n = (Int32.ofInt R ^^^ Int32.ofInt (-1)).toInt) (hz : z = (Int32.ofInt N &&& Int32.ofInt n).toInt) : Bx P (fun j => ft A p (d + 1).toNat j) z := fun j hj => by
  rw [btB_andG (by omega) (by omega) hz, btB_notG (by omega) (by omega) hn, h j hj, g j hj]
  show (nf A p d.toNat q.toNat j && !pv A p (d + 1).toNat j) = (lv A p (d + 1).toNat j && !pv A p (d + 1).toNat j)
  rw [show (d + 1).toNat = d.toNat + 1 by omega]
  show (nf A p d.toNat q.toNat j && !lv A p d.toNat j) = (lv A p (d.toNat + 1) j && !lv A p d.toNat j)
  rw [Bool.eq_iff_iff, Bool.and_eq_true, Bool.and_eq_true, Bool.not_eq_true', nf_t, lv_s]
  constructor
  · rintro ⟨⟨a, h1, h2, h3⟩, h4⟩
    exact ⟨Or.inr ⟨a, by have := (hA _ _ h3).1; omega, (ft_t.mp h2).1, h3⟩, h4⟩
  · rintro ⟨h1 | ⟨a, h1, h2, h3⟩, h4⟩
    · rw [h1] at h4; exact absurd h4 (by decide)
    · refine ⟨⟨a, by have := (hA _ _ h3).1; omega, ft_t.mpr ⟨h2, ?_⟩, h3⟩, h4⟩
      rcases hb : pv A p d.toNat a with _ | _
      · rfl
      · exfalso
        have h9 : lv A p d.toNat j = true := by
          rcases hd : d.toNat with _ | k
          · rw [hd] at hb; exact absurd hb (by show ¬ false = true; decide)
          · rw [hd] at hb; exact lv_s.mpr (Or.inr ⟨a, h1, hb, h3⟩)
        rw [h9] at h4; exact absurd h4 (by decide)
theorem rw_end {A : Nat → Nat → Bool} {p P d F : Int} {f : Nat → Int} (h : Rw A p P d 0 f) (hP : P ≤ 10) (p0 : 0 ≤ p) (p1 : p < P) (d0 : 0 ≤ d) (d1 : d ≤ P) (hA : ∀ a b : Nat, A a b = true → (a : Int) < P ∧ (b : Int) < P) (g : Bx P (fun j => ft A p.toNat d.toNat j) F) (e : P ≤ d ∨ F = 0) : ∀ q : Nat, (q : Int) < P → Ds A p.toNat q (f (10 * p.toNat + q)) := fun q hq => by
  have hA2 : ∀ a b, A a b = true → b < P.toNat := fun a b hab => by have := (hA a b hab).2; omega
  have hl : pv A p.toNat d.toNat q = false → lv A p.toNat 9 q = false := by
    intro h1
    rcases e with e | e
    · rw [lv_fin hA2 (show p.toNat < P.toNat by omega) (by omega) q]
      exact pv_e h1 (by omega)
    · have hs : ∀ j : Nat, (j : Int) < P → ¬ ft A p.toNat d.toNat j = true := fun j hj y => by
        have h9 : btB F (j : Int) = ft A p.toNat d.toNat j := g j hj
        rw [e, btB_0] at h9
        rw [← h9] at y
        exact absurd y (by show ¬ false = true; decide)
      rcases hd : d.toNat with _ | k
      · rw [hd] at hs
        exact absurd (ft_t.mpr ⟨lv_0.mpr rfl, rfl⟩) (hs p.toNat (by omega))
      · rw [hd] at hs h1
        have st : ∀ j, lv A p.toNat (k + 1) j = lv A p.toNat k j := by
          intro j
          rw [Bool.eq_iff_iff]
          constructor
          · intro y
            by_cases hj : (j : Int) < P
            · by_cases c : lv A p.toNat k j = true
              · exact c
              · exact absurd (ft_t.mpr ⟨y, lv_n c⟩) (hs j hj)
            · have := lvq_lt hA2 (show p.toNat < P.toNat by omega) _ _ y; exfalso; omega
          · intro y; exact lv_s.mpr (Or.inl y)
        have h9 := lv_stab st (9 - k) q
        rw [show k + (9 - k) = 9 by omega] at h9
        rw [h9]; exact h1
  have h9 := h q hq
  rw [if_neg (show ¬ (q : Int) < 0 by omega)] at h9
  rcases h9 with ⟨z1, z2⟩ | ⟨z1, z2, z3, z4⟩
  · exact Or.inl ⟨z1, hl z2⟩
  · exact Or.inr ⟨z1, by omega, z3, z4⟩
def Gp (t : Nat) (M M' : Mem) (k : Int) : Prop := ∀ p q : Nat, (p : Int) < k → (q : Int) < M t 1 → Ds (aCx t M) p q (M' (t + 3) (10 * p + q))
def Ou (p : Int) (M M' : Mem) : Prop := ∀ j : Nat, (j < 10 * p.toNat ∨ 10 * p.toNat + 10 ≤ j) → M' 22 j = M 22 j
theorem gp_s {M M1 M2 : Mem} {p : Int} (hP : M 19 1 ≤ 10) (h : Gp 19 M M1 p) (p0 : 0 ≤ p) (ea : aCx 19 M1 = aCx 19 M) (e1 : M1 19 1 = M 19 1) (g : ∀ q : Nat, (q : Int) < M1 19 1 → Ds (aCx 19 M1) p.toNat q (M2 22 (10 * p.toNat + q))) (o : Ou p M1 M2) : Gp 19 M M2 (p + 1) := fun a q ha hq => by
  by_cases c : (a : Int) = p
  · have h9 := g q (by omega)
    rw [ea] at h9
    rw [show a = p.toNat by omega]; exact h9
  · have h9 := h a q (by omega) hq
    rw [show M2 (19 + 3) (10 * a + q) = M1 (19 + 3) (10 * a + q) from o _ (by omega)]; exact h9
theorem ls_bt {X : Nat → Bool} {L q : Int} (h : LsI X L) (q0 : 0 ≤ q) (q9 : q ≤ 9) : Bt L q ↔ X q.toNat = true := by
  have h9 := h q.toNat (by omega)
  rw [show ((q.toNat : Nat) : Int) = q by omega] at h9
  rw [← h9]; exact btB_iff.symm
theorem ar_n {M : Mem} {a b v : Int} (a0 : 0 ≤ a) (b0 : 0 ≤ b) (e : v = M 132 (50 + 10 * a + b).toNat) (hv : v = 0) (h : aRx 132 0 M a.toNat b.toNat = true) : False := by
  have h2 := (aRx_t.mp h).2
  rw [Nat.zero_add, show 50 + 10 * a.toNat + b.toNat = (50 + 10 * a + b).toNat by omega, ← e] at h2
  exact h2 hv
theorem ar_y {M : Mem} {a b v : Int} (a0 : 0 ≤ a) (b0 : 0 ≤ b) (a1 : a < M 132 1) (b1 : b < M 132 1) (e : v = M 132 (50 + 10 * a + b).toNat) (hv : ¬ v = 0) : aRx 132 0 M a.toNat b.toNat = true := by
  refine aRx_t.mpr ⟨⟨?_, ?_⟩, ?_⟩
  · show ((a.toNat : Nat) : Int) < M 132 1; omega
  · show ((b.toNat : Nat) : Int) < M 132 1; omega
  · rw [Nat.zero_add, show 50 + 10 * a.toNat + b.toNat = (50 + 10 * a + b).toNat by omega, ← e]; exact hv
theorem aRx_f {s o : Nat} {M M' : Mem} (h : ∀ b : Nat, M' s b = M s b) : aRx s o M' = aRx s o M := by
  funext p q; unfold aRx; rw [h, h]
theorem aCx_fr {t : Nat} {ms : List Nat} {M M' : Mem} (f : Fr ms M M') (h : t ∉ ms) (h1 : t + 1 ∉ ms) : aCx t M' = aCx t M := by
  funext p q; unfold aCx; rw [f.at h, f.at h1]
theorem ct_b {M : Mem} {q v : Int} (q0 : 0 ≤ q) (q1 : q < M 19 1) (e : v = M 20 q.toNat) : ∀ j : Nat, (j : Int) < M 19 1 → btB v (j : Int) = aCx 19 M q.toNat j := fun j hj => by
  unfold aCx
  rw [decide_eq_true (show ((q.toNat : Nat) : Int) < M 19 1 ∧ (j : Int) < M 19 1 by omega), Bool.true_and, e] <;> rfl
theorem gp_le {t : Nat} {M M' : Mem} {k k' : Int} (h : Gp t M M' k) (hk : k' ≤ k) : Gp t M M' k' := fun p q hp hq => h p q (by omega) hq
theorem gp_f {t : Nat} {M M1 M2 : Mem} {k : Int} (h : Gp t M M1 k) (e : ∀ b : Nat, M2 (t + 3) b = M1 (t + 3) b) : Gp t M M2 k := fun p q hp hq => by rw [e]; exact h p q hp hq
theorem gp_gc {t : Nat} {M M' : Mem} (h : Gp t M M' (M t 1)) (e1 : M' t 1 = M t 1) (ea : aCx t M' = aCx t M) : gC t M' := fun p q hp hq => by
  rw [e1] at hp hq
  rw [ea]; exact h p q hp hq
end LVS
/-! ===== sides ===== -/
section SDS
def SyA (A : Nat → Nat → Bool) : Prop := ∀ a b : Nat, A a b = true → A b a = true
def InP (A : Nat → Nat → Bool) (P : Nat) : Prop := P ≤ 10 ∧ ∀ a b : Nat, A a b = true → a < P ∧ b < P
def Rch (A : Nat → Nat → Bool) (v u : Nat) : Prop := ∃ d : Nat, lv A v d u = true
theorem rch_r {A : Nat → Nat → Bool} {v : Nat} : Rch A v v := ⟨0, lv_0.mpr rfl⟩
theorem rch_s {A : Nat → Nat → Bool} {P v a b : Nat} (hA : InP A P) (h : Rch A v a) (e : A a b = true) : Rch A v b := by
  obtain ⟨d, h⟩ := h
  have h2 := hA.1
  have h3 := (hA.2 a b e).1
  exact ⟨d + 1, lv_s.mpr (Or.inr ⟨a, by omega, h, e⟩)⟩
theorem rch_h {A : Nat → Nat → Bool} {P u a : Nat} (hA : InP A P) (e : A u a = true) : ∀ (d v : Nat), lv A a d v = true → Rch A u v := by
  intro d
  induction d with
  | zero => intro v h; rw [lv_0.mp h]; exact rch_s hA rch_r e
  | succ d ih =>
    intro v h
    rcases lv_s.mp h with h | ⟨c, _, h, e2⟩
    · exact ih v h
    · exact rch_s hA (ih c h) e2
theorem rch_y0 {A : Nat → Nat → Bool} {P v : Nat} (hA : InP A P) (hs : SyA A) : ∀ (d u : Nat), lv A v d u = true → Rch A u v := by
  intro d
  induction d with
  | zero => intro u h; rw [lv_0.mp h]; exact rch_r
  | succ d ih =>
    intro u h
    rcases lv_s.mp h with h | ⟨c, _, h, e2⟩
    · exact ih u h
    · obtain ⟨k, hk⟩ := ih c h
      exact rch_h hA (hs _ _ e2) k v hk
theorem rch_y {A : Nat → Nat → Bool} {P v u : Nat} (hA : InP A P) (hs : SyA A) (h : Rch A v u) : Rch A u v := by
  obtain ⟨d, h⟩ := h; exact rch_y0 hA hs d u h
theorem rch_t0 {A : Nat → Nat → Bool} {P a b : Nat} (hA : InP A P) (h : Rch A a b) : ∀ (d c : Nat), lv A b d c = true → Rch A a c := by
  intro d
  induction d with
  | zero => intro c g; rw [lv_0.mp g]; exact h
  | succ d ih =>
    intro c g
    rcases lv_s.mp g with g | ⟨x, _, g, e⟩
    · exact ih c g
    · exact rch_s hA (ih x g) e
theorem rch_t {A : Nat → Nat → Bool} {P a b c : Nat} (hA : InP A P) (h : Rch A a b) (g : Rch A b c) : Rch A a c := by
  obtain ⟨d, g⟩ := g; exact rch_t0 hA h d c g
theorem rch_c0 {A : Nat → Nat → Bool} {U : Nat → Prop} {v : Nat} (c : ∀ a b : Nat, U a → A a b = true → U b) (h : U v) : ∀ (d u : Nat), lv A v d u = true → U u := by
  intro d
  induction d with
  | zero => intro u g; rw [lv_0.mp g]; exact h
  | succ d ih =>
    intro u g
    rcases lv_s.mp g with g | ⟨x, _, g, e⟩
    · exact ih u g
    · exact c x u (ih x g) e
theorem rch_c {A : Nat → Nat → Bool} {U : Nat → Prop} {v u : Nat} (c : ∀ a b : Nat, U a → A a b = true → U b) (h : U v) (g : Rch A v u) : U u := by
  obtain ⟨d, g⟩ := g; exact rch_c0 c h d u g
theorem rch_lt {A : Nat → Nat → Bool} {P v u : Nat} (hA : InP A P) (hv : v < P) (g : Rch A v u) : u < P := by
  obtain ⟨d, g⟩ := g; exact lvq_lt (fun a b h => (hA.2 a b h).2) hv d u g
theorem least0 {Q : Nat → Prop} : ∀ n v : Nat, v ≤ n → Q v → ∃ w, Q w ∧ ∀ u, Q u → w ≤ u := by
  intro n
  induction n with
  | zero => intro v h q; exact ⟨v, q, fun u _ => by omega⟩
  | succ n ih =>
    intro v h q
    by_cases hx : ∃ u, Q u ∧ u < v
    · obtain ⟨u, h1, h2⟩ := hx; exact ih u (by omega) h1
    · exact ⟨v, q, fun u hu => by
        by_cases c : v ≤ u
        · exact c
        · exact absurd ⟨u, hu, by omega⟩ hx⟩
/-- a place's level, told in Nat -/
def Dn (A : Nat → Nat → Bool) (p j d : Nat) : Prop := lv A p d j = true ∧ ∀ e : Nat, e < d → lv A p e j = false
theorem rch_9 {A : Nat → Nat → Bool} {P p j : Nat} (hA : InP A P) (hp : p < P) (h : Rch A p j) : lv A p 9 j = true := by
  obtain ⟨d, h⟩ := h
  by_cases hd : d ≤ 9
  · exact lv_mono hd h
  · rcases lv_pig (fun a b h => (hA.2 a b h).2) hp P with ⟨e, h1, h2⟩ | h3
    · have a := lv_stab h2 (d - e) j
      have h4 := hA.1
      rw [show e + (d - e) = d by omega, h] at a
      exact lv_mono (show e ≤ 9 by omega) a.symm
    · exfalso
      have h5 := List.countP_le_length (p := fun q => lv A p P q) (l := List.range P)
      rw [List.length_range] at h5
      omega
theorem dn_ex {A : Nat → Nat → Bool} {P p j : Nat} (hA : InP A P) (hp : p < P) (h : Rch A p j) : ∃ d : Nat, d < P ∧ d ≤ 9 ∧ Dn A p j d := by
  have h9 := rch_9 hA hp h
  have h10 := hA.1
  rw [lv_fin (fun a b h => (hA.2 a b h).2) hp h10 j] at h9
  obtain ⟨w, h1, h2⟩ := least0 (Q := fun d => lv A p d j = true) (P - 1) (P - 1) (Nat.le_refl _) h9
  have h3 := h2 (P - 1) h9
  exact ⟨w, by omega, by omega, h1, fun e he => lv_n (fun y => by have := h2 e y; omega)⟩
theorem dn_u {A : Nat → Nat → Bool} {p j d e : Nat} (x : Dn A p j d) (y : Dn A p j e) : d = e := by
  rcases Nat.lt_trichotomy d e with h | h | h
  · have := y.2 d h; rw [x.1] at this; exact absurd this (by decide)
  · exact h
  · have := x.2 e h; rw [y.1] at this; exact absurd this (by decide)
theorem dn_ds {A : Nat → Nat → Bool} {p j d : Nat} (h9 : d ≤ 9) (x : Dn A p j d) : Ds A p j (d : Int) := Or.inr ⟨by omega, by omega, x.1, fun e he => x.2 e (by omega)⟩
theorem ds_dn {A : Nat → Nat → Bool} {p j : Nat} {z : Int} (x : Ds A p j z) (h : ¬ z = -1) : 0 ≤ z ∧ z ≤ 9 ∧ Dn A p j z.toNat := by
  rcases x with ⟨x1, _⟩ | ⟨x1, x2, x3, x4⟩
  · exact absurd x1 h
  · exact ⟨x1, x2, x3, fun e he => x4 e (by omega)⟩
theorem dn_p {A : Nat → Nat → Bool} {p : Nat} : Dn A p p 0 := ⟨lv_0.mpr rfl, fun e h => by omega⟩
theorem dn_0 {A : Nat → Nat → Bool} {p j : Nat} (h : Dn A p j 0) : j = p := lv_0.mp h.1
theorem dn_s {A : Nat → Nat → Bool} {p j d : Nat} (h : Dn A p j (d + 1)) : ∃ a : Nat, Dn A p a d ∧ A a j = true := by
  rcases lv_s.mp h.1 with g | ⟨a, h10, g, e⟩
  · have := h.2 d (by omega); rw [g] at this; exact absurd this (by decide)
  · refine ⟨a, ⟨g, fun k hk => lv_n (fun y => ?_)⟩, e⟩
    have h3 := h.2 (k + 1) (by omega)
    rw [lv_s.mpr (Or.inr ⟨a, h10, y, e⟩)] at h3
    exact absurd h3 (by decide)
/-- two sides: touches go between them, each part's least is on the first -/
def Vd (A : Nat → Nat → Bool) (P : Nat) (C : Nat → Bool) : Prop := (∀ a b : Nat, A a b = true → C b = !C a) ∧ ∀ v : Nat, v < P → (∀ u : Nat, Rch A v u → v ≤ u) → C v = true
theorem vd_par {A : Nat → Nat → Bool} {C : Nat → Bool} {p : Nat} (h : ∀ a b : Nat, A a b = true → C b = !C a) (hp : C p = true) : ∀ d j : Nat, Dn A p j d → (d % 2 = 0 → C j = true) ∧ (d % 2 = 1 → C j = false) := by
  intro d
  induction d with
  | zero => intro j x; rw [dn_0 x]; exact ⟨fun _ => hp, fun q => by omega⟩
  | succ d ih =>
    intro j x
    obtain ⟨a, y, e⟩ := dn_s x
    have h2 := ih a y
    rw [h a j e]
    constructor
    · intro q; rw [h2.2 (by omega)]; rfl
    · intro q; rw [h2.1 (by omega)]; rfl
theorem vd_u {A : Nat → Nat → Bool} {P : Nat} {C C' : Nat → Bool} (hA : InP A P) (hs : SyA A) (x : Vd A P C) (y : Vd A P C') : ∀ j : Nat, j < P → C j = C' j := by
  intro j hj
  obtain ⟨v, h1, h2⟩ := least0 (Q := fun u => Rch A j u) j j (Nat.le_refl _) rch_r
  have hv := rch_lt hA hj h1
  have h3 : ∀ u : Nat, Rch A v u → v ≤ u := fun u hu => h2 u (rch_t hA h1 hu)
  have a := x.2 v hv h3
  have b := y.2 v hv h3
  exact rch_c (U := fun u => C u = C' u) (fun a b g e => by show C b = C' b; rw [x.1 a b e, y.1 a b e, show C a = C' a from g]) (a.trans b.symm) (rch_y hA hs h1)
def Lb (L : Int) (j : Nat) : Prop := j < 10 ∧ btB L (j : Int) = true
def SdR (A : Nat → Nat → Bool) (P z : Int) : Prop := z = -1 ∧ (∀ C : Nat → Bool, ¬ Vd A P.toNat C) ∨ 0 ≤ z ∧ z ≤ 1023 ∧ ∃ C : Nat → Bool, Vd A P.toNat C ∧ ∀ j : Nat, Lb z j ↔ (j < P.toNat ∧ C j = true)
theorem btB_nat : ∀ n : Nat, n < 1024 → ∀ j : Nat, j < 10 → btB (n : Int) (j : Int) = n.testBit j := by decide +kernel
theorem bits_e {x y : Int} (x0 : 0 ≤ x) (x1 : x ≤ 1023) (y0 : 0 ≤ y) (y1 : y ≤ 1023) (h : ∀ j : Nat, j < 10 → btB x (j : Int) = btB y (j : Int)) : x = y := by
  obtain ⟨n, rfl⟩ := Int.eq_ofNat_of_zero_le x0
  obtain ⟨m, rfl⟩ := Int.eq_ofNat_of_zero_le y0
  have e : n = m := by
    refine Nat.eq_of_testBit_eq (fun i => ?_)
    by_cases hi : i < 10
    · rw [← btB_nat n (by omega) i hi, ← btB_nat m (by omega) i hi]; exact h i hi
    · have h2 : (2 : Nat) ^ 10 ≤ 2 ^ i := Nat.pow_le_pow_right (by decide) (by omega)
      rw [Nat.testBit_lt_two_pow (by omega), Nat.testBit_lt_two_pow (by omega)]
  rw [e]
theorem bits_l {x y : Int} (x0 : 0 ≤ x) (x1 : x ≤ 1023) (y0 : 0 ≤ y) (y1 : y ≤ 1023) (h : ∀ j : Nat, Lb x j ↔ Lb y j) : x = y := bits_e x0 x1 y0 y1 (fun j hj => by
  rw [Bool.eq_iff_iff]
  exact ⟨fun g => ((h j).mp ⟨hj, g⟩).2, fun g => ((h j).mpr ⟨hj, g⟩).2⟩)
theorem sd_u {A : Nat → Nat → Bool} {P z z' : Int} (hA : InP A P.toNat) (hs : SyA A) (x : SdR A P z) (y : SdR A P z') : z = z' := by
  rcases x with ⟨x1, x2⟩ | ⟨x0, x1, C, x2, x3⟩
  · rcases y with ⟨y1, _⟩ | ⟨_, _, C', y2, _⟩
    · omega
    · exact absurd y2 (x2 C')
  · rcases y with ⟨_, y2⟩ | ⟨y0, y1, C', y2, y3⟩
    · exact absurd x2 (y2 C)
    · refine bits_l x0 x1 y0 y1 (fun j => (x3 j).trans (Iff.trans ?_ (y3 j).symm))
      constructor
      · intro h; exact ⟨h.1, by rw [← vd_u hA hs x2 y2 j h.1]; exact h.2⟩
      · intro h; exact ⟨h.1, by rw [vd_u hA hs x2 y2 j h.1]; exact h.2⟩
def SoN (A : Nat → Nat → Bool) (P : Nat) (F S : Nat → Prop) : Prop := ∀ C : Nat → Bool, Vd A P C → (∀ j : Nat, F j → C j = true) ∧ ∀ j : Nat, S j → C j = false
/-- the class, ahead of root p -/
def CI_ (A : Nat → Nat → Bool) (P p : Nat) (F S : Nat → Prop) : Prop := SoN A P F S ∧ (∀ r : Nat, r < p → r < P → F r ∨ S r) ∧ (∀ a b : Nat, F a ∨ S a → A a b = true → F b ∨ S b) ∧ (∀ j : Nat, F j ∨ S j → j < P) ∧ ∀ v : Nat, F v ∨ S v → (∀ u : Nat, Rch A v u → v ≤ u) → F v
def Evn (A : Nat → Nat → Bool) (p j : Nat) : Prop := ∃ d : Nat, d ≤ 9 ∧ Dn A p j d ∧ d % 2 = 0
def Odn (A : Nat → Nat → Bool) (p j : Nat) : Prop := ∃ d : Nat, d ≤ 9 ∧ Dn A p j d ∧ d % 2 = 1
theorem eo_r {A : Nat → Nat → Bool} {p j : Nat} (h : Evn A p j ∨ Odn A p j) : Rch A p j := by
  rcases h with ⟨d, _, h, _⟩ | ⟨d, _, h, _⟩
  · exact ⟨d, h.1⟩
  · exact ⟨d, h.1⟩
theorem r_eo {A : Nat → Nat → Bool} {P p j : Nat} (hA : InP A P) (hp : p < P) (h : Rch A p j) : Evn A p j ∨ Odn A p j := by
  obtain ⟨d, _, h2, h3⟩ := dn_ex hA hp h
  by_cases q : d % 2 = 0
  · exact Or.inl ⟨d, h2, h3, q⟩
  · exact Or.inr ⟨d, h2, h3, by omega⟩
theorem root_l {A : Nat → Nat → Bool} {P p : Nat} {U : Nat → Prop} (hA : InP A P) (hs : SyA A) (hp : p < P) (b : ∀ r : Nat, r < p → r < P → U r) (c : ∀ x y : Nat, U x → A x y = true → U y) (hn : ¬ U p) : ∀ u : Nat, Rch A p u → p ≤ u := by
  intro u hu
  by_cases q : p ≤ u
  · exact q
  · exact absurd (rch_c c (b u (by omega) (by omega)) (rch_y hA hs hu)) hn
theorem ci_0 {A : Nat → Nat → Bool} {P : Nat} {F S : Nat → Prop} (hF : ∀ j, ¬ F j) (hS : ∀ j, ¬ S j) : CI_ A P 0 F S := ⟨fun C _ => ⟨fun j h => absurd h (hF j), fun j h => absurd h (hS j)⟩, fun r h => by omega, fun a b h => h.elim (fun g => absurd g (hF a)) (fun g => absurd g (hS a)), fun a h => h.elim (fun g => absurd g (hF a)) (fun g => absurd g (hS a)), fun a h => h.elim (fun g => absurd g (hF a)) (fun g => absurd g (hS a))⟩
theorem ci_skip {A : Nat → Nat → Bool} {P p : Nat} {F S : Nat → Prop} (h : CI_ A P p F S) (hp : F p ∨ S p) : CI_ A P (p + 1) F S := ⟨h.1, fun r h1 h2 => by
  by_cases q : r = p
  · rw [q]; exact hp
  · exact h.2.1 r (by omega) h2, h.2.2⟩
theorem ci_root {A : Nat → Nat → Bool} {P p : Nat} {F S F' S' : Nat → Prop} (hA : InP A P) (hs : SyA A) (hp : p < P) (h : CI_ A P p F S) (hn : ¬ (F p ∨ S p)) (hF : ∀ j, F' j ↔ F j ∨ Evn A p j) (hS : ∀ j, S' j ↔ S j ∨ Odn A p j) : CI_ A P (p + 1) F' S' := by
  obtain ⟨h1, h2, h3, h4, h5⟩ := h
  have hl := root_l hA hs hp h2 h3 hn
  have e0 : Evn A p p := ⟨0, by decide, dn_p, rfl⟩
  have hU : ∀ j, F' j ∨ S' j ↔ (F j ∨ S j) ∨ Rch A p j := by
    intro j
    rw [hF, hS]
    constructor
    · rintro ((q | q) | (q | q))
      · exact Or.inl (Or.inl q)
      · exact Or.inr (eo_r (Or.inl q))
      · exact Or.inl (Or.inr q)
      · exact Or.inr (eo_r (Or.inr q))
    · rintro ((q | q) | q)
      · exact Or.inl (Or.inl q)
      · exact Or.inr (Or.inl q)
      · rcases r_eo hA hp q with q | q
        · exact Or.inl (Or.inr q)
        · exact Or.inr (Or.inr q)
  refine ⟨fun C hC => ⟨fun j hj => ?_, fun j hj => ?_⟩, fun r r1 r2 => (hU r).mpr ?_, fun a b g e => (hU b).mpr ?_, fun j g => ?_, fun v g l => (hF v).mpr ?_⟩
  · rcases (hF j).mp hj with q | ⟨d, _, q, q2⟩
    · exact (h1 C hC).1 j q
    · exact (vd_par hC.1 (hC.2 p hp hl) d j q).1 q2
  · rcases (hS j).mp hj with q | ⟨d, _, q, q2⟩
    · exact (h1 C hC).2 j q
    · exact (vd_par hC.1 (hC.2 p hp hl) d j q).2 q2
  · by_cases q : r = p
    · rw [q]; exact Or.inr rch_r
    · exact Or.inl (h2 r (by omega) r2)
  · rcases (hU a).mp g with q | q
    · exact Or.inl (h3 a b q e)
    · exact Or.inr (rch_s hA q e)
  · rcases (hU j).mp g with q | q
    · exact h4 j q
    · exact rch_lt hA hp q
  · rcases (hU v).mp g with q | q
    · exact Or.inl (h5 v q l)
    · have h6 := l p (rch_y hA hs q)
      have h7 := hl v q
      rw [show v = p by omega]; exact Or.inr e0
theorem ci_no {A : Nat → Nat → Bool} {P p : Nat} {F S : Nat → Prop} (h : CI_ A P p F S) (a b : Nat) (e : A a b = true) (q : F a ∧ F b ∨ S a ∧ S b) : ∀ C : Nat → Bool, ¬ Vd A P C := by
  intro C hC
  have h1 := h.1 C hC
  have h2 := hC.1 a b e
  rcases q with ⟨qa, qb⟩ | ⟨qa, qb⟩
  · rw [h1.1 a qa, h1.1 b qb] at h2; exact absurd h2 (by decide)
  · rw [h1.2 a qa, h1.2 b qb] at h2; exact absurd h2 (by decide)
noncomputable def Cf (F : Nat → Prop) (j : Nat) : Bool := @decide (F j) (Classical.propDecidable _)
theorem cf_t {F : Nat → Prop} {j : Nat} : Cf F j = true ↔ F j := by unfold Cf; exact @decide_eq_true_iff _ (Classical.propDecidable _)
theorem cf_n {F : Nat → Prop} {j : Nat} (h : ¬ F j) : Cf F j = false := by
  rcases hb : Cf F j with _ | _
  · rfl
  · exact absurd (cf_t.mp hb) h
theorem ci_yes {A : Nat → Nat → Bool} {P p : Nat} {F S : Nat → Prop} (hA : InP A P) (hp : P ≤ p) (h : CI_ A P p F S) (q : ∀ a b : Nat, A a b = true → ¬ (F a ∧ F b) ∧ ¬ (S a ∧ S b)) : Vd A P (Cf F) := by
  obtain ⟨h1, h2, h3, h4, h5⟩ := h
  refine ⟨fun a b e => ?_, fun v hv l => cf_t.mpr (h5 v (h2 v (by omega) hv) l)⟩
  have g := q a b e
  have ha := h2 a (by have := (hA.2 a b e).1; omega) (hA.2 a b e).1
  have hb := h2 b (by have := (hA.2 a b e).2; omega) (hA.2 a b e).2
  by_cases c : F a
  · rw [cf_t.mpr c, cf_n (fun y => g.1 ⟨c, y⟩)]; rfl
  · have sa : S a := ha.elim (fun y => absurd y c) id
    have fb : F b := hb.elim id (fun y => absurd ⟨sa, y⟩ g.2)
    rw [cf_n c, cf_t.mpr fb]; rfl
/-- the reference -/
def RI_ (A : Nat → Nat → Bool) (P p : Nat) (F S : Nat → Prop) : Prop := SoN A P F S ∧ (∀ r : Nat, r < p → r < P → F r ∨ S r) ∧ (∀ a : Nat, F a ∨ S a → (F a ∧ ∀ b : Nat, A a b = true → S b) ∨ (S a ∧ ∀ b : Nat, A a b = true → F b)) ∧ (∀ j : Nat, F j ∨ S j → j < P) ∧ ∀ v : Nat, F v ∨ S v → (∀ u : Nat, Rch A v u → v ≤ u) → F v
def Lab (F S : Nat → Prop) (j d : Nat) : Prop := (d % 2 = 0 → F j) ∧ (d % 2 = 1 → S j)
def RQ_ (A : Nat → Nat → Bool) (P p k a0 : Nat) (F0 S0 F S : Nat → Prop) : Prop := SoN A P F S ∧ F p ∧ (∀ j, F0 j → F j) ∧ (∀ j, S0 j → S j) ∧ (∀ j, F j ∨ S j → (F0 j ∨ S0 j) ∨ Rch A p j) ∧ ∀ a d : Nat, Dn A p a d → (d < k ∨ d = k ∧ a < a0) → ∀ b : Nat, A a b = true → Lab F S b (d + 1)
def RB_ (A : Nat → Nat → Bool) (P p k a b0 : Nat) (F0 S0 F S : Nat → Prop) : Prop := RQ_ A P p k a F0 S0 F S ∧ ∀ d : Nat, Dn A p a d → d ≤ k → ∀ b : Nat, b < b0 → A a b = true → Lab F S b (d + 1)
theorem ri_0 {A : Nat → Nat → Bool} {P : Nat} {F S : Nat → Prop} (hF : ∀ j, ¬ F j) (hS : ∀ j, ¬ S j) : RI_ A P 0 F S := ⟨fun C _ => ⟨fun j h => absurd h (hF j), fun j h => absurd h (hS j)⟩, fun r h => by omega, fun a h => h.elim (fun g => absurd g (hF a)) (fun g => absurd g (hS a)), fun a h => h.elim (fun g => absurd g (hF a)) (fun g => absurd g (hS a)), fun a h => h.elim (fun g => absurd g (hF a)) (fun g => absurd g (hS a))⟩
theorem ri_skip {A : Nat → Nat → Bool} {P p : Nat} {F S : Nat → Prop} (h : RI_ A P p F S) (hp : F p ∨ S p) : RI_ A P (p + 1) F S := ⟨h.1, fun r h1 h2 => by
  by_cases q : r = p
  · rw [q]; exact hp
  · exact h.2.1 r (by omega) h2, h.2.2⟩
theorem ri_cl {A : Nat → Nat → Bool} {P p : Nat} {F S : Nat → Prop} (h : RI_ A P p F S) : ∀ a b : Nat, F a ∨ S a → A a b = true → F b ∨ S b := fun a b g e => by
  rcases h.2.2.1 a g with ⟨_, q⟩ | ⟨_, q⟩
  · exact Or.inr (q b e)
  · exact Or.inl (q b e)
theorem rq_0 {A : Nat → Nat → Bool} {P p : Nat} {F0 S0 F S : Nat → Prop} (hA : InP A P) (hs : SyA A) (hp : p < P) (h : RI_ A P p F0 S0) (hn : ¬ (F0 p ∨ S0 p)) (hF : ∀ j, F j ↔ F0 j ∨ j = p) (hS : ∀ j, S j ↔ S0 j) : RQ_ A P p 0 0 F0 S0 F S := by
  have hl := root_l hA hs hp h.2.1 (ri_cl h) hn
  refine ⟨fun C hC => ⟨fun j hj => ?_, fun j hj => (h.1 C hC).2 j ((hS j).mp hj)⟩, (hF p).mpr (Or.inr rfl), fun j g => (hF j).mpr (Or.inl g), fun j g => (hS j).mpr g, fun j g => ?_, fun a d _ g => by omega⟩
  · rcases (hF j).mp hj with q | q
    · exact (h.1 C hC).1 j q
    · rw [q]; exact hC.2 p hp hl
  · rcases g with g | g
    · rcases (hF j).mp g with q | q
      · exact Or.inl (Or.inl q)
      · rw [q]; exact Or.inr rch_r
    · exact Or.inl (Or.inr ((hS j).mp g))
theorem rq_lab {A : Nat → Nat → Bool} {P p k a0 : Nat} {F0 S0 F S : Nat → Prop} (h : RQ_ A P p k a0 F0 S0 F S) {a d : Nat} (x : Dn A p a d) (hd : d ≤ k) : Lab F S a d := by
  rcases d with _ | d
  · rw [dn_0 x]; exact ⟨fun _ => h.2.1, fun q => by omega⟩
  · obtain ⟨c, y, e⟩ := dn_s x
    exact h.2.2.2.2.2 c d y (Or.inl (by omega)) a e
theorem rb_0 {A : Nat → Nat → Bool} {P p k a : Nat} {F0 S0 F S : Nat → Prop} (h : RQ_ A P p k a F0 S0 F S) : RB_ A P p k a 0 F0 S0 F S := ⟨h, fun d _ _ b hb => by omega⟩
theorem rb_n {A : Nat → Nat → Bool} {P p k a b : Nat} {F0 S0 F S : Nat → Prop} (h : RB_ A P p k a b F0 S0 F S) (hn : ¬ A a b = true) : RB_ A P p k a (b + 1) F0 S0 F S := ⟨h.1, fun d x hd c hc e => h.2 d x hd c (by
  by_cases q : c = b
  · rw [q] at e; exact absurd e hn
  · omega) e⟩
theorem lab_m {F S F' S' : Nat → Prop} {j d : Nat} (hF : ∀ j, F j → F' j) (hS : ∀ j, S j → S' j) (h : Lab F S j d) : Lab F' S' j d := ⟨fun q => hF j (h.1 q), fun q => hS j (h.2 q)⟩
theorem rb_y {A : Nat → Nat → Bool} {P p k a b : Nat} {F0 S0 F S F' S' : Nat → Prop} (hA : InP A P) (h0 : RI_ A P p F0 S0) (h : RB_ A P p k a b F0 S0 F S) (e : A a b = true) (hS : ∀ j, S' j ↔ S j ∨ F a ∧ j = b) (hF : ∀ j, F' j ↔ F j ∨ S' a ∧ j = b) : RB_ A P p k a (b + 1) F0 S0 F' S' := by
  obtain ⟨⟨h1, h2, h3, h4, h5, h6⟩, h7⟩ := id h
  have mF : ∀ j, F j → F' j := fun j q => (hF j).mpr (Or.inl q)
  have mS : ∀ j, S j → S' j := fun j q => (hS j).mpr (Or.inl q)
  have hU : ∀ j, F' j ∨ S' j → (F j ∨ S j) ∨ (F a ∨ S a) ∧ j = b := by
    intro j
    rintro (q | q)
    · rcases (hF j).mp q with q | ⟨q, qj⟩
      · exact Or.inl (Or.inl q)
      · rcases (hS a).mp q with q | ⟨q, _⟩
        · exact Or.inr ⟨Or.inr q, qj⟩
        · exact Or.inr ⟨Or.inl q, qj⟩
    · rcases (hS j).mp q with q | ⟨q, qj⟩
      · exact Or.inl (Or.inr q)
      · exact Or.inr ⟨Or.inl q, qj⟩
  have sS : ∀ C : Nat → Bool, Vd A P C → ∀ j, S' j → C j = false := fun C hC j q => by
    rcases (hS j).mp q with q | ⟨q, qj⟩
    · exact (h1 C hC).2 j q
    · rw [qj, hC.1 a b e, (h1 C hC).1 a q]; rfl
  have nw : ∀ j, F' j ∨ S' j → (F0 j ∨ S0 j) ∨ Rch A p j := fun j q => by
    rcases hU j q with q | ⟨q, qj⟩
    · exact h5 j q
    · rw [qj]
      rcases h5 a q with q | q
      · exact Or.inl (ri_cl h0 a b q e)
      · exact Or.inr (rch_s hA q e)
  refine ⟨⟨fun C hC => ⟨fun j q => ?_, sS C hC⟩, mF p h2, fun j q => mF j (h3 j q), fun j q => mS j (h4 j q), nw, fun x d y g c ec => lab_m mF mS (h6 x d y g c ec)⟩, fun d x hd c hc ec => ?_⟩
  · rcases (hF j).mp q with q | ⟨q, qj⟩
    · exact (h1 C hC).1 j q
    · rw [qj, hC.1 a b e, sS C hC a q]; rfl
  · by_cases q : c = b
    · have g := rq_lab h.1 x hd
      rw [q]
      refine ⟨fun r => (hF b).mpr (Or.inr ⟨mS a (g.2 (by omega)), rfl⟩), fun r => (hS b).mpr (Or.inr ⟨g.1 (by omega), rfl⟩)⟩
    · exact lab_m mF mS (h7 d x hd c (by omega) ec)
theorem rb_e {A : Nat → Nat → Bool} {P p k a b0 : Nat} {F0 S0 F S : Nat → Prop} (hA : InP A P) (h : RB_ A P p k a b0 F0 S0 F S) (hb : P ≤ b0) : RQ_ A P p k (a + 1) F0 S0 F S := by
  obtain ⟨⟨h1, h2, h3, h4, h5, h6⟩, h7⟩ := h
  refine ⟨h1, h2, h3, h4, h5, fun x d y g b e => ?_⟩
  by_cases q : x = a
  · subst q
    exact h7 d y (by omega) b (by have := (hA.2 x b e).2; omega) e
  · exact h6 x d y (by omega) b e
theorem rq_e {A : Nat → Nat → Bool} {P p k a0 : Nat} {F0 S0 F S : Nat → Prop} (hA : InP A P) (h : RQ_ A P p k a0 F0 S0 F S) (ha : P ≤ a0) : RQ_ A P p (k + 1) 0 F0 S0 F S := by
  obtain ⟨h1, h2, h3, h4, h5, h6⟩ := h
  exact ⟨h1, h2, h3, h4, h5, fun x d y g b e => h6 x d y (by have := (hA.2 x b e).1; omega) b e⟩
theorem rq_end {A : Nat → Nat → Bool} {P p k : Nat} {F0 S0 F S : Nat → Prop} (hA : InP A P) (hs : SyA A) (hp : p < P) (h0 : RI_ A P p F0 S0) (hn : ¬ (F0 p ∨ S0 p)) (h : RQ_ A P p k 0 F0 S0 F S) (hk : P ≤ k) : RI_ A P (p + 1) F S := by
  have hl := root_l hA hs hp h0.2.1 (ri_cl h0) hn
  have hx := h
  obtain ⟨h1, h2, h3, h4, h5, h6⟩ := h
  refine ⟨h1, fun r r1 r2 => ?_, fun a g => ?_, fun j g => ?_, fun v g l => ?_⟩
  · by_cases q : r = p
    · rw [q]; exact Or.inl h2
    · exact (h0.2.1 r (by omega) r2).elim (fun y => Or.inl (h3 r y)) (fun y => Or.inr (h4 r y))
  · rcases h5 a g with q | q
    · rcases h0.2.2.1 a q with ⟨y, z⟩ | ⟨y, z⟩
      · exact Or.inl ⟨h3 a y, fun b e => h4 b (z b e)⟩
      · exact Or.inr ⟨h4 a y, fun b e => h3 b (z b e)⟩
    · obtain ⟨d, d1, d2, d3⟩ := dn_ex hA hp q
      have g1 := rq_lab hx d3 (by omega)
      by_cases c : d % 2 = 0
      · exact Or.inl ⟨g1.1 c, fun b e => (h6 a d d3 (Or.inl (by omega)) b e).2 (by omega)⟩
      · exact Or.inr ⟨g1.2 (by omega), fun b e => (h6 a d d3 (Or.inl (by omega)) b e).1 (by omega)⟩
  · rcases h5 j g with q | q
    · exact h0.2.2.2.1 j q
    · exact rch_lt hA hp q
  · rcases h5 v g with q | q
    · exact h3 v (h0.2.2.2.2 v q l)
    · have a1 := l p (rch_y hA hs q)
      have a2 := hl v q
      rw [show v = p by omega]; exact h2
theorem ri_no {A : Nat → Nat → Bool} {P p : Nat} {F S : Nat → Prop} (h : RI_ A P p F S) (j : Nat) (f : F j) (s : S j) : ∀ C : Nat → Bool, ¬ Vd A P C := by
  intro C hC
  have h1 := h.1 C hC
  have h2 := h1.1 j f
  rw [h1.2 j s] at h2
  exact absurd h2 (by decide)
theorem ri_yes {A : Nat → Nat → Bool} {P p : Nat} {F S : Nat → Prop} (hA : InP A P) (hp : P ≤ p) (h : RI_ A P p F S) (q : ∀ j : Nat, ¬ (F j ∧ S j)) : Vd A P (Cf F) := by
  obtain ⟨h1, h2, h3, h4, h5⟩ := h
  refine ⟨fun a b e => ?_, fun v hv l => cf_t.mpr (h5 v (h2 v (by omega) hv) l)⟩
  have ha := h2 a (by have := (hA.2 a b e).1; omega) (hA.2 a b e).1
  rcases h3 a ha with ⟨y, z⟩ | ⟨y, z⟩
  · rw [cf_t.mpr y, cf_n (fun w => q b ⟨w, z b e⟩)]; rfl
  · rw [cf_n (fun w => q a ⟨w, y⟩), cf_t.mpr (z b e)]; rfl
/-- bits as labels -/
theorem lb_0 {j : Nat} : ¬ Lb 0 j := fun h => by
  have h9 := h.2
  rw [btB_0] at h9
  exact absurd h9 (by show ¬ false = true; decide)
theorem lb_or {x w b z : Int} (b0 : 0 ≤ b) (b9 : b ≤ 9) (hw : w = 2 ^ b.toNat) (hz : z = (Int32.ofInt x ||| Int32.ofInt w).toInt) (j : Nat) : Lb z j ↔ Lb x j ∨ j = b.toNat := by
  unfold Lb
  by_cases hj : j < 10
  · rw [btB_or b0 (by omega) (by omega) (by omega) hw hz, Bool.or_eq_true, beq_iff_eq]
    constructor
    · rintro ⟨_, h | h⟩
      · exact Or.inl ⟨hj, h⟩
      · exact Or.inr (by omega)
    · rintro (h | h)
      · exact ⟨hj, Or.inl h.2⟩
      · exact ⟨hj, Or.inr (by omega)⟩
  · constructor
    · intro h; exact absurd h.1 hj
    · rintro (h | h)
      · exact absurd h.1 hj
      · omega
theorem lb_orG {x w z : Int} (hz : z = (Int32.ofInt x ||| Int32.ofInt w).toInt) (j : Nat) : Lb z j ↔ Lb x j ∨ Lb w j := by
  unfold Lb
  by_cases hj : j < 10
  · rw [btB_orG (by omega) (by omega) hz, Bool.or_eq_true]
    constructor
    · rintro ⟨_, h | h⟩
      · exact Or.inl ⟨hj, h⟩
      · exact Or.inr ⟨hj, h⟩
    · rintro (h | h)
      · exact ⟨hj, Or.inl h.2⟩
      · exact ⟨hj, Or.inr h.2⟩
  · constructor
    · intro h; exact absurd h.1 hj
    · rintro (h | h) <;> exact absurd h.1 hj
theorem lb_or0 {x z : Int} (hz : z = (Int32.ofInt x ||| Int32.ofInt 0).toInt) (j : Nat) : Lb z j ↔ Lb x j := (lb_orG hz j).trans ⟨fun h => h.elim id (fun g => absurd g lb_0), Or.inl⟩
theorem lb_andG {x w z : Int} (hz : z = (Int32.ofInt x &&& Int32.ofInt w).toInt) (j : Nat) : Lb z j ↔ Lb x j ∧ Lb w j := by
  unfold Lb
  by_cases hj : j < 10
  · rw [btB_andG (by omega) (by omega) hz, Bool.and_eq_true]
    exact ⟨fun h => ⟨⟨hj, h.2.1⟩, ⟨hj, h.2.2⟩⟩, fun h => ⟨hj, h.1.2, h.2.2⟩⟩
  · exact ⟨fun h => absurd h.1 hj, fun h => absurd h.1.1 hj⟩
theorem lb_bt {L p : Int} (p0 : 0 ≤ p) (p9 : p ≤ 9) : Bt L p ↔ Lb L p.toNat := by
  unfold Lb
  rw [show ((p.toNat : Nat) : Int) = p by omega, btB_iff]
  exact ⟨fun h => ⟨by omega, h⟩, fun h => h.2⟩
theorem lb_ex {z : Int} (z0 : 0 ≤ z) (z1 : z ≤ 1023) (h : ¬ z = 0) : ∃ j : Nat, Lb z j := by
  by_cases hx : ∃ j : Nat, Lb z j
  · exact hx
  · exact absurd (bits_l z0 z1 (by decide) (by decide) (fun j => ⟨fun g => absurd ⟨j, g⟩ hx, fun g => absurd g lb_0⟩)) h
theorem sd_yes {A : Nat → Nat → Bool} {P z : Int} (z0 : 0 ≤ z) (z1 : z ≤ 1023) (h : Vd A P.toNat (Cf (Lb z))) (hl : ∀ j : Nat, Lb z j → j < P.toNat) : SdR A P z := Or.inr ⟨z0, z1, _, h, fun j => ⟨fun g => ⟨hl j g, cf_t.mpr g⟩, fun g => cf_t.mp g.2⟩⟩
/-- the class's loops -/
def TwW (M : Mem) (x z : Int) : Prop := z = 1 ∧ (∃ a b : Nat, (a : Int) < M 2 1 ∧ Lb x a ∧ Lb x b ∧ btB (M 3 a) (b : Int) = true) ∨ z = 0 ∧ ∀ a b : Nat, (a : Int) < M 2 1 → Lb x a → Lb x b → btB (M 3 a) (b : Int) = false
theorem and_le {t x v : Int} (x0 : 0 ≤ x) (x1 : x ≤ 1023) (hv : v = (Int32.ofInt t &&& Int32.ofInt x).toInt) : 0 ≤ v ∧ v ≤ x := by
  have e : (Int32.ofInt x).toInt = x := o32 ⟨by omega, by omega⟩
  have h := and_rng (a := Int32.ofInt t) (b := Int32.ofInt x) (by rw [e]; exact x0)
  rw [e] at h
  rw [hv]; exact h
theorem tw_1 {M : Mem} {x p t v : Int} (p0 : 0 ≤ p) (p1 : p < M 2 1) (hx : Lb x p.toNat) (x0 : 0 ≤ x) (x1 : x ≤ 1023) (ht : t = M 3 p.toNat) (hv : v = (Int32.ofInt t &&& Int32.ofInt x).toInt) (hn : ¬ v = 0) : TwW M x 1 := by
  obtain ⟨v0, v1⟩ := and_le x0 x1 hv
  obtain ⟨j, hj⟩ := lb_ex v0 (by omega) hn
  have h9 := (lb_andG hv j).mp hj
  exact Or.inl ⟨rfl, p.toNat, j, by omega, hx, h9.2, by rw [← ht]; exact h9.1.2⟩
def TwI (M : Mem) (x p : Int) : Prop := ∀ a b : Nat, (a : Int) < p → Lb x a → Lb x b → btB (M 3 a) (b : Int) = false
theorem ti_0 {M : Mem} {x : Int} : TwI M x 0 := fun a b h => by omega
theorem ti_n {M : Mem} {x p : Int} (h : TwI M x p) (p0 : 0 ≤ p) (hn : ¬ Lb x p.toNat) : TwI M x (p + 1) := fun a b ha h1 h2 => by
  by_cases q : (a : Int) = p
  · rw [show a = p.toNat by omega] at h1; exact absurd h1 hn
  · exact h a b (by omega) h1 h2
theorem ti_z {M : Mem} {x p t v : Int} (h : TwI M x p) (p0 : 0 ≤ p) (ht : t = M 3 p.toNat) (hv : v = (Int32.ofInt t &&& Int32.ofInt x).toInt) (hz : v = 0) : TwI M x (p + 1) := fun a b ha h1 h2 => by
  by_cases q : (a : Int) = p
  · rcases hb : btB (M 3 a) (b : Int) with _ | _
    · rfl
    · rw [show a = p.toNat by omega, ← ht] at hb
      have h9 := (lb_andG hv b).mpr ⟨⟨h2.1, hb⟩, h2⟩
      rw [hz] at h9
      exact absurd h9 lb_0
  · exact h a b (by omega) h1 h2
theorem ti_e {M : Mem} {x p : Int} (h : TwI M x p) (hp : M 2 1 ≤ p) : TwW M x 0 := Or.inr ⟨rfl, fun a b ha => h a b (by omega)⟩
theorem inp_c {t : Nat} {M : Mem} (hP : M t 1 ≤ 10) : InP (aCx t M) (M t 1).toNat := ⟨by omega, fun a b h => by have := aC_lt a b h; omega⟩
theorem inp_r {M : Mem} (hP : M 132 1 ≤ 10) : InP (aRx 132 0 M) (M 132 1).toNat := ⟨by omega, fun a b h => by have h9 := aR_lt a b h; have h8 : (a : Int) < M 132 1 ∧ (b : Int) < M 132 1 := h9; omega⟩
theorem gd_ {M : Mem} {p q v : Int} (h : gC 2 M) (p0 : 0 ≤ p) (p1 : p < M 2 1) (q0 : 0 ≤ q) (q1 : q < M 2 1) (e : v = M 5 (p * 10 + q).toNat) : Ds (aCx 2 M) p.toNat q.toNat v := by
  have h9 := h p.toNat q.toNat (by omega) (by omega)
  rw [show 10 * p.toNat + q.toNat = (p * 10 + q).toNat by omega] at h9
  rw [e]; exact h9
theorem rem2 : ∀ q : Nat, q < 10 → (Int32.ofInt (q : Int) - Int32.ofInt (q : Int) / Int32.ofInt 2 * Int32.ofInt 2).toInt = ((q % 2 : Nat) : Int) := by decide +kernel
theorem eo_even {A : Nat → Nat → Bool} {p q : Nat} {f v : Int} (g : Ds A p q f) (h : ¬ f = -1) (e : v = (Int32.ofInt f - Int32.ofInt f / Int32.ofInt 2 * Int32.ofInt 2).toInt) (hv : v = 0) : Evn A p q ∧ ¬ Odn A p q := by
  obtain ⟨f0, f9, x⟩ := ds_dn g h
  obtain ⟨n, rfl⟩ := Int.eq_ofNat_of_zero_le f0
  rw [rem2 n (by omega)] at e
  refine ⟨⟨n, by omega, x, by omega⟩, fun y => ?_⟩
  obtain ⟨d, _, y1, y2⟩ := y
  have h8 : n = d := dn_u x y1
  omega
theorem eo_odd {A : Nat → Nat → Bool} {p q : Nat} {f v : Int} (g : Ds A p q f) (h : ¬ f = -1) (e : v = (Int32.ofInt f - Int32.ofInt f / Int32.ofInt 2 * Int32.ofInt 2).toInt) (hv : ¬ v = 0) : ¬ Evn A p q ∧ Odn A p q := by
  obtain ⟨f0, f9, x⟩ := ds_dn g h
  obtain ⟨n, rfl⟩ := Int.eq_ofNat_of_zero_le f0
  rw [rem2 n (by omega)] at e
  refine ⟨fun y => ?_, ⟨n, by omega, x, by omega⟩⟩
  obtain ⟨d, _, y1, y2⟩ := y
  have h8 : n = d := dn_u x y1
  omega
theorem eo_none {A : Nat → Nat → Bool} {p q : Nat} {f : Int} (g : Ds A p q f) (h : f = -1) : ¬ Evn A p q ∧ ¬ Odn A p q := by
  constructor
  · rintro ⟨d, d9, y, _⟩
    have := ds_u g (dn_ds d9 y); omega
  · rintro ⟨d, d9, y, _⟩
    have := ds_u g (dn_ds d9 y); omega
def FsI (E : Nat → Prop) (L L0 q : Int) : Prop := ∀ j : Nat, Lb L j ↔ Lb L0 j ∨ (j : Int) < q ∧ E j
theorem fs_0 {E : Nat → Prop} {L : Int} : FsI E L L 0 := fun j => ⟨Or.inl, fun h => h.elim id (fun g => by have := g.1; exfalso; omega)⟩
theorem fs_n {E : Nat → Prop} {L L0 q : Int} (h : FsI E L L0 q) (q0 : 0 ≤ q) (hn : ¬ E q.toNat) : FsI E L L0 (q + 1) := fun j => by
  refine (h j).trans ⟨fun g => g.imp id (fun g => ⟨by have := g.1; omega, g.2⟩), fun g => g.imp id (fun g => ⟨?_, g.2⟩)⟩
  by_cases c : (j : Int) = q
  · have h9 := g.2; rw [show j = q.toNat by omega] at h9; exact absurd h9 hn
  · have := g.1; omega
theorem fs_y {E : Nat → Prop} {L L0 q w z : Int} (h : FsI E L L0 q) (q0 : 0 ≤ q) (q9 : q ≤ 9) (he : E q.toNat) (hw : w = 2 ^ q.toNat) (hz : z = (Int32.ofInt L ||| Int32.ofInt w).toInt) : FsI E z L0 (q + 1) := fun j => by
  refine (lb_or q0 q9 hw hz j).trans ⟨?_, ?_⟩
  · rintro (g | g)
    · exact ((h j).mp g).imp id (fun g => ⟨by have := g.1; omega, g.2⟩)
    · exact Or.inr ⟨by omega, by rw [g]; exact he⟩
  · rintro (g | g)
    · exact Or.inl ((h j).mpr (Or.inl g))
    · by_cases c : (j : Int) = q
      · exact Or.inr (by omega)
      · exact Or.inl ((h j).mpr (Or.inr ⟨by have := g.1; omega, g.2⟩))
theorem fs_e {E : Nat → Prop} {L L0 q P : Int} (h : FsI E L L0 q) (hq : P ≤ q) (hE : ∀ j : Nat, E j → (j : Int) < P) (j : Nat) : Lb L j ↔ Lb L0 j ∨ E j := (h j).trans ⟨fun g => g.imp id (fun g => g.2), fun g => g.imp id (fun g => ⟨by have := hE j g; omega, g⟩)⟩
theorem ev_lt {A : Nat → Nat → Bool} {P : Int} {p : Nat} (hA : InP A P.toNat) (hp : (p : Int) < P) (j : Nat) (h : Evn A p j ∨ Odn A p j) : (j : Int) < P := by
  have := rch_lt hA (show p < P.toNat by omega) (eo_r h); omega
def CIz (M : Mem) (p F S : Int) : Prop := Im (gC 2 M) (Im (SyA (aCx 2 M)) (CI_ (aCx 2 M) (M 2 1).toNat p.toNat (Lb F) (Lb S)))
def SdC (M : Mem) (z : Int) : Prop := Im (gC 2 M) (Im (SyA (aCx 2 M)) (SdR (aCx 2 M) (M 2 1) z))
theorem cz_0 {M : Mem} : CIz M 0 0 0 := fun _ _ => ci_0 (fun _ => lb_0) (fun _ => lb_0)
theorem cz_skip {M : Mem} {p F S v : Int} (h : CIz M p F S) (p0 : 0 ≤ p) (p9 : p ≤ 9) (hv : v = (Int32.ofInt F ||| Int32.ofInt S).toInt) (hb : Bt v p) : CIz M (p + 1) F S := fun g s => by
  have h9 := ci_skip (h g s) ((lb_orG hv _).mp ((lb_bt p0 p9).mp hb))
  rw [show p.toNat + 1 = (p + 1).toNat by omega] at h9
  exact h9
theorem cz_root {M : Mem} {p F S v q F' S' : Int} (hP : M 2 1 ≤ 10) (h : CIz M p F S) (p0 : 0 ≤ p) (p1 : p < M 2 1) (hv : v = (Int32.ofInt F ||| Int32.ofInt S).toInt) (hb : ¬ Bt v p) (hq : M 2 1 ≤ q) (iF : Im (gC 2 M) (FsI (Evn (aCx 2 M) p.toNat) F' F q)) (iS : Im (gC 2 M) (FsI (Odn (aCx 2 M) p.toNat) S' S q)) : CIz M (p + 1) F' S' := fun g s => by
  have hA := inp_c (t := 2) hP
  have e1 : ∀ j : Nat, Evn (aCx 2 M) p.toNat j → (j : Int) < M 2 1 := fun j y => ev_lt hA (by omega) j (Or.inl y)
  have e2 : ∀ j : Nat, Odn (aCx 2 M) p.toNat j → (j : Int) < M 2 1 := fun j y => ev_lt hA (by omega) j (Or.inr y)
  have h9 := ci_root hA s (by omega) (h g s) (fun y => hb ((lb_bt p0 (by omega)).mpr ((lb_orG hv _).mpr y))) (fs_e (iF g) hq e1) (fs_e (iS g) hq e2)
  rw [show p.toNat + 1 = (p + 1).toNat by omega] at h9
  exact h9
theorem cz_no {M : Mem} {p F S : Int} (h : CIz M p F S) (t : TwW M F 1 ∨ TwW M S 1) : SdC M (-1) := fun g s => by
  have h9 := h g s
  have hh : ∀ x : Int, TwW M x 1 → ∃ a b : Nat, (a : Int) < M 2 1 ∧ Lb x a ∧ Lb x b ∧ btB (M 3 a) (b : Int) = true := fun x y => y.elim (fun y => y.2) (fun y => absurd y.1 (by decide))
  rcases t with t | t
  · obtain ⟨a, b, h1, h2, h3, h4⟩ := hh _ t
    have h5 := h9.2.2.2.1 b (Or.inl h3)
    exact Or.inl ⟨rfl, ci_no h9 a b (aCx_t.mpr ⟨⟨h1, by omega⟩, h4⟩) (Or.inl ⟨h2, h3⟩)⟩
  · obtain ⟨a, b, h1, h2, h3, h4⟩ := hh _ t
    have h5 := h9.2.2.2.1 b (Or.inr h3)
    exact Or.inl ⟨rfl, ci_no h9 a b (aCx_t.mpr ⟨⟨h1, by omega⟩, h4⟩) (Or.inr ⟨h2, h3⟩)⟩
theorem cz_yes {M : Mem} {p F S : Int} (hP : M 2 1 ≤ 10) (h : CIz M p F S) (hp : M 2 1 ≤ p) (F0 : 0 ≤ F) (F1 : F ≤ 1023) (t1 : TwW M F 0) (t2 : TwW M S 0) : SdC M F := fun g s => by
  have h9 := h g s
  have hh : ∀ x : Int, TwW M x 0 → ∀ a b : Nat, (a : Int) < M 2 1 → Lb x a → Lb x b → btB (M 3 a) (b : Int) = false := fun x y => y.elim (fun y => absurd y.1 (by decide)) (fun y => y.2)
  refine sd_yes F0 F1 (ci_yes (inp_c hP) (by omega) h9 (fun a b e => ?_)) (fun j y => h9.2.2.2.1 j (Or.inl y))
  have e1 := aCx_t.mp e
  have e2 : btB (M 3 a) (b : Int) = true := e1.2
  constructor
  · rintro ⟨y1, y2⟩; rw [hh _ t1 a b e1.1.1 y1 y2] at e2; exact absurd e2 (by decide)
  · rintro ⟨y1, y2⟩; rw [hh _ t2 a b e1.1.1 y1 y2] at e2; exact absurd e2 (by decide)
/-- the reference's loops -/
def RIz (M : Mem) (p F S : Int) : Prop := Im (SyA (aRx 132 0 M)) (RI_ (aRx 132 0 M) (M 132 1).toNat p.toNat (Lb F) (Lb S))
def RQz (M : Mem) (p k a F0 S0 F S : Int) : Prop := Im (SyA (aRx 132 0 M)) (RQ_ (aRx 132 0 M) (M 132 1).toNat p.toNat k.toNat a.toNat (Lb F0) (Lb S0) (Lb F) (Lb S))
def RBz (M : Mem) (p k a b F0 S0 F S : Int) : Prop := Im (SyA (aRx 132 0 M)) (RB_ (aRx 132 0 M) (M 132 1).toNat p.toNat k.toNat a.toNat b.toNat (Lb F0) (Lb S0) (Lb F) (Lb S))
def SdM (M : Mem) (z : Int) : Prop := Im (SyA (aRx 132 0 M)) (SdR (aRx 132 0 M) (M 132 1) z)
theorem rz_0 {M : Mem} : RIz M 0 0 0 := fun _ => ri_0 (fun _ => lb_0) (fun _ => lb_0)
theorem rz_skip {M : Mem} {p F S v : Int} (h : RIz M p F S) (p0 : 0 ≤ p) (p9 : p ≤ 9) (hv : v = (Int32.ofInt F ||| Int32.ofInt S).toInt) (hb : Bt v p) : RIz M (p + 1) F S := fun s => by
  have h9 := ri_skip (h s) ((lb_orG hv _).mp ((lb_bt p0 p9).mp hb))
  rw [show p.toNat + 1 = (p + 1).toNat by omega] at h9
  exact h9
theorem rz_q0 {M : Mem} {p F0 S0 F v w : Int} (hP : M 132 1 ≤ 10) (h : RIz M p F0 S0) (p0 : 0 ≤ p) (p1 : p < M 132 1) (hv : v = (Int32.ofInt F0 ||| Int32.ofInt S0).toInt) (hb : ¬ Bt v p) (hw : w = 2 ^ p.toNat) (hF : F = (Int32.ofInt F0 ||| Int32.ofInt w).toInt) : RQz M p 0 0 F0 S0 F S0 := fun s => rq_0 (inp_r hP) s (by omega) (h s) (fun y => hb ((lb_bt p0 (by omega)).mpr ((lb_orG hv _).mpr y))) (lb_or p0 (by omega) hw hF) (fun _ => Iff.rfl)
theorem rz_b0 {M : Mem} {p k a F0 S0 F S : Int} (h : RQz M p k a F0 S0 F S) : RBz M p k a 0 F0 S0 F S := fun s => rb_0 (h s)
theorem rz_bn {M : Mem} {p k a b F0 S0 F S v : Int} (h : RBz M p k a b F0 S0 F S) (a0 : 0 ≤ a) (b0 : 0 ≤ b) (e : v = M 132 (50 + 10 * a + b).toNat) (hv : v = 0) : RBz M p k a (b + 1) F0 S0 F S := fun s => by
  have h9 := rb_n (h s) (fun y => ar_n a0 b0 e hv y)
  rw [show b.toNat + 1 = (b + 1).toNat by omega] at h9
  exact h9
theorem hs_t {x z : Int} {T : Prop} {b : Nat} (i : ∀ j : Nat, Lb z j ↔ Lb x j ∨ j = b) (t : T) (j : Nat) : Lb z j ↔ Lb x j ∨ T ∧ j = b := (i j).trans ⟨fun g => g.imp id (fun g => ⟨t, g⟩), fun g => g.imp id (fun g => g.2)⟩
theorem hs_f {x z : Int} {T : Prop} {b : Nat} (i : ∀ j : Nat, Lb z j ↔ Lb x j) (t : ¬ T) (j : Nat) : Lb z j ↔ Lb x j ∨ T ∧ j = b := (i j).trans ⟨Or.inl, fun g => g.elim id (fun g => absurd g.1 t)⟩
theorem rz_by {M : Mem} {p k a b F0 S0 F S F' S' v : Int} (hP : M 132 1 ≤ 10) (h0 : RIz M p F0 S0) (h : RBz M p k a b F0 S0 F S) (a0 : 0 ≤ a) (b0 : 0 ≤ b) (a1 : a < M 132 1) (b1 : b < M 132 1) (e : v = M 132 (50 + 10 * a + b).toNat) (hv : ¬ v = 0) (hS : ∀ j : Nat, Lb S' j ↔ Lb S j ∨ Lb F a.toNat ∧ j = b.toNat) (hF : ∀ j : Nat, Lb F' j ↔ Lb F j ∨ Lb S' a.toNat ∧ j = b.toNat) : RBz M p k a (b + 1) F0 S0 F' S' := fun s => by
  have h9 := rb_y (inp_r hP) (h0 s) (h s) (ar_y a0 b0 a1 b1 e hv) hS hF
  rw [show b.toNat + 1 = (b + 1).toNat by omega] at h9
  exact h9
theorem rz_be {M : Mem} {p k a b F0 S0 F S : Int} (hP : M 132 1 ≤ 10) (h : RBz M p k a b F0 S0 F S) (a0 : 0 ≤ a) (hb : M 132 1 ≤ b) : RQz M p k (a + 1) F0 S0 F S := fun s => by
  have h9 := rb_e (inp_r hP) (h s) (by omega)
  rw [show a.toNat + 1 = (a + 1).toNat by omega] at h9
  exact h9
theorem rz_qe {M : Mem} {p k a F0 S0 F S : Int} (hP : M 132 1 ≤ 10) (h : RQz M p k a F0 S0 F S) (k0 : 0 ≤ k) (ha : M 132 1 ≤ a) : RQz M p (k + 1) 0 F0 S0 F S := fun s => by
  have h9 := rq_e (inp_r hP) (h s) (by omega)
  rw [show k.toNat + 1 = (k + 1).toNat by omega] at h9
  exact h9
theorem rz_end {M : Mem} {p k F0 S0 F S v : Int} (hP : M 132 1 ≤ 10) (h0 : RIz M p F0 S0) (p0 : 0 ≤ p) (p1 : p < M 132 1) (hv : v = (Int32.ofInt F0 ||| Int32.ofInt S0).toInt) (hb : ¬ Bt v p) (h : RQz M p k 0 F0 S0 F S) (hk : M 132 1 ≤ k) : RIz M (p + 1) F S := fun s => by
  have h9 := rq_end (inp_r hP) s (by omega) (h0 s) (fun y => hb ((lb_bt p0 (by omega)).mpr ((lb_orG hv _).mpr y))) (h s) (by omega)
  rw [show p.toNat + 1 = (p + 1).toNat by omega] at h9
  exact h9
theorem rz_no {M : Mem} {p F S v : Int} (h : RIz M p F S) (F0 : 0 ≤ F) (F1 : F ≤ 1023) (v0 : 0 ≤ v) (v1 : v ≤ 1023) (hv : v = (Int32.ofInt F &&& Int32.ofInt S).toInt) (hn : ¬ v = 0) : SdM M (-1) := fun s => by
  obtain ⟨j, hj⟩ := lb_ex v0 v1 hn
  have h9 := (lb_andG hv j).mp hj
  exact Or.inl ⟨rfl, ri_no (h s) j h9.1 h9.2⟩
theorem rz_yes {M : Mem} {p F S v : Int} (hP : M 132 1 ≤ 10) (h : RIz M p F S) (hp : M 132 1 ≤ p) (F0 : 0 ≤ F) (F1 : F ≤ 1023) (hv : v = (Int32.ofInt F &&& Int32.ofInt S).toInt) (hn : v = 0) : SdM M F := fun s => by
  refine sd_yes F0 F1 (ri_yes (inp_r hP) (by omega) (h s) (fun j y => ?_)) (fun j y => (h s).2.2.2.1 j (Or.inl y))
  have h9 := (lb_andG hv j).mpr y
  rw [hn] at h9
  exact absurd h9 lb_0
/-- a text's touches are told both ways round -/
theorem sy_fz {S : St} {D : Dt} (h : SyA (d_a D)) : SyA (d_a (fz S D).2) := by
  by_cases q : s_fl S = 0
  · rw [fz_0 q]; exact h
  · rw [fz_n q]; exact fun a b y => absurd y (by show ¬ false = true; decide)
theorem sy_t {D : Dt} {p q : Int} (h : SyA (d_a D)) : SyA (d_a (addT D p q)) := fun a b y => by
  have y : (d_a D a b || ((a == p.toNat && b == q.toNat) || (a == q.toNat && b == p.toNat))) = true := y
  show (d_a D b a || ((b == p.toNat && a == q.toNat) || (b == q.toNat && a == p.toNat))) = true
  rw [Bool.or_eq_true, Bool.or_eq_true, Bool.and_eq_true, Bool.and_eq_true] at y ⊢
  rcases y with y | y | y
  · exact Or.inl (h a b y)
  · exact Or.inr (Or.inr ⟨y.2, y.1⟩)
  · exact Or.inr (Or.inl ⟨y.2, y.1⟩)
theorem sy_ln1 {T : Tn} (h : SyA (d_a T.2)) : SyA (d_a (lineF T).2) := by
  have hb : SyA (d_a (bodyF T).2) := by
    unfold bodyF
    split
    · exact sy_fz (sy_t h)
    · split
      · exact sy_fz (show SyA (d_a (addN T.2 _)) from h)
      · split
        · exact sy_fz (show SyA (d_a (addE T.2 _ _ _)) from h)
        · split
          · exact sy_fz h
          · split
            · exact sy_fz h
            · exact sy_fz h
  exact sy_fz (show SyA (d_a (incL (bodyF T).2)) from hb)
theorem sy_lns : ∀ (n : Nat) (T A : Tn), lns n T = some A → SyA (d_a T.2) → SyA (d_a A.2) := by
  intro n
  induction n with
  | zero => intro T A h; exact absurd h (by unfold lns; simp)
  | succ n ih =>
    intro T A h hT
    rw [lns] at h
    by_cases hc : s_fl T.1 = 0 ∧ ¬ s_tk T.1 = 0
    · rw [if_pos hc] at h; exact ih _ _ h (sy_ln1 hT)
    · rw [if_neg hc] at h
      have e := Option.some.inj h
      rw [← e]; exact hT
theorem sy_ln {U : Nat → Int} {n : Int} {A : Tn} (h : LnE (begF U n) A) : SyA (d_a A.2) := by
  obtain ⟨k, h⟩ := h
  refine sy_lns k _ A h ?_
  exact sy_fz (show SyA (d_a (incL (fz _ _).2)) from sy_fz (D := openD _) (fun a b y => absurd y (by show ¬ false = true; decide)))
theorem sy_c {m M' : Mem} (h : SyA (d_a (tC m).2)) (h0 : m 18 1 = 0) (e : aCx 19 M' = aCx 19 m) : SyA (aCx 19 M') := by
  rw [tC_2 h0] at h
  rw [e]; exact h
def gY (t : Nat) (M : Mem) : Prop := gC t M ∧ SyA (aCx t M)
theorem gy_cp {t t' : Nat} {M M' : Mem} (hP : M t 1 ≤ 10) (c : Cp t t' M M') (h : gY t M) : gY t' M' := by
  have ea : aCx t' M' = aCx t M := congrArg (fun X : Sx => X.2.1) c.1
  refine ⟨gc_cp hP c h.1, ?_⟩
  rw [ea]; exact h.2
theorem gy_0 {t : Nat} {M : Mem} (h : M t 1 = 0) : gY t M := ⟨gc_0 h, fun a b y => by have h9 := aC_lt a b y; rw [h] at h9; exfalso; omega⟩
end SDS
/-! ===== odd rings ===== -/
section RGS
/-- from a through l to h -/
def Ch (A : Nat → Nat → Bool) : Nat → List Nat → Nat → Prop
  | a, [], h => A a h = true
  | a, b :: l, h => A a b = true ∧ Ch A b l h
theorem ch_n {A : Nat → Nat → Bool} {a h : Nat} : Ch A a [] h ↔ A a h = true := Iff.rfl
theorem ch_c {A : Nat → Nat → Bool} {a b h : Nat} {l : List Nat} : Ch A a (b :: l) h ↔ A a b = true ∧ Ch A b l h := Iff.rfl
theorem ch_app {A : Nat → Nat → Bool} {b h : Nat} {y : List Nat} : ∀ (x : List Nat) (a : Nat), Ch A a (x ++ b :: y) h ↔ Ch A a x b ∧ Ch A b y h := by
  intro x
  induction x with
  | nil => intro a; exact Iff.rfl
  | cons c x ih =>
    intro a
    show A a c = true ∧ Ch A c (x ++ b :: y) h ↔ (A a c = true ∧ Ch A c x b) ∧ Ch A b y h
    rw [ih c, and_assoc]
theorem ch_mem {A : Nat → Nat → Bool} {h : Nat} : ∀ (l : List Nat) (a : Nat), Ch A a l h → ∀ j, j ∈ a :: l → ∃ k, A j k = true := by
  intro l
  induction l with
  | nil =>
    intro a g j hj
    rcases List.mem_cons.mp hj with q | q
    · rw [q]; exact ⟨h, g⟩
    · exact absurd q List.not_mem_nil
  | cons b l ih =>
    intro a g j hj
    rcases List.mem_cons.mp hj with q | q
    · rw [q]; exact ⟨b, (ch_c.mp g).1⟩
    · exact ih b (ch_c.mp g).2 j q
theorem ch_mono {A B : Nat → Nat → Bool} (hm : ∀ a b, B a b = true → A a b = true) {h : Nat} : ∀ (l : List Nat) (a : Nat), Ch B a l h → Ch A a l h := by
  intro l
  induction l with
  | nil => intro a g; exact hm _ _ g
  | cons b l ih => intro a g; exact ch_c.mpr ⟨hm _ _ (ch_c.mp g).1, ih b (ch_c.mp g).2⟩
theorem nd_split : ∀ l : List Nat, ¬ l.Nodup → ∃ (x : List Nat) (c : Nat) (y z : List Nat), l = x ++ c :: (y ++ c :: z) := by
  intro l
  induction l with
  | nil => intro h; exact absurd List.nodup_nil h
  | cons a t ih =>
    intro h
    by_cases ha : a ∈ t
    · obtain ⟨y, z, e⟩ := List.append_of_mem ha
      exact ⟨[], a, y, z, by rw [e]; rfl⟩
    · obtain ⟨x, c, y, z, e⟩ := ih (fun g => h (List.nodup_cons.mpr ⟨ha, g⟩))
      exact ⟨a :: x, c, y, z, by rw [e]; rfl⟩
theorem odd_simple {A : Nat → Nat → Bool} : ∀ (n a : Nat) (l : List Nat), l.length + 1 ≤ n → (l.length + 1) % 2 = 1 → Ch A a l a → ∃ (b : Nat) (m : List Nat), Ch A b m b ∧ (b :: m).Nodup ∧ (m.length + 1) % 2 = 1 ∧ m.length ≤ l.length ∧ ∀ j, j ∈ b :: m → j ∈ a :: l := by
  intro n
  induction n with
  | zero => intro a l h; omega
  | succ n ih =>
    intro a l hl ho hc
    by_cases hn : (a :: l).Nodup
    · exact ⟨a, l, hc, hn, ho, Nat.le_refl _, fun j h => h⟩
    · obtain ⟨x, c, y, z, e⟩ := nd_split _ hn
      rcases x with _ | ⟨a', x⟩
      · have e : a :: l = c :: (y ++ c :: z) := e
        injection e with e1 e2
        subst e1 e2
        have hs := (ch_app y a).mp hc
        have hq : (y ++ a :: z).length = y.length + z.length + 1 := by rw [List.length_append, List.length_cons]; omega
        by_cases hy : (y.length + 1) % 2 = 1
        · obtain ⟨b, m, h1, h2, h3, h4, h5⟩ := ih a y (by omega) hy hs.1
          refine ⟨b, m, h1, h2, h3, by omega, fun j hj => ?_⟩
          rcases List.mem_cons.mp (h5 j hj) with q | q
          · rw [q]; exact List.mem_cons_self
          · exact List.mem_cons_of_mem _ (List.mem_append_left _ q)
        · obtain ⟨b, m, h1, h2, h3, h4, h5⟩ := ih a z (by omega) (by omega) hs.2
          refine ⟨b, m, h1, h2, h3, by omega, fun j hj => ?_⟩
          exact List.mem_cons_of_mem _ (List.mem_append_right _ (h5 j hj))
      · have e : a :: l = a' :: (x ++ c :: (y ++ c :: z)) := e
        injection e with e1 e2
        subst e1 e2
        have hs := (ch_app x a).mp hc
        have ht := (ch_app y c).mp hs.2
        have hq : (x ++ c :: (y ++ c :: z)).length = x.length + y.length + z.length + 2 := by rw [List.length_append, List.length_cons, List.length_append, List.length_cons]; omega
        by_cases hy : (y.length + 1) % 2 = 1
        · obtain ⟨b, m, h1, h2, h3, h4, h5⟩ := ih c y (by omega) hy ht.1
          refine ⟨b, m, h1, h2, h3, by omega, fun j hj => List.mem_cons_of_mem _ (List.mem_append_right _ ?_)⟩
          rcases List.mem_cons.mp (h5 j hj) with q | q
          · rw [q]; exact List.mem_cons_self
          · exact List.mem_cons_of_mem _ (List.mem_append_left _ q)
        · have hw : (x ++ c :: z).length = x.length + z.length + 1 := by rw [List.length_append, List.length_cons]; omega
          obtain ⟨b, m, h1, h2, h3, h4, h5⟩ := ih a (x ++ c :: z) (by omega) (by omega) ((ch_app x a).mpr ⟨hs.1, ht.2⟩)
          refine ⟨b, m, h1, h2, h3, by omega, fun j hj => ?_⟩
          rcases List.mem_cons.mp (h5 j hj) with q | q
          · rw [q]; exact List.mem_cons_self
          · refine List.mem_cons_of_mem _ ?_
            rcases List.mem_append.mp q with q | q
            · exact List.mem_append_left _ q
            · exact List.mem_append_right _ (List.mem_cons_of_mem _ (List.mem_append_right _ q))
theorem ch_rot {A : Nat → Nat → Bool} {a v : Nat} {l : List Nat} (hc : Ch A a l a) (hn : (a :: l).Nodup) (hv : v ∈ a :: l) : ∃ m : List Nat, Ch A v m v ∧ (v :: m).Nodup ∧ m.length = l.length ∧ ∀ j, j ∈ v :: m ↔ j ∈ a :: l := by
  rcases List.mem_cons.mp hv with q | q
  · subst q; exact ⟨l, hc, hn, rfl, fun j => Iff.rfl⟩
  · obtain ⟨x, y, e⟩ := List.append_of_mem q
    subst e
    have hs := (ch_app x a).mp hc
    have hp : (v :: (y ++ a :: x)).Perm (a :: (x ++ v :: y)) := by
      have p1 : (v :: y ++ a :: x).Perm (a :: x ++ v :: y) := List.perm_append_comm
      exact p1
    refine ⟨y ++ a :: x, (ch_app y v).mpr ⟨hs.2, hs.1⟩, hp.nodup_iff.mpr hn, ?_, fun j => hp.mem_iff⟩
    rw [List.length_append, List.length_cons, List.length_append, List.length_cons]; omega
/-- sums over places -/
def sm (f : Nat → Nat) : Nat → Nat
  | 0 => 0
  | n + 1 => sm f n + f n
def ct (f : Nat → Bool) : Nat := sm (fun j => if f j then 1 else 0) 10
theorem sm_c {f g : Nat → Nat} : ∀ n : Nat, (∀ j, j < n → f j = g j) → sm f n = sm g n := by
  intro n
  induction n with
  | zero => intro _; rfl
  | succ n ih => intro h; show sm f n + f n = sm g n + g n; rw [ih (fun j hj => h j (by omega)), h n (by omega)]
theorem sm_a {f g : Nat → Nat} : ∀ n : Nat, sm (fun j => f j + g j) n = sm f n + sm g n := by
  intro n
  induction n with
  | zero => rfl
  | succ n ih => show sm (fun j => f j + g j) n + (f n + g n) = (sm f n + f n) + (sm g n + g n); rw [ih]; omega
theorem sm_z : ∀ n : Nat, sm (fun _ => 0) n = 0 := by
  intro n
  induction n with
  | zero => rfl
  | succ n ih => show sm (fun _ => 0) n + 0 = 0; rw [ih]
theorem sm_2 {f : Nat → Bool} : ∀ n : Nat, sm (fun j => if f j then 2 else 0) n = 2 * sm (fun j => if f j then 1 else 0) n := by
  intro n
  induction n with
  | zero => rfl
  | succ n ih =>
    show sm (fun j => if f j then 2 else 0) n + (if f n then 2 else 0) = 2 * (sm (fun j => if f j then 1 else 0) n + (if f n then 1 else 0))
    rw [ih]; split <;> omega
theorem sm_sw {g : Nat → Nat → Nat} {m : Nat} : ∀ n : Nat, sm (fun i => sm (fun j => g i j) m) n = sm (fun j => sm (fun i => g i j) n) m := by
  intro n
  induction n with
  | zero => show 0 = sm (fun _ => 0) m; exact (sm_z m).symm
  | succ n ih =>
    show sm (fun i => sm (fun j => g i j) m) n + sm (fun j => g n j) m = sm (fun j => sm (fun i => g i j) n + g n j) m
    rw [ih, sm_a]
theorem sm_le {f g : Nat → Nat} : ∀ n : Nat, (∀ j, j < n → f j ≤ g j) → sm f n ≤ sm g n := by
  intro n
  induction n with
  | zero => intro _; exact Nat.le_refl _
  | succ n ih => intro h; have a := ih (fun j hj => h j (by omega)); have b := h n (by omega); show sm f n + f n ≤ sm g n + g n; omega
theorem sm_lt {f g : Nat → Nat} {k : Nat} : ∀ n : Nat, (∀ j, j < n → f j ≤ g j) → k < n → f k < g k → sm f n < sm g n := by
  intro n
  induction n with
  | zero => intro _ h; omega
  | succ n ih =>
    intro h hk hf
    show sm f n + f n < sm g n + g n
    by_cases q : k = n
    · have a := sm_le n (fun j hj => h j (by omega)); rw [q] at hf; omega
    · have a := ih (fun j hj => h j (by omega)) (by omega) hf
      have b := h n (by omega)
      omega
theorem ct_c {f g : Nat → Bool} (h : ∀ j, j < 10 → f j = g j) : ct f = ct g := sm_c 10 (fun j hj => by rw [h j hj])
theorem ite_le {f g : Bool} (h : f = true → g = true) : (if f = true then 1 else 0) ≤ (if g = true then 1 else (0 : Nat)) := by
  by_cases q : f = true
  · rw [if_pos q, if_pos (h q)]; exact Nat.le_refl _
  · rw [if_neg q]; exact Nat.zero_le _
theorem ct_le {f g : Nat → Bool} (h : ∀ j, j < 10 → f j = true → g j = true) : ct f ≤ ct g := sm_le 10 (fun j hj => ite_le (h j hj))
theorem ct_eq {f g : Nat → Bool} (h : ∀ j, j < 10 → f j = true → g j = true) (e : ct f = ct g) : ∀ j, j < 10 → g j = true → f j = true := by
  intro j hj hg
  by_cases q : f j = true
  · exact q
  · have := sm_lt (f := fun j => if f j then 1 else 0) (g := fun j => if g j then 1 else 0) (k := j) 10 (fun k hk => ite_le (h k hk)) hj (by show (if f j = true then 1 else 0) < (if g j = true then 1 else (0 : Nat)); rw [if_neg q, if_pos hg]; decide)
    exact absurd e (Nat.ne_of_lt this)
theorem ct_1 : ∀ a : Nat, a < 10 → ct (fun j => decide (j = a)) = 1 := by decide +kernel
theorem ct_2 : ∀ a : Nat, a < 10 → ∀ b : Nat, b < 10 → ¬ a = b → ct (fun j => decide (j = a ∨ j = b)) = 2 := by decide +kernel
theorem ct_list : ∀ l : List Nat, l.Nodup → (∀ j, j ∈ l → j < 10) → ct (fun j => decide (j ∈ l)) = l.length := by
  intro l
  induction l with
  | nil =>
    intro _ _
    refine Eq.trans (sm_c (g := fun _ => 0) 10 (fun j _ => ?_)) (sm_z 10)
    exact if_neg (fun q => absurd (of_decide_eq_true q) List.not_mem_nil)
  | cons a t ih =>
    intro hn h
    have hn2 := List.nodup_cons.mp hn
    have e : ct (fun j => decide (j ∈ a :: t)) = ct (fun j => decide (j = a)) + ct (fun j => decide (j ∈ t)) := by
      unfold ct
      rw [← sm_a]
      refine sm_c 10 (fun j _ => ?_)
      show (if decide (j ∈ a :: t) = true then 1 else 0) = (if decide (j = a) = true then 1 else 0) + (if decide (j ∈ t) = true then 1 else (0 : Nat))
      by_cases q : j = a
      · subst q
        rw [if_pos (decide_eq_true List.mem_cons_self), if_pos (decide_eq_true rfl), if_neg (by rw [decide_eq_false hn2.1]; decide)]
      · by_cases r : j ∈ t
        · rw [if_pos (decide_eq_true (List.mem_cons_of_mem _ r)), if_neg (by rw [decide_eq_false q]; decide), if_pos (decide_eq_true r)]
        · rw [if_neg (by rw [decide_eq_false (fun g => (List.mem_cons.mp g).elim q r)]; decide), if_neg (by rw [decide_eq_false q]; decide), if_neg (by rw [decide_eq_false r]; decide)]
    rw [e, ct_1 a (h a List.mem_cons_self), ih hn2.2 (fun j hj => h j (List.mem_cons_of_mem _ hj)), List.length_cons]; omega
def pcI (z : Int) : Nat := ct (fun j => btB z (j : Int))
theorem pcI_n : ∀ n : Nat, n < 1024 → pcI (n : Int) = pcn n := by decide +kernel
theorem pcI_z {z : Int} (h0 : 0 ≤ z) (h1 : z ≤ 1023) : ((pcI z : Nat) : Int) = ((pcn z.toNat : Nat) : Int) := by
  have h := pcI_n z.toNat (by omega)
  rw [show ((z.toNat : Nat) : Int) = z by omega] at h
  rw [h]
def HamS (A : Nat → Nat → Bool) (z : Int) : Prop := ∃ (a : Nat) (l : List Nat), Ch A a l a ∧ (a :: l).Nodup ∧ ∀ j, j ∈ a :: l ↔ Lb z j
def RegS (A : Nat → Nat → Bool) (z : Int) : Prop := ∀ v : Nat, Lb z v → ct (fun j => A v j && btB z (j : Int)) = 2
def IrA (A : Nat → Nat → Bool) : Prop := ∀ a : Nat, ¬ A a a = true
theorem lb_t {z : Int} {j : Nat} (hj : j < 10) : btB z (j : Int) = true ↔ Lb z j := ⟨fun h => ⟨hj, h⟩, fun h => h.2⟩
theorem ham_n {z : Int} {a : Nat} {l : List Nat} (hn : (a :: l).Nodup) (hm : ∀ j, j ∈ a :: l ↔ Lb z j) : pcI z = l.length + 1 := by
  have h1 := ct_list (a :: l) hn (fun j hj => ((hm j).mp hj).1)
  rw [List.length_cons] at h1
  rw [← h1]
  refine ct_c (fun j hj => ?_)
  rw [Bool.eq_iff_iff, decide_eq_true_iff, hm, lb_t hj]
theorem ham_reg {A : Nat → Nat → Bool} {P : Nat} {z : Int} (hA : InP A P) (hs : SyA A) (hi : IrA A) (hz : HamS A z) (ho : pcI z % 2 = 1) (hmin : ∀ (a : Nat) (l : List Nat), Ch A a l a → (a :: l).Nodup → (l.length + 1) % 2 = 1 → pcI z ≤ l.length + 1) : RegS A z := by
  intro v hv
  obtain ⟨a, l, h1, h2, h3⟩ := hz
  obtain ⟨m, g1, g2, g3, g4⟩ := ch_rot h1 h2 ((h3 v).mpr hv)
  have hm : ∀ j, j ∈ v :: m ↔ Lb z j := fun j => (g4 j).trans (h3 j)
  have hp := ham_n g2 hm
  have g5 := List.nodup_cons.mp g2
  rcases m with _ | ⟨b, t⟩
  · exact absurd g1 (hi v)
  · have hb := (ch_c.mp g1).1
    have hb2 : Lb z b := (hm b).mp (List.mem_cons_of_mem _ List.mem_cons_self)
    rcases List.eq_nil_or_concat t with et | ⟨t', c, et⟩
    · rw [et, List.length_cons, List.length_nil] at hp; omega
    · rw [List.concat_eq_append] at et
      have e9 : b :: t = (b :: t') ++ c :: [] := by rw [et]; rfl
      have g6 : Ch A v (b :: t') c ∧ A c v = true := by
        have h9 := g1
        rw [e9] at h9
        exact (ch_app (b :: t') v).mp h9
      have hc2 : Lb z c := (hm c).mp (by rw [e9]; exact List.mem_cons_of_mem _ (List.mem_append_right _ List.mem_cons_self))
      have hbc : ¬ b = c := fun q => by
        have h9 := (List.nodup_cons.mp g5.2).1
        rw [et, q] at h9
        exact h9 (List.mem_append_right _ List.mem_cons_self)
      have key : ∀ j, j < 10 → (A v j && btB z (j : Int)) = decide (j = b ∨ j = c) := by
        intro w hw
        rw [Bool.eq_iff_iff, Bool.and_eq_true, decide_eq_true_iff]
        constructor
        · rintro ⟨q1, q2⟩
          have h9 := (hm w).mpr ⟨hw, q2⟩
          rcases List.mem_cons.mp h9 with q | q
          · rw [q] at q1; exact absurd q1 (hi v)
          · obtain ⟨x, y, e⟩ := List.append_of_mem q
            rcases x with _ | ⟨x0, x⟩
            · have e : b :: t = w :: y := e
              injection e with e1 _
              exact Or.inl e1.symm
            · by_cases hy : y = []
              · right
                rw [hy, e9] at e
                have h8 := List.append_inj' e rfl
                have h7 := h8.2
                injection h7 with h6 _
                exact h6.symm
              · exfalso
                have s1 := g1
                rw [e] at s1
                have s2 := (ch_app (x0 :: x) v).mp s1
                have len : (b :: t).length = (x0 :: x).length + y.length + 1 := by rw [e]; simp only [List.length_append, List.length_cons]; omega
                have hx : 1 ≤ (x0 :: x).length := by rw [List.length_cons]; omega
                have hy1 : 1 ≤ y.length := List.length_pos_iff.mpr hy
                by_cases par : ((x0 :: x).length + 2) % 2 = 1
                · have c1 : Ch A v ((x0 :: x) ++ w :: []) v := (ch_app (x0 :: x) v).mpr ⟨s2.1, hs _ _ q1⟩
                  have l1 : ((x0 :: x) ++ w :: []).length = (x0 :: x).length + 1 := by rw [List.length_append]; rfl
                  obtain ⟨d, n, k1, k2, k3, k4, _⟩ := odd_simple _ v _ (Nat.le_refl _) (by rw [l1]; omega) c1
                  have k6 := hmin d n k1 k2 k3
                  omega
                · have c2 : Ch A v (w :: y) v := ch_c.mpr ⟨q1, s2.2⟩
                  obtain ⟨d, n, k1, k2, k3, k4, _⟩ := odd_simple _ v _ (Nat.le_refl _) (by rw [List.length_cons]; omega) c2
                  have k6 := hmin d n k1 k2 k3
                  rw [List.length_cons] at k4
                  omega
        · rintro (q | q)
          · rw [q]; exact ⟨hb, hb2.2⟩
          · rw [q]; exact ⟨hs _ _ g6.2, hc2.2⟩
      rw [ct_c key]
      exact ct_2 b hb2.1 c hc2.1 hbc
/-- walks -/
def Wk (A : Nat → Nat → Bool) : Nat → Nat → Nat → Prop
  | 0, a, b => a = b
  | n + 1, a, b => ∃ c, A a c = true ∧ Wk A n c b
theorem wk_c {A : Nat → Nat → Bool} {n a b : Nat} : Wk A (n + 1) a b ↔ ∃ c, A a c = true ∧ Wk A n c b := Iff.rfl
theorem wk_t {A : Nat → Nat → Bool} {m b c : Nat} (h : Wk A m b c) : ∀ n a : Nat, Wk A n a b → Wk A (n + m) a c := by
  intro n
  induction n with
  | zero => intro a g; have g : a = b := g; rw [g, Nat.zero_add]; exact h
  | succ n ih =>
    intro a g
    obtain ⟨d, g1, g2⟩ := g
    rw [show n + 1 + m = (n + m) + 1 by omega]
    exact wk_c.mpr ⟨d, g1, ih d g2⟩
theorem wk_1 {A : Nat → Nat → Bool} {a b : Nat} (h : A a b = true) : Wk A 1 a b := wk_c.mpr ⟨b, h, rfl⟩
theorem wk_y {A : Nat → Nat → Bool} (hs : SyA A) : ∀ n a b : Nat, Wk A n a b → Wk A n b a := by
  intro n
  induction n with
  | zero => intro a b g; have g : a = b := g; exact g.symm
  | succ n ih =>
    intro a b g
    obtain ⟨d, g1, g2⟩ := g
    exact wk_t (wk_1 (hs _ _ g1)) n b (ih d b g2)
theorem dn_wk {A : Nat → Nat → Bool} {p : Nat} : ∀ d j : Nat, Dn A p j d → Wk A d p j := by
  intro d
  induction d with
  | zero => intro j h; exact (dn_0 h).symm
  | succ d ih =>
    intro j h
    obtain ⟨a, h1, h2⟩ := dn_s h
    exact wk_t (wk_1 h2) d p (ih a h1)
theorem wk_ch {A : Nat → Nat → Bool} {h : Nat} : ∀ n a : Nat, Wk A (n + 1) a h → ∃ l : List Nat, l.length = n ∧ Ch A a l h := by
  intro n
  induction n with
  | zero => intro a g; obtain ⟨c, g1, g2⟩ := g; have g2 : c = h := g2; exact ⟨[], rfl, by rw [g2] at g1; exact g1⟩
  | succ n ih =>
    intro a g
    obtain ⟨c, g1, g2⟩ := g
    obtain ⟨l, k1, k2⟩ := ih c g2
    exact ⟨c :: l, by rw [List.length_cons, k1], ch_c.mpr ⟨g1, k2⟩⟩
def Pr (B : Nat → Nat → Bool) (v d : Nat) : Prop := ∃ r : Nat, (Rch B v r ∧ ∀ u : Nat, Rch B v u → r ≤ u) ∧ Dn B r v d
theorem pr_ex {B : Nat → Nat → Bool} {P v : Nat} (hA : InP B P) (hs : SyA B) (hv : v < P) : ∃ d, Pr B v d := by
  obtain ⟨r, h1, h2⟩ := least0 (Q := fun u => Rch B v u) v v (Nat.le_refl _) rch_r
  obtain ⟨d, _, _, h3⟩ := dn_ex hA (rch_lt hA hv h1) (rch_y hA hs h1)
  exact ⟨d, r, ⟨h1, h2⟩, h3⟩
theorem pr_u {B : Nat → Nat → Bool} {v d e : Nat} (x : Pr B v d) (y : Pr B v e) : d = e := by
  obtain ⟨r, ⟨h1, h2⟩, h3⟩ := x
  obtain ⟨r', ⟨g1, g2⟩, g3⟩ := y
  have e9 : r = r' := Nat.le_antisymm (h2 r' g1) (g2 r h1)
  subst e9
  exact dn_u h3 g3
theorem pr_e {B : Nat → Nat → Bool} {P a b d e : Nat} (hA : InP B P) (hs : SyA B) (hab : B a b = true) (x : Pr B a d) (y : Pr B b e) (hno : ∀ (a : Nat) (l : List Nat), Ch B a l a → (l.length + 1) % 2 = 1 → False) : ¬ d % 2 = e % 2 := by
  intro hp
  obtain ⟨r, ⟨h1, h2⟩, h3⟩ := x
  obtain ⟨r', ⟨g1, g2⟩, g3⟩ := y
  have r1 : Rch B a b := rch_s hA rch_r hab
  have e9 : r = r' := Nat.le_antisymm (h2 r' (rch_t hA r1 g1)) (g2 r (rch_t hA (rch_y hA hs r1) h1))
  subst e9
  have w := wk_t (wk_t (wk_y hs e r b (dn_wk e b g3)) 1 a (wk_1 hab)) d r (dn_wk d a h3)
  rw [show d + (1 + e) = (d + e) + 1 by omega] at w
  obtain ⟨l, k1, k2⟩ := wk_ch (d + e) r w
  exact hno r l k2 (by rw [k1]; omega)
theorem reg_odd {A : Nat → Nat → Bool} {P : Nat} {z : Int} (hA : InP A P) (hs : SyA A) (hr : RegS A z) (ho : pcI z % 2 = 1) : ∃ (a : Nat) (l : List Nat), Ch A a l a ∧ (a :: l).Nodup ∧ (l.length + 1) % 2 = 1 ∧ ∀ j, j ∈ a :: l → Lb z j := by
  have h10 := hA.1
  obtain ⟨B, hB⟩ : ∃ B : Nat → Nat → Bool, ∀ a b, B a b = (A a b && (btB z (a : Int) && btB z (b : Int))) := ⟨fun a b => A a b && (btB z (a : Int) && btB z (b : Int)), fun _ _ => rfl⟩
  have bt : ∀ a b, B a b = true ↔ A a b = true ∧ btB z (a : Int) = true ∧ btB z (b : Int) = true := fun a b => by rw [hB, Bool.and_eq_true, Bool.and_eq_true]
  have hB1 : InP B P := ⟨h10, fun a b h => hA.2 a b ((bt a b).mp h).1⟩
  have hB2 : SyA B := fun a b h => (bt b a).mpr ⟨hs a b ((bt a b).mp h).1, ((bt a b).mp h).2.2, ((bt a b).mp h).2.1⟩
  by_cases hx : ∃ (a : Nat) (l : List Nat), Ch B a l a ∧ (l.length + 1) % 2 = 1
  · obtain ⟨a, l, h1, h2⟩ := hx
    obtain ⟨b, m, k1, k2, k3, _, _⟩ := odd_simple _ a l (Nat.le_refl _) h2 h1
    refine ⟨b, m, ch_mono (fun a b h => ((bt a b).mp h).1) m b k1, k2, k3, fun j hj => ?_⟩
    obtain ⟨k, hk⟩ := ch_mem m b k1 j hj
    exact ⟨by have := (hB1.2 _ _ hk).1; omega, ((bt j k).mp hk).2.1⟩
  · exfalso
    have hno : ∀ (a : Nat) (l : List Nat), Ch B a l a → (l.length + 1) % 2 = 1 → False := fun a l h1 h2 => hx ⟨a, l, h1, h2⟩
    obtain ⟨C, hC⟩ : ∃ C : Nat → Bool, ∀ v, C v = true ↔ ∃ d, Pr B v d ∧ d % 2 = 0 := ⟨Cf (fun v => ∃ d, Pr B v d ∧ d % 2 = 0), fun v => cf_t⟩
    have hC2 : ∀ a b, B a b = true → C b = !C a := by
      intro a b h
      obtain ⟨d, hd⟩ := pr_ex hB1 hB2 (hB1.2 a b h).1
      obtain ⟨e, he⟩ := pr_ex hB1 hB2 (hB1.2 a b h).2
      have hp := pr_e hB1 hB2 h hd he hno
      by_cases q : d % 2 = 0
      · have ca : C a = true := (hC a).mpr ⟨d, hd, q⟩
        have cb : C b = false := Bool.eq_false_iff.mpr (fun y => by
          obtain ⟨e', he', q'⟩ := (hC b).mp y
          have := pr_u he he'
          omega)
        rw [ca, cb]; rfl
      · have cb : C b = true := (hC b).mpr ⟨e, he, by omega⟩
        have ca : C a = false := Bool.eq_false_iff.mpr (fun y => by
          obtain ⟨d', hd', q'⟩ := (hC a).mp y
          have := pr_u hd hd'
          omega)
        rw [ca, cb]; rfl
    have rowF : ∀ v, v < 10 → sm (fun j => if (B v j && C v) = true then 1 else 0) 10 = if (btB z (v : Int) && C v) = true then 2 else 0 := by
      intro v hv
      by_cases q : (btB z (v : Int) && C v) = true
      · rw [if_pos q]
        rw [Bool.and_eq_true] at q
        refine Eq.trans ?_ (hr v ⟨hv, q.1⟩)
        refine sm_c 10 (fun j _ => ?_)
        rw [hB, q.1, q.2, Bool.true_and, Bool.and_true]
      · rw [if_neg q]
        refine Eq.trans (sm_c 10 (fun j _ => ?_)) (sm_z 10)
        refine if_neg (fun y => q ?_)
        rw [Bool.and_eq_true] at y ⊢
        exact ⟨((bt v j).mp y.1).2.1, y.2⟩
    have colS : ∀ j, j < 10 → sm (fun v => if (B v j && C v) = true then 1 else 0) 10 = if (btB z (j : Int) && !C j) = true then 2 else 0 := by
      intro j hj
      have e1 : ∀ v, (B v j && C v) = (B j v && !C j) := by
        intro v
        rw [Bool.eq_iff_iff, Bool.and_eq_true, Bool.and_eq_true, Bool.not_eq_true']
        constructor
        · rintro ⟨y1, y2⟩; exact ⟨hB2 _ _ y1, by rw [hC2 v j y1, y2]; rfl⟩
        · rintro ⟨y1, y2⟩; exact ⟨hB2 _ _ y1, by rw [hC2 j v y1, y2]; rfl⟩
      by_cases q : (btB z (j : Int) && !C j) = true
      · rw [if_pos q]
        rw [Bool.and_eq_true] at q
        refine Eq.trans ?_ (hr j ⟨hj, q.1⟩)
        refine sm_c 10 (fun v _ => ?_)
        rw [e1, hB, q.1, q.2, Bool.true_and, Bool.and_true]
      · rw [if_neg q]
        refine Eq.trans (sm_c 10 (fun v _ => ?_)) (sm_z 10)
        refine if_neg (fun y => q ?_)
        rw [e1, Bool.and_eq_true] at y
        rw [Bool.and_eq_true]
        exact ⟨((bt j v).mp y.1).2.1, y.2⟩
    have s1 := sm_c 10 rowF
    have s2 := sm_c 10 colS
    rw [sm_sw] at s1
    have t1 : sm (fun j => if (btB z (j : Int) && !C j) = true then 2 else 0) 10 = 2 * sm (fun j => if (btB z (j : Int) && !C j) = true then 1 else 0) 10 := sm_2 (f := fun j => btB z (j : Int) && !C j) 10
    have t2 : sm (fun j => if (btB z (j : Int) && C j) = true then 2 else 0) 10 = 2 * sm (fun j => if (btB z (j : Int) && C j) = true then 1 else 0) 10 := sm_2 (f := fun j => btB z (j : Int) && C j) 10
    rw [s2, t1, t2] at s1
    have s3 : pcI z = sm (fun j => if (btB z (j : Int) && C j) = true then 1 else 0) 10 + sm (fun j => if (btB z (j : Int) && !C j) = true then 1 else 0) 10 := by
      unfold pcI ct
      rw [← sm_a]
      refine sm_c 10 (fun j _ => ?_)
      show (if btB z (j : Int) = true then 1 else 0) = (if (btB z (j : Int) && C j) = true then 1 else 0) + (if (btB z (j : Int) && !C j) = true then 1 else (0 : Nat))
      rcases btB z (j : Int) with _ | _
      · rfl
      · rcases C j with _ | _
        · rfl
        · rfl
    omega
/-- a set from its members -/
theorem mk_bits (Q : Nat → Prop) : ∀ n : Nat, ∃ y : Nat, y < 2 ^ n ∧ ∀ j : Nat, y.testBit j = true ↔ j < n ∧ Q j := by
  intro n
  induction n with
  | zero => exact ⟨0, by decide, fun j => by rw [Nat.zero_testBit]; exact ⟨fun h => absurd h (by decide), fun h => by omega⟩⟩
  | succ n ih =>
    obtain ⟨y, h1, h2⟩ := ih
    have hp : (2 : Nat) ^ (n + 1) = 2 ^ n + 2 ^ n := by rw [Nat.pow_succ]; omega
    by_cases q : Q n
    · refine ⟨2 ^ n + y, by omega, fun j => ?_⟩
      rcases Nat.lt_trichotomy j n with c | c | c
      · rw [Nat.testBit_two_pow_add_gt c, h2]
        exact ⟨fun g => ⟨by omega, g.2⟩, fun g => ⟨c, g.2⟩⟩
      · rw [c, Nat.testBit_two_pow_add_eq, Nat.testBit_lt_two_pow h1]
        exact ⟨fun _ => ⟨by omega, q⟩, fun _ => rfl⟩
      · rw [Nat.testBit_lt_two_pow (Nat.lt_of_lt_of_le (show 2 ^ n + y < 2 ^ (n + 1) by omega) (Nat.pow_le_pow_right (by decide) (by omega)))]
        exact ⟨fun g => absurd g (by decide), fun g => by omega⟩
    · refine ⟨y, by omega, fun j => (h2 j).trans ⟨fun g => ⟨by omega, g.2⟩, fun g => ⟨?_, g.2⟩⟩⟩
      by_cases c : j = n
      · rw [c] at g; exact absurd g.2 q
      · have := g.1; omega
theorem mk_set (Q : Nat → Prop) : ∃ y : Int, 0 ≤ y ∧ y ≤ 1023 ∧ ∀ j : Nat, Lb y j ↔ j < 10 ∧ Q j := by
  obtain ⟨y, h1, h2⟩ := mk_bits Q 10
  have h3 : y < 1024 := h1
  refine ⟨(y : Int), by omega, by omega, fun j => ?_⟩
  unfold Lb
  constructor
  · rintro ⟨g1, g2⟩
    rw [btB_nat y h3 j g1] at g2
    exact (h2 j).mp g2
  · intro g
    exact ⟨g.1, by rw [btB_nat y h3 j g.1]; exact (h2 j).mpr g⟩
theorem lt_pow {x : Int} {P : Nat} (x0 : 0 ≤ x) (x1 : x ≤ 1023) (h : ∀ j : Nat, Lb x j → j < P) : x < ((2 ^ P : Nat) : Int) := by
  obtain ⟨n, rfl⟩ := Int.eq_ofNat_of_zero_le x0
  have h9 : n < 2 ^ P := Nat.lt_pow_two_of_testBit n (fun i hi => by
    rcases hb : n.testBit i with _ | _
    · rfl
    · exfalso
      by_cases c : i < 10
      · have := h i ⟨c, by rw [btB_nat n (by omega) i c]; exact hb⟩
        omega
      · have h2 : (2 : Nat) ^ 10 ≤ 2 ^ i := Nat.pow_le_pow_right (by decide) (by omega)
        rw [Nat.testBit_lt_two_pow (by omega)] at hb
        exact absurd hb (by decide))
  omega
theorem pow_lt {x : Int} {P j : Nat} (hP : P ≤ 10) (x0 : 0 ≤ x) (x1 : x < ((2 ^ P : Nat) : Int)) (h : Lb x j) : j < P := by
  obtain ⟨n, rfl⟩ := Int.eq_ofNat_of_zero_le x0
  have hp : (2 : Nat) ^ P ≤ 2 ^ 10 := Nat.pow_le_pow_right (by decide) hP
  by_cases c : j < P
  · exact c
  · have h2 : (2 : Nat) ^ P ≤ 2 ^ j := Nat.pow_le_pow_right (by decide) (by omega)
    have h3 := h.2
    rw [btB_nat n (by omega) j h.1, Nat.testBit_lt_two_pow (by omega)] at h3
    exact absurd h3 (by decide)
/-- the fewest, of like ones the least, of odd sets of a sort -/
def OdS (P : Nat) (S : Int → Prop) (z : Int) : Prop := z = -1 ∧ (∀ x : Int, 0 ≤ x → x < ((2 ^ P : Nat) : Int) → pcI x % 2 = 1 → ¬ S x) ∨ 0 ≤ z ∧ z < ((2 ^ P : Nat) : Int) ∧ pcI z % 2 = 1 ∧ S z ∧ ∀ x : Int, 0 ≤ x → x < ((2 ^ P : Nat) : Int) → pcI x % 2 = 1 → S x → pcI z < pcI x ∨ pcI z = pcI x ∧ z ≤ x
theorem cyc_set {A : Nat → Nat → Bool} {P a : Nat} {l : List Nat} (hA : InP A P) (hc : Ch A a l a) (hn : (a :: l).Nodup) : ∃ y : Int, 0 ≤ y ∧ y < ((2 ^ P : Nat) : Int) ∧ HamS A y ∧ pcI y = l.length + 1 ∧ ∀ j, Lb y j ↔ j ∈ a :: l := by
  obtain ⟨y, y0, y1, y2⟩ := mk_set (fun j => j ∈ a :: l)
  have hP : ∀ j, j ∈ a :: l → j < P := fun j hj => by
    obtain ⟨k, hk⟩ := ch_mem l a hc j hj
    exact (hA.2 _ _ hk).1
  have h10 := hA.1
  have hm : ∀ j, j ∈ a :: l ↔ Lb y j := fun j => ⟨fun h => (y2 j).mpr ⟨by have := hP j h; omega, h⟩, fun h => ((y2 j).mp h).2⟩
  exact ⟨y, y0, lt_pow y0 y1 (fun j hj => hP j ((hm j).mpr hj)), ⟨a, l, hc, hn, hm⟩, ham_n hn hm, fun j => (hm j).symm⟩
theorem reg_ham {A : Nat → Nat → Bool} {P : Nat} {x : Int} (hA : InP A P) (hs : SyA A) (x0 : 0 ≤ x) (x1 : x ≤ 1023) (hr : RegS A x) (ho : pcI x % 2 = 1) : ∃ y : Int, 0 ≤ y ∧ y < ((2 ^ P : Nat) : Int) ∧ HamS A y ∧ pcI y % 2 = 1 ∧ pcI y ≤ pcI x ∧ (pcI y = pcI x → y = x) := by
  obtain ⟨a, l, h1, h2, h3, h4⟩ := reg_odd hA hs hr ho
  obtain ⟨y, y0, y1, y2, y3, y4⟩ := cyc_set hA h1 h2
  have h10 := hA.1
  have hp : (2 : Nat) ^ P ≤ 2 ^ 10 := Nat.pow_le_pow_right (by decide) h10
  have sub : ∀ j : Nat, j < 10 → btB y (j : Int) = true → btB x (j : Int) = true := fun j hj h => (h4 j ((y4 j).mp ⟨hj, h⟩)).2
  refine ⟨y, y0, y1, y2, by rw [y3]; exact h3, ct_le sub, fun e => bits_e y0 (by omega) x0 x1 (fun j hj => ?_)⟩
  rw [Bool.eq_iff_iff]
  exact ⟨sub j hj, ct_eq sub e j hj⟩
theorem od_same {A : Nat → Nat → Bool} {P : Nat} {z z' : Int} (hA : InP A P) (hs : SyA A) (hi : IrA A) (x : OdS P (HamS A) z) (y : OdS P (RegS A) z') : z = z' := by
  have h10 := hA.1
  have hp : (2 : Nat) ^ P ≤ 2 ^ 10 := Nat.pow_le_pow_right (by decide) h10
  have big : ∀ u : Int, u < ((2 ^ P : Nat) : Int) → u ≤ 1023 := fun u hu => by omega
  have hreg : ∀ u : Int, 0 ≤ u → u < ((2 ^ P : Nat) : Int) → pcI u % 2 = 1 → HamS A u → (∀ w : Int, 0 ≤ w → w < ((2 ^ P : Nat) : Int) → pcI w % 2 = 1 → HamS A w → pcI u ≤ pcI w) → RegS A u := fun u u0 u1 u2 u3 u4 => ham_reg hA hs hi u3 u2 (fun a l c1 c2 c3 => by
    obtain ⟨w, w0, w1, w2, w3, _⟩ := cyc_set hA c1 c2
    have h9 := u4 w w0 w1 (by rw [w3]; exact c3) w2
    omega)
  rcases x with ⟨x1, x2⟩ | ⟨x0, x1, x2, x3, x4⟩
  · rcases y with ⟨y1, _⟩ | ⟨y0, y1, y2, y3, _⟩
    · omega
    · obtain ⟨w, w0, w1, w2, w3, _, _⟩ := reg_ham hA hs y0 (big _ y1) y3 y2
      exact absurd w2 (x2 w w0 w1 w3)
  · have gz : RegS A z := hreg z x0 x1 x2 x3 (fun w w0 w1 w2 w3 => by have := x4 w w0 w1 w2 w3; omega)
    rcases y with ⟨_, y2⟩ | ⟨y0, y1, y2, y3, y4⟩
    · exact absurd gz (y2 z x0 x1 x2)
    · obtain ⟨w, w0, w1, w2, w3, w4, w5⟩ := reg_ham hA hs y0 (big _ y1) y3 y2
      have a1 := y4 z x0 x1 x2 gz
      have a2 := x4 w w0 w1 w3 w2
      have e : pcI w = pcI z' := by omega
      have e2 := w5 e
      subst e2
      omega
/-- counts of bits, up to ten -/
theorem bd_fin : ∀ i : Fin 1024, let x : Int := (i.val : Int); let a2 := (Int32.ofInt (x / 2) &&& Int32.ofInt 1431655765).toInt; let x1 := x - a2; let a3 := (Int32.ofInt x1 &&& Int32.ofInt 858993459).toInt; let a5 := (Int32.ofInt (x1 / 4) &&& Int32.ofInt 858993459).toInt; let x2 := a3 + a5; let x3 := (Int32.ofInt (x2 + x2 / 16) &&& Int32.ofInt 252645135).toInt; let x4 := x3 + x3 / 256; let x5 := x4 + x4 / 65536; (Int32.ofInt x5 &&& Int32.ofInt 63).toInt = pcn i.val ∧ 0 ≤ x1 := by decide +kernel
theorem bcq_1 {x a1 a2 : Int} (h0 : 0 ≤ x) (h1 : x ≤ 1023) (e2 : a2 = (Int32.ofInt a1 &&& Int32.ofInt 1431655765).toInt) (e1 : a1 = x / 2) : 0 ≤ x - a2 := by
  have h := bd_fin ⟨x.toNat, by omega⟩
  have ex : ((x.toNat : Nat) : Int) = x := by omega
  simp only [ex, ← e1, ← e2] at h
  exact h.2
theorem bcq_8 {x a1 a2 x1 a3 a4 a5 x2 a6 x3 a7 x4 a8 x5 z : Int} (h0 : 0 ≤ x) (h1 : x ≤ 1023) (ez : z = (Int32.ofInt x5 &&& Int32.ofInt 63).toInt) (g5 : x5 = x4 + a8) (e8 : a8 = x4 / 65536) (g4 : x4 = x3 + a7) (e7 : a7 = x3 / 256) (g3 : x3 = (Int32.ofInt (x2 + a6) &&& Int32.ofInt 252645135).toInt) (e6 : a6 = x2 / 16) (g2 : x2 = a3 + a5) (e5 : a5 = (Int32.ofInt a4 &&& Int32.ofInt 858993459).toInt) (e4 : a4 = x1 / 4) (e3 : a3 = (Int32.ofInt x1 &&& Int32.ofInt 858993459).toInt) (g1 : x1 = x - a2) (e2 : a2 = (Int32.ofInt a1 &&& Int32.ofInt 1431655765).toInt) (e1 : a1 = x / 2) : z = pcn x.toNat := by
  have h := bd_fin ⟨x.toNat, by omega⟩
  have ex : ((x.toNat : Nat) : Int) = x := by omega
  simp only [ex, ← e1, ← e2, ← g1, ← e3, ← e4, ← e5, ← g2, ← e6, ← g3, ← e7, ← g4, ← e8, ← g5, ← ez] at h
  exact h.1
theorem pcn_10 : ∀ s : Fin 1024, pcn s.val ≤ 10 := by decide +kernel
theorem pcn_pop : ∀ i : Fin 1024, ¬ i.val = 0 → 0 ≤ (Int32.ofInt (i.val : Int) &&& Int32.ofInt ((i.val : Int) - 1)).toInt ∧ (Int32.ofInt (i.val : Int) &&& Int32.ofInt ((i.val : Int) - 1)).toInt ≤ 1023 ∧ pcn (Int32.ofInt (i.val : Int) &&& Int32.ofInt ((i.val : Int) - 1)).toInt.toNat + 1 = pcn i.val := by decide +kernel
def SzI (x n l : Int) : Prop := 0 ≤ l ∧ l ≤ 1023 ∧ 0 ≤ n ∧ n ≤ 10 ∧ n + ((pcn l.toNat : Nat) : Int) = ((pcn x.toNat : Nat) : Int) ∧ ((pcn x.toNat : Nat) : Int) ≤ 10
theorem sz_0 {x : Int} (h0 : 0 ≤ x) (h1 : x ≤ 1023) : SzI x 0 x := ⟨h0, h1, by decide, by decide, by omega, by have h9 : pcn x.toNat ≤ 10 := pcn_10 ⟨x.toNat, by omega⟩; omega⟩
theorem sz_s {x n l n' w l' : Int} (h : SzI x n l) (hl : ¬ l = 0) (hn : In32 (n + 1) → n' = n + 1) (hw : In32 (l - 1) → w = l - 1) (e : l' = (Int32.ofInt l &&& Int32.ofInt w).toInt) : SzI x n' l' := by
  obtain ⟨h1, h2, h3, h4, h5, h6⟩ := h
  have g := pcn_pop ⟨l.toNat, by omega⟩ (by show ¬ l.toNat = 0; omega)
  have ex : ((l.toNat : Nat) : Int) = l := by omega
  simp only [ex] at g
  have en := hn ⟨by omega, by omega⟩
  have ew := hw ⟨by omega, by omega⟩
  rw [ew] at e
  rw [← e] at g
  obtain ⟨g1, g2, g3⟩ := g
  have g3 : pcn l'.toNat + 1 = pcn l.toNat := g3
  exact ⟨g1, g2, by omega, by omega, by omega, h6⟩
theorem sz_e {x n l : Int} (h : SzI x n l) (hl : l = 0) : n = ((pcn x.toNat : Nat) : Int) := by
  obtain ⟨h1, h2, h3, h4, h5, h6⟩ := h
  rw [hl] at h5
  have : pcn (0 : Int).toNat = 0 := rfl
  rw [this] at h5
  omega
theorem pci {x : Int} (x0 : 0 ≤ x) (x1 : x ≤ 1023) : ((pcn x.toNat : Nat) : Int) = ((pcI x : Nat) : Int) := (pcI_z x0 x1).symm
theorem pw_n (n : Nat) : (2 : Int) ^ n = ((2 ^ n : Nat) : Int) := by push_cast; rfl
theorem pw_10 {P : Int} (hP : P ≤ 10) : ((2 ^ P.toNat : Nat) : Int) ≤ 1024 := by
  have : (2 : Nat) ^ P.toNat ≤ 2 ^ 10 := Nat.pow_le_pow_right (by decide) (by omega)
  omega
theorem pcI_le {P : Nat} {x : Int} (hP : P ≤ 10) (x0 : 0 ≤ x) (x1 : x < ((2 ^ P : Nat) : Int)) : pcI x ≤ P := by
  have h1 : pcI x ≤ ct (fun j => decide (j < P)) := ct_le (fun j hj h => decide_eq_true (pow_lt hP x0 x1 ⟨hj, h⟩))
  have h2 : ∀ q : Nat, q ≤ 10 → ct (fun j => decide (j < q)) = q := by decide +kernel
  rw [h2 P hP] at h1
  exact h1
theorem lb_drop {L b w n z : Int} (b0 : 0 ≤ b) (b9 : b ≤ 9) (hw : w = 2 ^ b.toNat) (hn : n = (Int32.ofInt w ^^^ Int32.ofInt (-1)).toInt) (hz : z = (Int32.ofInt L &&& Int32.ofInt n).toInt) (j : Nat) : Lb z j ↔ Lb L j ∧ ¬ j = b.toNat := by
  unfold Lb
  by_cases hj : j < 10
  · rw [btB_andG (by omega) (by omega) hz, btB_notG (by omega) (by omega) hn, btB_pow b0 (by omega) (by omega) (by omega) hw, Bool.and_eq_true, Bool.not_eq_true', beq_eq_false_iff_ne]
    constructor
    · rintro ⟨_, h1, h2⟩; exact ⟨⟨hj, h1⟩, fun q => h2 (by omega)⟩
    · rintro ⟨h1, h2⟩; exact ⟨hj, h1.2, fun q => h2 (by omega)⟩
  · exact ⟨fun h => absurd h.1 hj, fun h => absurd h.1.1 hj⟩
/-- the reference's way round -/
def Gr (A : Nat → Nat → Bool) (a h : Nat) (L : Int) : Prop := ∃ l : List Nat, Ch A a l h ∧ l.Nodup ∧ ∀ j, j ∈ l ↔ Lb L j
def GrX (A : Nat → Nat → Bool) (h : Nat) (L : Int) (r : Nat) : Prop := ∃ l : List Nat, Ch A r l h ∧ (r :: l).Nodup ∧ ∀ j, j ∈ r :: l ↔ Lb L j
def GrZ (A : Nat → Nat → Bool) (a h : Nat) (L z : Int) : Prop := z = 1 ∧ Gr A a h L ∨ z = 0 ∧ ¬ Gr A a h L
def GrI (A : Nat → Nat → Bool) (a h : Nat) (L q : Int) : Prop := ∀ r : Nat, (r : Int) < q → ¬ (A a r = true ∧ GrX A h L r)
theorem gr_d {A : Nat → Nat → Bool} {h : Nat} {L r w n z : Int} (r0 : 0 ≤ r) (r9 : r ≤ 9) (hb : Lb L r.toNat) (hw : w = 2 ^ r.toNat) (hn : n = (Int32.ofInt w ^^^ Int32.ofInt (-1)).toInt) (hz : z = (Int32.ofInt L &&& Int32.ofInt n).toInt) : Gr A r.toNat h z ↔ GrX A h L r.toNat := by
  have hd := lb_drop r0 r9 hw hn hz
  constructor
  · rintro ⟨l, h1, h2, h3⟩
    refine ⟨l, h1, List.nodup_cons.mpr ⟨fun q => ((hd _).mp ((h3 _).mp q)).2 rfl, h2⟩, fun j => ?_⟩
    rw [List.mem_cons, h3, hd]
    constructor
    · rintro (q | q)
      · rw [q]; exact hb
      · exact q.1
    · intro q
      by_cases c : j = r.toNat
      · exact Or.inl c
      · exact Or.inr ⟨q, c⟩
  · rintro ⟨l, h1, h2, h3⟩
    have h4 := List.nodup_cons.mp h2
    refine ⟨l, h1, h4.2, fun j => ?_⟩
    rw [hd]
    constructor
    · intro q; exact ⟨(h3 j).mp (List.mem_cons_of_mem _ q), fun c => h4.1 (by rw [← c]; exact q)⟩
    · rintro ⟨q1, q2⟩
      rcases List.mem_cons.mp ((h3 j).mpr q1) with c | c
      · exact absurd c q2
      · exact c
theorem gi_0 {A : Nat → Nat → Bool} {a h : Nat} {L : Int} : GrI A a h L 0 := fun r hr => by omega
theorem gi_s {A : Nat → Nat → Bool} {a h : Nat} {L q : Int} (g : GrI A a h L q) (q0 : 0 ≤ q) (hn : A a q.toNat = true → GrX A h L q.toNat → False) : GrI A a h L (q + 1) := fun r hr y => by
  by_cases c : (r : Int) = q
  · rw [show r = q.toNat by omega] at y; exact hn y.1 y.2
  · exact g r (by omega) y
theorem gx_b {A : Nat → Nat → Bool} {h r : Nat} {L : Int} (x : GrX A h L r) : Lb L r := by
  obtain ⟨l, _, _, h3⟩ := x
  exact (h3 r).mp List.mem_cons_self
theorem gz_y {A : Nat → Nat → Bool} {a h r : Nat} {L : Int} (e : A a r = true) (x : GrX A h L r) : GrZ A a h L 1 := by
  obtain ⟨l, h1, h2, h3⟩ := x
  exact Or.inl ⟨rfl, r :: l, ch_c.mpr ⟨e, h1⟩, h2, h3⟩
theorem gz_n {A : Nat → Nat → Bool} {a h : Nat} {L q P : Int} (g : GrI A a h L q) (hq : P ≤ q) (hA : ∀ a b : Nat, A a b = true → (a : Int) < P ∧ (b : Int) < P) (L0 : 0 ≤ L) (L1 : L ≤ 1023) (hL : ¬ L = 0) : GrZ A a h L 0 := by
  refine Or.inr ⟨rfl, fun y => ?_⟩
  obtain ⟨l, h1, h2, h3⟩ := y
  obtain ⟨j, hj⟩ := lb_ex L0 L1 hL
  rcases l with _ | ⟨r, l⟩
  · exact absurd ((h3 j).mpr hj) List.not_mem_nil
  · exact g r (by have := (hA a r (ch_c.mp h1).1).2; omega) ⟨(ch_c.mp h1).1, l, (ch_c.mp h1).2, h2, h3⟩
theorem gz_0 {A : Nat → Nat → Bool} {a h : Nat} {L z : Int} (hL : L = 0) (hz : z = 1 ∧ A a h = true ∨ z = 0 ∧ ¬ A a h = true) : GrZ A a h L z := by
  subst hL
  have e : Gr A a h 0 ↔ A a h = true := by
    constructor
    · rintro ⟨l, h1, _, h3⟩
      rcases l with _ | ⟨r, l⟩
      · exact h1
      · exact absurd ((h3 r).mp List.mem_cons_self) lb_0
    · intro g
      exact ⟨[], g, List.nodup_nil, fun j => ⟨fun q => absurd q List.not_mem_nil, fun q => absurd q lb_0⟩⟩
  rcases hz with ⟨h1, h2⟩ | ⟨h1, h2⟩
  · exact Or.inl ⟨h1, e.mpr h2⟩
  · exact Or.inr ⟨h1, fun g => h2 (e.mp g)⟩
theorem gz_t {A : Nat → Nat → Bool} {a h : Nat} {L z : Int} (g : GrZ A a h L z) (hz : ¬ z = 0) : Gr A a h L := g.elim (fun q => q.2) (fun q => absurd q.1 hz)
theorem gz_f {A : Nat → Nat → Bool} {a h : Nat} {L z : Int} (g : GrZ A a h L z) (hz : z = 0) : ¬ Gr A a h L := g.elim (fun q => by have := q.1; exfalso; omega) (fun q => q.2)
theorem gx_h {A : Nat → Nat → Bool} {h : Nat} {L : Int} (hb : Lb L h) : GrX A h L h ↔ HamS A L := by
  constructor
  · rintro ⟨l, h1, h2, h3⟩; exact ⟨h, l, h1, h2, h3⟩
  · rintro ⟨a, l, h1, h2, h3⟩
    obtain ⟨m, g1, g2, _, g4⟩ := ch_rot h1 h2 ((h3 h).mpr hb)
    exact ⟨m, g1, g2, fun j => (g4 j).trans (h3 j)⟩
/-- the reference's search -/
def O2I (M : Mem) (n : Int) : Prop := n % 2 = 1 ∧ Im (IrA (aRx 132 0 M)) (∀ x : Int, 0 ≤ x → x < ((2 ^ (M 132 1).toNat : Nat) : Int) → pcI x % 2 = 1 → ((pcI x : Nat) : Int) < n → ¬ HamS (aRx 132 0 M) x)
def O3I (M : Mem) (n s : Int) : Prop := ∀ x : Int, 0 ≤ x → x < s → ((pcI x : Nat) : Int) = n → ¬ HamS (aRx 132 0 M) x
theorem o2_0 {M : Mem} : O2I M 3 := ⟨by decide, fun hi x x0 x1 x2 x3 h => by
  obtain ⟨a, l, h1, h2, h3⟩ := h
  have h4 := ham_n h2 h3
  rcases l with _ | ⟨b, l⟩
  · exact hi a h1
  · rw [List.length_cons] at h4; omega⟩
theorem o3_0 {M : Mem} {n : Int} : O3I M n 0 := fun x x0 x1 => by omega
theorem o3_s {M : Mem} {n s : Int} (h : O3I M n s) (hn : ((pcI s : Nat) : Int) = n → HamS (aRx 132 0 M) s → False) : O3I M n (s + 1) := fun x x0 x1 x2 x3 => by
  by_cases c : x = s
  · subst c; exact hn x2 x3
  · exact h x x0 (by omega) x2 x3
theorem o2_s {M : Mem} {n s w : Int} (h : O2I M n) (g : O3I M n s) (hw : w = 2 ^ (M 132 1).toNat) (hs : w ≤ s) : O2I M (n + 2) := ⟨by have := h.1; omega, fun hi x x0 x1 x2 x3 x4 => by
  rw [pw_n] at hw
  have h1 := h.1
  by_cases c : ((pcI x : Nat) : Int) < n
  · exact h.2 hi x x0 x1 x2 c x4
  · exact g x x0 (by omega) (by omega) x4⟩
theorem o2_e {M : Mem} {n : Int} (hP : M 132 1 ≤ 10) (p0 : 0 ≤ M 132 1) (h : O2I M n) (hn : M 132 1 < n) : Im (IrA (aRx 132 0 M)) (OdS (M 132 1).toNat (HamS (aRx 132 0 M)) (-1)) := fun hi => Or.inl ⟨rfl, fun x x0 x1 x2 => h.2 hi x x0 x1 x2 (by have := pcI_le (P := (M 132 1).toNat) (by omega) x0 x1; omega)⟩
theorem o2_y {M : Mem} {n s w : Int} (h : O2I M n) (g : O3I M n s) (s0 : 0 ≤ s) (hw : w = 2 ^ (M 132 1).toNat) (hs : s < w) (hc : ((pcI s : Nat) : Int) = n) (x : HamS (aRx 132 0 M) s) : Im (IrA (aRx 132 0 M)) (OdS (M 132 1).toNat (HamS (aRx 132 0 M)) s) := fun hi => by
  rw [pw_n] at hw
  have h1 := h.1
  refine Or.inr ⟨s0, by omega, by omega, x, fun y y0 y1 y2 y3 => ?_⟩
  by_cases c : ((pcI y : Nat) : Int) < n
  · exact absurd y3 (h.2 hi y y0 y1 y2 c)
  · by_cases c2 : ((pcI y : Nat) : Int) = n
    · by_cases c3 : s ≤ y
      · exact Or.inr ⟨by omega, c3⟩
      · exact absurd y3 (g y y0 (by omega) c2)
    · exact Or.inl (by omega)
/-- the class's search -/
def OgI (M : Mem) (r f s : Int) : Prop := r = -1 ∧ f = M 2 1 + 1 ∧ (∀ x : Int, 0 ≤ x → x < s → pcI x % 2 = 1 → ¬ RegS (aCx 2 M) x) ∨ 0 ≤ r ∧ r < s ∧ r < ((2 ^ (M 2 1).toNat : Nat) : Int) ∧ pcI r % 2 = 1 ∧ f = ((pcI r : Nat) : Int) ∧ RegS (aCx 2 M) r ∧ ∀ x : Int, 0 ≤ x → x < s → pcI x % 2 = 1 → RegS (aCx 2 M) x → pcI r < pcI x ∨ pcI r = pcI x ∧ r ≤ x
def RgZ (M : Mem) (x z : Int) : Prop := z = 1 ∧ RegS (aCx 2 M) x ∨ z = 0 ∧ ¬ RegS (aCx 2 M) x
theorem og_0 {M : Mem} {f : Int} (hf : f = M 2 1 + 1) : OgI M (-1) f 1 := Or.inl ⟨rfl, hf, fun x x0 x1 x2 => by
  have e : x = 0 := by omega
  subst e
  exact absurd x2 (by decide +kernel)⟩
theorem og_s {M : Mem} {r f s w m : Int} (hP : M 2 1 ≤ 10) (p0 : 0 ≤ M 2 1) (h : OgI M r f s) (s0 : 0 ≤ s) (hw : w = 2 ^ (M 2 1).toNat) (hs : s < w) (hm : m = ((pcI s : Nat) : Int)) (hn : m % 2 = 1 → m < f → ¬ RegS (aCx 2 M) s) : OgI M r f (s + 1) := by
  rw [pw_n] at hw
  have hc := pcI_le (P := (M 2 1).toNat) (by omega) s0 (show s < ((2 ^ (M 2 1).toNat : Nat) : Int) by omega)
  rcases h with ⟨h1, h2, h3⟩ | ⟨h1, h2, h3, h4, h5, h6, h7⟩
  · refine Or.inl ⟨h1, h2, fun x x0 x1 x2 => ?_⟩
    by_cases c : x = s
    · subst c; exact hn (by omega) (by omega)
    · exact h3 x x0 (by omega) x2
  · refine Or.inr ⟨h1, by omega, h3, h4, h5, h6, fun x x0 x1 x2 x3 => ?_⟩
    by_cases c : x = s
    · subst c
      by_cases c2 : m < f
      · exact absurd x3 (hn (by omega) c2)
      · omega
    · exact h7 x x0 (by omega) x2 x3
theorem og_y {M : Mem} {r f s w m : Int} (h : OgI M r f s) (s0 : 0 ≤ s) (hw : w = 2 ^ (M 2 1).toNat) (hs : s < w) (hm : m = ((pcI s : Nat) : Int)) (ho : m % 2 = 1) (hf : m < f) (hr : RegS (aCx 2 M) s) : OgI M s m (s + 1) := by
  rw [pw_n] at hw
  refine Or.inr ⟨s0, by omega, by omega, by omega, hm, hr, fun x x0 x1 x2 x3 => ?_⟩
  by_cases c : x = s
  · subst c; exact Or.inr ⟨rfl, Int.le_refl _⟩
  · rcases h with ⟨h1, h2, h3⟩ | ⟨h1, h2, h3, h4, h5, h6, h7⟩
    · exact absurd x3 (h3 x x0 (by omega) x2)
    · have := h7 x x0 (by omega) x2 x3
      left; omega
theorem og_e {M : Mem} {r f s w : Int} (h : OgI M r f s) (hw : w = 2 ^ (M 2 1).toNat) (hs : w ≤ s) : OdS (M 2 1).toNat (RegS (aCx 2 M)) r := by
  rw [pw_n] at hw
  rcases h with ⟨h1, _, h3⟩ | ⟨h1, _, h3, h4, _, h6, h7⟩
  · exact Or.inl ⟨h1, fun x x0 x1 => h3 x x0 (by omega)⟩
  · exact Or.inr ⟨h1, h3, h4, h6, fun x x0 x1 => h7 x x0 (by omega)⟩
theorem og_c {M : Mem} {x p t v : Int} (hP : M 2 1 ≤ 10) (x0 : 0 ≤ x) (x1 : x < ((2 ^ (M 2 1).toNat : Nat) : Int)) (p0 : 0 ≤ p) (p1 : p < M 2 1) (ht : t = M 3 p.toNat) (hv : v = (Int32.ofInt t &&& Int32.ofInt x).toInt) : ct (fun j => aCx 2 M p.toNat j && btB x (j : Int)) = pcI v := by
  refine ct_c (fun j hj => ?_)
  rw [btB_andG (by omega) (by omega) hv]
  by_cases q : btB x (j : Int) = true
  · have h9 := pow_lt (P := (M 2 1).toNat) (by omega) x0 x1 ⟨hj, q⟩
    unfold aCx
    rw [decide_eq_true (show ((p.toNat : Nat) : Int) < M 2 1 ∧ (j : Int) < M 2 1 by omega), Bool.true_and, ht]
  · rw [Bool.eq_false_iff.mpr q, Bool.and_false, Bool.and_false]
def OhI (M : Mem) (x p : Int) : Prop := ∀ v : Nat, (v : Int) < p → Lb x v → ct (fun j => aCx 2 M v j && btB x (j : Int)) = 2
theorem oh_0 {M : Mem} {x : Int} : OhI M x 0 := fun v hv => by omega
theorem oh_s {M : Mem} {x p : Int} (h : OhI M x p) (p0 : 0 ≤ p) (hn : Lb x p.toNat → ct (fun j => aCx 2 M p.toNat j && btB x (j : Int)) = 2) : OhI M x (p + 1) := fun v hv hb => by
  by_cases c : (v : Int) = p
  · rw [show v = p.toNat by omega] at hb ⊢; exact hn hb
  · exact h v (by omega) hb
theorem oh_e {M : Mem} {x p : Int} (hP : M 2 1 ≤ 10) (x0 : 0 ≤ x) (x1 : x < ((2 ^ (M 2 1).toNat : Nat) : Int)) (h : OhI M x p) (hp : M 2 1 ≤ p) : RgZ M x 1 := Or.inl ⟨rfl, fun v hv => h v (by have := pow_lt (P := (M 2 1).toNat) (by omega) x0 x1 hv; omega) hv⟩
theorem oh_n {M : Mem} {x p : Int} (hb : Lb x p.toNat) (hc : ¬ ct (fun j => aCx 2 M p.toNat j && btB x (j : Int)) = 2) : RgZ M x 0 := Or.inr ⟨rfl, fun h => hc (h _ hb)⟩
theorem rz_t {M : Mem} {x z : Int} (g : RgZ M x z) (hz : ¬ z = 0) : RegS (aCx 2 M) x := g.elim (fun q => q.2) (fun q => absurd q.1 hz)
theorem rz_f {M : Mem} {x z : Int} (g : RgZ M x z) (hz : z = 0) : ¬ RegS (aCx 2 M) x := g.elim (fun q => by have := q.1; exfalso; omega) (fun q => q.2)
theorem pw_lt {P s w : Int} (hw : w = 2 ^ P.toNat) (hs : s < w) : s < ((2 ^ P.toNat : Nat) : Int) := by rw [pw_n] at hw; omega
def OdZ (P : Nat) (S : Int → Prop) (x z : Int) : Prop := ∃ r : Int, OdS P S r ∧ (r = -1 ∧ z = -1 ∨ ¬ r = -1 ∧ x = 1 ∧ z = r ∨ ¬ r = -1 ∧ ¬ x = 1 ∧ z = ((pcI r : Nat) : Int))
theorem od_rng {P : Nat} {S : Int → Prop} {r : Int} (hP : P ≤ 10) (h : OdS P S r) (hr : ¬ r = -1) : 0 ≤ r ∧ r ≤ 1023 := by
  have h9 : (2 : Nat) ^ P ≤ 2 ^ 10 := Nat.pow_le_pow_right (by decide) hP
  rcases h with ⟨h1, _⟩ | ⟨h1, h2, _⟩
  · exact absurd h1 hr
  · omega
def gW (t : Nat) (M : Mem) : Prop := SyA (aCx t M) ∧ IrA (aCx t M)
theorem gw_cp {t t' : Nat} {M M' : Mem} (_ : M t 1 ≤ 10) (c : Cp t t' M M') (h : gW t M) : gW t' M' := by
  have ea : aCx t' M' = aCx t M := congrArg (fun X : Sx => X.2.1) c.1
  unfold gW
  rw [ea]; exact h
theorem gw_0 {t : Nat} {M : Mem} (h : M t 1 = 0) : gW t M := ⟨fun a b y => by have h9 := aC_lt a b y; rw [h] at h9; exfalso; omega, fun a y => by have h9 := aC_lt a a y; rw [h] at h9; omega⟩
/-- what the law keeps beside: the rows of steps are right, in the town and in the images -/
def RlG (M : Mem) : Prop := gW 2 M ∧ gW 64 M ∧ gW 84 M ∧ gW 104 M
def TwG (T : Tn) (M M' : Mem) : Prop := TwC T M M' ∧ Im (s_fl T.1 = 0) (gW 2 M')
theorem tg_w {T : Tn} {M M1 M2 : Mem} (hP : M1 2 1 ≤ 10) (h : TwG T M M1) (c : Cp 2 2 M1 M2) : TwG T M M2 := ⟨tw_w h.1 c, fun q => gw_cp hP c (h.2 q)⟩
theorem p10 {M : Mem} (hI : Inv M) : M 2 1 ≤ 10 ∧ M 64 1 ≤ 10 ∧ M 84 1 ≤ 10 ∧ M 104 1 ≤ 10 := ⟨(hI.at (show Bd 2 1 = (0, 10) from rfl)).2, (hI.at (show Bd 64 1 = (0, 10) from rfl)).2, (hI.at (show Bd 84 1 = (0, 10) from rfl)).2, (hI.at (show Bd 104 1 = (0, 10) from rfl)).2⟩
def NoG (ms : List Nat) : Prop := 5 ∉ ms ∧ 67 ∉ ms ∧ 87 ∉ ms ∧ 107 ∉ ms
theorem rg_c {M M' : Mem} (hI : Inv M) (h : RlG M) (c0 : Cp 2 2 M M') (c1 : Cp 64 64 M M') (c2 : Cp 84 84 M M') (c3 : Cp 104 104 M M') : RlG M' := ⟨gw_cp (p10 hI).1 c0 h.1, gw_cp (p10 hI).2.1 c1 h.2.1, gw_cp (p10 hI).2.2.1 c2 h.2.2.1, gw_cp (p10 hI).2.2.2 c3 h.2.2.2⟩
theorem rg_fr {ms : List Nat} {M M' : Mem} (hI : Inv M) (f : Fr ms M M') (m2 : No5 2 ms) (mi : NoI ms) (mg : NoG ms) (h : RlG M) : RlG M' := rg_c hI h (cp_fr f m2 mg.1) (cp_fr f mi.1 mg.2.1) (cp_fr f mi.2.1 mg.2.2.1) (cp_fr f mi.2.2.1 mg.2.2.2)
theorem rg_im {ms : List Nat} {M M' : Mem} {x : Int} (hI : Inv M) (f : Fr ms M M') (m2 : No5 2 ms) (m5 : 5 ∉ ms) (c : ImC x M M' ∨ (x < 0 ∨ 2 < x) ∧ M' = M) (h : RlG M) : RlG M' := by
  have h2 := (p10 hI).1
  rcases c with (⟨_, ⟨c0, c1, c2⟩, _⟩ | ⟨_, ⟨c0, c1, c2⟩, _⟩ | ⟨_, ⟨c0, c1, c2⟩, _⟩) | ⟨_, e⟩
  · exact ⟨gw_cp h2 (cp_fr f m2 m5) h.1, gw_cp h2 c0 h.1, gw_cp (p10 hI).2.2.1 c1 h.2.2.1, gw_cp (p10 hI).2.2.2 c2 h.2.2.2⟩
  · exact ⟨gw_cp h2 (cp_fr f m2 m5) h.1, gw_cp (p10 hI).2.1 c0 h.2.1, gw_cp h2 c1 h.1, gw_cp (p10 hI).2.2.2 c2 h.2.2.2⟩
  · exact ⟨gw_cp h2 (cp_fr f m2 m5) h.1, gw_cp (p10 hI).2.1 c0 h.2.1, gw_cp (p10 hI).2.2.1 c1 h.2.2.1, gw_cp h2 c2 h.1⟩
  · rw [e]; exact h
theorem rg_re {ms : List Nat} {M M' : Mem} {x : Int} {Pq : Prop} (hI : Inv M) (f : Fr ms M M') (mi : NoI ms) (mg : 67 ∉ ms ∧ 87 ∉ ms ∧ 107 ∉ ms) (c : ReC x M M' ∨ Pq ∧ M' = M) (h : RlG M) : RlG M' := by
  have k1 := gw_cp (p10 hI).2.1 (cp_fr f mi.1 mg.1) h.2.1
  have k2 := gw_cp (p10 hI).2.2.1 (cp_fr f mi.2.1 mg.2.1) h.2.2.1
  have k3 := gw_cp (p10 hI).2.2.2 (cp_fr f mi.2.2.1 mg.2.2) h.2.2.2
  rcases c with (⟨_, _, c⟩ | ⟨_, _, c⟩ | ⟨_, _, c⟩) | ⟨_, e⟩
  · exact ⟨gw_cp (p10 hI).2.1 c h.2.1, k1, k2, k3⟩
  · exact ⟨gw_cp (p10 hI).2.2.1 c h.2.2.1, k1, k2, k3⟩
  · exact ⟨gw_cp (p10 hI).2.2.2 c h.2.2.2, k1, k2, k3⟩
  · rw [e]; exact h
theorem rg_tw {ms : List Nat} {M M' : Mem} {T : Tn} (hI : Inv M) (f : Fr ms M M') (mi : NoI ms) (mg : 67 ∉ ms ∧ 87 ∉ ms ∧ 107 ∉ ms) (c : TwG T M M' ∨ M' = M) (h : RlG M) : RlG M' := by
  have k1 := gw_cp (p10 hI).2.1 (cp_fr f mi.1 mg.1) h.2.1
  have k2 := gw_cp (p10 hI).2.2.1 (cp_fr f mi.2.1 mg.2.1) h.2.2.1
  have k3 := gw_cp (p10 hI).2.2.2 (cp_fr f mi.2.2.1 mg.2.2) h.2.2.2
  rcases c with c | e
  · by_cases hq : s_fl T.1 = 0
    · exact ⟨c.2 hq, k1, k2, k3⟩
    · exact ⟨gw_cp (p10 hI).1 (c.1.2 hq) h.1, k1, k2, k3⟩
  · rw [e]; exact h
theorem rg_0 {M : Mem} (h2 : M 2 1 = 0) (h64 : M 64 1 = 0) (h84 : M 84 1 = 0) (h104 : M 104 1 = 0) : RlG M := ⟨gw_0 h2, gw_0 h64, gw_0 h84, gw_0 h104⟩
theorem rs_p {M : Mem} (h : RlS M) : M 2 1 = M 132 1 ∧ aCx 2 M = aRx 132 0 M := by
  have h1 := h.1
  exact ⟨congrArg (fun X : Sx => X.1) h1, congrArg (fun X : Sx => X.2.1) h1⟩
theorem oz_same {M M1 : Mem} {x z z' : Int} (hP : M 2 1 ≤ 10) (hS : RlS M) (hG : gW 2 M) (a : OdZ (M 2 1).toNat (RegS (aCx 2 M)) x z) (f : ∀ c : Nat, M1 132 c = M 132 c) (b : Im (IrA (aRx 132 0 M1)) (OdZ (M1 132 1).toNat (HamS (aRx 132 0 M1)) x z')) : z' = z := by
  have e := rs_p hS
  have ea : aRx 132 0 M1 = aCx 2 M := (aRx_f (o := 0) f).trans e.2.symm
  rw [ea, f 1, ← e.1] at b
  obtain ⟨r, h1, h2⟩ := a
  obtain ⟨r', g1, g2⟩ := b hG.2
  have h9 : r' = r := od_same (inp_c hP) hG.1 hG.2 g1 h1
  subst h9
  omega
/-- no place touches itself -/
theorem ir_fz {S : St} {D : Dt} (h : s_fl S = 0 → IrA (d_a D)) : IrA (d_a (fz S D).2) := by
  by_cases q : s_fl S = 0
  · rw [fz_0 q]; exact h q
  · rw [fz_n q]; exact fun a y => absurd y (by show ¬ false = true; decide)
theorem numB_ba {lo hi : Int} {bar : Int → Bool} {S : St} (h : s_fl (numB lo hi bar S) = 0) : bar (s_vl S) = false := by
  by_cases h0 : s_fl S = 0 ∧ s_tk S = 2
  · by_cases h1 : lo ≤ s_vl S ∧ s_vl S ≤ hi ∧ bar (s_vl S) = false
    · exact h1.2.2
    · rw [nb_3 h0.1 h0.2 h1 rfl] at h; exact absurd h (blame_n (by decide))
  · have e : numB lo hi bar S = blame 2 S := by unfold numB; rw [if_neg h0]
    rw [e] at h; exact absurd h (blame_n (by decide))
theorem tookW_0 {w : List Int} {S : St} (h : s_fl (tookW w S) = 0) : s_fl S = 0 := by
  by_cases q : s_fl S = 0
  · exact q
  · rw [tookW_f q] at h; exact h
theorem ir_t {D : Dt} {S : St} (h : IrA (d_a D)) (hf : s_fl (tc4 D S) = 0) : IrA (d_a (addT D (s_vl (tc1 D S)) (s_vl (tc2 D S)))) := fun a y => by
  have h3 : s_fl (tc3 D S) = 0 := tookW_0 hf
  have hb := numB_ba h3
  have k2 := numB_ok h3
  have k1 := numB_ok k2.1
  have hne : ¬ s_vl (tc2 D S) = s_vl (tc1 D S) := fun q => by
    have : barA (d_a D) (s_vl (tc1 D S)) (s_vl (tc2 D S)) = true := barA_t.mpr (Or.inl q)
    rw [hb] at this; exact absurd this (by decide)
  have y : (d_a D a a || ((a == (s_vl (tc1 D S)).toNat && a == (s_vl (tc2 D S)).toNat) || (a == (s_vl (tc2 D S)).toNat && a == (s_vl (tc1 D S)).toNat))) = true := y
  have c1 := k1.2.1
  have c2 := k2.2.1
  rw [Bool.or_eq_true, Bool.or_eq_true, Bool.and_eq_true, Bool.and_eq_true, beq_iff_eq, beq_iff_eq] at y
  rcases y with y | y | y
  · exact h a y
  · omega
  · omega
theorem ir_ln1 {T : Tn} (h : IrA (d_a T.2)) : IrA (d_a (lineF T).2) := by
  have hb : IrA (d_a (bodyF T).2) := by
    unfold bodyF
    split
    · exact ir_fz (fun q => ir_t h q)
    · split
      · exact ir_fz (fun _ => show IrA (d_a (addN T.2 _)) from h)
      · split
        · exact ir_fz (fun _ => show IrA (d_a (addE T.2 _ _ _)) from h)
        · split
          · exact ir_fz (fun _ => h)
          · split
            · exact ir_fz (fun _ => h)
            · exact ir_fz (fun _ => h)
  exact ir_fz (fun _ => show IrA (d_a (incL (bodyF T).2)) from hb)
theorem ir_lns : ∀ (n : Nat) (T A : Tn), lns n T = some A → IrA (d_a T.2) → IrA (d_a A.2) := by
  intro n
  induction n with
  | zero => intro T A h; exact absurd h (by unfold lns; simp)
  | succ n ih =>
    intro T A h hT
    rw [lns] at h
    by_cases hc : s_fl T.1 = 0 ∧ ¬ s_tk T.1 = 0
    · rw [if_pos hc] at h; exact ih _ _ h (ir_ln1 hT)
    · rw [if_neg hc] at h
      have e := Option.some.inj h
      rw [← e]; exact hT
theorem ir_ln {U : Nat → Int} {n : Int} {A : Tn} (h : LnE (begF U n) A) : IrA (d_a A.2) := by
  obtain ⟨k, h⟩ := h
  refine ir_lns k _ A h ?_
  exact ir_fz (fun _ => show IrA (d_a (incL (fz _ _).2)) from ir_fz (D := openD _) (fun _ a y => absurd y (by show ¬ false = true; decide)))
theorem ir_c {m M' : Mem} (h : IrA (d_a (tC m).2)) (h0 : m 18 1 = 0) (e : aCx 19 M' = aCx 19 m) : IrA (aCx 19 M') := by
  rw [tC_2 h0] at h
  rw [e]; exact h
end RGS
