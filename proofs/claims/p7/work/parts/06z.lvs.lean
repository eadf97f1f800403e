/-! ===== levels of places, steps ===== -/
section LVS
def nx (A : Nat → Nat → Bool) (X : Nat → Bool) (n : Nat) (j : Nat) : Bool := X j || (List.range n).any (fun a => X a && A a j)
def lv (A : Nat → Nat → Bool) (p : Nat) : Nat → Nat → Bool
  | 0, q => q == p
  | d + 1, q => nx A (fun j => lv A p d j) 10 q
theorem nx_t {A : Nat → Nat → Bool} {X : Nat → Bool} {n j : Nat} : nx A X n j = true ↔ X j = true ∨ ∃ a : Nat, a < n ∧ X a = true ∧ A a j = true := by
  unfold nx
  rw [Bool.or_eq_true, List.any_eq_true]
  constructor
  · rintro (h | ⟨a, h1, h2⟩)
    · exact Or.inl h
    · rw [Bool.and_eq_true] at h2; exact Or.inr ⟨a, List.mem_range.mp h1, h2.1, h2.2⟩
  · rintro (h | ⟨a, h1, h2, h3⟩)
    · exact Or.inl h
    · exact Or.inr ⟨a, List.mem_range.mpr h1, by rw [Bool.and_eq_true]; exact ⟨h2, h3⟩⟩
theorem lv_0 {A : Nat → Nat → Bool} {p q : Nat} : lv A p 0 q = true ↔ q = p := by
  show (q == p) = true ↔ _
  exact beq_iff_eq
theorem lv_s {A : Nat → Nat → Bool} {p d q : Nat} : lv A p (d + 1) q = true ↔ lv A p d q = true ∨ ∃ a : Nat, a < 10 ∧ lv A p d a = true ∧ A a q = true := by
  show nx A (fun j => lv A p d j) 10 q = true ↔ _
  exact nx_t
theorem lv_n {A : Nat → Nat → Bool} {p d q : Nat} (h : ¬ lv A p d q = true) : lv A p d q = false := by
  rcases hb : lv A p d q with _ | _
  · rfl
  · exact absurd hb h
theorem lv_mono {A : Nat → Nat → Bool} {p d e q : Nat} (h : d ≤ e) (x : lv A p d q = true) : lv A p e q = true := by
  obtain ⟨k, rfl⟩ := Nat.le.dest h
  induction k with
  | zero => exact x
  | succ k ih => exact lv_s.mpr (Or.inl (ih (Nat.le_add_right d k)))
theorem lv_down {A : Nat → Nat → Bool} {p d e q : Nat} (h : d ≤ e) (x : lv A p e q = false) : lv A p d q = false := lv_n (fun y => by rw [lv_mono h y] at x; exact absurd x (by decide))
theorem lv_stab {A : Nat → Nat → Bool} {p e : Nat} (h : ∀ q, lv A p (e + 1) q = lv A p e q) : ∀ k q, lv A p (e + k) q = lv A p e q := by
  intro k
  induction k with
  | zero => intro q; rfl
  | succ k ih =>
    intro q
    have e1 : (fun j => lv A p (e + k) j) = (fun j => lv A p e j) := funext ih
    rw [← Nat.add_assoc]
    show nx A (fun j => lv A p (e + k) j) 10 q = _
    rw [e1]
    exact h q
theorem lvq_lt {A : Nat → Nat → Bool} {p P : Nat} (hA : ∀ a b, A a b = true → b < P) (hp : p < P) : ∀ d q, lv A p d q = true → q < P := by
  intro d
  induction d with
  | zero => intro q h; rw [lv_0.mp h]; exact hp
  | succ d ih =>
    intro q h
    rcases lv_s.mp h with h | ⟨a, _, _, h⟩
    · exact ih q h
    · exact hA a q h
theorem countP_lt {f g : Nat → Bool} : ∀ l : List Nat, (∀ q ∈ l, f q = true → g q = true) → (∃ q, q ∈ l ∧ g q = true ∧ ¬ f q = true) → l.countP f < l.countP g := by
  intro l
  induction l with
  | nil => intro _ h; obtain ⟨q, hq, _⟩ := h; exact absurd hq List.not_mem_nil
  | cons a l ih =>
    intro h hx
    obtain ⟨q, hq, h1, h2⟩ := hx
    have hm : l.countP f ≤ l.countP g := List.countP_mono_left (fun x hx => h x (List.mem_cons_of_mem _ hx))
    rw [List.countP_cons, List.countP_cons]
    rcases List.mem_cons.mp hq with e | hq
    · rw [← e, if_neg h2, if_pos h1]; omega
    · have h3 := ih (fun x hx => h x (List.mem_cons_of_mem _ hx)) ⟨q, hq, h1, h2⟩
      by_cases hf : f a = true
      · rw [if_pos hf, if_pos (h a List.mem_cons_self hf)]; omega
      · rw [if_neg hf]; split <;> omega
theorem lv_pig {A : Nat → Nat → Bool} {p P : Nat} (hA : ∀ a b, A a b = true → b < P) (hp : p < P) : ∀ d, (∃ e, e < d ∧ ∀ q, lv A p (e + 1) q = lv A p e q) ∨ d + 1 ≤ (List.range P).countP (fun q => lv A p d q) := by
  intro d
  induction d with
  | zero =>
    right
    have h : 0 < (List.range P).countP (fun q => lv A p 0 q) := List.countP_pos_iff.mpr ⟨p, List.mem_range.mpr hp, lv_0.mpr rfl⟩
    omega
  | succ d ih =>
    rcases ih with ⟨e, h1, h2⟩ | h
    · exact Or.inl ⟨e, by omega, h2⟩
    · by_cases hs : ∀ q, lv A p (d + 1) q = lv A p d q
      · exact Or.inl ⟨d, by omega, hs⟩
      · right
        obtain ⟨q, hq⟩ := Classical.not_forall.mp hs
        have h1 : ¬ lv A p d q = true := fun g => hq ((lv_s.mpr (Or.inl g)).trans g.symm)
        have h2 : lv A p (d + 1) q = true := by
          by_cases hb : lv A p (d + 1) q = true
          · exact hb
          · exact absurd ((lv_n hb).trans (lv_n h1).symm) hq
        have h3 := countP_lt (f := fun q => lv A p d q) (g := fun q => lv A p (d + 1) q) (List.range P) (fun x _ hx => lv_s.mpr (Or.inl hx)) ⟨q, List.mem_range.mpr (lvq_lt hA hp _ _ h2), h2, h1⟩
        omega
theorem lv_fin {A : Nat → Nat → Bool} {p P : Nat} (hA : ∀ a b, A a b = true → b < P) (hp : p < P) (hP : P ≤ 10) (q : Nat) : lv A p 9 q = lv A p (P - 1) q := by
  rcases lv_pig hA hp P with ⟨e, h1, h2⟩ | h
  · have a := lv_stab h2 (9 - e) q
    have b := lv_stab h2 (P - 1 - e) q
    rw [show e + (9 - e) = 9 by omega] at a
    rw [show e + (P - 1 - e) = P - 1 by omega] at b
    exact a.trans b.symm
  · exfalso
    have h2 := List.countP_le_length (p := fun q => lv A p P q) (l := List.range P)
    rw [List.length_range] at h2
    omega
/-- how far -/
def Ds (A : Nat → Nat → Bool) (p q : Nat) (z : Int) : Prop := z = -1 ∧ lv A p 9 q = false ∨ 0 ≤ z ∧ z ≤ 9 ∧ lv A p z.toNat q = true ∧ ∀ e : Nat, (e : Int) < z → lv A p e q = false
theorem ds_u {A : Nat → Nat → Bool} {p q : Nat} {z z' : Int} (x : Ds A p q z) (y : Ds A p q z') : z = z' := by
  rcases x with ⟨x1, x2⟩ | ⟨x1, x2, x3, x4⟩
  · rcases y with ⟨y1, _⟩ | ⟨y1, y2, y3, _⟩
    · omega
    · rw [lv_mono (show z'.toNat ≤ 9 by omega) y3] at x2; exact absurd x2 (by decide)
  · rcases y with ⟨y1, y2⟩ | ⟨y1, y2, y3, y4⟩
    · rw [lv_mono (show z.toNat ≤ 9 by omega) x3] at y2; exact absurd y2 (by decide)
    · rcases Int.lt_trichotomy z z' with h | h | h
      · have h9 := y4 z.toNat (by omega); rw [x3] at h9; exact absurd h9 (by decide)
      · exact h
      · have h9 := x4 z'.toNat (by omega); rw [y3] at h9; exact absurd h9 (by decide)
def gC (t : Nat) (M : Mem) : Prop := ∀ p q : Nat, (p : Int) < M t 1 → (q : Int) < M t 1 → Ds (aCx t M) p q (M (t + 3) (10 * p + q))
theorem gc_cp {t t' : Nat} {M M' : Mem} (hP : M t 1 ≤ 10) (c : Cp t t' M M') (h : gC t M) : gC t' M' := by
  intro p q hp hq
  have e1 : M' t' 1 = M t 1 := congrArg (fun X : Sx => X.1) c.1
  have ea : aCx t' M' = aCx t M := congrArg (fun X : Sx => X.2.1) c.1
  rw [e1] at hp hq
  rw [ea, c.2 (10 * p + q) (by omega)]
  exact h p q hp hq
theorem gc_0 {t : Nat} {M : Mem} (h : M t 1 = 0) : gC t M := fun p q hp _ => by rw [h] at hp; exfalso; omega
theorem aC_lt {t : Nat} {M : Mem} (a b : Nat) (h : aCx t M a b = true) : (a : Int) < M t 1 ∧ (b : Int) < M t 1 := (aCx_t.mp h).1
theorem aR_lt {s o : Nat} {M : Mem} (a b : Nat) (h : aRx s o M a b = true) : (a : Int) < M s (o + 1) ∧ (b : Int) < M s (o + 1) := (aRx_t.mp h).1
/-- bits -/
theorem btB_orG {x w z v : Int} (v0 : 0 ≤ v) (v1 : v ≤ 31) (hz : z = (Int32.ofInt x ||| Int32.ofInt w).toInt) : btB z v = (btB x v || btB w v) := by
  rw [btB_lsb v0 v1, btB_lsb v0 v1, btB_lsb v0 v1, hz, Int32.ofInt_toInt, Int32.toBitVec_or, BitVec.getLsbD_or]
theorem btB_andG {x w z v : Int} (v0 : 0 ≤ v) (v1 : v ≤ 31) (hz : z = (Int32.ofInt x &&& Int32.ofInt w).toInt) : btB z v = (btB x v && btB w v) := by
  rw [btB_lsb v0 v1, btB_lsb v0 v1, btB_lsb v0 v1, hz, Int32.ofInt_toInt, Int32.toBitVec_and, BitVec.getLsbD_and]
theorem m1_lsb : ∀ k : Nat, k < 32 → (Int32.ofInt (-1)).toBitVec.getLsbD k = true := by decide +kernel
theorem btB_notG {x z v : Int} (v0 : 0 ≤ v) (v1 : v ≤ 31) (hz : z = (Int32.ofInt x ^^^ Int32.ofInt (-1)).toInt) : btB z v = !btB x v := by
  rw [btB_lsb v0 v1, btB_lsb v0 v1, hz, Int32.ofInt_toInt, Int32.toBitVec_xor, BitVec.getLsbD_xor, m1_lsb v.toNat (by omega), Bool.xor_true]
theorem btB_pow {w p v : Int} (p0 : 0 ≤ p) (p1 : p ≤ 30) (v0 : 0 ≤ v) (v1 : v ≤ 31) (hw : w = 2 ^ p.toNat) : btB w v = (v == p) := by
  rw [btB_lsb v0 v1]
  have h9 := pow_lsb p.toNat (by omega) v.toNat (by omega)
  rw [show ((2 ^ p.toNat : Nat) : Int) = w from by rw [hw]; push_cast; rfl] at h9
  rw [h9, Bool.eq_iff_iff, decide_eq_true_iff, beq_iff_eq]
  omega
/-- the reference's steps -/
def LsI (X : Nat → Bool) (L : Int) : Prop := ∀ j : Nat, j < 10 → btB L (j : Int) = X j
def LsA (A : Nat → Nat → Bool) (X : Nat → Bool) (L a : Int) : Prop := ∀ j : Nat, j < 10 → btB L (j : Int) = nx A X a.toNat j
def LsB (A : Nat → Nat → Bool) (X : Nat → Bool) (L a b : Int) : Prop := ∀ j : Nat, j < 10 → btB L (j : Int) = (nx A X a.toNat j || (decide ((j : Int) < b) && (X a.toNat && A a.toNat j)))
def NoD (A : Nat → Nat → Bool) (p q : Nat) (d : Int) : Prop := ∀ e : Nat, (e : Int) < d → lv A p e q = false
theorem lsi_0 {A : Nat → Nat → Bool} {p w : Int} (p0 : 0 ≤ p) (p1 : p ≤ 9) (hw : w = 2 ^ p.toNat) : LsI (fun j => lv A p.toNat 0 j) w := fun j hj => by
  rw [btB_pow p0 (by omega) (by omega) (by omega) hw, Bool.eq_iff_iff, beq_iff_eq, lv_0]; omega
theorem nx_0 {A : Nat → Nat → Bool} {X : Nat → Bool} {j : Nat} : nx A X 0 j = X j := by
  unfold nx; rw [List.range_zero, List.any_nil, Bool.or_false]
theorem nx_s {A : Nat → Nat → Bool} {X : Nat → Bool} {n j : Nat} : nx A X (n + 1) j = (nx A X n j || (X n && A n j)) := by
  unfold nx; rw [List.range_succ, List.any_append, List.any_cons, List.any_nil, Bool.or_false, Bool.or_assoc]
theorem nx_10 {A : Nat → Nat → Bool} {X : Nat → Bool} {n j : Nat} (hA : ∀ a, A a j = true → a < n) (hn : n ≤ 10) : nx A X n j = nx A X 10 j := by
  rw [Bool.eq_iff_iff, nx_t, nx_t]
  constructor
  · rintro (h | ⟨a, h1, h2, h3⟩)
    · exact Or.inl h
    · exact Or.inr ⟨a, by omega, h2, h3⟩
  · rintro (h | ⟨a, h1, h2, h3⟩)
    · exact Or.inl h
    · exact Or.inr ⟨a, hA a h3, h2, h3⟩
theorem lsa_0 {A : Nat → Nat → Bool} {X : Nat → Bool} {L : Int} (h : LsI X L) : LsA A X L 0 := fun j hj => by rw [h j hj]; exact nx_0.symm
theorem lsb_0 {A : Nat → Nat → Bool} {X : Nat → Bool} {L a : Int} (h : LsA A X L a) : LsB A X L a 0 := fun j hj => by
  rw [h j hj, decide_eq_false (show ¬ (j : Int) < 0 by omega), Bool.false_and, Bool.or_false]
theorem lsb_n {A : Nat → Nat → Bool} {X : Nat → Bool} {L a b : Int} (h : LsB A X L a b) (b0 : 0 ≤ b) (hn : X a.toNat = true → A a.toNat b.toNat = true → False) : LsB A X L a (b + 1) := fun j hj => by
  rw [h j hj]
  by_cases hq : (j : Int) = b
  · have e : (X a.toNat && A a.toNat j) = false := by
      rcases hb : (X a.toNat && A a.toNat j) with _ | _
      · rfl
      · rw [Bool.and_eq_true] at hb; exact (hn hb.1 (by rw [show b.toNat = j by omega]; exact hb.2)).elim
    rw [e, Bool.and_false, Bool.and_false]
  · rw [show decide ((j : Int) < b + 1) = decide ((j : Int) < b) from by rw [Bool.eq_iff_iff, decide_eq_true_iff, decide_eq_true_iff]; omega]
theorem lsb_y {A : Nat → Nat → Bool} {X : Nat → Bool} {L a b w z : Int} (h : LsB A X L a b) (b0 : 0 ≤ b) (b9 : b ≤ 9) (hx : X a.toNat = true) (ha : A a.toNat b.toNat = true) (hw : w = 2 ^ b.toNat) (hz : z = (Int32.ofInt L ||| Int32.ofInt w).toInt) : LsB A X z a (b + 1) := fun j hj => by
  rw [btB_or b0 (by omega) (by omega) (by omega) hw hz, h j hj]
  by_cases hq : (j : Int) = b
  · have e : (X a.toNat && A a.toNat j) = true := by rw [hx, show j = b.toNat by omega, ha]; rfl
    rw [e, decide_eq_true (show (j : Int) < b + 1 by omega), show ((j : Int) == b) = true from beq_iff_eq.mpr hq]
    simp
  · rw [show decide ((j : Int) < b + 1) = decide ((j : Int) < b) from by rw [Bool.eq_iff_iff, decide_eq_true_iff, decide_eq_true_iff]; omega, show ((j : Int) == b) = false from beq_eq_false_iff_ne.mpr hq, Bool.or_false]
theorem lsb_e {A : Nat → Nat → Bool} {X : Nat → Bool} {L a b P : Int} (h : LsB A X L a b) (hb : P ≤ b) (a0 : 0 ≤ a) (hA : ∀ a b : Nat, A a b = true → (a : Int) < P ∧ (b : Int) < P) : LsA A X L (a + 1) := fun j hj => by
  rw [h j hj, show (a + 1).toNat = a.toNat + 1 by omega, nx_s]
  by_cases hq : (j : Int) < b
  · rw [decide_eq_true hq, Bool.true_and]
  · have e : A a.toNat j = false := by
      rcases hc : A a.toNat j with _ | _
      · rfl
      · exact absurd (hA _ _ hc).2 (by omega)
    rw [e, Bool.and_false, Bool.and_false]
theorem lsa_e {A : Nat → Nat → Bool} {p : Nat} {d L a P : Int} (h : LsA A (fun j => lv A p d.toNat j) L a) (ha : P ≤ a) (a1 : a ≤ 10) (d0 : 0 ≤ d) (hA : ∀ a b : Nat, A a b = true → (a : Int) < P ∧ (b : Int) < P) : LsI (fun j => lv A p (d + 1).toNat j) L := fun j hj => by
  rw [h j hj, nx_10 (fun c hc => by have := (hA _ _ hc).1; omega) (by omega), show (d + 1).toNat = d.toNat + 1 by omega]; rfl
theorem nod_0 {A : Nat → Nat → Bool} {p q : Nat} : NoD A p q 0 := fun e h => by exfalso; omega
theorem nod_s {A : Nat → Nat → Bool} {p : Nat} {q d L : Int} (h : NoD A p q.toNat d) (d0 : 0 ≤ d) (hL : LsI (fun j => lv A p d.toNat j) L) (q0 : 0 ≤ q) (q9 : q ≤ 9) (hb : ¬ Bt L q) : NoD A p q.toNat (d + 1) := fun e he => by
  by_cases hq : (e : Int) = d
  · have h9 := hL q.toNat (by omega)
    rw [show ((q.toNat : Nat) : Int) = q by omega, btB_f hb] at h9
    rw [show e = d.toNat by omega]; exact h9.symm
  · exact h e (by omega)
theorem ds_y {A : Nat → Nat → Bool} {p : Nat} {q d L : Int} (h : NoD A p q.toNat d) (d0 : 0 ≤ d) (d9 : d ≤ 9) (hL : LsI (fun j => lv A p d.toNat j) L) (q0 : 0 ≤ q) (q9 : q ≤ 9) (hb : Bt L q) : Ds A p q.toNat d := by
  have h9 := hL q.toNat (by omega)
  rw [show ((q.toNat : Nat) : Int) = q by omega, btB_iff.mpr hb] at h9
  exact Or.inr ⟨d0, d9, h9.symm, h⟩
theorem ds_n {A : Nat → Nat → Bool} {p q : Nat} {d : Int} (h : NoD A p q d) (d9 : 10 ≤ d) : Ds A p q (-1) := Or.inl ⟨rfl, h 9 (by omega)⟩
/-- the class's rows of steps -/
def pv (A : Nat → Nat → Bool) (p : Nat) : Nat → Nat → Bool
  | 0, _ => false
  | d + 1, j => lv A p d j
def ft (A : Nat → Nat → Bool) (p d j : Nat) : Bool := lv A p d j && !pv A p d j
def nf (A : Nat → Nat → Bool) (p d n j : Nat) : Bool := (List.range n).any (fun a => ft A p d a && A a j)
def Bx (P : Int) (X : Nat → Bool) (L : Int) : Prop := ∀ j : Nat, (j : Int) < P → btB L (j : Int) = X j
def SD (A : Nat → Nat → Bool) (p d q : Nat) (z : Int) : Prop := z = -1 ∧ pv A p d q = false ∨ 0 ≤ z ∧ z < (d : Int) ∧ lv A p z.toNat q = true ∧ ∀ e : Nat, (e : Int) < z → lv A p e q = false
def Rw (A : Nat → Nat → Bool) (p P d k : Int) (f : Nat → Int) : Prop := ∀ q : Nat, (q : Int) < P → SD A p.toNat (if (q : Int) < k then d.toNat + 1 else d.toNat) q (f (10 * p.toNat + q))
theorem pv_lv {A : Nat → Nat → Bool} {p d j : Nat} (h : pv A p d j = true) : lv A p d j = true := by
  match d, h with
  | 0, h => exact absurd h (by show ¬ false = true; decide)
  | d + 1, h => exact lv_s.mpr (Or.inl h)
theorem pv_e {A : Nat → Nat → Bool} {p d j e : Nat} (h : pv A p d j = false) (he : e < d) : lv A p e j = false := by
  match d, h with
  | 0, h => omega
  | d + 1, h => exact lv_down (show e ≤ d by omega) h
theorem ft_t {A : Nat → Nat → Bool} {p d j : Nat} : ft A p d j = true ↔ lv A p d j = true ∧ pv A p d j = false := by
  unfold ft; rw [Bool.and_eq_true, Bool.not_eq_true']
theorem nf_s {A : Nat → Nat → Bool} {p d n j : Nat} : nf A p d (n + 1) j = (nf A p d n j || (ft A p d n && A n j)) := by
  unfold nf; rw [List.range_succ, List.any_append, List.any_cons, List.any_nil, Bool.or_false]
theorem nf_t {A : Nat → Nat → Bool} {p d n j : Nat} : nf A p d n j = true ↔ ∃ a : Nat, a < n ∧ ft A p d a = true ∧ A a j = true := by
  unfold nf
  rw [List.any_eq_true]
  constructor
  · rintro ⟨a, h1, h2⟩; rw [Bool.and_eq_true] at h2; exact ⟨a, List.mem_range.mp h1, h2.1, h2.2⟩
  · rintro ⟨a, h1, h2, h3⟩; exact ⟨a, List.mem_range.mpr h1, by rw [Bool.and_eq_true]; exact ⟨h2, h3⟩⟩
theorem rw_0 {A : Nat → Nat → Bool} {p P : Int} {f : Nat → Int} (h : ∀ q : Nat, (q : Int) < P → f (10 * p.toNat + q) = -1) : Rw A p P 0 0 f := fun q hq => by
  rw [if_neg (by omega), h q hq]; exact Or.inl ⟨rfl, rfl⟩
theorem bx_r0 {A : Nat → Nat → Bool} {p : Nat} {P : Int} : Bx P (fun j => pv A p 0 j) 0 := fun j _ => by rw [btB_0]; rfl
theorem bx_f0 {A : Nat → Nat → Bool} {p P w : Int} (hP : P ≤ 10) (p0 : 0 ≤ p) (p1 : p ≤ 9) (hw : w = 2 ^ p.toNat) : Bx P (fun j => ft A p.toNat 0 j) w := fun j hj => by
  rw [btB_pow p0 (by omega) (by omega) (by omega) hw, Bool.eq_iff_iff, beq_iff_eq, ft_t, lv_0]
  exact ⟨fun h => ⟨by omega, rfl⟩, fun h => by have := h.1; omega⟩
theorem bx_n0 {A : Nat → Nat → Bool} {p d : Nat} {P : Int} : Bx P (fun j => nf A p d 0 j) 0 := fun j _ => by rw [btB_0]; rfl
theorem rw_y {A : Nat → Nat → Bool} {p P d q : Int} {f f' : Nat → Int} (h : Rw A p P d q f) (p0 : 0 ≤ p) (q0 : 0 ≤ q) (d0 : 0 ≤ d) (hq : ft A p.toNat d.toNat q.toNat = true) (s : f' (10 * p.toNat + q.toNat) = d) (o : ∀ j : Nat, ¬ j = 10 * p.toNat + q.toNat → f' j = f j) : Rw A p P d (q + 1) f' := fun r hr => by
  by_cases e : r = q.toNat
  · subst e
    rw [if_pos (by omega), s]
    have h9 := ft_t.mp hq
    exact Or.inr ⟨d0, by omega, h9.1, fun e he => pv_e h9.2 (by omega)⟩
  · rw [o _ (by omega)]
    have h9 := h r hr
    by_cases c : (r : Int) < q
    · rw [if_pos (show (r : Int) < q + 1 by omega)]; rw [if_pos c] at h9; exact h9
    · rw [if_neg (show ¬ (r : Int) < q + 1 by omega)]; rw [if_neg c] at h9; exact h9
theorem rw_n {A : Nat → Nat → Bool} {p P d q : Int} {f : Nat → Int} (h : Rw A p P d q f) (q0 : 0 ≤ q) (hq : ¬ ft A p.toNat d.toNat q.toNat = true) : Rw A p P d (q + 1) f := fun r hr => by
  have h9 := h r hr
  by_cases e : r = q.toNat
  · subst e
    rw [if_pos (show ((q.toNat : Nat) : Int) < q + 1 by omega)]
    rw [if_neg (show ¬ ((q.toNat : Nat) : Int) < q by omega)] at h9
    rcases h9 with ⟨z1, z2⟩ | ⟨z1, z2, z3, z4⟩
    · refine Or.inl ⟨z1, ?_⟩
      show lv A p.toNat d.toNat q.toNat = false
      exact lv_n (fun y => hq (ft_t.mpr ⟨y, z2⟩))
    · exact Or.inr ⟨z1, by omega, z3, z4⟩
  · by_cases c : (r : Int) < q
    · rw [if_pos (show (r : Int) < q + 1 by omega)]; rw [if_pos c] at h9; exact h9
    · rw [if_neg (show ¬ (r : Int) < q + 1 by omega)]; rw [if_neg c] at h9; exact h9
theorem rw_e {A : Nat → Nat → Bool} {p P d q : Int} {f : Nat → Int} (h : Rw A p P d q f) (hq : P ≤ q) (d0 : 0 ≤ d) : Rw A p P (d + 1) 0 f := fun r hr => by
  have h9 := h r hr
  rw [if_pos (show (r : Int) < q by omega)] at h9
  rw [if_neg (show ¬ (r : Int) < 0 by omega), show (d + 1).toNat = d.toNat + 1 by omega]; exact h9
theorem bx_t {P L q : Int} {X : Nat → Bool} (h : Bx P X L) (q0 : 0 ≤ q) (q1 : q < P) : Bt L q ↔ X q.toNat = true := by
  have h9 := h q.toNat (by omega)
  rw [show ((q.toNat : Nat) : Int) = q by omega] at h9
  rw [← h9]; exact btB_iff.symm
theorem bx_ny {A : Nat → Nat → Bool} {p d : Nat} {P q L t z : Int} (hP : P ≤ 10) (h : Bx P (fun j => nf A p d q.toNat j) L) (q0 : 0 ≤ q) (hq : ft A p d q.toNat = true) (ht : ∀ j : Nat, (j : Int) < P → btB t (j : Int) = A q.toNat j) (hz : z = (Int32.ofInt L ||| Int32.ofInt t).toInt) : Bx P (fun j => nf A p d (q + 1).toNat j) z := fun j hj => by
  show _ = nf A p d (q + 1).toNat j
  rw [btB_orG (by omega) (by omega) hz, h j hj, ht j hj, show (q + 1).toNat = q.toNat + 1 by omega, nf_s, hq, Bool.true_and]
theorem bx_nn {A : Nat → Nat → Bool} {p d : Nat} {P q L : Int} (h : Bx P (fun j => nf A p d q.toNat j) L) (q0 : 0 ≤ q) (hq : ¬ ft A p d q.toNat = true) : Bx P (fun j => nf A p d (q + 1).toNat j) L := fun j hj => by
  show _ = nf A p d (q + 1).toNat j
  rw [h j hj, show (q + 1).toNat = q.toNat + 1 by omega, nf_s, Bool.eq_false_iff.mpr hq, Bool.false_and, Bool.or_false]
theorem bx_r {A : Nat → Nat → Bool} {p : Nat} {P d L F z : Int} (hP : P ≤ 10) (d0 : 0 ≤ d) (h : Bx P (fun j => pv A p d.toNat j) L) (g : Bx P (fun j => ft A p d.toNat j) F) (hz : z = (Int32.ofInt L ||| Int32.ofInt F).toInt) : Bx P (fun j => pv A p (d + 1).toNat j) z := fun j hj => by
  rw [btB_orG (by omega) (by omega) hz, h j hj, g j hj, show (d + 1).toNat = d.toNat + 1 by omega]
  show (pv A p d.toNat j || ft A p d.toNat j) = lv A p d.toNat j
  rw [Bool.eq_iff_iff, Bool.or_eq_true, ft_t]
  constructor
  · rintro (h | h)
    · exact pv_lv h
    · exact h.1
  · intro h
    by_cases q : pv A p d.toNat j = true
    · exact Or.inl q
    · exact Or.inr ⟨h, Bool.eq_false_iff.mpr q⟩
theorem bx_f {A : Nat → Nat → Bool} {p : Nat} {P d q N R n z : Int} (hP : P ≤ 10) (d0 : 0 ≤ d) (hq : P ≤ q) (q1 : q ≤ 10) (hA : ∀ a b : Nat, A a b = true → (a : Int) < P ∧ (b : Int) < P) (h : Bx P (fun j => nf A p d.toNat q.toNat j) N) (g : Bx P (fun j => pv A p (d + 1).toNat j) R) (hn : n = (Int32.ofInt R ^^^ Int32.ofInt (-1)).toInt) (hz : z = (Int32.ofInt N &&& Int32.ofInt n).toInt) : Bx P (fun j => ft A p (d + 1).toNat j) z := fun j hj => by
  rw [btB_andG (by omega) (by omega) hz, btB_notG (by omega) (by omega) hn, h j hj, g j hj]
  show (nf A p d.toNat q.toNat j && !pv A p (d + 1).toNat j) = (lv A p (d + 1).toNat j && !pv A p (d + 1).toNat j)
  rw [show (d + 1).toNat = d.toNat + 1 by omega]
  show (nf A p d.toNat q.toNat j && !lv A p d.toNat j) = (lv A p (d.toNat + 1) j && !lv A p d.toNat j)
  rw [Bool.eq_iff_iff, Bool.and_eq_true, Bool.and_eq_true, Bool.not_eq_true', nf_t, lv_s]
  constructor
  · rintro ⟨⟨a, h1, h2, h3⟩, h4⟩
    exact ⟨Or.inr ⟨a, by have := (hA _ _ h3).1; omega, (ft_t.mp h2).1, h3⟩, h4⟩
  · rintro ⟨h1 | ⟨a, h1, h2, h3⟩, h4⟩
    · rw [h1] at h4; exact absurd h4 (by decide)
    · refine ⟨⟨a, by have := (hA _ _ h3).1; omega, ft_t.mpr ⟨h2, ?_⟩, h3⟩, h4⟩
      rcases hb : pv A p d.toNat a with _ | _
      · rfl
      · exfalso
        have h9 : lv A p d.toNat j = true := by
          rcases hd : d.toNat with _ | k
          · rw [hd] at hb; exact absurd hb (by show ¬ false = true; decide)
          · rw [hd] at hb; exact lv_s.mpr (Or.inr ⟨a, h1, hb, h3⟩)
        rw [h9] at h4; exact absurd h4 (by decide)
theorem rw_end {A : Nat → Nat → Bool} {p P d F : Int} {f : Nat → Int} (h : Rw A p P d 0 f) (hP : P ≤ 10) (p0 : 0 ≤ p) (p1 : p < P) (d0 : 0 ≤ d) (d1 : d ≤ P) (hA : ∀ a b : Nat, A a b = true → (a : Int) < P ∧ (b : Int) < P) (g : Bx P (fun j => ft A p.toNat d.toNat j) F) (e : P ≤ d ∨ F = 0) : ∀ q : Nat, (q : Int) < P → Ds A p.toNat q (f (10 * p.toNat + q)) := fun q hq => by
  have hA2 : ∀ a b, A a b = true → b < P.toNat := fun a b hab => by have := (hA a b hab).2; omega
  have hl : pv A p.toNat d.toNat q = false → lv A p.toNat 9 q = false := by
    intro h1
    rcases e with e | e
    · rw [lv_fin hA2 (show p.toNat < P.toNat by omega) (by omega) q]
      exact pv_e h1 (by omega)
    · have hs : ∀ j : Nat, (j : Int) < P → ¬ ft A p.toNat d.toNat j = true := fun j hj y => by
        have h9 : btB F (j : Int) = ft A p.toNat d.toNat j := g j hj
        rw [e, btB_0] at h9
        rw [← h9] at y
        exact absurd y (by show ¬ false = true; decide)
      rcases hd : d.toNat with _ | k
      · rw [hd] at hs
        exact absurd (ft_t.mpr ⟨lv_0.mpr rfl, rfl⟩) (hs p.toNat (by omega))
      · rw [hd] at hs h1
        have st : ∀ j, lv A p.toNat (k + 1) j = lv A p.toNat k j := by
          intro j
          rw [Bool.eq_iff_iff]
          constructor
          · intro y
            by_cases hj : (j : Int) < P
            · by_cases c : lv A p.toNat k j = true
              · exact c
              · exact absurd (ft_t.mpr ⟨y, lv_n c⟩) (hs j hj)
            · have := lvq_lt hA2 (show p.toNat < P.toNat by omega) _ _ y; exfalso; omega
          · intro y; exact lv_s.mpr (Or.inl y)
        have h9 := lv_stab st (9 - k) q
        rw [show k + (9 - k) = 9 by omega] at h9
        rw [h9]; exact h1
  have h9 := h q hq
  rw [if_neg (show ¬ (q : Int) < 0 by omega)] at h9
  rcases h9 with ⟨z1, z2⟩ | ⟨z1, z2, z3, z4⟩
  · exact Or.inl ⟨z1, hl z2⟩
  · exact Or.inr ⟨z1, by omega, z3, z4⟩
def Gp (t : Nat) (M M' : Mem) (k : Int) : Prop := ∀ p q : Nat, (p : Int) < k → (q : Int) < M t 1 → Ds (aCx t M) p q (M' (t + 3) (10 * p + q))
def Ou (p : Int) (M M' : Mem) : Prop := ∀ j : Nat, (j < 10 * p.toNat ∨ 10 * p.toNat + 10 ≤ j) → M' 22 j = M 22 j
theorem gp_s {M M1 M2 : Mem} {p : Int} (hP : M 19 1 ≤ 10) (h : Gp 19 M M1 p) (p0 : 0 ≤ p) (ea : aCx 19 M1 = aCx 19 M) (e1 : M1 19 1 = M 19 1) (g : ∀ q : Nat, (q : Int) < M1 19 1 → Ds (aCx 19 M1) p.toNat q (M2 22 (10 * p.toNat + q))) (o : Ou p M1 M2) : Gp 19 M M2 (p + 1) := fun a q ha hq => by
  by_cases c : (a : Int) = p
  · have h9 := g q (by omega)
    rw [ea] at h9
    rw [show a = p.toNat by omega]; exact h9
  · have h9 := h a q (by omega) hq
    rw [show M2 (19 + 3) (10 * a + q) = M1 (19 + 3) (10 * a + q) from o _ (by omega)]; exact h9
theorem ls_bt {X : Nat → Bool} {L q : Int} (h : LsI X L) (q0 : 0 ≤ q) (q9 : q ≤ 9) : Bt L q ↔ X q.toNat = true := by
  have h9 := h q.toNat (by omega)
  rw [show ((q.toNat : Nat) : Int) = q by omega] at h9
  rw [← h9]; exact btB_iff.symm
theorem ar_n {M : Mem} {a b v : Int} (a0 : 0 ≤ a) (b0 : 0 ≤ b) (e : v = M 132 (50 + 10 * a + b).toNat) (hv : v = 0) (h : aRx 132 0 M a.toNat b.toNat = true) : False := by
  have h2 := (aRx_t.mp h).2
  rw [Nat.zero_add, show 50 + 10 * a.toNat + b.toNat = (50 + 10 * a + b).toNat by omega, ← e] at h2
  exact h2 hv
theorem ar_y {M : Mem} {a b v : Int} (a0 : 0 ≤ a) (b0 : 0 ≤ b) (a1 : a < M 132 1) (b1 : b < M 132 1) (e : v = M 132 (50 + 10 * a + b).toNat) (hv : ¬ v = 0) : aRx 132 0 M a.toNat b.toNat = true := by
  refine aRx_t.mpr ⟨⟨?_, ?_⟩, ?_⟩
  · show ((a.toNat : Nat) : Int) < M 132 1; omega
  · show ((b.toNat : Nat) : Int) < M 132 1; omega
  · rw [Nat.zero_add, show 50 + 10 * a.toNat + b.toNat = (50 + 10 * a + b).toNat by omega, ← e]; exact hv
theorem aRx_f {s o : Nat} {M M' : Mem} (h : ∀ b : Nat, M' s b = M s b) : aRx s o M' = aRx s o M := by
  funext p q; unfold aRx; rw [h, h]
theorem aCx_fr {t : Nat} {ms : List Nat} {M M' : Mem} (f : Fr ms M M') (h : t ∉ ms) (h1 : t + 1 ∉ ms) : aCx t M' = aCx t M := by
  funext p q; unfold aCx; rw [f.at h, f.at h1]
theorem ct_b {M : Mem} {q v : Int} (q0 : 0 ≤ q) (q1 : q < M 19 1) (e : v = M 20 q.toNat) : ∀ j : Nat, (j : Int) < M 19 1 → btB v (j : Int) = aCx 19 M q.toNat j := fun j hj => by
  unfold aCx
  rw [decide_eq_true (show ((q.toNat : Nat) : Int) < M 19 1 ∧ (j : Int) < M 19 1 by omega), Bool.true_and, e] <;> rfl
theorem gp_le {t : Nat} {M M' : Mem} {k k' : Int} (h : Gp t M M' k) (hk : k' ≤ k) : Gp t M M' k' := fun p q hp hq => h p q (by omega) hq
theorem gp_f {t : Nat} {M M1 M2 : Mem} {k : Int} (h : Gp t M M1 k) (e : ∀ b : Nat, M2 (t + 3) b = M1 (t + 3) b) : Gp t M M2 k := fun p q hp hq => by rw [e]; exact h p q hp hq
theorem gp_gc {t : Nat} {M M' : Mem} (h : Gp t M M' (M t 1)) (e1 : M' t 1 = M t 1) (ea : aCx t M' = aCx t M) : gC t M' := fun p q hp hq => by
  rw [e1] at hp hq
  rw [ea]; exact h p q hp hq
/-- what the law keeps beside: the rows of steps are right, in the town and in the images -/
def RlG (M : Mem) : Prop := gC 2 M ∧ gC 64 M ∧ gC 84 M ∧ gC 104 M
def TwG (T : Tn) (M M' : Mem) : Prop := TwC T M M' ∧ Im (s_fl T.1 = 0) (gC 2 M')
theorem tg_w {T : Tn} {M M1 M2 : Mem} (hP : M1 2 1 ≤ 10) (h : TwG T M M1) (c : Cp 2 2 M1 M2) : TwG T M M2 := ⟨tw_w h.1 c, fun q => gc_cp hP c (h.2 q)⟩
theorem p10 {M : Mem} (hI : Inv M) : M 2 1 ≤ 10 ∧ M 64 1 ≤ 10 ∧ M 84 1 ≤ 10 ∧ M 104 1 ≤ 10 := ⟨(hI.at (show Bd 2 1 = (0, 10) from rfl)).2, (hI.at (show Bd 64 1 = (0, 10) from rfl)).2, (hI.at (show Bd 84 1 = (0, 10) from rfl)).2, (hI.at (show Bd 104 1 = (0, 10) from rfl)).2⟩
def NoG (ms : List Nat) : Prop := 5 ∉ ms ∧ 67 ∉ ms ∧ 87 ∉ ms ∧ 107 ∉ ms
theorem rg_c {M M' : Mem} (hI : Inv M) (h : RlG M) (c0 : Cp 2 2 M M') (c1 : Cp 64 64 M M') (c2 : Cp 84 84 M M') (c3 : Cp 104 104 M M') : RlG M' := ⟨gc_cp (p10 hI).1 c0 h.1, gc_cp (p10 hI).2.1 c1 h.2.1, gc_cp (p10 hI).2.2.1 c2 h.2.2.1, gc_cp (p10 hI).2.2.2 c3 h.2.2.2⟩
theorem rg_fr {ms : List Nat} {M M' : Mem} (hI : Inv M) (f : Fr ms M M') (m2 : No5 2 ms) (mi : NoI ms) (mg : NoG ms) (h : RlG M) : RlG M' := rg_c hI h (cp_fr f m2 mg.1) (cp_fr f mi.1 mg.2.1) (cp_fr f mi.2.1 mg.2.2.1) (cp_fr f mi.2.2.1 mg.2.2.2)
theorem rg_im {ms : List Nat} {M M' : Mem} {x : Int} (hI : Inv M) (f : Fr ms M M') (m2 : No5 2 ms) (m5 : 5 ∉ ms) (c : ImC x M M' ∨ (x < 0 ∨ 2 < x) ∧ M' = M) (h : RlG M) : RlG M' := by
  have h2 := (p10 hI).1
  rcases c with (⟨_, ⟨c0, c1, c2⟩, _⟩ | ⟨_, ⟨c0, c1, c2⟩, _⟩ | ⟨_, ⟨c0, c1, c2⟩, _⟩) | ⟨_, e⟩
  · exact ⟨gc_cp h2 (cp_fr f m2 m5) h.1, gc_cp h2 c0 h.1, gc_cp (p10 hI).2.2.1 c1 h.2.2.1, gc_cp (p10 hI).2.2.2 c2 h.2.2.2⟩
  · exact ⟨gc_cp h2 (cp_fr f m2 m5) h.1, gc_cp (p10 hI).2.1 c0 h.2.1, gc_cp h2 c1 h.1, gc_cp (p10 hI).2.2.2 c2 h.2.2.2⟩
  · exact ⟨gc_cp h2 (cp_fr f m2 m5) h.1, gc_cp (p10 hI).2.1 c0 h.2.1, gc_cp (p10 hI).2.2.1 c1 h.2.2.1, gc_cp h2 c2 h.1⟩
  · rw [e]; exact h
theorem rg_re {ms : List Nat} {M M' : Mem} {x : Int} {Pq : Prop} (hI : Inv M) (f : Fr ms M M') (mi : NoI ms) (mg : 67 ∉ ms ∧ 87 ∉ ms ∧ 107 ∉ ms) (c : ReC x M M' ∨ Pq ∧ M' = M) (h : RlG M) : RlG M' := by
  have k1 := gc_cp (p10 hI).2.1 (cp_fr f mi.1 mg.1) h.2.1
  have k2 := gc_cp (p10 hI).2.2.1 (cp_fr f mi.2.1 mg.2.1) h.2.2.1
  have k3 := gc_cp (p10 hI).2.2.2 (cp_fr f mi.2.2.1 mg.2.2) h.2.2.2
  rcases c with (⟨_, _, c⟩ | ⟨_, _, c⟩ | ⟨_, _, c⟩) | ⟨_, e⟩
  · exact ⟨gc_cp (p10 hI).2.1 c h.2.1, k1, k2, k3⟩
  · exact ⟨gc_cp (p10 hI).2.2.1 c h.2.2.1, k1, k2, k3⟩
  · exact ⟨gc_cp (p10 hI).2.2.2 c h.2.2.2, k1, k2, k3⟩
  · rw [e]; exact h
theorem rg_tw {ms : List Nat} {M M' : Mem} {T : Tn} (hI : Inv M) (f : Fr ms M M') (mi : NoI ms) (mg : 67 ∉ ms ∧ 87 ∉ ms ∧ 107 ∉ ms) (c : TwG T M M' ∨ M' = M) (h : RlG M) : RlG M' := by
  have k1 := gc_cp (p10 hI).2.1 (cp_fr f mi.1 mg.1) h.2.1
  have k2 := gc_cp (p10 hI).2.2.1 (cp_fr f mi.2.1 mg.2.1) h.2.2.1
  have k3 := gc_cp (p10 hI).2.2.2 (cp_fr f mi.2.2.1 mg.2.2) h.2.2.2
  rcases c with c | e
  · by_cases hq : s_fl T.1 = 0
    · exact ⟨c.2 hq, k1, k2, k3⟩
    · exact ⟨gc_cp (p10 hI).1 (c.1.2 hq) h.1, k1, k2, k3⟩
  · rw [e]; exact h
theorem rg_0 {M : Mem} (h2 : M 2 1 = 0) (h64 : M 64 1 = 0) (h84 : M 84 1 = 0) (h104 : M 104 1 = 0) : RlG M := ⟨gc_0 h2, gc_0 h64, gc_0 h84, gc_0 h104⟩
theorem rs_p {M : Mem} (h : RlS M) : M 2 1 = M 132 1 ∧ aCx 2 M = aRx 132 0 M := by
  have h1 := h.1
  exact ⟨congrArg (fun X : Sx => X.1) h1, congrArg (fun X : Sx => X.2.1) h1⟩
theorem st_same {M M1 : Mem} {a b v : Int} (hS : RlS M) (hG : gC 2 M) (a0 : 0 ≤ a) (a1 : a < M 2 1) (b0 : 0 ≤ b) (b1 : b < M 2 1) (f : ∀ c : Nat, M1 132 c = M 132 c) (d : Ds (aRx 132 0 M1) a.toNat b.toNat v) : v = M 5 (a * 10 + b).toNat := by
  have h9 := hG a.toNat b.toNat (by omega) (by omega)
  rw [(rs_p hS).2, ← aRx_f (o := 0) f, show 10 * a.toNat + b.toNat = (a * 10 + b).toNat by omega] at h9
  exact ds_u d h9
end LVS
