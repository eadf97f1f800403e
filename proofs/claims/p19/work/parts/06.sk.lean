/-! ===== the abstract machine: memory as a function of (site, place), ints as Int ===== -/
section SK
abbrev Mem : Type := Nat → Nat → Int
abbrev Desc : Type := (Nat × List (Option Nat)) ⊕ (Nat × Nat × Bool) ⊕ (Nat × List Nat)
abbrev ii (x : Int) : Value := .int (Int32.ofInt x)
abbrev ll (x : Int) : Value := .long (Int64.ofInt x)
abbrev In32 (x : Int) : Prop := -2147483648 ≤ x ∧ x ≤ 2147483647
abbrev In64 (x : Int) : Prop := -9223372036854775808 ≤ x ∧ x ≤ 9223372036854775807
def fV (ad : Nat → Nat) (f : Nat → Int) (j : Nat) : Option Nat → Value
  | none => ii (f j)
  | some r => .ref (ad r)
def fL (ad : Nat → Nat) (f : Nat → Int) : Nat → List (Option Nat) → List Value
  | _, [] => []
  | j, k :: ks => fV ad f j k :: fL ad f (j + 1) ks
def cE (ad : Nat → Nat) (cy : Nat → ClassId) (f : Nat → Int) : Desc → va_E
  | .inl (ci, fk) => .inr (ci, fL ad f 0 fk)
  | .inr (.inl (t, n, false)) => .inl (cy t, n, .inl (fun i => Int32.ofInt (f i)))
  | .inr (.inl (t, n, true)) => .inl (cy t, n, .inr (.inl (fun i => Int64.ofInt (f i))))
  | .inr (.inr (t, rs)) => .inl (cy t, rs.length, .inr (.inr (.inr (.inr (fun i => (rs[i]?).map ad)))))
def wldA (ad : Nat → Nat) (cy : Nat → ClassId) (M : Mem) : Nat → List Desc → va_W
  | _, [] => []
  | k, d :: ds => (ad k, cE ad cy (M k) d) :: wldA ad cy M (k + 1) ds
def wld (ad : Nat → Nat) (cy : Nat → ClassId) (M : Mem) : va_W := wldA ad cy M 0 Gs
def up2 (M : Mem) (k j : Nat) (v : Int) : Mem := fun a => if a = k then (fun b => if b = j then v else M a b) else M a
def upR (M : Mem) (k : Nat) (f : Nat → Int) : Mem := fun a => if a = k then f else M a
theorem up2_same {M : Mem} {k j : Nat} {v : Int} : up2 M k j v k j = v := by unfold up2; simp
theorem up2_other {M : Mem} {k j : Nat} {v : Int} {a b : Nat} (h : ¬ (a = k ∧ b = j)) : up2 M k j v a b = M a b := by
  unfold up2
  by_cases h1 : a = k
  · subst h1
    by_cases h2 : b = j
    · exact absurd ⟨rfl, h2⟩ h
    · simp [h2]
  · simp [h1]
theorem up2_row {M : Mem} {k j : Nat} {v : Int} : up2 M k j v k = fun b => if b = j then v else M k b := by unfold up2; simp
theorem up2_row' {M : Mem} {k j : Nat} {v : Int} {a : Nat} (h : a ≠ k) : up2 M k j v a = M a := by unfold up2; simp [h]
theorem wldA_get {ad : Nat → Nat} {cy : Nat → ClassId} {M : Mem} : ∀ (ds : List Desc) (k0 k : Nat) (d : Desc), ds[k]? = some d → (wldA ad cy M k0 ds)[k]? = some (ad (k0 + k), cE ad cy (M (k0 + k)) d)
  | [], _, _, _, h => by cases h
  | x :: ds, k0, 0, d, h => by
    cases h
    rfl
  | x :: ds, k0, k + 1, d, h => by
    have h1 := wldA_get (ad := ad) (cy := cy) (M := M) ds (k0 + 1) k d h
    rw [show k0 + 1 + k = k0 + (k + 1) by omega] at h1
    exact h1
theorem wld_get {ad : Nat → Nat} {cy : Nat → ClassId} {M : Mem} {k : Nat} {d : Desc} (h : Gs[k]? = some d) : (wld ad cy M)[k]? = some (ad k, cE ad cy (M k) d) := by
  have := wldA_get (ad := ad) (cy := cy) (M := M) Gs 0 k d h
  rwa [Nat.zero_add] at this
theorem wldA_set {ad : Nat → Nat} {cy : Nat → ClassId} {M : Mem} {f : Nat → Int} : ∀ (ds : List Desc) (k0 k : Nat) (d : Desc), ds[k]? = some d → (wldA ad cy M k0 ds).set k (ad (k0 + k), cE ad cy f d) = wldA ad cy (upR M (k0 + k) f) k0 ds
  | [], _, _, _, h => by cases h
  | x :: ds, k0, 0, d, h => by
    cases h
    have hr : ∀ (es : List Desc) (k1 : Nat), k0 < k1 → wldA ad cy M k1 es = wldA ad cy (upR M (k0 + 0) f) k1 es := by
      intro es
      induction es with
      | nil => intro k1 _; rfl
      | cons e es ih => intro k1 hk; show _ :: _ = _ :: _; rw [ih (k1 + 1) (by omega)]; unfold upR; rw [if_neg (by omega)]
    show _ :: _ = _ :: _
    rw [hr ds (k0 + 1) (by omega)]
    congr 2
    unfold upR
    rw [Nat.add_zero, if_pos rfl]
  | x :: ds, k0, k + 1, d, h => by
    have h1 := wldA_set (ad := ad) (cy := cy) (M := M) (f := f) ds (k0 + 1) k d h
    rw [show k0 + 1 + k = k0 + (k + 1) by omega] at h1
    show _ :: (wldA ad cy M (k0 + 1) ds).set k _ = _ :: _
    rw [h1]
    congr 2
    unfold upR
    rw [if_neg (by omega)]
theorem wld_set {ad : Nat → Nat} {cy : Nat → ClassId} {M : Mem} {f : Nat → Int} {k : Nat} {d : Desc} (h : Gs[k]? = some d) : (wld ad cy M).set k (ad k, cE ad cy f d) = wld ad cy (upR M k f) := by
  have := wldA_set (ad := ad) (cy := cy) (M := M) (f := f) Gs 0 k d h
  rwa [Nat.zero_add] at this
theorem upR_up2 {M : Mem} {k j : Nat} {v : Int} : upR M k (fun b => if b = j then v else M k b) = up2 M k j v := by
  funext a; unfold upR up2
  by_cases h : a = k
  · subst h; simp
  · simp [h]
theorem fL_len {ad : Nat → Nat} {f : Nat → Int} : ∀ (fk : List (Option Nat)) (j : Nat), (fL ad f j fk).length = fk.length
  | [], _ => rfl
  | k :: ks, j => by show (_ :: _).length = _; rw [List.length_cons, List.length_cons, fL_len ks (j + 1)]
theorem fL_get {ad : Nat → Nat} {f : Nat → Int} : ∀ (fk : List (Option Nat)) (j0 j : Nat) (x : Option Nat), fk[j]? = some x → (fL ad f j0 fk)[j]? = some (fV ad f (j0 + j) x)
  | [], _, _, _, h => by cases h
  | y :: ks, j0, 0, x, h => by cases h; rfl
  | y :: ks, j0, j + 1, x, h => by
    have h1 := fL_get (ad := ad) (f := f) ks (j0 + 1) j x h
    rw [show j0 + 1 + j = j0 + (j + 1) by omega] at h1
    exact h1
theorem fL_set {ad : Nat → Nat} {f : Nat → Int} {v : Int} : ∀ (fk : List (Option Nat)) (j0 j : Nat), fk[j]? = some none → (fL ad f j0 fk).set j (ii v) = fL ad (fun b => if b = j0 + j then v else f b) j0 fk
  | [], _, _, h => by cases h
  | y :: ks, j0, 0, h => by
    cases h
    have hr : ∀ (es : List (Option Nat)) (j1 : Nat), j0 < j1 → fL ad f j1 es = fL ad (fun b => if b = j0 + 0 then v else f b) j1 es := by
      intro es
      induction es with
      | nil => intro j1 _; rfl
      | cons e es ih => intro j1 hj; show _ :: _ = _ :: _; rw [ih (j1 + 1) (by omega)]; cases e with
        | none => simp only [fV]; rw [if_neg (by omega)]
        | some r => rfl
    show _ :: _ = _ :: _
    rw [hr ks (j0 + 1) (by omega)]
    simp only [fV]
    rw [Nat.add_zero, if_pos rfl]
  | y :: ks, j0, j + 1, h => by
    have h1 := fL_set (ad := ad) (f := f) (v := v) ks (j0 + 1) j h
    rw [show j0 + 1 + j = j0 + (j + 1) by omega] at h1
    show _ :: (fL ad f (j0 + 1) ks).set j _ = _ :: _
    rw [h1]
    cases y with
    | none => simp only [fV]; rw [if_neg (by omega)]
    | some r => rfl
/-- what every int of the memory keeps to -/
def Inv (M : Mem) : Prop := ∀ k j, (Bd k j).1 ≤ M k j ∧ M k j ≤ (Bd k j).2
theorem Inv.at {M : Mem} (h : Inv M) {k j : Nat} {lo hi : Int} (hb : Bd k j = (lo, hi)) : lo ≤ M k j ∧ M k j ≤ hi := by have := h k j; rwa [hb] at this
theorem Inv.up {M : Mem} (h : Inv M) {k j : Nat} {lo hi v : Int} (hb : Bd k j = (lo, hi)) (h1 : lo ≤ v) (h2 : v ≤ hi) : Inv (up2 M k j v) := by
  intro a b
  by_cases q : a = k ∧ b = j
  · rw [q.1, q.2, up2_same, hb]; exact ⟨h1, h2⟩
  · rw [up2_other q]; exact h a b
/-- what a step of the law's code does to the height of its stack -/
def dl (t : Int) : Int := if 100 ≤ t then 1 else if t = 18 then 0 else -1
def Hs (f : Nat → Int) : Nat → Int
  | 0 => 0
  | k + 1 => Hs f k + dl (f (384 + k))
/-- a told town: its law's code runs within 64 places; things need places -/
def Kn (f : Nat → Int) : Prop := (∀ k : Nat, 1 ≤ k → (k : Int) ≤ f 6 → 1 ≤ Hs f k ∧ Hs f k ≤ 64) ∧ (0 < f 2 → 1 ≤ f 1)
def WFk (M : Mem) : Prop := Kn (M 132) ∧ Kn (fun j => M 134 j) ∧ Kn (fun j => M 134 (1300 + j)) ∧ Kn (fun j => M 134 (2600 + j))
def Iw (M : Mem) : Prop := Inv M ∧ WFk M
theorem Hs_congr {f g : Nat → Int} : ∀ n : Nat, (∀ k, k < n → f (384 + k) = g (384 + k)) → Hs f n = Hs g n
  | 0, _ => rfl
  | n + 1, h => by
    show Hs f n + dl (f (384 + n)) = Hs g n + dl (g (384 + n))
    rw [Hs_congr n (fun k hk => h k (by omega)), h n (by omega)]
theorem Kn.congr {f g : Nat → Int} (h : Kn f) (h1 : f 1 = g 1) (h2 : f 2 = g 2) (h6 : f 6 = g 6) (hs : ∀ k, f (384 + k) = g (384 + k)) : Kn g := by
  refine ⟨fun k a b => ?_, fun a => ?_⟩
  · rw [← Hs_congr (f := f) k (fun j _ => hs j)]; exact h.1 k a (by rw [h6]; exact b)
  · rw [← h1]; exact h.2 (by rw [h2]; exact a)
/-- places of 'known' that only a town, or an image, changes -/
def stat (b : Nat) : Prop := b < 7 ∨ (26 ≤ b ∧ b < 168) ∨ 384 ≤ b
/-- what is the same behind as ahead: all sites but these; 232: the still part of 132 is changed, too -/
def Fr (ms : List Nat) (M M' : Mem) : Prop := ∀ a b, (a ∉ ms ∨ (a = 132 ∧ 232 ∉ ms ∧ (stat b)) ∨ (a = 131 ∧ 231 ∉ ms ∧ (b = 6)) ∨ (a = 0 ∧ 200 ∉ ms ∧ (b = 1)) ∨ (a = 133 ∧ 233 ∉ ms ∧ (b < 384 ∧ ¬ b = 6)) ∨ (a = 131 ∧ 234 ∉ ms ∧ (b = 14 ∨ b = 15))) → M' a b = M a b
theorem Fr.rf {ms : List Nat} {M : Mem} : Fr ms M M := fun _ _ _ => rfl
theorem Fr.wr {ms : List Nat} {M0 M M' : Mem} {k j : Nat} (h : Fr ms M0 M) (f : ∀ a b, ¬ (a = k ∧ b = j) → M' a b = M a b) (hk : k ∈ ms) (hn : k ≠ 132 ∧ k ≠ 131 ∧ k ≠ 0 ∧ k ≠ 133) : Fr ms M0 M' := fun a b q => by
  have hne : ¬ (a = k ∧ b = j) := by
    intro e
    rcases q with q | q | q | q | q | q
    · exact q (e.1 ▸ hk)
    · exact hn.1 (e.1.symm.trans q.1)
    · exact hn.2.1 (e.1.symm.trans q.1)
    · exact hn.2.2.1 (e.1.symm.trans q.1)
    · exact hn.2.2.2 (e.1.symm.trans q.1)
    · exact hn.2.1 (e.1.symm.trans q.1)
  rw [f a b hne, h a b q]
theorem Fr.wrk {ms : List Nat} {M0 M M' : Mem} {j : Nat} (h : Fr ms M0 M) (f : ∀ a b, ¬ (a = 132 ∧ b = j) → M' a b = M a b) (hk : 132 ∈ ms) (hn : ¬ (j < 7 ∨ (26 ≤ j ∧ j < 168) ∨ 384 ≤ j)) : Fr ms M0 M' := fun a b q => by
  have hne : ¬ (a = 132 ∧ b = j) := by
    intro e
    rcases q with q | q | q | q | q | q
    · exact q (e.1 ▸ hk)
    · exact hn (e.2 ▸ q.2.2)
    · have h9 := e.1.symm.trans q.1; omega
    · have h9 := e.1.symm.trans q.1; omega
    · have h9 := e.1.symm.trans q.1; omega
    · have h9 := e.1.symm.trans q.1; omega
  rw [f a b hne, h a b q]
theorem Fr.wrs {ms : List Nat} {M0 M M' : Mem} {j : Nat} (h : Fr ms M0 M) (f : ∀ a b, ¬ (a = 132 ∧ b = j) → M' a b = M a b) (hk : 132 ∈ ms) (hn : 232 ∈ ms) : Fr ms M0 M' := fun a b q => by
  have hne : ¬ (a = 132 ∧ b = j) := by
    intro e
    rcases q with q | q | q | q | q | q
    · exact q (e.1 ▸ hk)
    · exact q.2.1 hn
    · have h9 := e.1.symm.trans q.1; omega
    · have h9 := e.1.symm.trans q.1; omega
    · have h9 := e.1.symm.trans q.1; omega
    · have h9 := e.1.symm.trans q.1; omega
  rw [f a b hne, h a b q]
theorem Fr.wrf {ms : List Nat} {M0 M M' : Mem} {j : Nat} (h : Fr ms M0 M) (f : ∀ a b, ¬ (a = 131 ∧ b = j) → M' a b = M a b) (hk : 131 ∈ ms) (hn : (¬ j = 6 ∨ 231 ∈ ms) ∧ (¬ (j = 14 ∨ j = 15) ∨ 234 ∈ ms)) : Fr ms M0 M' := fun a b q => by
  have hne : ¬ (a = 131 ∧ b = j) := by
    intro e
    rcases q with q | q | q | q | q | q
    · exact q (e.1 ▸ hk)
    · have h9 := e.1.symm.trans q.1; omega
    · exact hn.1.elim (fun r => r (e.2.symm.trans q.2.2)) q.2.1
    · have h9 := e.1.symm.trans q.1; omega
    · have h9 := e.1.symm.trans q.1; omega
    · exact hn.2.elim (fun r => r (e.2 ▸ q.2.2)) q.2.1
  rw [f a b hne, h a b q]
theorem Fr.wrz {ms : List Nat} {M0 M M' : Mem} {j : Nat} (h : Fr ms M0 M) (f : ∀ a b, ¬ (a = 0 ∧ b = j) → M' a b = M a b) (hk : 0 ∈ ms) (hn : ¬ j = 1 ∨ 200 ∈ ms) : Fr ms M0 M' := fun a b q => by
  have hne : ¬ (a = 0 ∧ b = j) := by
    intro e
    rcases q with q | q | q | q | q | q
    · exact q (e.1 ▸ hk)
    · have h9 := e.1.symm.trans q.1; omega
    · have h9 := e.1.symm.trans q.1; omega
    · exact hn.elim (fun r => r (e.2.symm.trans q.2.2)) q.2.1
    · have h9 := e.1.symm.trans q.1; omega
    · have h9 := e.1.symm.trans q.1; omega
  rw [f a b hne, h a b q]
theorem Fr.wrn {ms : List Nat} {M0 M M' : Mem} {j : Nat} (h : Fr ms M0 M) (f : ∀ a b, ¬ (a = 133 ∧ b = j) → M' a b = M a b) (hk : 133 ∈ ms) (hn : ¬ (j < 384 ∧ ¬ j = 6) ∨ 233 ∈ ms) : Fr ms M0 M' := fun a b q => by
  have hne : ¬ (a = 133 ∧ b = j) := by
    intro e
    rcases q with q | q | q | q | q | q
    · exact q (e.1 ▸ hk)
    · have h9 := e.1.symm.trans q.1; omega
    · have h9 := e.1.symm.trans q.1; omega
    · have h9 := e.1.symm.trans q.1; omega
    · exact hn.elim (fun r => r (e.2 ▸ q.2.2)) q.2.1
    · have h9 := e.1.symm.trans q.1; omega
  rw [f a b hne, h a b q]
theorem Fr.call {ms ns : List Nat} {M0 M M' : Mem} (h : Fr ms M0 M) (g : Fr ns M M') (hs : ∀ k ∈ ns, k ∈ ms) : Fr ms M0 M' := fun a b q => by
  have q2 : a ∉ ns ∨ (a = 132 ∧ 232 ∉ ns ∧ (stat b)) ∨ (a = 131 ∧ 231 ∉ ns ∧ (b = 6)) ∨ (a = 0 ∧ 200 ∉ ns ∧ (b = 1)) ∨ (a = 133 ∧ 233 ∉ ns ∧ (b < 384 ∧ ¬ b = 6)) ∨ (a = 131 ∧ 234 ∉ ns ∧ (b = 14 ∨ b = 15)) := by
    rcases q with q | q | q | q | q | q
    · exact Or.inl (fun r => q (hs a r))
    · exact Or.inr (Or.inl (⟨q.1, fun r => q.2.1 (hs _ r), q.2.2⟩))
    · exact Or.inr (Or.inr (Or.inl (⟨q.1, fun r => q.2.1 (hs _ r), q.2.2⟩)))
    · exact Or.inr (Or.inr (Or.inr (Or.inl (⟨q.1, fun r => q.2.1 (hs _ r), q.2.2⟩))))
    · exact Or.inr (Or.inr (Or.inr (Or.inr (Or.inl (⟨q.1, fun r => q.2.1 (hs _ r), q.2.2⟩)))))
    · exact Or.inr (Or.inr (Or.inr (Or.inr (Or.inr (⟨q.1, fun r => q.2.1 (hs _ r), q.2.2⟩)))))
  rw [g a b q2, h a b q]
theorem Fr.at {ms : List Nat} {M M' : Mem} (h : Fr ms M M') {a b : Nat} (q : a ∉ ms) : M' a b = M a b := h a b (Or.inl q)
theorem Fr.st {ms : List Nat} {M M' : Mem} (h : Fr ms M M') {b : Nat} (q : 232 ∉ ms) (hb : stat b) : M' 132 b = M 132 b := h 132 b (Or.inr (Or.inl (⟨rfl, q, hb⟩)))
theorem Fr.t6 {ms : List Nat} {M M' : Mem} (h : Fr ms M M') (q : 231 ∉ ms) : M' 131 6 = M 131 6 := h 131 6 (Or.inr (Or.inr (Or.inl (⟨rfl, q, rfl⟩))))
theorem Fr.t1 {ms : List Nat} {M M' : Mem} (h : Fr ms M M') (q : 200 ∉ ms) : M' 0 1 = M 0 1 := h 0 1 (Or.inr (Or.inr (Or.inr (Or.inl (⟨rfl, q, rfl⟩)))))
theorem Fr.fr {ms : List Nat} {M M' : Mem} (h : Fr ms M M') {b : Nat} (q : 233 ∉ ms) (hb : b < 384 ∧ ¬ b = 6) : M' 133 b = M 133 b := h 133 b (Or.inr (Or.inr (Or.inr (Or.inr (Or.inl (⟨rfl, q, hb⟩))))))
theorem Fr.fk {ms : List Nat} {M M' : Mem} (h : Fr ms M M') {b : Nat} (q : 234 ∉ ms) (hb : b = 14 ∨ b = 15) : M' 131 b = M 131 b := h 131 b (Or.inr (Or.inr (Or.inr (Or.inr (Or.inr (⟨rfl, q, hb⟩))))))
/-- a write elsewhere -/
theorem WFk.site {M M' : Mem} {k j : Nat} (h : WFk M) (f : ∀ a b, ¬ (a = k ∧ b = j) → M' a b = M a b) (hk : k ≠ 132 ∧ k ≠ 134) : WFk M' := by
  have e2 : M' 132 = M 132 := funext fun b => f 132 b (fun q => hk.1 q.1.symm)
  have e4 : ∀ b, M' 134 b = M 134 b := fun b => f 134 b (fun q => hk.2 q.1.symm)
  unfold WFk
  simp only [e2, e4]
  exact h
theorem WFk.known {M M' : Mem} {j : Nat} (h : WFk M) (f : ∀ a b, ¬ (a = 132 ∧ b = j) → M' a b = M a b) (hj : j ≠ 1 ∧ j ≠ 2 ∧ j ≠ 6 ∧ j < 384) : WFk M' := by
  have e4 : ∀ b, M' 134 b = M 134 b := fun b => f 134 b (fun q => absurd q.1 (by decide))
  refine ⟨Kn.congr h.1 (f 132 1 (fun q => hj.1 q.2.symm)).symm (f 132 2 (fun q => hj.2.1 q.2.symm)).symm (f 132 6 (fun q => hj.2.2.1 q.2.symm)).symm (fun k => (f 132 (384 + k) (fun q => by have := q.2; omega)).symm), ?_⟩
  simp only [e4]
  exact h.2
theorem Kn.copy {f g : Nat → Int} (h : Kn f) (hb : f 6 ≤ 900) (e : ∀ j : Nat, j < 1300 → g j = f j) : Kn g := by
  refine ⟨fun k a b => ?_, fun a => ?_⟩
  · rw [e 6 (by omega)] at b
    rw [Hs_congr (f := g) (g := f) k (fun j hj => e (384 + j) (by omega))]
    exact h.1 k a b
  · rw [e 1 (by omega)]; rw [e 2 (by omega)] at a; exact h.2 a
theorem wf_restore {M0 M : Mem} {i : Int} (h : WFk M0) (hI : Inv M0) (h0 : 0 ≤ i) (h2 : i ≤ 2) (e : ∀ j : Nat, j < 1300 → M 132 j = M 134 (1300 * i.toNat + j)) (f : ∀ b, M 134 b = M0 134 b) : WFk M := by
  have hb : ∀ d : Nat, d ≤ 2 → M0 134 (1300 * d + 6) ≤ 900 := fun d hd => ((hI.at (k := 134) (j := 1300 * d + 6) (show kn3 (1300 * d + 6) = (0, 900) by unfold kn3; rw [show (1300 * d + 6) % 1300 = 6 by omega]; rfl))).2
  refine ⟨?_, ?_⟩
  · have : i = 0 ∨ i = 1 ∨ i = 2 := by omega
    rcases this with rfl | rfl | rfl
    · exact Kn.copy h.2.1 (hb 0 (by omega)) (fun j hj => by rw [e j hj, f]; congr 1; omega)
    · exact Kn.copy h.2.2.1 (hb 1 (by omega)) (fun j hj => by rw [e j hj, f]; congr 1)
    · exact Kn.copy h.2.2.2 (hb 2 (by omega)) (fun j hj => by rw [e j hj, f]; congr 1)
  · simp only [f]; exact h.2
theorem wf_image {M0 M : Mem} {i : Int} (h : WFk M0) (hI : Inv M0) (h0 : 0 ≤ i) (h2 : i ≤ 2) (e : ∀ j : Nat, j < 1300 → M 134 (1300 * i.toNat + j) = M 132 j) (o : ∀ b : Nat, b < 1300 * i.toNat ∨ 1300 * i.toNat + 1300 ≤ b → M 134 b = M0 134 b) (f : ∀ b, M 132 b = M0 132 b) : WFk M := by
  have hb : M0 132 6 ≤ 900 := (hI.at (k := 132) (j := 6) rfl).2
  have hc : ∀ d : Nat, M0 134 (1300 * d + 6) ≤ 900 := fun d => ((hI.at (k := 134) (j := 1300 * d + 6) (show kn3 (1300 * d + 6) = (0, 900) by unfold kn3; rw [show (1300 * d + 6) % 1300 = 6 by omega]; rfl))).2
  have k0 : Kn (M 132) := by rw [show M 132 = M0 132 from funext f]; exact h.1
  have : i = 0 ∨ i = 1 ∨ i = 2 := by omega
  rcases this with rfl | rfl | rfl
  · refine ⟨k0, Kn.copy h.1 hb (fun j hj => ?_), Kn.copy h.2.2.1 (hc 1) (fun j hj => o _ (by omega)), Kn.copy h.2.2.2 (hc 2) (fun j hj => o _ (by omega))⟩
    have := e j hj
    rw [f] at this
    rw [← this]; congr 1; omega
  · refine ⟨k0, Kn.copy h.2.1 (hc 0) (fun j hj => o _ (by omega)), Kn.copy h.1 hb (fun j hj => ?_), Kn.copy h.2.2.2 (hc 2) (fun j hj => o _ (by omega))⟩
    have := e j hj
    rw [f] at this
    exact this
  · refine ⟨k0, Kn.copy h.2.1 (hc 0) (fun j hj => o _ (by omega)), Kn.copy h.2.2.1 (hc 1) (fun j hj => o _ (by omega)), Kn.copy h.1 hb (fun j hj => ?_)⟩
    have := e j hj
    rw [f] at this
    exact this
theorem wf_town {M0 M : Mem} (h : WFk M0) (hI : Inv M0) (hk : Kn (M0 133)) (e : ∀ j : Nat, j < 1300 → M 132 j = M0 133 j) (f : ∀ b, M 134 b = M0 134 b) : WFk M := by
  have hb : M0 133 6 ≤ 900 := (hI.at (k := 133) (j := 6) rfl).2
  refine ⟨Kn.copy hk hb e, ?_⟩
  simp only [f]; exact h.2
theorem o32 {x : Int} (h : In32 x) : (Int32.ofInt x).toInt = x := Int32.toInt_ofInt_of_le (by have := h.1; omega) (by have := h.2; omega)
theorem o64 {x : Int} (h : In64 x) : (Int64.ofInt x).toInt = x := Int64.toInt_ofInt_of_le (by have := h.1; omega) (by have := h.2; omega)
theorem r32 (x : Int32) : In32 x.toInt := ⟨by have := Int32.le_toInt x; omega, by have := Int32.toInt_lt x; omega⟩
theorem r64 (x : Int64) : In64 x.toInt := ⟨by have := Int64.le_toInt x; omega, by have := Int64.toInt_lt x; omega⟩
theorem b32 (x : Int32) : x = Int32.ofInt x.toInt := (Int32.ofInt_toInt x).symm
theorem b64 (x : Int64) : x = Int64.ofInt x.toInt := (Int64.ofInt_toInt x).symm
theorem lt32 {x y : Int} (hx : In32 x) (hy : In32 y) : Int32.ofInt x < Int32.ofInt y ↔ x < y := by rw [Int32.lt_iff_toInt_lt, o32 hx, o32 hy]
theorem le32 {x y : Int} (hx : In32 x) (hy : In32 y) : Int32.ofInt x ≤ Int32.ofInt y ↔ x ≤ y := by rw [Int32.le_iff_toInt_le, o32 hx, o32 hy]
theorem eq32 {x y : Int} (hx : In32 x) (hy : In32 y) : Int32.ofInt x = Int32.ofInt y ↔ x = y := ⟨fun h => by rw [← o32 hx, ← o32 hy, h], fun h => by rw [h]⟩
theorem lt64 {x y : Int} (hx : In64 x) (hy : In64 y) : Int64.ofInt x < Int64.ofInt y ↔ x < y := by rw [Int64.lt_iff_toInt_lt, o64 hx, o64 hy]
theorem le64 {x y : Int} (hx : In64 x) (hy : In64 y) : Int64.ofInt x ≤ Int64.ofInt y ↔ x ≤ y := by rw [Int64.le_iff_toInt_le, o64 hx, o64 hy]
theorem eq64 {x y : Int} (hx : In64 x) (hy : In64 y) : Int64.ofInt x = Int64.ofInt y ↔ x = y := ⟨fun h => by rw [← o64 hx, ← o64 hy, h], fun h => by rw [h]⟩
theorem in_32 {x : Int} {n : Nat} (h0 : 0 ≤ x) (h1 : x < n) (hn : n ≤ 100000) : vp_in (Int32.ofInt x) n := vp_in_iff.mpr (by rw [o32 ⟨by omega, by omega⟩]; exact ⟨h0, h1⟩)
theorem cl_32 {x : Int} (h0 : 0 ≤ x) (h1 : x ≤ 2147483647) : (Int32.ofInt x).toNatClampNeg = x.toNat := by
  show (Int32.ofInt x).toInt.toNat = x.toNat
  rw [o32 ⟨by omega, h1⟩]
/-! the words of all contracts -/
def gtbl : List Cond := lw_tbl.filter goodWord
theorem gin {w : Cond} (h : w ∈ lw_tbl) (g : goodWord w = true) : w ∈ gtbl := List.mem_filter.mpr ⟨h, g⟩
theorem gtbl_good {w : Cond} (h : w ∈ gtbl) : goodWord w = true := (List.mem_filter.mp h).2
def RMh (h : Nat) : Room := RM (8 + h) (120 + 40 * h) 0 0
/-- the texts' addresses -/
def SA (ad : Nat → Nat) (U : State) : Prop := ∀ (i : Nat) (q : String × Nat × String), strs[i]? = some q → vk_R q.1 q.2.1 q.2.2 (ad (1000 + i)) U
theorem SA.warm {ad : Nat → Nat} {s U : State} (hW : s.WarmedH U.vm) (h : SA ad s) : SA ad U := fun i q hq => vk_R.warm hW (h i q hq)
/-- the texts themselves: coder, array, bytes -/
def SS (ad : Nat → Nat) (A : Nat → Prop) (U : State) (H : Heap) : Prop := va_Z "java/lang/String" "COMPACT_STRINGS" "Z" (.int 1) A U H ∧ va_Zq "jdk/internal/util/Preconditions" "SIOOBE_FORMATTER" "Ljava/util/function/BiFunction;" A U H ∧ ∀ i : Nat, i < strs.length → va_O "java/lang/String" (ad (1000 + i)) A U H ∧ va_OF "java/lang/String" "coder" "B" (.int 0) (ad (1000 + i)) A U H ∧ va_OF "java/lang/String" "value" "[B" (.ref (ad (2000 + i))) (ad (1000 + i)) A U H ∧ va_T .byte (ad (2000 + i)) (sbyt.getD i []).length (fun j => .int ((sbyt.getD i []).getD j 0)) A U H
theorem SS.moved {ad : Nat → Nat} {A : Nat → Prop} {u U : State} {H : Heap} (hvm : u.vm.Alike U.vm) (h : SS ad A u H) : SS ad A U H := ⟨va_Z.moved hvm h.1, va_Zq.moved hvm h.2.1, fun i hi => ⟨va_O.moved hvm (h.2.2 i hi).1, va_OF.moved hvm (h.2.2 i hi).2.1, va_OF.moved hvm (h.2.2 i hi).2.2.1, va_T.moved hvm (h.2.2 i hi).2.2.2⟩⟩
theorem SS.kept {ad : Nat → Nat} {A : Nat → Prop} {U : State} {H H1 : Heap} (h : SS ad A U H) (hq : ∀ a : Nat, a < H.size → ¬ A a → H1[a]? = H[a]?) : SS ad A U H1 := ⟨h.1.kept hq, h.2.1.kept hq, fun i hi => ⟨(h.2.2 i hi).1.kept hq, (h.2.2 i hi).2.1.kept hq, (h.2.2 i hi).2.2.1.kept hq, (h.2.2 i hi).2.2.2.kept hq⟩⟩
theorem SS.narrow {ad : Nat → Nat} {A B : Nat → Prop} {U : State} {H : Heap} (h : SS ad A U H) (hAB : ∀ q, B q → A q) : SS ad B U H := ⟨h.1.narrow hAB, h.2.1.narrow hAB, fun i hi => ⟨(h.2.2 i hi).1.narrow hAB, (h.2.2 i hi).2.1.narrow hAB, (h.2.2 i hi).2.2.1.narrow hAB, (h.2.2 i hi).2.2.2.narrow hAB⟩⟩
def PreM (D : va_G) (cy : Nat → ClassId) (ad : Nat → Nat) (M : Mem) (sz : Nat) (U : State) : Prop := Pre D cy (wld ad cy M) sz U ∧ SA ad U ∧ SS ad (va_A (wld ad cy M) sz) U U.heap
def PostM (D : va_G) (cy : Nat → ClassId) (ad : Nat → Nat) (A : Nat → Prop) (M : Mem) (t : State) : Prop := Post D A (wld ad cy M) t
def FxM (D : va_G) (cy : Nat → ClassId) (ad : Nat → Nat) (p : Program) (m : MethodId) (c : Code) (cc : ByteArray) (nL : Nat) (s : State) (args : Array Value) (own : String) (A : Nat → Prop) : Prop := Fx D cy p m c cc nL s args gtbl own A ∧ SA ad s ∧ SS ad A s s.heap
def Z (D : va_G) (cy : Nat → ClassId) (ad : Nat → Nat) (p : Program) (l : Launch) (e : Env) (R : Room) (s : State) (m : MethodId) (args : Array Value) (below : List Frame) (meth : Method) (c : Code) (A : Nat → Prop) (nL n0 s0 : Nat) (Q : State → Prop) (pc : Nat) (ls : List (Nat × Value)) (st : List Value) (M : Mem) : Prop :=
  ∀ (H : Heap) (locs : List Loc) (la : Array Slot), va_P D vwCl (wld ad cy M) H → va_D A (wld ad cy M) → va_S A s.heap H locs → lv_has la nL ls → W p l e R s m args below meth c H locs n0 s0 Q (F0 m pc la st)
section ROWS
variable {D : va_G} {cy : Nat → ClassId} {ad : Nat → Nat} {p : Program} {l : Launch} {e : Env} {R : Room} {s : State} {m : MethodId} {args : Array Value} {below : List Frame} {meth : Method} {c : Code} {cc : ByteArray} {own : String} {A : Nat → Prop} {nL n0 s0 : Nat} {Q : State → Prop} {pc : Nat} {ls : List (Nat × Value)} {st rest : List Value} {M : Mem}
theorem FxM.x (F : FxM D cy ad p m c cc nL s args own A) : p.tables.exec = Jvm.exec := F.1.1.1
theorem FxM.b (F : FxM D cy ad p m c cc nL s args own A) : c.code = cc := F.1.1.2.1
theorem FxM.ml (F : FxM D cy ad p m c cc nL s args own A) : c.maxLocals = nL := F.1.1.2.2.1
theorem FxM.o (F : FxM D cy ad p m c cc nL s args own A) : s.vm.findClass own = some m.cls := F.1.1.2.2.2.1
theorem FxM.t (F : FxM D cy ad p m c cc nL s args own A) {w : Cond} (h : w ∈ gtbl) : w.before args s = true := F.1.1.2.2.2.2 w h
theorem FxM.K (F : FxM D cy ad p m c cc nL s args own A) : va_K D vwCl (TY cy) s := F.1.2.1
theorem FxM.g (F : FxM D cy ad p m c cc nL s args own A) : GW s := F.1.2.2.1
/-- the state by other names -/
theorem z_eq {ls' : List (Nat × Value)} {st' : List Value} {M' : Mem} (h1 : ls = ls') (h2 : st = st') (h3 : M = M') (k : Z D cy ad p l e R s m args below meth c A nL n0 s0 Q (pc) (ls') (st') (M')) : Z D cy ad p l e R s m args below meth c A nL n0 s0 Q (pc) (ls) (st) (M) := by subst h1; subst h2; subst h3; exact k
/-- fewer locals, in another order -/
theorem z_loc (ks : List Nat) {ls' : List (Nat × Value)} (h : lv_pick ls ks = ls') (k : Z D cy ad p l e R s m args below meth c A nL n0 s0 Q (pc) (ls') (st) (M)) : Z D cy ad p l e R s m args below meth c A nL n0 s0 Q (pc) (ls) (st) (M) := fun H locs la hP hD hS hl => k H locs la hP hD hS (lv_sub hl ks h)
theorem z_iconst {n : Int} (F : FxM D cy ad p m c cc nL s args own A) (d : decode cc pc = .ok (.iconst n, 1)) (k : Z D cy ad p l e R s m args below meth c A nL n0 s0 Q (pc + 1) (ls) (ii n :: rest) (M)) : Z D cy ad p l e R s m args below meth c A nL n0 s0 Q (pc) (ls) (rest) (M) := fun H locs la hP hD hS hl => lv_iconst F.x F.b d rfl (k H locs la hP hD hS hl)
theorem z_bipush {n : Int} (F : FxM D cy ad p m c cc nL s args own A) (d : decode cc pc = .ok (.bipush n, 2)) (h : (Int8.ofInt n).toInt32 = Int32.ofInt n) (k : Z D cy ad p l e R s m args below meth c A nL n0 s0 Q (pc + 2) (ls) (ii n :: rest) (M)) : Z D cy ad p l e R s m args below meth c A nL n0 s0 Q (pc) (ls) (rest) (M) := fun H locs la hP hD hS hl => lv_bipush F.x F.b d h (k H locs la hP hD hS hl)
theorem z_sipush {n : Int} (F : FxM D cy ad p m c cc nL s args own A) (d : decode cc pc = .ok (.sipush n, 3)) (h : (Int16.ofInt n).toInt32 = Int32.ofInt n) (k : Z D cy ad p l e R s m args below meth c A nL n0 s0 Q (pc + 3) (ls) (ii n :: rest) (M)) : Z D cy ad p l e R s m args below meth c A nL n0 s0 Q (pc) (ls) (rest) (M) := fun H locs la hP hD hS hl => lv_sipush F.x F.b d h (k H locs la hP hD hS hl)
theorem z_lconst {n : Fin 2} {x : Int} (F : FxM D cy ad p m c cc nL s args own A) (d : decode cc pc = .ok (.lconst n, 1)) (h : Int64.ofNat (n : Nat) = Int64.ofInt x) (k : Z D cy ad p l e R s m args below meth c A nL n0 s0 Q (pc + 1) (ls) (ll x :: rest) (M)) : Z D cy ad p l e R s m args below meth c A nL n0 s0 Q (pc) (ls) (rest) (M) := fun H locs la hP hD hS hl => lv_lconst F.x F.b d h (k H locs la hP hD hS hl)
theorem z_ldc {i : Nat} {v : Int32} {x : Int} (F : FxM D cy ad p m c cc nL s args own A) (d : decode cc pc = .ok (.ldc i, 2)) (hc : Cond.constant own i v ∈ gtbl) (h : v = Int32.ofInt x) (k : Z D cy ad p l e R s m args below meth c A nL n0 s0 Q (pc + 2) (ls) (ii x :: rest) (M)) : Z D cy ad p l e R s m args below meth c A nL n0 s0 Q (pc) (ls) (rest) (M) := fun H locs la hP hD hS hl => lv_ldc F.x F.b F.o (F.t hc) d (by rw [h]; exact k H locs la hP hD hS hl)
theorem z_ldcw {i : Nat} {v : Int32} {x : Int} (F : FxM D cy ad p m c cc nL s args own A) (d : decode cc pc = .ok (.ldc_w i, 3)) (hc : Cond.constant own i v ∈ gtbl) (h : v = Int32.ofInt x) (k : Z D cy ad p l e R s m args below meth c A nL n0 s0 Q (pc + 3) (ls) (ii x :: rest) (M)) : Z D cy ad p l e R s m args below meth c A nL n0 s0 Q (pc) (ls) (rest) (M) := fun H locs la hP hD hS hl => lv_ldcw F.x F.b F.o (F.t hc) d (by rw [h]; exact k H locs la hP hD hS hl)
theorem z_ldc2 {i : Nat} {v : Int64} {x : Int} (F : FxM D cy ad p m c cc nL s args own A) (d : decode cc pc = .ok (.ldc2_w i, 3)) (hc : Cond.constantLong own i v ∈ gtbl) (h : v = Int64.ofInt x) (k : Z D cy ad p l e R s m args below meth c A nL n0 s0 Q (pc + 3) (ls) (ll x :: rest) (M)) : Z D cy ad p l e R s m args below meth c A nL n0 s0 Q (pc) (ls) (rest) (M) := fun H locs la hP hD hS hl => lv_ldc2 F.x F.b F.o (F.t hc) d (by rw [h]; exact k H locs la hP hD hS hl)
theorem z_ldcS {i j : Nat} {q : String × Nat × String} (F : FxM D cy ad p m c cc nL s args own A) (d : decode cc pc = .ok (.ldc i, 2)) (hq : strs[j]? = some q) (h1 : q.1 = own) (h2 : q.2.1 = i) (k : Z D cy ad p l e R s m args below meth c A nL n0 s0 Q (pc + 2) (ls) (.ref (ad (1000 + j)) :: rest) (M)) : Z D cy ad p l e R s m args below meth c A nL n0 s0 Q (pc) (ls) (rest) (M) := fun H locs la hP hD hS hl => va_ldcS F.x F.b F.o (by have := F.2.1 j q hq; rw [h1, h2] at this; exact this) d (k H locs la hP hD hS hl)
theorem z_ldcSW {i j : Nat} {q : String × Nat × String} (F : FxM D cy ad p m c cc nL s args own A) (d : decode cc pc = .ok (.ldc_w i, 3)) (hq : strs[j]? = some q) (h1 : q.1 = own) (h2 : q.2.1 = i) (k : Z D cy ad p l e R s m args below meth c A nL n0 s0 Q (pc + 3) (ls) (.ref (ad (1000 + j)) :: rest) (M)) : Z D cy ad p l e R s m args below meth c A nL n0 s0 Q (pc) (ls) (rest) (M) := fun H locs la hP hD hS hl => ldcSW F.x F.b F.o (by have := F.2.1 j q hq; rw [h1, h2] at this; exact this) d (k H locs la hP hD hS hl)
theorem z_iload_n {k : Fin 4} {i q : Nat} {x : Int} (F : FxM D cy ad p m c cc nL s args own A) (d : decode cc pc = .ok (.iload_n k, 1)) (hi : (k : Nat) = i) (hq : ls[q]? = some (i, ii x)) (k0 : Z D cy ad p l e R s m args below meth c A nL n0 s0 Q (pc + 1) (ls) (ii x :: rest) (M)) : Z D cy ad p l e R s m args below meth c A nL n0 s0 Q (pc) (ls) (rest) (M) := fun H locs la hP hD hS hl => lv_iload_n F.x F.b d hi (lv_at hl q hq) (k0 H locs la hP hD hS hl)
theorem z_iload {i q : Nat} {x : Int} (F : FxM D cy ad p m c cc nL s args own A) (d : decode cc pc = .ok (.iload i, 2)) (hq : ls[q]? = some (i, ii x)) (k0 : Z D cy ad p l e R s m args below meth c A nL n0 s0 Q (pc + 2) (ls) (ii x :: rest) (M)) : Z D cy ad p l e R s m args below meth c A nL n0 s0 Q (pc) (ls) (rest) (M) := fun H locs la hP hD hS hl => lv_iload F.x F.b d (lv_at hl q hq) (k0 H locs la hP hD hS hl)
theorem z_istore_n {k : Fin 4} {i : Nat} {x : Int} {ls' : List (Nat × Value)} (F : FxM D cy ad p m c cc nL s args own A) (d : decode cc pc = .ok (.istore_n k, 1)) (hi : (k : Nat) = i) (hn : i < nL) (hl' : (i, ii x) :: ls.filter (fun q => !(q.1 == i) && !(q.1 + 1 == i && q.2.category == 2)) = ls') (k0 : Z D cy ad p l e R s m args below meth c A nL n0 s0 Q (pc + 1) (ls') (rest) (M)) : Z D cy ad p l e R s m args below meth c A nL n0 s0 Q (pc) (ls) (ii x :: rest) (M) := fun H locs la hP hD hS hl => lv_istore_n F.x F.b d hi hl hn hl' (fun la' hl2 => k0 H locs la' hP hD hS hl2)
theorem z_istore {i : Nat} {x : Int} {ls' : List (Nat × Value)} (F : FxM D cy ad p m c cc nL s args own A) (d : decode cc pc = .ok (.istore i, 2)) (hn : i < nL) (hl' : (i, ii x) :: ls.filter (fun q => !(q.1 == i) && !(q.1 + 1 == i && q.2.category == 2)) = ls') (k0 : Z D cy ad p l e R s m args below meth c A nL n0 s0 Q (pc + 2) (ls') (rest) (M)) : Z D cy ad p l e R s m args below meth c A nL n0 s0 Q (pc) (ls) (ii x :: rest) (M) := fun H locs la hP hD hS hl => lv_istore F.x F.b d hl hn hl' (fun la' hl2 => k0 H locs la' hP hD hS hl2)
theorem z_lload_n {k : Fin 4} {i q : Nat} {x : Int} (F : FxM D cy ad p m c cc nL s args own A) (d : decode cc pc = .ok (.lload_n k, 1)) (hi : (k : Nat) = i) (hq : ls[q]? = some (i, ll x)) (k0 : Z D cy ad p l e R s m args below meth c A nL n0 s0 Q (pc + 1) (ls) (ll x :: rest) (M)) : Z D cy ad p l e R s m args below meth c A nL n0 s0 Q (pc) (ls) (rest) (M) := fun H locs la hP hD hS hl => lv_lload_n F.x F.b d hi (lv_at hl q hq) (k0 H locs la hP hD hS hl)
theorem z_lload {i q : Nat} {x : Int} (F : FxM D cy ad p m c cc nL s args own A) (d : decode cc pc = .ok (.lload i, 2)) (hq : ls[q]? = some (i, ll x)) (k0 : Z D cy ad p l e R s m args below meth c A nL n0 s0 Q (pc + 2) (ls) (ll x :: rest) (M)) : Z D cy ad p l e R s m args below meth c A nL n0 s0 Q (pc) (ls) (rest) (M) := fun H locs la hP hD hS hl => lv_lload F.x F.b d (lv_at hl q hq) (k0 H locs la hP hD hS hl)
theorem z_lstore_n {k : Fin 4} {i : Nat} {x : Int} {ls' : List (Nat × Value)} (F : FxM D cy ad p m c cc nL s args own A) (d : decode cc pc = .ok (.lstore_n k, 1)) (hi : (k : Nat) = i) (hn : i + 1 < nL) (hl' : (i, ll x) :: ls.filter (fun q => !(q.1 == i) && (!(q.1 == i + 1) && !(q.1 + 1 == i && q.2.category == 2))) = ls') (k0 : Z D cy ad p l e R s m args below meth c A nL n0 s0 Q (pc + 1) (ls') (rest) (M)) : Z D cy ad p l e R s m args below meth c A nL n0 s0 Q (pc) (ls) (ll x :: rest) (M) := fun H locs la hP hD hS hl => lv_lstore_n F.x F.b d hi hl hn hl' (fun la' hl2 => k0 H locs la' hP hD hS hl2)
theorem z_lstore {i : Nat} {x : Int} {ls' : List (Nat × Value)} (F : FxM D cy ad p m c cc nL s args own A) (d : decode cc pc = .ok (.lstore i, 2)) (hn : i + 1 < nL) (hl' : (i, ll x) :: ls.filter (fun q => !(q.1 == i) && (!(q.1 == i + 1) && !(q.1 + 1 == i && q.2.category == 2))) = ls') (k0 : Z D cy ad p l e R s m args below meth c A nL n0 s0 Q (pc + 2) (ls') (rest) (M)) : Z D cy ad p l e R s m args below meth c A nL n0 s0 Q (pc) (ls) (ll x :: rest) (M) := fun H locs la hP hD hS hl => lv_lstore F.x F.b d hl hn hl' (fun la' hl2 => k0 H locs la' hP hD hS hl2)
theorem z_aload_n {k : Fin 4} {i q : Nat} {x : Nat} (F : FxM D cy ad p m c cc nL s args own A) (d : decode cc pc = .ok (.aload_n k, 1)) (hi : (k : Nat) = i) (hq : ls[q]? = some (i, .ref x)) (k0 : Z D cy ad p l e R s m args below meth c A nL n0 s0 Q (pc + 1) (ls) (.ref x :: rest) (M)) : Z D cy ad p l e R s m args below meth c A nL n0 s0 Q (pc) (ls) (rest) (M) := fun H locs la hP hD hS hl => lv_aload_n F.x F.b d hi (lv_at hl q hq) (k0 H locs la hP hD hS hl)
theorem z_aload {i q : Nat} {x : Nat} (F : FxM D cy ad p m c cc nL s args own A) (d : decode cc pc = .ok (.aload i, 2)) (hq : ls[q]? = some (i, .ref x)) (k0 : Z D cy ad p l e R s m args below meth c A nL n0 s0 Q (pc + 2) (ls) (.ref x :: rest) (M)) : Z D cy ad p l e R s m args below meth c A nL n0 s0 Q (pc) (ls) (rest) (M) := fun H locs la hP hD hS hl => lv_aload F.x F.b d (lv_at hl q hq) (k0 H locs la hP hD hS hl)
theorem z_astore_n {k : Fin 4} {i : Nat} {x : Nat} {ls' : List (Nat × Value)} (F : FxM D cy ad p m c cc nL s args own A) (d : decode cc pc = .ok (.astore_n k, 1)) (hi : (k : Nat) = i) (hn : i < nL) (hl' : (i, .ref x) :: ls.filter (fun q => !(q.1 == i) && !(q.1 + 1 == i && q.2.category == 2)) = ls') (k0 : Z D cy ad p l e R s m args below meth c A nL n0 s0 Q (pc + 1) (ls') (rest) (M)) : Z D cy ad p l e R s m args below meth c A nL n0 s0 Q (pc) (ls) (.ref x :: rest) (M) := fun H locs la hP hD hS hl => lv_astore_n F.x F.b d hi hl hn hl' (fun la' hl2 => k0 H locs la' hP hD hS hl2)
theorem z_astore {i : Nat} {x : Nat} {ls' : List (Nat × Value)} (F : FxM D cy ad p m c cc nL s args own A) (d : decode cc pc = .ok (.astore i, 2)) (hn : i < nL) (hl' : (i, .ref x) :: ls.filter (fun q => !(q.1 == i) && !(q.1 + 1 == i && q.2.category == 2)) = ls') (k0 : Z D cy ad p l e R s m args below meth c A nL n0 s0 Q (pc + 2) (ls') (rest) (M)) : Z D cy ad p l e R s m args below meth c A nL n0 s0 Q (pc) (ls) (.ref x :: rest) (M) := fun H locs la hP hD hS hl => lv_astore F.x F.b d hl hn hl' (fun la' hl2 => k0 H locs la' hP hD hS hl2)
theorem z_iinc {i q : Nat} {n x : Int} {ls' : List (Nat × Value)} (F : FxM D cy ad p m c cc nL s args own A) (d : decode cc pc = .ok (.iinc i n, 3)) (hq : ls[q]? = some (i, ii x)) (hn : i < nL) (hl' : (i, ii (x + n)) :: ls.filter (fun q => !(q.1 == i) && !(q.1 + 1 == i && q.2.category == 2)) = ls') (k0 : Z D cy ad p l e R s m args below meth c A nL n0 s0 Q (pc + 3) (ls') (rest) (M)) : Z D cy ad p l e R s m args below meth c A nL n0 s0 Q (pc) (ls) (rest) (M) := fun H locs la hP hD hS hl => lv_iinc F.x F.b d hl hq (Int32.ofInt_add x n).symm hn hl' (fun la' hl2 => k0 H locs la' hP hD hS hl2)
theorem z_iadd {x y : Int} (F : FxM D cy ad p m c cc nL s args own A) (d : decode cc pc = .ok (.iadd, 1)) (k : Z D cy ad p l e R s m args below meth c A nL n0 s0 Q (pc + 1) (ls) (ii (x + y) :: rest) (M)) : Z D cy ad p l e R s m args below meth c A nL n0 s0 Q (pc) (ls) (ii y :: ii x :: rest) (M) := fun H locs la hP hD hS hl => lv_iadd F.x F.b d (by rw [← Int32.ofInt_add]; exact k H locs la hP hD hS hl)
theorem z_isub {x y : Int} (F : FxM D cy ad p m c cc nL s args own A) (d : decode cc pc = .ok (.isub, 1)) (k : Z D cy ad p l e R s m args below meth c A nL n0 s0 Q (pc + 1) (ls) (ii (x - y) :: rest) (M)) : Z D cy ad p l e R s m args below meth c A nL n0 s0 Q (pc) (ls) (ii y :: ii x :: rest) (M) := fun H locs la hP hD hS hl => lv_isub F.x F.b d (by rw [← Int32.ofInt_sub]; exact k H locs la hP hD hS hl)
theorem z_imul {x y : Int} (F : FxM D cy ad p m c cc nL s args own A) (d : decode cc pc = .ok (.imul, 1)) (k : Z D cy ad p l e R s m args below meth c A nL n0 s0 Q (pc + 1) (ls) (ii (x * y) :: rest) (M)) : Z D cy ad p l e R s m args below meth c A nL n0 s0 Q (pc) (ls) (ii y :: ii x :: rest) (M) := fun H locs la hP hD hS hl => lv_imul F.x F.b d (by rw [← Int32.ofInt_mul]; exact k H locs la hP hD hS hl)
theorem z_ladd {x y : Int} (F : FxM D cy ad p m c cc nL s args own A) (d : decode cc pc = .ok (.ladd, 1)) (k : Z D cy ad p l e R s m args below meth c A nL n0 s0 Q (pc + 1) (ls) (ll (x + y) :: rest) (M)) : Z D cy ad p l e R s m args below meth c A nL n0 s0 Q (pc) (ls) (ll y :: ll x :: rest) (M) := fun H locs la hP hD hS hl => lv_ladd F.x F.b d (by rw [← Int64.ofInt_add]; exact k H locs la hP hD hS hl)
theorem z_lsub {x y : Int} (F : FxM D cy ad p m c cc nL s args own A) (d : decode cc pc = .ok (.lsub, 1)) (k : Z D cy ad p l e R s m args below meth c A nL n0 s0 Q (pc + 1) (ls) (ll (x - y) :: rest) (M)) : Z D cy ad p l e R s m args below meth c A nL n0 s0 Q (pc) (ls) (ll y :: ll x :: rest) (M) := fun H locs la hP hD hS hl => lv_lsub F.x F.b d (by rw [← Int64.ofInt_sub]; exact k H locs la hP hD hS hl)
theorem z_lmul {x y : Int} (F : FxM D cy ad p m c cc nL s args own A) (d : decode cc pc = .ok (.lmul, 1)) (k : Z D cy ad p l e R s m args below meth c A nL n0 s0 Q (pc + 1) (ls) (ll (x * y) :: rest) (M)) : Z D cy ad p l e R s m args below meth c A nL n0 s0 Q (pc) (ls) (ll y :: ll x :: rest) (M) := fun H locs la hP hD hS hl => lv_lmul F.x F.b d (by rw [← Int64.ofInt_mul]; exact k H locs la hP hD hS hl)
theorem z_ineg {x : Int} (F : FxM D cy ad p m c cc nL s args own A) (d : decode cc pc = .ok (.ineg, 1)) (k : Z D cy ad p l e R s m args below meth c A nL n0 s0 Q (pc + 1) (ls) (ii (-x) :: rest) (M)) : Z D cy ad p l e R s m args below meth c A nL n0 s0 Q (pc) (ls) (ii x :: rest) (M) := fun H locs la hP hD hS hl => lv_ineg F.x F.b d (by rw [← Int32.ofInt_neg]; exact k H locs la hP hD hS hl)
theorem z_iand0 {x y : Int} (F : FxM D cy ad p m c cc nL s args own A) (d : decode cc pc = .ok (.iand, 1)) (k : ∀ z : Int, z = (Int32.ofInt x &&& Int32.ofInt y).toInt → In32 z → Z D cy ad p l e R s m args below meth c A nL n0 s0 Q (pc + 1) (ls) (ii z :: rest) (M)) : Z D cy ad p l e R s m args below meth c A nL n0 s0 Q (pc) (ls) (ii y :: ii x :: rest) (M) := fun H locs la hP hD hS hl => lv_iand F.x F.b d (by rw [b32 (Int32.ofInt x &&& Int32.ofInt y)]; exact k _ rfl (r32 _) H locs la hP hD hS hl)
theorem z_ior0 {x y : Int} (F : FxM D cy ad p m c cc nL s args own A) (d : decode cc pc = .ok (.ior, 1)) (k : ∀ z : Int, z = (Int32.ofInt x ||| Int32.ofInt y).toInt → In32 z → Z D cy ad p l e R s m args below meth c A nL n0 s0 Q (pc + 1) (ls) (ii z :: rest) (M)) : Z D cy ad p l e R s m args below meth c A nL n0 s0 Q (pc) (ls) (ii y :: ii x :: rest) (M) := fun H locs la hP hD hS hl => lv_ior F.x F.b d (by rw [b32 (Int32.ofInt x ||| Int32.ofInt y)]; exact k _ rfl (r32 _) H locs la hP hD hS hl)
theorem z_ixor0 {x y : Int} (F : FxM D cy ad p m c cc nL s args own A) (d : decode cc pc = .ok (.ixor, 1)) (k : ∀ z : Int, z = (Int32.ofInt x ^^^ Int32.ofInt y).toInt → In32 z → Z D cy ad p l e R s m args below meth c A nL n0 s0 Q (pc + 1) (ls) (ii z :: rest) (M)) : Z D cy ad p l e R s m args below meth c A nL n0 s0 Q (pc) (ls) (ii y :: ii x :: rest) (M) := fun H locs la hP hD hS hl => lv_ixor F.x F.b d (by rw [b32 (Int32.ofInt x ^^^ Int32.ofInt y)]; exact k _ rfl (r32 _) H locs la hP hD hS hl)
theorem z_ishl0 {x y : Int} (F : FxM D cy ad p m c cc nL s args own A) (d : decode cc pc = .ok (.ishl, 1)) (k : ∀ z : Int, z = (Int32.ofInt x <<< (Int32.ofInt y &&& 31)).toInt → In32 z → Z D cy ad p l e R s m args below meth c A nL n0 s0 Q (pc + 1) (ls) (ii z :: rest) (M)) : Z D cy ad p l e R s m args below meth c A nL n0 s0 Q (pc) (ls) (ii y :: ii x :: rest) (M) := fun H locs la hP hD hS hl => lv_ishl F.x F.b d (by rw [b32 (Int32.ofInt x <<< (Int32.ofInt y &&& 31))]; exact k _ rfl (r32 _) H locs la hP hD hS hl)
theorem z_ishr0 {x y : Int} (F : FxM D cy ad p m c cc nL s args own A) (d : decode cc pc = .ok (.ishr, 1)) (k : ∀ z : Int, z = (Int32.ofInt x >>> (Int32.ofInt y &&& 31)).toInt → In32 z → Z D cy ad p l e R s m args below meth c A nL n0 s0 Q (pc + 1) (ls) (ii z :: rest) (M)) : Z D cy ad p l e R s m args below meth c A nL n0 s0 Q (pc) (ls) (ii y :: ii x :: rest) (M) := fun H locs la hP hD hS hl => lv_ishr F.x F.b d (by rw [b32 (Int32.ofInt x >>> (Int32.ofInt y &&& 31))]; exact k _ rfl (r32 _) H locs la hP hD hS hl)
theorem z_idiv0 {x y : Int} (F : FxM D cy ad p m c cc nL s args own A) (d : decode cc pc = .ok (.idiv, 1)) (hne : ¬ Int32.ofInt y = 0) (k : ∀ z : Int, z = (Int32.ofInt x / Int32.ofInt y).toInt → In32 z → Z D cy ad p l e R s m args below meth c A nL n0 s0 Q (pc + 1) (ls) (ii z :: rest) (M)) : Z D cy ad p l e R s m args below meth c A nL n0 s0 Q (pc) (ls) (ii y :: ii x :: rest) (M) := fun H locs la hP hD hS hl => lv_idiv F.x F.b d hne (by rw [b32 (Int32.ofInt x / Int32.ofInt y)]; exact k _ rfl (r32 _) H locs la hP hD hS hl)
theorem z_irem0 {x y : Int} (F : FxM D cy ad p m c cc nL s args own A) (d : decode cc pc = .ok (.irem, 1)) (hne : ¬ Int32.ofInt y = 0) (k : ∀ z : Int, z = (Int32.ofInt x - Int32.ofInt x / Int32.ofInt y * Int32.ofInt y).toInt → In32 z → Z D cy ad p l e R s m args below meth c A nL n0 s0 Q (pc + 1) (ls) (ii z :: rest) (M)) : Z D cy ad p l e R s m args below meth c A nL n0 s0 Q (pc) (ls) (ii y :: ii x :: rest) (M) := fun H locs la hP hD hS hl => lv_irem F.x F.b d hne (by rw [b32 (Int32.ofInt x - Int32.ofInt x / Int32.ofInt y * Int32.ofInt y)]; exact k _ rfl (r32 _) H locs la hP hD hS hl)
theorem z_iushr0 {x y : Int} (F : FxM D cy ad p m c cc nL s args own A) (d : decode cc pc = .ok (.iushr, 1)) (k : ∀ z : Int, z = ((Int32.ofInt x).toUInt32 >>> ((Int32.ofInt y).toUInt32 &&& Int32.toUInt32 31)).toInt32.toInt → In32 z → Z D cy ad p l e R s m args below meth c A nL n0 s0 Q (pc + 1) (ls) (ii z :: rest) (M)) : Z D cy ad p l e R s m args below meth c A nL n0 s0 Q (pc) (ls) (ii y :: ii x :: rest) (M) := fun H locs la hP hD hS hl => lv_iushr F.x F.b d (b32 _) (k _ rfl (r32 _) H locs la hP hD hS hl)
theorem z_land0 {x y : Int} (F : FxM D cy ad p m c cc nL s args own A) (d : decode cc pc = .ok (.land, 1)) (k : ∀ z : Int, z = (Int64.ofInt x &&& Int64.ofInt y).toInt → In64 z → Z D cy ad p l e R s m args below meth c A nL n0 s0 Q (pc + 1) (ls) (ll z :: rest) (M)) : Z D cy ad p l e R s m args below meth c A nL n0 s0 Q (pc) (ls) (ll y :: ll x :: rest) (M) := fun H locs la hP hD hS hl => lv_land F.x F.b d (by rw [b64 (Int64.ofInt x &&& Int64.ofInt y)]; exact k _ rfl (r64 _) H locs la hP hD hS hl)
theorem z_lor0 {x y : Int} (F : FxM D cy ad p m c cc nL s args own A) (d : decode cc pc = .ok (.lor, 1)) (k : ∀ z : Int, z = (Int64.ofInt x ||| Int64.ofInt y).toInt → In64 z → Z D cy ad p l e R s m args below meth c A nL n0 s0 Q (pc + 1) (ls) (ll z :: rest) (M)) : Z D cy ad p l e R s m args below meth c A nL n0 s0 Q (pc) (ls) (ll y :: ll x :: rest) (M) := fun H locs la hP hD hS hl => lv_lor F.x F.b d (by rw [b64 (Int64.ofInt x ||| Int64.ofInt y)]; exact k _ rfl (r64 _) H locs la hP hD hS hl)
theorem z_ldiv0 {x y : Int} (F : FxM D cy ad p m c cc nL s args own A) (d : decode cc pc = .ok (.ldiv, 1)) (hne : ¬ Int64.ofInt y = 0) (k : ∀ z : Int, z = (Int64.ofInt x / Int64.ofInt y).toInt → In64 z → Z D cy ad p l e R s m args below meth c A nL n0 s0 Q (pc + 1) (ls) (ll z :: rest) (M)) : Z D cy ad p l e R s m args below meth c A nL n0 s0 Q (pc) (ls) (ll y :: ll x :: rest) (M) := fun H locs la hP hD hS hl => lv_ldiv F.x F.b d hne (by rw [b64 (Int64.ofInt x / Int64.ofInt y)]; exact k _ rfl (r64 _) H locs la hP hD hS hl)
theorem z_lrem0 {x y : Int} (F : FxM D cy ad p m c cc nL s args own A) (d : decode cc pc = .ok (.lrem, 1)) (hne : ¬ Int64.ofInt y = 0) (k : ∀ z : Int, z = (Int64.ofInt x - Int64.ofInt x / Int64.ofInt y * Int64.ofInt y).toInt → In64 z → Z D cy ad p l e R s m args below meth c A nL n0 s0 Q (pc + 1) (ls) (ll z :: rest) (M)) : Z D cy ad p l e R s m args below meth c A nL n0 s0 Q (pc) (ls) (ll y :: ll x :: rest) (M) := fun H locs la hP hD hS hl => lv_lrem F.x F.b d hne (by rw [b64 (Int64.ofInt x - Int64.ofInt x / Int64.ofInt y * Int64.ofInt y)]; exact k _ rfl (r64 _) H locs la hP hD hS hl)
theorem z_lshl0 {x y : Int} (F : FxM D cy ad p m c cc nL s args own A) (d : decode cc pc = .ok (.lshl, 1)) (k : ∀ z : Int, z = (Int64.ofInt x <<< ((Int32.ofInt y).toInt64 &&& 63)).toInt → In64 z → Z D cy ad p l e R s m args below meth c A nL n0 s0 Q (pc + 1) (ls) (ll z :: rest) (M)) : Z D cy ad p l e R s m args below meth c A nL n0 s0 Q (pc) (ls) (ii y :: ll x :: rest) (M) := fun H locs la hP hD hS hl => lv_lshl F.x F.b d rfl (by rw [b64 (Int64.ofInt x <<< ((Int32.ofInt y).toInt64 &&& 63))]; exact k _ rfl (r64 _) H locs la hP hD hS hl)
theorem z_lshr0 {x y : Int} (F : FxM D cy ad p m c cc nL s args own A) (d : decode cc pc = .ok (.lshr, 1)) (k : ∀ z : Int, z = (Int64.ofInt x >>> ((Int32.ofInt y).toInt64 &&& 63)).toInt → In64 z → Z D cy ad p l e R s m args below meth c A nL n0 s0 Q (pc + 1) (ls) (ll z :: rest) (M)) : Z D cy ad p l e R s m args below meth c A nL n0 s0 Q (pc) (ls) (ii y :: ll x :: rest) (M) := fun H locs la hP hD hS hl => lv_lshr F.x F.b d rfl (by rw [b64 (Int64.ofInt x >>> ((Int32.ofInt y).toInt64 &&& 63))]; exact k _ rfl (r64 _) H locs la hP hD hS hl)
theorem z_i2l {x : Int} (F : FxM D cy ad p m c cc nL s args own A) (d : decode cc pc = .ok (.i2l, 1)) (hx : In32 x) (k : Z D cy ad p l e R s m args below meth c A nL n0 s0 Q (pc + 1) (ls) (ll x :: rest) (M)) : Z D cy ad p l e R s m args below meth c A nL n0 s0 Q (pc) (ls) (ii x :: rest) (M) := fun H locs la hP hD hS hl => lv_i2l F.x F.b d (by rw [← Int64.ofInt_toInt (Int32.ofInt x).toInt64, Int32.toInt_toInt64, o32 hx]) (k H locs la hP hD hS hl)
theorem z_l2i {x : Int} (F : FxM D cy ad p m c cc nL s args own A) (d : decode cc pc = .ok (.l2i, 1)) (hx : In64 x) (k : Z D cy ad p l e R s m args below meth c A nL n0 s0 Q (pc + 1) (ls) (ii x :: rest) (M)) : Z D cy ad p l e R s m args below meth c A nL n0 s0 Q (pc) (ls) (ll x :: rest) (M) := fun H locs la hP hD hS hl => lv_l2i F.x F.b d (by rw [Int64.toInt32_ofInt]) (k H locs la hP hD hS hl)
theorem z_i2b {x : Int} (F : FxM D cy ad p m c cc nL s args own A) (d : decode cc pc = .ok (.i2b, 1)) (k : ∀ z : Int, z = ((Int32.ofInt x).toInt8.toInt32).toInt → -128 ≤ z → z ≤ 127 → Z D cy ad p l e R s m args below meth c A nL n0 s0 Q (pc + 1) (ls) (ii z :: rest) (M)) : Z D cy ad p l e R s m args below meth c A nL n0 s0 Q (pc) (ls) (ii x :: rest) (M) := fun H locs la hP hD hS hl => lv_i2b F.x F.b d rfl (by rw [b32 ((Int32.ofInt x).toInt8.toInt32)]; exact k _ rfl (by rw [Int8.toInt_toInt32]; have := Int8.le_toInt (Int32.ofInt x).toInt8; omega) (by rw [Int8.toInt_toInt32]; have := Int8.toInt_lt (Int32.ofInt x).toInt8; omega) H locs la hP hD hS hl)
theorem z_i2s {x : Int} (F : FxM D cy ad p m c cc nL s args own A) (d : decode cc pc = .ok (.i2s, 1)) (k : ∀ z : Int, z = ((Int32.ofInt x).toInt16.toInt32).toInt → -32768 ≤ z → z ≤ 32767 → Z D cy ad p l e R s m args below meth c A nL n0 s0 Q (pc + 1) (ls) (ii z :: rest) (M)) : Z D cy ad p l e R s m args below meth c A nL n0 s0 Q (pc) (ls) (ii x :: rest) (M) := fun H locs la hP hD hS hl => lv_i2s F.x F.b d rfl (by rw [b32 ((Int32.ofInt x).toInt16.toInt32)]; exact k _ rfl (by rw [Int16.toInt_toInt32]; have := Int16.le_toInt (Int32.ofInt x).toInt16; omega) (by rw [Int16.toInt_toInt32]; have := Int16.toInt_lt (Int32.ofInt x).toInt16; omega) H locs la hP hD hS hl)
theorem z_i2c {x : Int} (F : FxM D cy ad p m c cc nL s args own A) (d : decode cc pc = .ok (.i2c, 1)) (k : ∀ z : Int, z = ((Int32.ofInt x).toUInt32 % 65536).toInt32.toInt → In32 z → Z D cy ad p l e R s m args below meth c A nL n0 s0 Q (pc + 1) (ls) (ii z :: rest) (M)) : Z D cy ad p l e R s m args below meth c A nL n0 s0 Q (pc) (ls) (ii x :: rest) (M) := fun H locs la hP hD hS hl => lv_i2c F.x F.b d (b32 _) (k _ rfl (r32 _) H locs la hP hD hS hl)
theorem z_dup {v : Value} (F : FxM D cy ad p m c cc nL s args own A) (d : decode cc pc = .ok (.dup, 1)) (h : v.category = 1) (k : Z D cy ad p l e R s m args below meth c A nL n0 s0 Q (pc + 1) (ls) (v :: v :: rest) (M)) : Z D cy ad p l e R s m args below meth c A nL n0 s0 Q (pc) (ls) (v :: rest) (M) := fun H locs la hP hD hS hl => lv_dup F.x F.b d h (k H locs la hP hD hS hl)
theorem z_pop {v : Value} (F : FxM D cy ad p m c cc nL s args own A) (d : decode cc pc = .ok (.pop, 1)) (h : v.category = 1) (k : Z D cy ad p l e R s m args below meth c A nL n0 s0 Q (pc + 1) (ls) (rest) (M)) : Z D cy ad p l e R s m args below meth c A nL n0 s0 Q (pc) (ls) (v :: rest) (M) := fun H locs la hP hD hS hl => lv_pop F.x F.b d h (k H locs la hP hD hS hl)
theorem z_pop2 {v : Value} (F : FxM D cy ad p m c cc nL s args own A) (d : decode cc pc = .ok (.pop2, 1)) (h : v.category = 2) (k : Z D cy ad p l e R s m args below meth c A nL n0 s0 Q (pc + 1) (ls) (rest) (M)) : Z D cy ad p l e R s m args below meth c A nL n0 s0 Q (pc) (ls) (v :: rest) (M) := fun H locs la hP hD hS hl => lv_pop2_2 F.x F.b d h (k H locs la hP hD hS hl)
theorem z_dup_x1 {v u : Value} (F : FxM D cy ad p m c cc nL s args own A) (d : decode cc pc = .ok (.dup_x1, 1)) (h : v.category = 1) (h2 : u.category = 1) (k : Z D cy ad p l e R s m args below meth c A nL n0 s0 Q (pc + 1) (ls) (v :: u :: v :: rest) (M)) : Z D cy ad p l e R s m args below meth c A nL n0 s0 Q (pc) (ls) (v :: u :: rest) (M) := fun H locs la hP hD hS hl => lv_dup_x1 F.x F.b d h h2 (k H locs la hP hD hS hl)
theorem z_dup_x2 {v u t : Value} (F : FxM D cy ad p m c cc nL s args own A) (d : decode cc pc = .ok (.dup_x2, 1)) (h : v.category = 1) (h2 : u.category = 1) (h3 : t.category = 1) (k : Z D cy ad p l e R s m args below meth c A nL n0 s0 Q (pc + 1) (ls) (v :: u :: t :: v :: rest) (M)) : Z D cy ad p l e R s m args below meth c A nL n0 s0 Q (pc) (ls) (v :: u :: t :: rest) (M) := fun H locs la hP hD hS hl => lv_dup_x2 F.x F.b d h h2 h3 (k H locs la hP hD hS hl)
theorem z_dup2 {v u : Value} (F : FxM D cy ad p m c cc nL s args own A) (d : decode cc pc = .ok (.dup2, 1)) (h : v.category = 1) (h2 : u.category = 1) (k : Z D cy ad p l e R s m args below meth c A nL n0 s0 Q (pc + 1) (ls) (v :: u :: v :: u :: rest) (M)) : Z D cy ad p l e R s m args below meth c A nL n0 s0 Q (pc) (ls) (v :: u :: rest) (M) := fun H locs la hP hD hS hl => lv_dup2_11 F.x F.b d h h2 (k H locs la hP hD hS hl)
theorem z_dup2l {v : Value} (F : FxM D cy ad p m c cc nL s args own A) (d : decode cc pc = .ok (.dup2, 1)) (h : v.category = 2) (k : Z D cy ad p l e R s m args below meth c A nL n0 s0 Q (pc + 1) (ls) (v :: v :: rest) (M)) : Z D cy ad p l e R s m args below meth c A nL n0 s0 Q (pc) (ls) (v :: rest) (M) := fun H locs la hP hD hS hl => lv_dup2_2 F.x F.b d h (k H locs la hP hD hS hl)
theorem z_goto {off : Int} {tgt : Nat} (F : FxM D cy ad p m c cc nL s args own A) (d : decode cc pc = .ok (.goto off, 3)) (ht : (pc : Int) + off = (tgt : Int)) (k : Z D cy ad p l e R s m args below meth c A nL n0 s0 Q (tgt) (ls) (st) (M)) : Z D cy ad p l e R s m args below meth c A nL n0 s0 Q (pc) (ls) (st) (M) := fun H locs la hP hD hS hl => lv_goto F.x F.b d ht (k H locs la hP hD hS hl)
theorem z_icmp_eq {x y : Int} {off : Int} {tgt : Nat} (F : FxM D cy ad p m c cc nL s args own A) (d : decode cc pc = .ok (.if_icmp .eq off, 3)) (ht : (pc : Int) + off = (tgt : Int)) (hx : In32 x) (hy : In32 y) (kt : x = y → Z D cy ad p l e R s m args below meth c A nL n0 s0 Q (tgt) (ls) (rest) (M)) (kf : ¬ x = y → Z D cy ad p l e R s m args below meth c A nL n0 s0 Q (pc + 3) (ls) (rest) (M)) : Z D cy ad p l e R s m args below meth c A nL n0 s0 Q (pc) (ls) (ii y :: ii x :: rest) (M) := fun H locs la hP hD hS hl => lv_icmp_eq F.x F.b d ht (fun h => kt ((eq32 hx hy).mp h) H locs la hP hD hS hl) (fun h => kf (fun q => h ((eq32 hx hy).mpr q)) H locs la hP hD hS hl)
theorem z_icmp_eq_any {x y : Int} {off : Int} {tgt : Nat} (F : FxM D cy ad p m c cc nL s args own A) (d : decode cc pc = .ok (.if_icmp .eq off, 3)) (ht : (pc : Int) + off = (tgt : Int)) (kt : Z D cy ad p l e R s m args below meth c A nL n0 s0 Q (tgt) (ls) (rest) (M)) (kf : Z D cy ad p l e R s m args below meth c A nL n0 s0 Q (pc + 3) (ls) (rest) (M)) : Z D cy ad p l e R s m args below meth c A nL n0 s0 Q (pc) (ls) (ii y :: ii x :: rest) (M) := fun H locs la hP hD hS hl => lv_icmp_eq F.x F.b d ht (fun _ => kt H locs la hP hD hS hl) (fun _ => kf H locs la hP hD hS hl)
theorem z_if_eq {x : Int} {off : Int} {tgt : Nat} (F : FxM D cy ad p m c cc nL s args own A) (d : decode cc pc = .ok (.ifCond .eq off, 3)) (ht : (pc : Int) + off = (tgt : Int)) (hx : In32 x) (kt : x = 0 → Z D cy ad p l e R s m args below meth c A nL n0 s0 Q (tgt) (ls) (rest) (M)) (kf : ¬ x = 0 → Z D cy ad p l e R s m args below meth c A nL n0 s0 Q (pc + 3) (ls) (rest) (M)) : Z D cy ad p l e R s m args below meth c A nL n0 s0 Q (pc) (ls) (ii x :: rest) (M) := fun H locs la hP hD hS hl => lv_if_eq F.x F.b d ht (fun h => kt ((eq32 hx (show In32 0 from by decide)).mp h) H locs la hP hD hS hl) (fun h => kf (fun q => h ((eq32 hx (show In32 0 from by decide)).mpr q)) H locs la hP hD hS hl)
theorem z_if_eq_any {x : Int} {off : Int} {tgt : Nat} (F : FxM D cy ad p m c cc nL s args own A) (d : decode cc pc = .ok (.ifCond .eq off, 3)) (ht : (pc : Int) + off = (tgt : Int)) (kt : Z D cy ad p l e R s m args below meth c A nL n0 s0 Q (tgt) (ls) (rest) (M)) (kf : Z D cy ad p l e R s m args below meth c A nL n0 s0 Q (pc + 3) (ls) (rest) (M)) : Z D cy ad p l e R s m args below meth c A nL n0 s0 Q (pc) (ls) (ii x :: rest) (M) := fun H locs la hP hD hS hl => lv_if_eq F.x F.b d ht (fun _ => kt H locs la hP hD hS hl) (fun _ => kf H locs la hP hD hS hl)
theorem z_icmp_ne {x y : Int} {off : Int} {tgt : Nat} (F : FxM D cy ad p m c cc nL s args own A) (d : decode cc pc = .ok (.if_icmp .ne off, 3)) (ht : (pc : Int) + off = (tgt : Int)) (hx : In32 x) (hy : In32 y) (kt : ¬ x = y → Z D cy ad p l e R s m args below meth c A nL n0 s0 Q (tgt) (ls) (rest) (M)) (kf : x = y → Z D cy ad p l e R s m args below meth c A nL n0 s0 Q (pc + 3) (ls) (rest) (M)) : Z D cy ad p l e R s m args below meth c A nL n0 s0 Q (pc) (ls) (ii y :: ii x :: rest) (M) := fun H locs la hP hD hS hl => lv_icmp_ne F.x F.b d ht (fun h => kt (fun q => h ((eq32 hx hy).mpr q)) H locs la hP hD hS hl) (fun h => kf ((eq32 hx hy).mp h) H locs la hP hD hS hl)
theorem z_icmp_ne_any {x y : Int} {off : Int} {tgt : Nat} (F : FxM D cy ad p m c cc nL s args own A) (d : decode cc pc = .ok (.if_icmp .ne off, 3)) (ht : (pc : Int) + off = (tgt : Int)) (kt : Z D cy ad p l e R s m args below meth c A nL n0 s0 Q (tgt) (ls) (rest) (M)) (kf : Z D cy ad p l e R s m args below meth c A nL n0 s0 Q (pc + 3) (ls) (rest) (M)) : Z D cy ad p l e R s m args below meth c A nL n0 s0 Q (pc) (ls) (ii y :: ii x :: rest) (M) := fun H locs la hP hD hS hl => lv_icmp_ne F.x F.b d ht (fun _ => kt H locs la hP hD hS hl) (fun _ => kf H locs la hP hD hS hl)
theorem z_if_ne {x : Int} {off : Int} {tgt : Nat} (F : FxM D cy ad p m c cc nL s args own A) (d : decode cc pc = .ok (.ifCond .ne off, 3)) (ht : (pc : Int) + off = (tgt : Int)) (hx : In32 x) (kt : ¬ x = 0 → Z D cy ad p l e R s m args below meth c A nL n0 s0 Q (tgt) (ls) (rest) (M)) (kf : x = 0 → Z D cy ad p l e R s m args below meth c A nL n0 s0 Q (pc + 3) (ls) (rest) (M)) : Z D cy ad p l e R s m args below meth c A nL n0 s0 Q (pc) (ls) (ii x :: rest) (M) := fun H locs la hP hD hS hl => lv_if_ne F.x F.b d ht (fun h => kt (fun q => h ((eq32 hx (show In32 0 from by decide)).mpr q)) H locs la hP hD hS hl) (fun h => kf ((eq32 hx (show In32 0 from by decide)).mp h) H locs la hP hD hS hl)
theorem z_if_ne_any {x : Int} {off : Int} {tgt : Nat} (F : FxM D cy ad p m c cc nL s args own A) (d : decode cc pc = .ok (.ifCond .ne off, 3)) (ht : (pc : Int) + off = (tgt : Int)) (kt : Z D cy ad p l e R s m args below meth c A nL n0 s0 Q (tgt) (ls) (rest) (M)) (kf : Z D cy ad p l e R s m args below meth c A nL n0 s0 Q (pc + 3) (ls) (rest) (M)) : Z D cy ad p l e R s m args below meth c A nL n0 s0 Q (pc) (ls) (ii x :: rest) (M) := fun H locs la hP hD hS hl => lv_if_ne F.x F.b d ht (fun _ => kt H locs la hP hD hS hl) (fun _ => kf H locs la hP hD hS hl)
theorem z_icmp_lt {x y : Int} {off : Int} {tgt : Nat} (F : FxM D cy ad p m c cc nL s args own A) (d : decode cc pc = .ok (.if_icmp .lt off, 3)) (ht : (pc : Int) + off = (tgt : Int)) (hx : In32 x) (hy : In32 y) (kt : x < y → Z D cy ad p l e R s m args below meth c A nL n0 s0 Q (tgt) (ls) (rest) (M)) (kf : y ≤ x → Z D cy ad p l e R s m args below meth c A nL n0 s0 Q (pc + 3) (ls) (rest) (M)) : Z D cy ad p l e R s m args below meth c A nL n0 s0 Q (pc) (ls) (ii y :: ii x :: rest) (M) := fun H locs la hP hD hS hl => lv_icmp_lt F.x F.b d ht (fun h => kt ((lt32 hx hy).mp h) H locs la hP hD hS hl) (fun h => kf (Int.not_lt.mp (fun q => h ((lt32 hx hy).mpr q))) H locs la hP hD hS hl)
theorem z_icmp_lt_any {x y : Int} {off : Int} {tgt : Nat} (F : FxM D cy ad p m c cc nL s args own A) (d : decode cc pc = .ok (.if_icmp .lt off, 3)) (ht : (pc : Int) + off = (tgt : Int)) (kt : Z D cy ad p l e R s m args below meth c A nL n0 s0 Q (tgt) (ls) (rest) (M)) (kf : Z D cy ad p l e R s m args below meth c A nL n0 s0 Q (pc + 3) (ls) (rest) (M)) : Z D cy ad p l e R s m args below meth c A nL n0 s0 Q (pc) (ls) (ii y :: ii x :: rest) (M) := fun H locs la hP hD hS hl => lv_icmp_lt F.x F.b d ht (fun _ => kt H locs la hP hD hS hl) (fun _ => kf H locs la hP hD hS hl)
theorem z_if_lt {x : Int} {off : Int} {tgt : Nat} (F : FxM D cy ad p m c cc nL s args own A) (d : decode cc pc = .ok (.ifCond .lt off, 3)) (ht : (pc : Int) + off = (tgt : Int)) (hx : In32 x) (kt : x < 0 → Z D cy ad p l e R s m args below meth c A nL n0 s0 Q (tgt) (ls) (rest) (M)) (kf : 0 ≤ x → Z D cy ad p l e R s m args below meth c A nL n0 s0 Q (pc + 3) (ls) (rest) (M)) : Z D cy ad p l e R s m args below meth c A nL n0 s0 Q (pc) (ls) (ii x :: rest) (M) := fun H locs la hP hD hS hl => lv_if_lt F.x F.b d ht (fun h => kt ((lt32 hx (show In32 0 from by decide)).mp h) H locs la hP hD hS hl) (fun h => kf (Int.not_lt.mp (fun q => h ((lt32 hx (show In32 0 from by decide)).mpr q))) H locs la hP hD hS hl)
theorem z_if_lt_any {x : Int} {off : Int} {tgt : Nat} (F : FxM D cy ad p m c cc nL s args own A) (d : decode cc pc = .ok (.ifCond .lt off, 3)) (ht : (pc : Int) + off = (tgt : Int)) (kt : Z D cy ad p l e R s m args below meth c A nL n0 s0 Q (tgt) (ls) (rest) (M)) (kf : Z D cy ad p l e R s m args below meth c A nL n0 s0 Q (pc + 3) (ls) (rest) (M)) : Z D cy ad p l e R s m args below meth c A nL n0 s0 Q (pc) (ls) (ii x :: rest) (M) := fun H locs la hP hD hS hl => lv_if_lt F.x F.b d ht (fun _ => kt H locs la hP hD hS hl) (fun _ => kf H locs la hP hD hS hl)
theorem z_icmp_ge {x y : Int} {off : Int} {tgt : Nat} (F : FxM D cy ad p m c cc nL s args own A) (d : decode cc pc = .ok (.if_icmp .ge off, 3)) (ht : (pc : Int) + off = (tgt : Int)) (hx : In32 x) (hy : In32 y) (kt : y ≤ x → Z D cy ad p l e R s m args below meth c A nL n0 s0 Q (tgt) (ls) (rest) (M)) (kf : x < y → Z D cy ad p l e R s m args below meth c A nL n0 s0 Q (pc + 3) (ls) (rest) (M)) : Z D cy ad p l e R s m args below meth c A nL n0 s0 Q (pc) (ls) (ii y :: ii x :: rest) (M) := fun H locs la hP hD hS hl => lv_icmp_ge F.x F.b d ht (fun h => kt ((le32 hy hx).mp h) H locs la hP hD hS hl) (fun h => kf (Int.not_le.mp (fun q => h ((le32 hy hx).mpr q))) H locs la hP hD hS hl)
theorem z_icmp_ge_any {x y : Int} {off : Int} {tgt : Nat} (F : FxM D cy ad p m c cc nL s args own A) (d : decode cc pc = .ok (.if_icmp .ge off, 3)) (ht : (pc : Int) + off = (tgt : Int)) (kt : Z D cy ad p l e R s m args below meth c A nL n0 s0 Q (tgt) (ls) (rest) (M)) (kf : Z D cy ad p l e R s m args below meth c A nL n0 s0 Q (pc + 3) (ls) (rest) (M)) : Z D cy ad p l e R s m args below meth c A nL n0 s0 Q (pc) (ls) (ii y :: ii x :: rest) (M) := fun H locs la hP hD hS hl => lv_icmp_ge F.x F.b d ht (fun _ => kt H locs la hP hD hS hl) (fun _ => kf H locs la hP hD hS hl)
theorem z_if_ge {x : Int} {off : Int} {tgt : Nat} (F : FxM D cy ad p m c cc nL s args own A) (d : decode cc pc = .ok (.ifCond .ge off, 3)) (ht : (pc : Int) + off = (tgt : Int)) (hx : In32 x) (kt : 0 ≤ x → Z D cy ad p l e R s m args below meth c A nL n0 s0 Q (tgt) (ls) (rest) (M)) (kf : x < 0 → Z D cy ad p l e R s m args below meth c A nL n0 s0 Q (pc + 3) (ls) (rest) (M)) : Z D cy ad p l e R s m args below meth c A nL n0 s0 Q (pc) (ls) (ii x :: rest) (M) := fun H locs la hP hD hS hl => lv_if_ge F.x F.b d ht (fun h => kt ((le32 (show In32 0 from by decide) hx).mp h) H locs la hP hD hS hl) (fun h => kf (Int.not_le.mp (fun q => h ((le32 (show In32 0 from by decide) hx).mpr q))) H locs la hP hD hS hl)
theorem z_if_ge_any {x : Int} {off : Int} {tgt : Nat} (F : FxM D cy ad p m c cc nL s args own A) (d : decode cc pc = .ok (.ifCond .ge off, 3)) (ht : (pc : Int) + off = (tgt : Int)) (kt : Z D cy ad p l e R s m args below meth c A nL n0 s0 Q (tgt) (ls) (rest) (M)) (kf : Z D cy ad p l e R s m args below meth c A nL n0 s0 Q (pc + 3) (ls) (rest) (M)) : Z D cy ad p l e R s m args below meth c A nL n0 s0 Q (pc) (ls) (ii x :: rest) (M) := fun H locs la hP hD hS hl => lv_if_ge F.x F.b d ht (fun _ => kt H locs la hP hD hS hl) (fun _ => kf H locs la hP hD hS hl)
theorem z_icmp_gt {x y : Int} {off : Int} {tgt : Nat} (F : FxM D cy ad p m c cc nL s args own A) (d : decode cc pc = .ok (.if_icmp .gt off, 3)) (ht : (pc : Int) + off = (tgt : Int)) (hx : In32 x) (hy : In32 y) (kt : y < x → Z D cy ad p l e R s m args below meth c A nL n0 s0 Q (tgt) (ls) (rest) (M)) (kf : x ≤ y → Z D cy ad p l e R s m args below meth c A nL n0 s0 Q (pc + 3) (ls) (rest) (M)) : Z D cy ad p l e R s m args below meth c A nL n0 s0 Q (pc) (ls) (ii y :: ii x :: rest) (M) := fun H locs la hP hD hS hl => lv_icmp_gt F.x F.b d ht (fun h => kt ((lt32 hy hx).mp h) H locs la hP hD hS hl) (fun h => kf (Int.not_lt.mp (fun q => h ((lt32 hy hx).mpr q))) H locs la hP hD hS hl)
theorem z_icmp_gt_any {x y : Int} {off : Int} {tgt : Nat} (F : FxM D cy ad p m c cc nL s args own A) (d : decode cc pc = .ok (.if_icmp .gt off, 3)) (ht : (pc : Int) + off = (tgt : Int)) (kt : Z D cy ad p l e R s m args below meth c A nL n0 s0 Q (tgt) (ls) (rest) (M)) (kf : Z D cy ad p l e R s m args below meth c A nL n0 s0 Q (pc + 3) (ls) (rest) (M)) : Z D cy ad p l e R s m args below meth c A nL n0 s0 Q (pc) (ls) (ii y :: ii x :: rest) (M) := fun H locs la hP hD hS hl => lv_icmp_gt F.x F.b d ht (fun _ => kt H locs la hP hD hS hl) (fun _ => kf H locs la hP hD hS hl)
theorem z_if_gt {x : Int} {off : Int} {tgt : Nat} (F : FxM D cy ad p m c cc nL s args own A) (d : decode cc pc = .ok (.ifCond .gt off, 3)) (ht : (pc : Int) + off = (tgt : Int)) (hx : In32 x) (kt : 0 < x → Z D cy ad p l e R s m args below meth c A nL n0 s0 Q (tgt) (ls) (rest) (M)) (kf : x ≤ 0 → Z D cy ad p l e R s m args below meth c A nL n0 s0 Q (pc + 3) (ls) (rest) (M)) : Z D cy ad p l e R s m args below meth c A nL n0 s0 Q (pc) (ls) (ii x :: rest) (M) := fun H locs la hP hD hS hl => lv_if_gt F.x F.b d ht (fun h => kt ((lt32 (show In32 0 from by decide) hx).mp h) H locs la hP hD hS hl) (fun h => kf (Int.not_lt.mp (fun q => h ((lt32 (show In32 0 from by decide) hx).mpr q))) H locs la hP hD hS hl)
theorem z_if_gt_any {x : Int} {off : Int} {tgt : Nat} (F : FxM D cy ad p m c cc nL s args own A) (d : decode cc pc = .ok (.ifCond .gt off, 3)) (ht : (pc : Int) + off = (tgt : Int)) (kt : Z D cy ad p l e R s m args below meth c A nL n0 s0 Q (tgt) (ls) (rest) (M)) (kf : Z D cy ad p l e R s m args below meth c A nL n0 s0 Q (pc + 3) (ls) (rest) (M)) : Z D cy ad p l e R s m args below meth c A nL n0 s0 Q (pc) (ls) (ii x :: rest) (M) := fun H locs la hP hD hS hl => lv_if_gt F.x F.b d ht (fun _ => kt H locs la hP hD hS hl) (fun _ => kf H locs la hP hD hS hl)
theorem z_icmp_le {x y : Int} {off : Int} {tgt : Nat} (F : FxM D cy ad p m c cc nL s args own A) (d : decode cc pc = .ok (.if_icmp .le off, 3)) (ht : (pc : Int) + off = (tgt : Int)) (hx : In32 x) (hy : In32 y) (kt : x ≤ y → Z D cy ad p l e R s m args below meth c A nL n0 s0 Q (tgt) (ls) (rest) (M)) (kf : y < x → Z D cy ad p l e R s m args below meth c A nL n0 s0 Q (pc + 3) (ls) (rest) (M)) : Z D cy ad p l e R s m args below meth c A nL n0 s0 Q (pc) (ls) (ii y :: ii x :: rest) (M) := fun H locs la hP hD hS hl => lv_icmp_le F.x F.b d ht (fun h => kt ((le32 hx hy).mp h) H locs la hP hD hS hl) (fun h => kf (Int.not_le.mp (fun q => h ((le32 hx hy).mpr q))) H locs la hP hD hS hl)
theorem z_icmp_le_any {x y : Int} {off : Int} {tgt : Nat} (F : FxM D cy ad p m c cc nL s args own A) (d : decode cc pc = .ok (.if_icmp .le off, 3)) (ht : (pc : Int) + off = (tgt : Int)) (kt : Z D cy ad p l e R s m args below meth c A nL n0 s0 Q (tgt) (ls) (rest) (M)) (kf : Z D cy ad p l e R s m args below meth c A nL n0 s0 Q (pc + 3) (ls) (rest) (M)) : Z D cy ad p l e R s m args below meth c A nL n0 s0 Q (pc) (ls) (ii y :: ii x :: rest) (M) := fun H locs la hP hD hS hl => lv_icmp_le F.x F.b d ht (fun _ => kt H locs la hP hD hS hl) (fun _ => kf H locs la hP hD hS hl)
theorem z_if_le {x : Int} {off : Int} {tgt : Nat} (F : FxM D cy ad p m c cc nL s args own A) (d : decode cc pc = .ok (.ifCond .le off, 3)) (ht : (pc : Int) + off = (tgt : Int)) (hx : In32 x) (kt : x ≤ 0 → Z D cy ad p l e R s m args below meth c A nL n0 s0 Q (tgt) (ls) (rest) (M)) (kf : 0 < x → Z D cy ad p l e R s m args below meth c A nL n0 s0 Q (pc + 3) (ls) (rest) (M)) : Z D cy ad p l e R s m args below meth c A nL n0 s0 Q (pc) (ls) (ii x :: rest) (M) := fun H locs la hP hD hS hl => lv_if_le F.x F.b d ht (fun h => kt ((le32 hx (show In32 0 from by decide)).mp h) H locs la hP hD hS hl) (fun h => kf (Int.not_le.mp (fun q => h ((le32 hx (show In32 0 from by decide)).mpr q))) H locs la hP hD hS hl)
theorem z_if_le_any {x : Int} {off : Int} {tgt : Nat} (F : FxM D cy ad p m c cc nL s args own A) (d : decode cc pc = .ok (.ifCond .le off, 3)) (ht : (pc : Int) + off = (tgt : Int)) (kt : Z D cy ad p l e R s m args below meth c A nL n0 s0 Q (tgt) (ls) (rest) (M)) (kf : Z D cy ad p l e R s m args below meth c A nL n0 s0 Q (pc + 3) (ls) (rest) (M)) : Z D cy ad p l e R s m args below meth c A nL n0 s0 Q (pc) (ls) (ii x :: rest) (M) := fun H locs la hP hD hS hl => lv_if_le F.x F.b d ht (fun _ => kt H locs la hP hD hS hl) (fun _ => kf H locs la hP hD hS hl)
theorem z_lcmp {x y : Int} (F : FxM D cy ad p m c cc nL s args own A) (d : decode cc pc = .ok (.lcmp, 1)) (hx : In64 x) (hy : In64 y) (k : ∀ z : Int, (z = 1 ∧ y < x) ∨ (z = 0 ∧ x = y) ∨ (z = -1 ∧ x < y) → Z D cy ad p l e R s m args below meth c A nL n0 s0 Q (pc + 1) (ls) (ii z :: rest) (M)) : Z D cy ad p l e R s m args below meth c A nL n0 s0 Q (pc) (ls) (ll y :: ll x :: rest) (M) := by
  intro H locs la hP hD hS hl
  refine W.lcmp F.x F.b d ?_
  by_cases h1 : y < x
  · have e1 : lg_cmp (Int64.ofInt x) (Int64.ofInt y) = Int32.ofInt 1 := by unfold lg_cmp; rw [if_pos ((lt64 hy hx).mpr h1)]; rfl
    rw [e1]; exact k 1 (Or.inl ⟨rfl, h1⟩) H locs la hP hD hS hl
  · have n1 : ¬ (Int64.ofInt x > Int64.ofInt y) := fun q => h1 ((lt64 hy hx).mp q)
    by_cases h2 : x = y
    · have e1 : lg_cmp (Int64.ofInt x) (Int64.ofInt y) = Int32.ofInt 0 := by unfold lg_cmp; rw [if_neg n1, if_pos (by rw [h2])]; rfl
      rw [e1]; exact k 0 (Or.inr (Or.inl ⟨rfl, h2⟩)) H locs la hP hD hS hl
    · have e1 : lg_cmp (Int64.ofInt x) (Int64.ofInt y) = Int32.ofInt (-1) := by unfold lg_cmp; rw [if_neg n1, if_neg (fun q => h2 ((eq64 hx hy).mp q))]; rfl
      rw [e1]; exact k (-1) (Or.inr (Or.inr ⟨rfl, by omega⟩)) H locs la hP hD hS hl
theorem z_tabOut {x dflt lo hi : Int} {offs : Array Int} {len tgt : Nat} (F : FxM D cy ad p m c cc nL s args own A) (d : decode cc pc = .ok (.tableswitch dflt lo hi offs, len)) (hx : In32 x) (h : x < lo ∨ hi < x) (ht : (pc : Int) + dflt = (tgt : Int)) (k : Z D cy ad p l e R s m args below meth c A nL n0 s0 Q (tgt) (ls) (rest) (M)) : Z D cy ad p l e R s m args below meth c A nL n0 s0 Q (pc) (ls) (ii x :: rest) (M) := fun H locs la hP hD hS hl => lv_tableOut F.x F.b d (by rw [o32 hx]; exact h) ht (k H locs la hP hD hS hl)
theorem z_tabIn {x dflt lo hi off : Int} {offs : Array Int} {len tgt : Nat} (F : FxM D cy ad p m c cc nL s args own A) (d : decode cc pc = .ok (.tableswitch dflt lo hi offs, len)) (hx : In32 x) (h1 : ¬ x < lo) (h2 : ¬ hi < x) (ho : offs[(x - lo).toNat]? = some off) (ht : (pc : Int) + off = (tgt : Int)) (k : Z D cy ad p l e R s m args below meth c A nL n0 s0 Q (tgt) (ls) (rest) (M)) : Z D cy ad p l e R s m args below meth c A nL n0 s0 Q (pc) (ls) (ii x :: rest) (M) := fun H locs la hP hD hS hl => lv_tableIn F.x F.b d (by rw [o32 hx]; exact h1) (by rw [o32 hx]; exact h2) (by rw [o32 hx]; exact ho) ht (k H locs la hP hD hS hl)
theorem z_lookup {x dflt off : Int} {ps : Array (Int × Int)} {len tgt : Nat} (F : FxM D cy ad p m c cc nL s args own A) (d : decode cc pc = .ok (.lookupswitch dflt ps, len)) (hp : (ps.toList.zip (ps.toList.drop 1)).all (fun (a, next) => a.1 < next.1) = true) (hx : In32 x) (ho : Op.lookupswitch.offset ps.toList dflt x = off) (ht : (pc : Int) + off = (tgt : Int)) (k : Z D cy ad p l e R s m args below meth c A nL n0 s0 Q (tgt) (ls) (rest) (M)) : Z D cy ad p l e R s m args below meth c A nL n0 s0 Q (pc) (ls) (ii x :: rest) (M) := fun H locs la hP hD hS hl => lv_lookup F.x F.b d hp (by rw [o32 hx]; exact ho) ht (k H locs la hP hD hS hl)
theorem sw_off {x a o d : Int} {r : List (Int × Int)} (h : ¬ x = a) : Op.lookupswitch.offset ((a, o) :: r) d x = Op.lookupswitch.offset r d x := by show (if a = x then o else _) = _; rw [if_neg (fun q => h q.symm)]
/-! fields -/
theorem z_get {C : String} {T : u_T} {N ci index k j : Nat} {fk : List (Option Nat)} {lo hi : Int} (F : FxM D cy ad p m c cc nL s args own A) (hcl : vwCl[ci]? = some (C, T, N)) (hin : ∀ w ∈ u_ws C T N, w ∈ gtbl) (hj : j < N) (hlk : Cond.fieldLink own index C (T j).2.1 (T j).2.2.1 ∈ gtbl) (hsame : (T j).1 = C)
    (hI : Inv M) (hG : Gs[k]? = some (.inl (ci, fk))) (hf : fk[j]? = some none) (hB : Bd k j = (lo, hi)) (d : decode cc pc = .ok (.getfield index, 3)) (kk : ∀ v : Int, v = M k j → lo ≤ v → v ≤ hi → Z D cy ad p l e R s m args below meth c A nL n0 s0 Q (pc + 3) (ls) (ii v :: rest) (M)) : Z D cy ad p l e R s m args below meth c A nL n0 s0 Q (pc) (ls) (.ref (ad k) :: rest) (M) := by
  intro H locs la hP hD hS hl
  refine va_get (ref := C) F.x F.b (fun w h => F.t h) hin F.o F.K hP k (wld_get hG) hcl j hj (F.t hlk) (fun x h => by rw [hsame] at h; exact h) (by have := fL_get (ad := ad) (f := M k) fk 0 j none hf; rw [Nat.zero_add] at this; exact this) d ?_
  exact kk _ rfl (hI.at hB).1 (hI.at hB).2 H locs la hP hD hS hl
theorem z_getr {C : String} {T : u_T} {N ci index k j r : Nat} {fk : List (Option Nat)} (F : FxM D cy ad p m c cc nL s args own A) (hcl : vwCl[ci]? = some (C, T, N)) (hin : ∀ w ∈ u_ws C T N, w ∈ gtbl) (hj : j < N) (hlk : Cond.fieldLink own index C (T j).2.1 (T j).2.2.1 ∈ gtbl) (hsame : (T j).1 = C)
    (hG : Gs[k]? = some (.inl (ci, fk))) (hf : fk[j]? = some (some r)) (d : decode cc pc = .ok (.getfield index, 3)) (kk : Z D cy ad p l e R s m args below meth c A nL n0 s0 Q (pc + 3) (ls) (.ref (ad r) :: rest) (M)) : Z D cy ad p l e R s m args below meth c A nL n0 s0 Q (pc) (ls) (.ref (ad k) :: rest) (M) := by
  intro H locs la hP hD hS hl
  exact va_get (ref := C) F.x F.b (fun w h => F.t h) hin F.o F.K hP k (wld_get hG) hcl j hj (F.t hlk) (fun x h => by rw [hsame] at h; exact h) (by have := fL_get (ad := ad) (f := M k) fk 0 j (some r) hf; exact this) d (kk H locs la hP hD hS hl)
theorem wld_put {k j ci : Nat} {fk : List (Option Nat)} {v : Int} (hG : Gs[k]? = some (.inl (ci, fk))) (hf : fk[j]? = some none) : (wld ad cy M).set k (ad k, .inr (ci, (fL ad (M k) 0 fk).set j (ii v))) = wld ad cy (up2 M k j v) := by
  have h := fL_set (ad := ad) (f := M k) (v := v) fk 0 j hf
  rw [Nat.zero_add] at h
  rw [h, ← upR_up2]
  exact wld_set (f := fun b => if b = j then v else M k b) hG
theorem z_put {C : String} {T : u_T} {N ci index k j : Nat} {fk : List (Option Nat)} {lo hi v : Int} {ty : FieldType} (F : FxM D cy ad p m c cc nL s args own A) (hcl : vwCl[ci]? = some (C, T, N)) (hin : ∀ w ∈ u_ws C T N, w ∈ gtbl) (ty0 : Nat → FieldType) (hty : ∀ k, k < N → parseFieldDescriptor (T k).2.2.1 = some (ty0 k)) (hnm : ∀ a, a < N → ∀ b, b < N → a ≠ b → (T a).2.1 ≠ (T b).2.1) (hj : j < N) (hlk : Cond.fieldLink own index C (T j).2.1 (T j).2.2.1 ∈ gtbl) (hsame : (T j).1 = C) (hfin : (T j).2.2.2 = false) (hd : parseFieldDescriptor (T j).2.2.1 = some ty)
    (hI : Inv M) (hG : Gs[k]? = some (.inl (ci, fk))) (hf : fk[j]? = some none) (hB : Bd k j = (lo, hi)) (hn : narrow ty (ii v) = ii v) (hfit : fits ty (ii v) = true) (d : decode cc pc = .ok (.putfield index, 3)) (h1 : lo ≤ v) (h2 : v ≤ hi)
    (kk : ∀ M' : Mem, Inv M' → M' k j = v → (∀ a b, ¬ (a = k ∧ b = j) → M' a b = M a b) → Z D cy ad p l e R s m args below meth c A nL n0 s0 Q (pc + 3) (ls) (rest) (M')) : Z D cy ad p l e R s m args below meth c A nL n0 s0 Q (pc) (ls) (ii v :: .ref (ad k) :: rest) (M) := by
  intro H locs la hP hD hS hl
  have hlen : j < (fL ad (M k) 0 fk).length := by rw [fL_len]; exact (List.getElem?_eq_some_iff.mp hf).1
  refine va_put (ref := C) F.x F.b (fun w h => F.t h) hin ty0 hty hnm F.o F.K hP hD hS k (wld_get hG) hcl j hj (F.t hlk) (fun x h => by rw [hsame] at h; exact h) hfin hd hn hfit hlen d (fun H1 locs1 hP1 hD1 hS1 => ?_)
  rw [wld_put hG hf] at hP1 hD1
  exact kk _ (hI.up hB h1 h2) up2_same (fun a b h => up2_other h) H1 locs1 la hP1 hD1 hS1 hl
/-! arrays -/
theorem z_iald {k n : Nat} {lo hi x : Int} (F : FxM D cy ad p m c cc nL s args own A) (hI : Inv M) (hG : Gs[k]? = some (.inr (.inl (1, n, false)))) (h0 : 0 ≤ x) (h1 : x < n) (hn : n ≤ 100000) (hB : Bd k x.toNat = (lo, hi)) (d : decode cc pc = .ok (.iaload, 1)) (kk : ∀ v : Int, v = M k x.toNat → lo ≤ v → v ≤ hi → Z D cy ad p l e R s m args below meth c A nL n0 s0 Q (pc + 1) (ls) (ii v :: rest) (M)) : Z D cy ad p l e R s m args below meth c A nL n0 s0 Q (pc) (ls) (ii x :: .ref (ad k) :: rest) (M) := by
  intro H locs la hP hD hS hl
  refine va_iald F.x F.b F.K hP k 1 (wld_get hG) rfl (in_32 h0 h1 hn) d ?_
  rw [cl_32 h0 (by omega)]
  exact kk _ rfl (hI.at hB).1 (hI.at hB).2 H locs la hP hD hS hl
theorem z_bald {k n : Nat} {lo hi x : Int} (F : FxM D cy ad p m c cc nL s args own A) (hI : Inv M) (hG : Gs[k]? = some (.inr (.inl (0, n, false)))) (h0 : 0 ≤ x) (h1 : x < n) (hn : n ≤ 100000) (hB : Bd k x.toNat = (lo, hi)) (d : decode cc pc = .ok (.baload, 1)) (kk : ∀ v : Int, v = M k x.toNat → lo ≤ v → v ≤ hi → Z D cy ad p l e R s m args below meth c A nL n0 s0 Q (pc + 1) (ls) (ii v :: rest) (M)) : Z D cy ad p l e R s m args below meth c A nL n0 s0 Q (pc) (ls) (ii x :: .ref (ad k) :: rest) (M) := by
  intro H locs la hP hD hS hl
  refine va_bald F.x F.b F.K hP k 0 (wld_get hG) rfl (in_32 h0 h1 hn) d ?_
  rw [cl_32 h0 (by omega)]
  exact kk _ rfl (hI.at hB).1 (hI.at hB).2 H locs la hP hD hS hl
theorem z_ialdB {k n : Nat} {x : Int} (F : FxM D cy ad p m c cc nL s args own A) (hI : Inv M) (hG : Gs[k]? = some (.inr (.inl (1, n, false)))) (h0 : 0 ≤ x) (h1 : x < n) (hn : n ≤ 100000) (hw : -2147483648 ≤ (Bd k x.toNat).1 ∧ (Bd k x.toNat).2 ≤ 2147483647) (d : decode cc pc = .ok (.iaload, 1)) (kk : ∀ v : Int, v = M k x.toNat → (Bd k x.toNat).1 ≤ v → v ≤ (Bd k x.toNat).2 → In32 v → Z D cy ad p l e R s m args below meth c A nL n0 s0 Q (pc + 1) (ls) (ii v :: rest) (M)) : Z D cy ad p l e R s m args below meth c A nL n0 s0 Q (pc) (ls) (ii x :: .ref (ad k) :: rest) (M) :=
  z_iald (lo := (Bd k x.toNat).1) (hi := (Bd k x.toNat).2) F hI hG h0 h1 hn rfl d (fun v e a b => kk v e a b ⟨Int.le_trans hw.1 a, Int.le_trans b hw.2⟩)
theorem z_zald {k n : Nat} {lo hi x : Int} (F : FxM D cy ad p m c cc nL s args own A) (hI : Inv M) (hG : Gs[k]? = some (.inr (.inl (3, n, false)))) (h0 : 0 ≤ x) (h1 : x < n) (hn : n ≤ 100000) (hB : Bd k x.toNat = (lo, hi)) (d : decode cc pc = .ok (.baload, 1)) (kk : ∀ v : Int, v = M k x.toNat → lo ≤ v → v ≤ hi → Z D cy ad p l e R s m args below meth c A nL n0 s0 Q (pc + 1) (ls) (ii v :: rest) (M)) : Z D cy ad p l e R s m args below meth c A nL n0 s0 Q (pc) (ls) (ii x :: .ref (ad k) :: rest) (M) := by
  intro H locs la hP hD hS hl
  refine va_zald F.x F.b F.K hP k 3 (wld_get hG) rfl (in_32 h0 h1 hn) d ?_
  rw [cl_32 h0 (by omega)]
  exact kk _ rfl (hI.at hB).1 (hI.at hB).2 H locs la hP hD hS hl
theorem z_lald {k n : Nat} {lo hi x : Int} (F : FxM D cy ad p m c cc nL s args own A) (hI : Inv M) (hG : Gs[k]? = some (.inr (.inl (2, n, true)))) (h0 : 0 ≤ x) (h1 : x < n) (hn : n ≤ 100000) (hB : Bd k x.toNat = (lo, hi)) (d : decode cc pc = .ok (.laload, 1)) (kk : ∀ v : Int, v = M k x.toNat → lo ≤ v → v ≤ hi → Z D cy ad p l e R s m args below meth c A nL n0 s0 Q (pc + 1) (ls) (ll v :: rest) (M)) : Z D cy ad p l e R s m args below meth c A nL n0 s0 Q (pc) (ls) (ii x :: .ref (ad k) :: rest) (M) := by
  intro H locs la hP hD hS hl
  refine va_lald F.x F.b F.K hP k 2 (wld_get hG) rfl (in_32 h0 h1 hn) d ?_
  rw [cl_32 h0 (by omega)]
  exact kk _ rfl (hI.at hB).1 (hI.at hB).2 H locs la hP hD hS hl
theorem z_aald {k t r : Nat} {C : String} {rs : List Nat} {x : Int} (F : FxM D cy ad p m c cc nL s args own A) (hG : Gs[k]? = some (.inr (.inr (t, rs)))) (ht : (TY cy)[t]? = some (cy t, .object C)) (h0 : 0 ≤ x) (h1 : x < rs.length) (hn : rs.length ≤ 100000) (hr : rs[x.toNat]? = some r) (d : decode cc pc = .ok (.aaload, 1)) (kk : Z D cy ad p l e R s m args below meth c A nL n0 s0 Q (pc + 1) (ls) (.ref (ad r) :: rest) (M)) : Z D cy ad p l e R s m args below meth c A nL n0 s0 Q (pc) (ls) (ii x :: .ref (ad k) :: rest) (M) := by
  intro H locs la hP hD hS hl
  refine va_aldq F.x F.b F.K hP k t (wld_get hG) ht (in_32 h0 h1 hn) d ?_
  rw [cl_32 h0 (by omega), hr]
  exact kk H locs la hP hD hS hl
theorem z_alen {k n t : Nat} {b : Bool} {ty : FieldType} {x : Int} (F : FxM D cy ad p m c cc nL s args own A) (hG : Gs[k]? = some (.inr (.inl (t, n, b)))) (ht : (TY cy)[t]? = some (cy t, ty)) (hx : (n : Int) = x) (d : decode cc pc = .ok (.arraylength, 1)) (kk : Z D cy ad p l e R s m args below meth c A nL n0 s0 Q (pc + 1) (ls) (ii x :: rest) (M)) : Z D cy ad p l e R s m args below meth c A nL n0 s0 Q (pc) (ls) (.ref (ad k) :: rest) (M) := by
  subst hx
  intro H locs la hP hD hS hl
  cases b with
  | false => exact va_alen (v := Int32.ofInt (n : Int)) F.x F.b F.K hP k t (wld_get hG) ht (Int32.ofInt_eq_ofNat).symm d (kk H locs la hP hD hS hl)
  | true => exact va_alen (v := Int32.ofInt (n : Int)) F.x F.b F.K hP k t (wld_get hG) ht (Int32.ofInt_eq_ofNat).symm d (kk H locs la hP hD hS hl)
theorem z_alenR {k t : Nat} {rs : List Nat} {ty : FieldType} {x : Int} (F : FxM D cy ad p m c cc nL s args own A) (hG : Gs[k]? = some (.inr (.inr (t, rs)))) (ht : (TY cy)[t]? = some (cy t, ty)) (hx : (rs.length : Int) = x) (d : decode cc pc = .ok (.arraylength, 1)) (kk : Z D cy ad p l e R s m args below meth c A nL n0 s0 Q (pc + 1) (ls) (ii x :: rest) (M)) : Z D cy ad p l e R s m args below meth c A nL n0 s0 Q (pc) (ls) (.ref (ad k) :: rest) (M) := by
  subst hx
  intro H locs la hP hD hS hl
  exact va_alen (v := Int32.ofInt (rs.length : Int)) F.x F.b F.K hP k t (wld_get hG) ht (Int32.ofInt_eq_ofNat).symm d (kk H locs la hP hD hS hl)
theorem updI {f : Nat → Int} {j : Nat} {v : Int} : upd (fun i => Int32.ofInt (f i)) j (Int32.ofInt v) = fun i => Int32.ofInt (if i = j then v else f i) := by
  funext i; unfold upd; split <;> rfl
theorem updL64 {f : Nat → Int} {j : Nat} {v : Int} : vp_updL (fun i => Int64.ofInt (f i)) j (Int64.ofInt v) = fun i => Int64.ofInt (if i = j then v else f i) := by
  funext i; unfold vp_updL; split <;> rfl
theorem wld_ast {k j t n : Nat} {v : Int} (hG : Gs[k]? = some (.inr (.inl (t, n, false)))) : (wld ad cy M).set k (ad k, .inl (cy t, n, .inl (upd (fun i => Int32.ofInt (M k i)) j (Int32.ofInt v)))) = wld ad cy (up2 M k j v) := by
  rw [updI, ← upR_up2]
  exact wld_set (f := fun b => if b = j then v else M k b) hG
theorem wld_lst {k j t n : Nat} {v : Int} (hG : Gs[k]? = some (.inr (.inl (t, n, true)))) : (wld ad cy M).set k (ad k, .inl (cy t, n, .inr (.inl (vp_updL (fun i => Int64.ofInt (M k i)) j (Int64.ofInt v))))) = wld ad cy (up2 M k j v) := by
  rw [updL64, ← upR_up2]
  exact wld_set (f := fun b => if b = j then v else M k b) hG
theorem z_iast {k n : Nat} {lo hi x v : Int} (F : FxM D cy ad p m c cc nL s args own A) (hI : Inv M) (hG : Gs[k]? = some (.inr (.inl (1, n, false)))) (h0 : 0 ≤ x) (h1 : x < n) (hn : n ≤ 100000) (hB : Bd k x.toNat = (lo, hi)) (d : decode cc pc = .ok (.iastore, 1)) (hl1 : lo ≤ v) (hl2 : v ≤ hi)
    (kk : ∀ M' : Mem, Inv M' → M' k x.toNat = v → (∀ a b, ¬ (a = k ∧ b = x.toNat) → M' a b = M a b) → Z D cy ad p l e R s m args below meth c A nL n0 s0 Q (pc + 1) (ls) (rest) (M')) : Z D cy ad p l e R s m args below meth c A nL n0 s0 Q (pc) (ls) (ii v :: ii x :: .ref (ad k) :: rest) (M) := by
  intro H locs la hP hD hS hl
  refine va_iast F.x F.b F.K hP hD hS k 1 (wld_get hG) rfl (in_32 h0 h1 hn) d (fun H1 locs1 hP1 hD1 hS1 => ?_)
  rw [cl_32 h0 (by omega), wld_ast hG] at hP1 hD1
  exact kk _ (hI.up hB hl1 hl2) up2_same (fun a b h => up2_other h) H1 locs1 la hP1 hD1 hS1 hl
theorem z_iastB {k n : Nat} {x v : Int} (F : FxM D cy ad p m c cc nL s args own A) (hI : Inv M) (hG : Gs[k]? = some (.inr (.inl (1, n, false)))) (h0 : 0 ≤ x) (h1 : x < n) (hn : n ≤ 100000) (d : decode cc pc = .ok (.iastore, 1)) (hb : (Bd k x.toNat).1 ≤ v ∧ v ≤ (Bd k x.toNat).2)
    (kk : ∀ M' : Mem, Inv M' → M' k x.toNat = v → (∀ a b, ¬ (a = k ∧ b = x.toNat) → M' a b = M a b) → Z D cy ad p l e R s m args below meth c A nL n0 s0 Q (pc + 1) (ls) (rest) (M')) : Z D cy ad p l e R s m args below meth c A nL n0 s0 Q (pc) (ls) (ii v :: ii x :: .ref (ad k) :: rest) (M) := z_iast (lo := (Bd k x.toNat).1) (hi := (Bd k x.toNat).2) F hI hG h0 h1 hn rfl d hb.1 hb.2 kk
theorem z_last {k n : Nat} {lo hi x v : Int} (F : FxM D cy ad p m c cc nL s args own A) (hI : Inv M) (hG : Gs[k]? = some (.inr (.inl (2, n, true)))) (h0 : 0 ≤ x) (h1 : x < n) (hn : n ≤ 100000) (hB : Bd k x.toNat = (lo, hi)) (d : decode cc pc = .ok (.lastore, 1)) (hl1 : lo ≤ v) (hl2 : v ≤ hi)
    (kk : ∀ M' : Mem, Inv M' → M' k x.toNat = v → (∀ a b, ¬ (a = k ∧ b = x.toNat) → M' a b = M a b) → Z D cy ad p l e R s m args below meth c A nL n0 s0 Q (pc + 1) (ls) (rest) (M')) : Z D cy ad p l e R s m args below meth c A nL n0 s0 Q (pc) (ls) (ll v :: ii x :: .ref (ad k) :: rest) (M) := by
  intro H locs la hP hD hS hl
  refine va_last F.x F.b F.K hP hD hS k 2 (wld_get hG) rfl (in_32 h0 h1 hn) d (fun H1 locs1 hP1 hD1 hS1 => ?_)
  rw [cl_32 h0 (by omega), wld_lst hG] at hP1 hD1
  exact kk _ (hI.up hB hl1 hl2) up2_same (fun a b h => up2_other h) H1 locs1 la hP1 hD1 hS1 hl
theorem z_bast {k n : Nat} {x v : Int} (F : FxM D cy ad p m c cc nL s args own A) (hI : Inv M) (hG : Gs[k]? = some (.inr (.inl (0, n, false)))) (h0 : 0 ≤ x) (h1 : x < n) (hn : n ≤ 100000) (hB : Bd k x.toNat = (-128, 127)) (d : decode cc pc = .ok (.bastore, 1))
    (kk : ∀ (M' : Mem), Inv M' → (∀ a b, ¬ (a = k ∧ b = x.toNat) → M' a b = M a b) → Z D cy ad p l e R s m args below meth c A nL n0 s0 Q (pc + 1) (ls) (rest) (M')) : Z D cy ad p l e R s m args below meth c A nL n0 s0 Q (pc) (ls) (ii v :: ii x :: .ref (ad k) :: rest) (M) := by
  intro H locs la hP hD hS hl
  refine va_bast F.x F.b F.K hP hD hS k 0 (wld_get hG) rfl (in_32 h0 h1 hn) d (fun H1 locs1 hP1 hD1 hS1 => ?_)
  rw [cl_32 h0 (by omega), vp_nar_byte, b32 ((Int32.ofInt v).toInt8.toInt32), wld_ast hG] at hP1 hD1
  refine kk _ (hI.up hB ?_ ?_) (fun a b h => up2_other h) H1 locs1 la hP1 hD1 hS1 hl
  · rw [Int8.toInt_toInt32]; have := Int8.le_toInt (Int32.ofInt v).toInt8; omega
  · rw [Int8.toInt_toInt32]; have := Int8.toInt_lt (Int32.ofInt v).toInt8; omega
theorem z_bastE {k n : Nat} {x v : Int} (F : FxM D cy ad p m c cc nL s args own A) (hI : Inv M) (hG : Gs[k]? = some (.inr (.inl (0, n, false)))) (h0 : 0 ≤ x) (h1 : x < n) (hn : n ≤ 100000) (hB : Bd k x.toNat = (-128, 127)) (d : decode cc pc = .ok (.bastore, 1))
    (kk : ∀ (M' : Mem), Inv M' → M' k x.toNat = ((Int32.ofInt v).toInt8.toInt32).toInt → (∀ a b, ¬ (a = k ∧ b = x.toNat) → M' a b = M a b) → Z D cy ad p l e R s m args below meth c A nL n0 s0 Q (pc + 1) (ls) (rest) (M')) : Z D cy ad p l e R s m args below meth c A nL n0 s0 Q (pc) (ls) (ii v :: ii x :: .ref (ad k) :: rest) (M) := by
  intro H locs la hP hD hS hl
  refine va_bast F.x F.b F.K hP hD hS k 0 (wld_get hG) rfl (in_32 h0 h1 hn) d (fun H1 locs1 hP1 hD1 hS1 => ?_)
  rw [cl_32 h0 (by omega), vp_nar_byte, b32 ((Int32.ofInt v).toInt8.toInt32), wld_ast hG] at hP1 hD1
  refine kk _ (hI.up hB ?_ ?_) up2_same (fun a b h => up2_other h) H1 locs1 la hP1 hD1 hS1 hl
  · rw [Int8.toInt_toInt32]; have := Int8.le_toInt (Int32.ofInt v).toInt8; omega
  · rw [Int8.toInt_toInt32]; have := Int8.toInt_lt (Int32.ofInt v).toInt8; omega
theorem ti (x : Int32) : x.toInt = if 2 * x.toBitVec.toNat < 4294967296 then (x.toBitVec.toNat : Int) else (x.toBitVec.toNat : Int) - 4294967296 := BitVec.toInt_eq_toNat_cond x.toBitVec
theorem tn {x : Int32} (h : 0 ≤ x.toInt) : (x.toBitVec.toNat : Int) = x.toInt ∧ x.toBitVec.toNat < 2147483648 := by
  have h1 := ti x
  have h2 := x.toBitVec.isLt
  split at h1 <;> omega
theorem ti_lo {x : Int32} (h : x.toBitVec.toNat < 2147483648) : x.toInt = (x.toBitVec.toNat : Int) := by
  have h1 := ti x
  rw [if_pos (by omega)] at h1
  exact h1
theorem and_rng {a b : Int32} (hb : 0 ≤ b.toInt) : 0 ≤ (a &&& b).toInt ∧ (a &&& b).toInt ≤ b.toInt := by
  have h1 := tn hb
  have h2 : (a &&& b).toBitVec.toNat ≤ b.toBitVec.toNat := by rw [Int32.toBitVec_and, BitVec.toNat_and]; exact Nat.and_le_right
  rw [ti_lo (x := a &&& b) (by omega)]
  omega
theorem and_comm32 (a b : Int32) : a &&& b = b &&& a := by apply Int32.toBitVec_inj.mp; rw [Int32.toBitVec_and, Int32.toBitVec_and, BitVec.and_comm]
theorem or_rng {a b : Int32} {k : Nat} (hk : k < 31) (ha : 0 ≤ a.toInt) (ha2 : a.toInt < 2 ^ k) (hb : 0 ≤ b.toInt) (hb2 : b.toInt < 2 ^ k) : 0 ≤ (a ||| b).toInt ∧ (a ||| b).toInt ≤ 2 ^ k - 1 := by
  have h1 := tn ha
  have h2 := tn hb
  have e1 : a.toBitVec.toNat < 2 ^ k := by have : ((a.toBitVec.toNat : Nat) : Int) < ((2 ^ k : Nat) : Int) := by rw [h1.1]; push_cast; exact ha2
                                           omega
  have e2 : b.toBitVec.toNat < 2 ^ k := by have : ((b.toBitVec.toNat : Nat) : Int) < ((2 ^ k : Nat) : Int) := by rw [h2.1]; push_cast; exact hb2
                                           omega
  have e3 : (a ||| b).toBitVec.toNat < 2 ^ k := by rw [Int32.toBitVec_or, BitVec.toNat_or]; exact Nat.or_lt_two_pow e1 e2
  have e4 : 2 ^ k ≤ 2 ^ 30 := Nat.pow_le_pow_right (by decide) (by omega)
  rw [ti_lo (x := a ||| b) (by omega)]
  have e5 : (((a ||| b).toBitVec.toNat : Nat) : Int) < ((2 ^ k : Nat) : Int) := by omega
  push_cast at e5
  omega
theorem z_iand_r {x y : Int} (F : FxM D cy ad p m c cc nL s args own A) (d : decode cc pc = .ok (.iand, 1)) (h0 : 0 ≤ y) (h1 : y ≤ 2147483647) (k : ∀ z : Int, z = (Int32.ofInt x &&& Int32.ofInt y).toInt → 0 ≤ z → z ≤ y → Z D cy ad p l e R s m args below meth c A nL n0 s0 Q (pc + 1) (ls) (ii z :: rest) (M)) : Z D cy ad p l e R s m args below meth c A nL n0 s0 Q (pc) (ls) (ii y :: ii x :: rest) (M) := z_iand0 F d (fun z hz _ => by
  have e : (Int32.ofInt y).toInt = y := o32 ⟨by omega, h1⟩
  have h := and_rng (a := Int32.ofInt x) (b := Int32.ofInt y) (by rw [e]; exact h0)
  rw [e, ← hz] at h
  exact k z hz h.1 h.2)
theorem z_iand_l {x y : Int} (F : FxM D cy ad p m c cc nL s args own A) (d : decode cc pc = .ok (.iand, 1)) (h0 : 0 ≤ x) (h1 : x ≤ 2147483647) (k : ∀ z : Int, z = (Int32.ofInt x &&& Int32.ofInt y).toInt → 0 ≤ z → z ≤ x → Z D cy ad p l e R s m args below meth c A nL n0 s0 Q (pc + 1) (ls) (ii z :: rest) (M)) : Z D cy ad p l e R s m args below meth c A nL n0 s0 Q (pc) (ls) (ii y :: ii x :: rest) (M) := z_iand0 F d (fun z hz _ => by
  have e : (Int32.ofInt x).toInt = x := o32 ⟨by omega, h1⟩
  have h := and_rng (a := Int32.ofInt y) (b := Int32.ofInt x) (by rw [e]; exact h0)
  rw [e, and_comm32, ← hz] at h
  exact k z hz h.1 h.2)
theorem z_ior_k {x y : Int} {k : Nat} (F : FxM D cy ad p m c cc nL s args own A) (d : decode cc pc = .ok (.ior, 1)) (hk : k < 31) (h0 : 0 ≤ x) (h1 : x < 2 ^ k) (h2 : 0 ≤ y) (h3 : y < 2 ^ k) (kk : ∀ z : Int, 0 ≤ z → z ≤ 2 ^ k - 1 → Z D cy ad p l e R s m args below meth c A nL n0 s0 Q (pc + 1) (ls) (ii z :: rest) (M)) : Z D cy ad p l e R s m args below meth c A nL n0 s0 Q (pc) (ls) (ii y :: ii x :: rest) (M) := z_ior0 F d (fun z hz _ => by
  have e4 : 2 ^ k ≤ 2 ^ 30 := Nat.pow_le_pow_right (by decide) (by omega)
  have e5 : ((2 ^ k : Nat) : Int) ≤ 1073741824 := by omega
  push_cast at e5
  have e : (Int32.ofInt x).toInt = x := o32 ⟨by omega, by omega⟩
  have e' : (Int32.ofInt y).toInt = y := o32 ⟨by omega, by omega⟩
  have h := or_rng (a := Int32.ofInt x) (b := Int32.ofInt y) hk (by rw [e]; exact h0) (by rw [e]; exact h1) (by rw [e']; exact h2) (by rw [e']; exact h3)
  rw [← hz] at h
  exact kk z h.1 h.2)
theorem z_ior_e {x y : Int} {k : Nat} (F : FxM D cy ad p m c cc nL s args own A) (d : decode cc pc = .ok (.ior, 1)) (hk : k < 31) (h0 : 0 ≤ x) (h1 : x < 2 ^ k) (h2 : 0 ≤ y) (h3 : y < 2 ^ k) (kk : ∀ z : Int, z = (Int32.ofInt x ||| Int32.ofInt y).toInt → 0 ≤ z → z ≤ 2 ^ k - 1 → Z D cy ad p l e R s m args below meth c A nL n0 s0 Q (pc + 1) (ls) (ii z :: rest) (M)) : Z D cy ad p l e R s m args below meth c A nL n0 s0 Q (pc) (ls) (ii y :: ii x :: rest) (M) := z_ior0 F d (fun z hz _ => by
  have e4 : 2 ^ k ≤ 2 ^ 30 := Nat.pow_le_pow_right (by decide) (by omega)
  have e5 : ((2 ^ k : Nat) : Int) ≤ 1073741824 := by omega
  push_cast at e5
  have e : (Int32.ofInt x).toInt = x := o32 ⟨by omega, by omega⟩
  have e' : (Int32.ofInt y).toInt = y := o32 ⟨by omega, by omega⟩
  have h := or_rng (a := Int32.ofInt x) (b := Int32.ofInt y) hk (by rw [e]; exact h0) (by rw [e]; exact h1) (by rw [e']; exact h2) (by rw [e']; exact h3)
  rw [← hz] at h
  exact kk z hz h.1 h.2)
theorem shl1 : ∀ t : Fin 31, (Int32.ofInt 1 <<< (Int32.ofInt (t.val : Int) &&& 31)).toInt = 2 ^ t.val := by decide
theorem z_shl1 {y : Int} {k : Nat} (F : FxM D cy ad p m c cc nL s args own A) (d : decode cc pc = .ok (.ishl, 1)) (hk : k < 31) (h0 : 0 ≤ y) (h1 : y ≤ k) (kk : ∀ z : Int, z = 2 ^ y.toNat → 1 ≤ z → z ≤ 2 ^ k → Z D cy ad p l e R s m args below meth c A nL n0 s0 Q (pc + 1) (ls) (ii z :: rest) (M)) : Z D cy ad p l e R s m args below meth c A nL n0 s0 Q (pc) (ls) (ii y :: ii 1 :: rest) (M) := z_ishl0 F d (fun z hz _ => by
  have e := shl1 ⟨y.toNat, by omega⟩
  have ey : ((y.toNat : Nat) : Int) = y := by omega
  simp only [ey] at e
  rw [e] at hz
  have l1 : 1 ≤ 2 ^ y.toNat := Nat.one_le_two_pow
  have l2 : 2 ^ y.toNat ≤ 2 ^ k := Nat.pow_le_pow_right (by decide) (by omega)
  have c1 : ((2 ^ y.toNat : Nat) : Int) = z := by push_cast; exact hz.symm
  have c2 : ((2 ^ k : Nat) : Int) = (2 : Int) ^ k := by push_cast; rfl
  exact kk z hz (by omega) (by omega))
theorem z_ishr_p {x y : Int} (F : FxM D cy ad p m c cc nL s args own A) (d : decode cc pc = .ok (.ishr, 1)) (h0 : 0 ≤ x) (h1 : x ≤ 2147483647) (k : ∀ z : Int, z = (Int32.ofInt x >>> (Int32.ofInt y &&& 31)).toInt → 0 ≤ z → z ≤ x → Z D cy ad p l e R s m args below meth c A nL n0 s0 Q (pc + 1) (ls) (ii z :: rest) (M)) : Z D cy ad p l e R s m args below meth c A nL n0 s0 Q (pc) (ls) (ii y :: ii x :: rest) (M) := z_ishr0 F d (fun z hz _ => by
  have hz0 := hz
  rw [pk_shr _ _ _ rfl, o32 ⟨by omega, h1⟩, Int.shiftRight_eq_div_pow] at hz
  have a1 := Int.ediv_nonneg h0 (b := (2 : Int) ^ ((Int32.ofInt y &&& 31).toBitVec.smod 32).toNat) (by exact Int.le_of_lt (Int.pow_pos (by decide)))
  have a2 := Int.ediv_le_self ((2 : Int) ^ ((Int32.ofInt y &&& 31).toBitVec.smod 32).toNat) h0
  push_cast at hz
  exact k z hz0 (by rw [hz]; exact a1) (by rw [hz]; exact a2))
theorem z_iushr_k {x : Int} {k : Nat} (F : FxM D cy ad p m c cc nL s args own A) (d : decode cc pc = .ok (.iushr, 1)) (hk : 1 ≤ k ∧ k ≤ 31) (hs : (((Int32.ofInt (k : Int)).toUInt32 &&& Int32.toUInt32 31).toBitVec % 32).toNat = k) (kk : ∀ z : Int, 0 ≤ z → z ≤ 2 ^ (32 - k) - 1 → Z D cy ad p l e R s m args below meth c A nL n0 s0 Q (pc + 1) (ls) (ii z :: rest) (M)) : Z D cy ad p l e R s m args below meth c A nL n0 s0 Q (pc) (ls) (ii (k : Int) :: ii x :: rest) (M) := z_iushr0 F d (fun z hz _ => by
  have h := pk_ushr (Int32.ofInt x) (Int32.ofInt (k : Int)) k hs
  have hl : (Int32.ofInt x).toBitVec.toNat / 2 ^ k < 2 ^ (32 - k) := by
    apply Nat.div_lt_of_lt_mul
    rw [← Nat.pow_add, show k + (32 - k) = 32 by omega]
    exact (Int32.ofInt x).toBitVec.isLt
  have l2 : 2 ^ (32 - k) ≤ 2 ^ 31 := Nat.pow_le_pow_right (by decide) (by omega)
  rw [ti_lo (by omega), h] at hz
  have c2 : ((2 ^ (32 - k) : Nat) : Int) = (2 : Int) ^ (32 - k) := by push_cast; rfl
  exact kk z (by omega) (by omega))
theorem z_iushr_d {x : Int} {k q : Nat} (F : FxM D cy ad p m c cc nL s args own A) (d : decode cc pc = .ok (.iushr, 1)) (h0 : 0 ≤ x) (h1 : x ≤ 2147483647) (hq : q = 2 ^ k) (hs : (((Int32.ofInt (k : Int)).toUInt32 &&& Int32.toUInt32 31).toBitVec % 32).toNat = k) (kk : ∀ z : Int, z = x / (q : Int) → Z D cy ad p l e R s m args below meth c A nL n0 s0 Q (pc + 1) (ls) (ii z :: rest) (M)) : Z D cy ad p l e R s m args below meth c A nL n0 s0 Q (pc) (ls) (ii (k : Int) :: ii x :: rest) (M) := z_iushr0 F d (fun z hz _ => by
  have h := pk_ushr (Int32.ofInt x) (Int32.ofInt (k : Int)) k hs
  have ht := tn (x := Int32.ofInt x) (by rw [o32 ⟨by omega, h1⟩]; exact h0)
  rw [o32 ⟨by omega, h1⟩] at ht
  have hl : (Int32.ofInt x).toBitVec.toNat / 2 ^ k ≤ (Int32.ofInt x).toBitVec.toNat := Nat.div_le_self _ _
  rw [ti_lo (by omega), h, ← hq] at hz
  exact kk z (by rw [hz, Int.natCast_ediv, ht.1]))
theorem nI_of_int {x : Int} (h : 0 ≤ x) : Int32.ofInt x = nI x.toNat := by
  have e : ((x.toNat : Nat) : Int) = x := by omega
  show _ = Int32.ofNat x.toNat
  rw [← Int32.ofInt_eq_ofNat, e]
theorem lN_of_int {x : Int} (h : 0 ≤ x) : Int64.ofInt x = lN x.toNat := by
  have e : ((x.toNat : Nat) : Int) = x := by omega
  show _ = Int64.ofNat x.toNat
  rw [← Int64.ofInt_eq_ofNat, e]
theorem ne0_32 {y : Int} (h : 0 < y) (h1 : y ≤ 2147483647) : ¬ Int32.ofInt y = 0 := fun q => by
  have := congrArg Int32.toInt q
  rw [o32 ⟨by omega, h1⟩] at this
  have e : (0 : Int32).toInt = 0 := by decide
  omega
theorem ne0_64 {y : Int} (h : 0 < y) (h1 : y ≤ 2147483647) : ¬ Int64.ofInt y = 0 := fun q => by
  have := congrArg Int64.toInt q
  rw [o64 ⟨by omega, by omega⟩] at this
  have e : (0 : Int64).toInt = 0 := by decide
  omega
theorem div_n {x y : Int} (h0 : 0 ≤ x) (h1 : 0 < y) : ((x.toNat / y.toNat : Nat) : Int) = x / y := by
  have a : ((x.toNat : Nat) : Int) = x := by omega
  have b : ((y.toNat : Nat) : Int) = y := by omega
  rw [Int.natCast_ediv, a, b]
theorem mod_n {x y : Int} (h0 : 0 ≤ x) (h1 : 0 < y) : ((x.toNat % y.toNat : Nat) : Int) = x % y := by
  have a : ((x.toNat : Nat) : Int) = x := by omega
  have b : ((y.toNat : Nat) : Int) = y := by omega
  rw [Int.natCast_emod, a, b]
theorem z_idiv_p {x y : Int} (F : FxM D cy ad p m c cc nL s args own A) (d : decode cc pc = .ok (.idiv, 1)) (h0 : 0 ≤ x) (h1 : x ≤ 2147483647) (h2 : 0 < y) (h3 : y ≤ 2147483647) (k : ∀ z : Int, z = x / y → Z D cy ad p l e R s m args below meth c A nL n0 s0 Q (pc + 1) (ls) (ii z :: rest) (M)) : Z D cy ad p l e R s m args below meth c A nL n0 s0 Q (pc) (ls) (ii y :: ii x :: rest) (M) := z_idiv0 F d (ne0_32 h2 h3) (fun z hz _ => by
  rw [nI_of_int h0, nI_of_int (Int.le_of_lt h2), pk_div (by omega) (by omega) (by omega), nI_toInt (Nat.lt_of_le_of_lt (Nat.div_le_self _ _) (by omega)), div_n h0 h2] at hz
  exact k z hz)
theorem z_irem_p {x y : Int} (F : FxM D cy ad p m c cc nL s args own A) (d : decode cc pc = .ok (.irem, 1)) (h0 : 0 ≤ x) (h1 : x ≤ 2147483647) (h2 : 0 < y) (h3 : y ≤ 2147483647) (k : ∀ z : Int, z = x % y → Z D cy ad p l e R s m args below meth c A nL n0 s0 Q (pc + 1) (ls) (ii z :: rest) (M)) : Z D cy ad p l e R s m args below meth c A nL n0 s0 Q (pc) (ls) (ii y :: ii x :: rest) (M) := z_irem0 F d (ne0_32 h2 h3) (fun z hz _ => by
  rw [nI_of_int h0, nI_of_int (Int.le_of_lt h2), pk_rem (by omega) (by omega) (by omega), nI_toInt (Nat.lt_of_le_of_lt (Nat.mod_le _ _) (by omega)), mod_n h0 h2] at hz
  exact k z hz)
theorem z_irem_v {x y : Int} (F : FxM D cy ad p m c cc nL s args own A) (d : decode cc pc = .ok (.irem, 1)) (h0 : 0 ≤ x) (h1 : x ≤ 2147483647) (h2 : 0 < y) (h3 : y ≤ 2147483647) (k : ∀ z : Int, 0 ≤ z → z < y → Z D cy ad p l e R s m args below meth c A nL n0 s0 Q (pc + 1) (ls) (ii z :: rest) (M)) : Z D cy ad p l e R s m args below meth c A nL n0 s0 Q (pc) (ls) (ii y :: ii x :: rest) (M) := z_irem_p F d h0 h1 h2 h3 (fun z hz => k z (by rw [hz]; exact Int.emod_nonneg x (by omega)) (by rw [hz]; exact Int.emod_lt_of_pos x h2))
theorem z_ldiv_p {x y : Int} (F : FxM D cy ad p m c cc nL s args own A) (d : decode cc pc = .ok (.ldiv, 1)) (h0 : 0 ≤ x) (h1 : x ≤ 9223372036854775807) (h2 : 0 < y) (h3 : y ≤ 2147483647) (k : ∀ z : Int, z = x / y → Z D cy ad p l e R s m args below meth c A nL n0 s0 Q (pc + 1) (ls) (ll z :: rest) (M)) : Z D cy ad p l e R s m args below meth c A nL n0 s0 Q (pc) (ls) (ll y :: ll x :: rest) (M) := z_ldiv0 F d (ne0_64 h2 h3) (fun z hz _ => by
  rw [lN_of_int h0, lN_of_int (Int.le_of_lt h2), pk_lDiv (by omega) (by omega) (by omega), pk_lT (Nat.lt_of_le_of_lt (Nat.div_le_self _ _) (by omega)), div_n h0 h2] at hz
  exact k z hz)
theorem z_lrem_p {x y : Int} (F : FxM D cy ad p m c cc nL s args own A) (d : decode cc pc = .ok (.lrem, 1)) (h0 : 0 ≤ x) (h1 : x ≤ 9223372036854775807) (h2 : 0 < y) (h3 : y ≤ 2147483647) (k : ∀ z : Int, z = x % y → Z D cy ad p l e R s m args below meth c A nL n0 s0 Q (pc + 1) (ls) (ll z :: rest) (M)) : Z D cy ad p l e R s m args below meth c A nL n0 s0 Q (pc) (ls) (ll y :: ll x :: rest) (M) := z_lrem0 F d (ne0_64 h2 h3) (fun z hz _ => by
  rw [lN_of_int h0, lN_of_int (Int.le_of_lt h2), pk_lRem (by omega) (by omega) (by omega), pk_lT (Nat.lt_of_le_of_lt (Nat.mod_le _ _) (by omega)), mod_n h0 h2] at hz
  exact k z hz)
theorem pop_lt {x w z : Int} (hx : ¬ x = 0) (h32 : In32 x) (e : z = (Int32.ofInt x &&& Int32.ofInt w).toInt) (hw : (In32 (x - 1) → w = x - 1) ∧ Int32.ofInt w = Int32.ofInt (x - 1)) : (Int32.ofInt z).toBitVec.toNat < (Int32.ofInt x).toBitVec.toNat := by
  have hz : Int32.ofInt z = Int32.ofInt x &&& Int32.ofInt w := by rw [e, ← b32]
  have h0 : (Int32.ofInt x).toBitVec.toNat ≠ 0 := fun q => by
    have := ti (Int32.ofInt x)
    rw [o32 h32, q] at this
    simp at this
    exact hx this
  have h1 : (Int32.ofInt w).toBitVec.toNat = (Int32.ofInt x).toBitVec.toNat - 1 := by
    rw [hw.2, Int32.ofInt_sub, Int32.toBitVec_sub, BitVec.toNat_sub, show (Int32.ofInt 1).toBitVec.toNat = 1 by decide]
    have := (Int32.ofInt x).toBitVec.isLt
    omega
  rw [hz, Int32.toBitVec_and, BitVec.toNat_and]
  have := @Nat.and_le_right (Int32.ofInt x).toBitVec.toNat (Int32.ofInt w).toBitVec.toNat
  omega
/-- the k-th bit of s -/
def Bt (s k : Int) : Prop := ((Int32.ofInt s >>> (Int32.ofInt k &&& 31)) &&& Int32.ofInt 1).toInt = 1
theorem bt_of {s k v1 v2 : Int} (e2 : v2 = (Int32.ofInt v1 &&& Int32.ofInt 1).toInt) (e1 : v1 = (Int32.ofInt s >>> (Int32.ofInt k &&& 31)).toInt) : v2 = 1 ↔ Bt s k := by
  rw [e2, e1, ← b32]; exact Iff.rfl
def pcn (n : Nat) : Nat := n % 2 + n / 2 % 2 + n / 4 % 2 + n / 8 % 2 + n / 16 % 2 + n / 32 % 2 + n / 64 % 2 + n / 128 % 2 + n / 256 % 2 + n / 512 % 2
theorem drop_fin : ∀ (s : Fin 1024) (q : Fin 10), ((Int32.ofInt (s.val : Int) >>> (Int32.ofInt (q.val : Int) &&& 31)) &&& Int32.ofInt 1).toInt = 1 → (Int32.ofInt (s.val : Int) &&& Int32.ofInt (Int32.ofInt (2 ^ q.val) ^^^ Int32.ofInt (-1)).toInt).toInt < s.val ∧ pcn (Int32.ofInt (s.val : Int) &&& Int32.ofInt (Int32.ofInt (2 ^ q.val) ^^^ Int32.ofInt (-1)).toInt).toInt.toNat + 1 = pcn s.val := by decide +kernel
theorem drop10 {s q v1 v2 z : Int} (h0 : 0 ≤ s) (h1 : s ≤ 1023) (h2 : 0 ≤ q) (h3 : q ≤ 9) (hb : Bt s q) (e3 : z = (Int32.ofInt s &&& Int32.ofInt v2).toInt) (e2 : v2 = (Int32.ofInt v1 ^^^ Int32.ofInt (-1)).toInt) (e1 : v1 = 2 ^ q.toNat) : z < s ∧ pcn z.toNat + 1 = pcn s.toNat := by
  have h := drop_fin ⟨s.toNat, by omega⟩ ⟨q.toNat, by omega⟩
  have es : ((s.toNat : Nat) : Int) = s := by omega
  have eq : ((q.toNat : Nat) : Int) = q := by omega
  simp only [es, eq] at h
  have := h hb
  rw [← e1, ← e2, ← e3] at this
  exact this
theorem pcn_pos : ∀ s : Fin 1024, s.val ≠ 0 → 1 ≤ pcn s.val := by decide +kernel
theorem pcn_1 {s : Int} (h0 : 0 ≤ s) (h1 : s ≤ 1023) (hn : ¬ s = 0) : 1 ≤ pcn s.toNat := pcn_pos ⟨s.toNat, by omega⟩ (by show s.toNat ≠ 0; omega)
theorem bt_fin : ∀ (s : Fin 1024), s.val ≠ 0 → ∃ q : Fin 10, ((Int32.ofInt (s.val : Int) >>> (Int32.ofInt (q.val : Int) &&& 31)) &&& Int32.ofInt 1).toInt = 1 := by decide +kernel
theorem bt_lt {s h : Int} (h0 : 1 ≤ s) (h1 : s ≤ 1023) (h2 : 0 ≤ h) (h3 : h ≤ 9) (hn : ∀ j : Int, 0 ≤ j → j < h → ¬ Bt s j) (hb : ¬ Bt s h) : h ≤ 8 := by
  obtain ⟨q, hq⟩ := bt_fin ⟨s.toNat, by omega⟩ (by show s.toNat ≠ 0; omega)
  have es : ((s.toNat : Nat) : Int) = s := by omega
  simp only [es] at hq
  rcases Int.lt_trichotomy (q.val : Int) h with a | a | a
  · exact absurd hq (hn _ (by omega) a)
  · rw [a] at hq; exact absurd hq hb
  · have := q.isLt; omega
theorem mask_fin : ∀ (q : Fin 9) (i : Fin 32), q.val ≤ i.val → (4294967296 - 2 ^ q.val).testBit i.val = true := by decide +kernel
theorem negp_fin : ∀ q : Fin 9, (Int32.ofInt (-(2 ^ q.val))).toBitVec.toNat = 4294967296 - 2 ^ q.val := by decide +kernel
theorem neg_mask {s v z : Int} {q : Int} (h0 : 0 ≤ q) (h1 : q ≤ 8) (hs : In32 s) (ev : v = 2 ^ q.toNat) (e : z = (Int32.ofInt s &&& Int32.ofInt (-v)).toInt) (hz : z = 0) : 0 ≤ s ∧ s < v := by
  have h2 := negp_fin ⟨q.toNat, by omega⟩
  simp only [← ev] at h2
  have h3 : (Int32.ofInt s).toBitVec.toNat &&& (4294967296 - 2 ^ q.toNat) = 0 := by
    rw [← h2, ← BitVec.toNat_and, ← Int32.toBitVec_and]
    have := ti (Int32.ofInt s &&& Int32.ofInt (-v))
    rw [← e, hz] at this
    have l := (Int32.ofInt s &&& Int32.ofInt (-v)).toBitVec.isLt
    split at this <;> omega
  have h4 : (Int32.ofInt s).toBitVec.toNat < 2 ^ q.toNat := by
    rcases Nat.lt_or_ge (Int32.ofInt s).toBitVec.toNat (2 ^ q.toNat) with h | h
    · exact h
    · obtain ⟨i, hi, ht⟩ := Nat.exists_ge_and_testBit_of_ge_two_pow h
      have hl : i < 32 := by
        rcases Nat.lt_or_ge i 32 with a | a
        · exact a
        · rw [Nat.testBit_lt_two_pow (Nat.lt_of_lt_of_le (Int32.ofInt s).toBitVec.isLt (Nat.pow_le_pow_right (by decide) a))] at ht; cases ht
      have := mask_fin ⟨q.toNat, by omega⟩ ⟨i, hl⟩ hi
      have c := congrArg (fun n => n.testBit i) h3
      simp only [Nat.testBit_and, ht, this, Nat.zero_testBit] at c
      cases c
  have h5 : 2 ^ q.toNat ≤ 2 ^ 8 := Nat.pow_le_pow_right (by decide) (by omega)
  have h6 := ti_lo (x := Int32.ofInt s) (by omega)
  rw [o32 hs] at h6
  have h7 : ((2 ^ q.toNat : Nat) : Int) = v := by rw [ev]; push_cast; rfl
  omega
theorem pcn_all {n v : Int} (h0 : 0 ≤ n) (h1 : n ≤ 6) (e : v = 2 ^ n.toNat) : pcn (v - 1).toNat ≤ 6 ∧ v - 1 ≤ 63 := by
  have : n = 0 ∨ n = 1 ∨ n = 2 ∨ n = 3 ∨ n = 4 ∨ n = 5 ∨ n = 6 := by omega
  rcases this with h | h | h | h | h | h | h <;> subst h <;> subst e <;> decide
theorem pcn_8f : ∀ s : Fin 256, pcn s.val ≤ 8 := by decide +kernel
theorem pcn_8 {s : Int} (h0 : 0 ≤ s) (h1 : s ≤ 255) : pcn s.toNat ≤ 8 := pcn_8f ⟨s.toNat, by omega⟩
theorem fm_fin : ∀ i : Fin 49, let x : Int := (i.val : Int) - 24; let r := (Int32.ofInt x - Int32.ofInt x / Int32.ofInt 12 * Int32.ofInt 12).toInt; let w := (Int32.ofInt x ^^^ Int32.ofInt 12).toInt; -11 ≤ r ∧ r ≤ 11 ∧ (0 ≤ x → 0 ≤ r) ∧ (x < 0 → r ≤ 0) ∧ (w < 0 → x < 0) ∧ (0 ≤ w → 0 ≤ x) := by decide +kernel
theorem fm_r {x y r : Int} (h0 : -24 ≤ x) (h1 : x ≤ 24) (hy : y = 12) (e : r = (Int32.ofInt x - Int32.ofInt x / Int32.ofInt y * Int32.ofInt y).toInt) : -11 ≤ r ∧ r ≤ 11 ∧ (0 ≤ x → 0 ≤ r) ∧ (x < 0 → r ≤ 0) := by
  subst hy
  have h := fm_fin ⟨(x + 24).toNat, by omega⟩
  have ex : (((x + 24).toNat : Nat) : Int) - 24 = x := by omega
  simp only [ex, ← e] at h
  exact ⟨h.1, h.2.1, h.2.2.1, h.2.2.2.1⟩
theorem fm_w {x y w : Int} (h0 : -24 ≤ x) (h1 : x ≤ 24) (hy : y = 12) (e : w = (Int32.ofInt x ^^^ Int32.ofInt y).toInt) : (w < 0 → x < 0) ∧ (0 ≤ w → 0 ≤ x) := by
  subst hy
  have h := fm_fin ⟨(x + 24).toNat, by omega⟩
  have ex : (((x + 24).toNat : Nat) : Int) - 24 = x := by omega
  simp only [ex, ← e] at h
  exact h.2.2.2.2
theorem ntz_fin : ∀ i : Fin 256, i.val ≠ 0 → let x : Int := (i.val : Int); let v := (Int32.ofInt (Int32.ofInt x ^^^ Int32.ofInt (-1)).toInt &&& Int32.ofInt (x - 1)).toInt; let b := fun k : Int => ((Int32.ofInt x >>> (Int32.ofInt k &&& 31)) &&& Int32.ofInt 1).toInt = 1; (v = 0 ∧ b 0) ∨ (v = 1 ∧ b 1) ∨ (v = 3 ∧ b 2) ∨ (v = 7 ∧ b 3) ∨ (v = 15 ∧ b 4) ∨ (v = 31 ∧ b 5) ∨ (v = 63 ∧ b 6) ∨ (v = 127 ∧ b 7) := by decide +kernel
theorem ntz_8 {x v1 v : Int} (h0 : 1 ≤ x) (h1 : x ≤ 255) (e2 : v = (Int32.ofInt v1 &&& Int32.ofInt (x - 1)).toInt) (e1 : v1 = (Int32.ofInt x ^^^ Int32.ofInt (-1)).toInt) : (v = 0 ∧ Bt x 0) ∨ (v = 1 ∧ Bt x 1) ∨ (v = 3 ∧ Bt x 2) ∨ (v = 7 ∧ Bt x 3) ∨ (v = 15 ∧ Bt x 4) ∨ (v = 31 ∧ Bt x 5) ∨ (v = 63 ∧ Bt x 6) ∨ (v = 127 ∧ Bt x 7) := by
  have h := ntz_fin ⟨x.toNat, by omega⟩ (by show x.toNat ≠ 0; omega)
  have ex : ((x.toNat : Nat) : Int) = x := by omega
  simp only [ex, ← e1, ← e2] at h
  exact h
theorem ntz_0 {v1 v : Int} {x : Int} (hx : x = 0) (e2 : v = (Int32.ofInt v1 &&& Int32.ofInt (x - 1)).toInt) (e1 : v1 = (Int32.ofInt x ^^^ Int32.ofInt (-1)).toInt) : v = -1 := by subst hx; subst e1; subst e2; decide
theorem shsh_fin : ∀ (x : Fin 256) (t : Fin 8), let v := (Int32.ofInt (x.val : Int) >>> (Int32.ofInt (t.val : Int) &&& 31)).toInt; let w := (Int32.ofInt v <<< (Int32.ofInt (t.val : Int) &&& 31)).toInt; 0 ≤ w ∧ w ≤ 255 := by decide +kernel
theorem shsh {x t v w : Int} (h0 : 0 ≤ x) (h1 : x ≤ 255) (h2 : 0 ≤ t) (h3 : t ≤ 7) (e2 : w = (Int32.ofInt v <<< (Int32.ofInt t &&& 31)).toInt) (e1 : v = (Int32.ofInt x >>> (Int32.ofInt t &&& 31)).toInt) : 0 ≤ w ∧ w ≤ 255 := by
  have h := shsh_fin ⟨x.toNat, by omega⟩ ⟨t.toNat, by omega⟩
  have ex : ((x.toNat : Nat) : Int) = x := by omega
  have et : ((t.toNat : Nat) : Int) = t := by omega
  simp only [ex, et, ← e1, ← e2] at h
  exact h
theorem bc_fin : ∀ i : Fin 256, let x : Int := (i.val : Int); let a2 := (Int32.ofInt (x / 2) &&& Int32.ofInt 1431655765).toInt; let x1 := x - a2; let a3 := (Int32.ofInt x1 &&& Int32.ofInt 858993459).toInt; let a5 := (Int32.ofInt (x1 / 4) &&& Int32.ofInt 858993459).toInt; let x2 := a3 + a5; let x3 := (Int32.ofInt (x2 + x2 / 16) &&& Int32.ofInt 252645135).toInt; let x4 := x3 + x3 / 256; let x5 := x4 + x4 / 65536; (Int32.ofInt x5 &&& Int32.ofInt 63).toInt = pcn i.val ∧ 0 ≤ x1 ∧ x1 ≤ 255 ∧ 0 ≤ x2 ∧ x2 ≤ 255 ∧ 0 ≤ x3 ∧ x3 ≤ 15 := by decide +kernel
theorem bc_1 {x a1 a2 : Int} (h0 : 0 ≤ x) (h1 : x ≤ 255) (e2 : a2 = (Int32.ofInt a1 &&& Int32.ofInt 1431655765).toInt) (e1 : a1 = x / 2) : 0 ≤ x - a2 := by
  have h := bc_fin ⟨x.toNat, by omega⟩
  have ex : ((x.toNat : Nat) : Int) = x := by omega
  simp only [ex, ← e1, ← e2] at h
  exact h.2.1
theorem bc_8 {x a1 a2 x1 a3 a4 a5 x2 a6 x3 a7 x4 a8 x5 z : Int} (h0 : 0 ≤ x) (h1 : x ≤ 255) (ez : z = (Int32.ofInt x5 &&& Int32.ofInt 63).toInt) (g5 : x5 = x4 + a8) (e8 : a8 = x4 / 65536) (g4 : x4 = x3 + a7) (e7 : a7 = x3 / 256) (g3 : x3 = (Int32.ofInt (x2 + a6) &&& Int32.ofInt 252645135).toInt) (e6 : a6 = x2 / 16) (g2 : x2 = a3 + a5) (e5 : a5 = (Int32.ofInt a4 &&& Int32.ofInt 858993459).toInt) (e4 : a4 = x1 / 4) (e3 : a3 = (Int32.ofInt x1 &&& Int32.ofInt 858993459).toInt) (g1 : x1 = x - a2) (e2 : a2 = (Int32.ofInt a1 &&& Int32.ofInt 1431655765).toInt) (e1 : a1 = x / 2) : z = pcn x.toNat := by
  have h := bc_fin ⟨x.toNat, by omega⟩
  have ex : ((x.toNat : Nat) : Int) = x := by omega
  simp only [ex, ← e1, ← e2, ← g1, ← e3, ← e4, ← e5, ← g2, ← e6, ← g3, ← e7, ← g4, ← e8, ← g5, ← ez] at h
  exact h.1
/-- a step of the law's code -/
theorem hs_next {f : Nat → Int} {k t : Int} (h : Kn f) (h0 : 0 ≤ k) (h1 : k < f 6) (ht : t = f (384 + k).toNat) : (100 ≤ t → Hs f (k + 1).toNat = Hs f k.toNat + 1) ∧ (t = 18 → Hs f (k + 1).toNat = Hs f k.toNat) ∧ (t < 100 → ¬ t = 18 → Hs f (k + 1).toNat = Hs f k.toNat - 1) ∧ 1 ≤ Hs f (k + 1).toNat ∧ Hs f (k + 1).toNat ≤ 64 := by
  have e : (k + 1).toNat = k.toNat + 1 := by omega
  have e2 : (384 + k).toNat = 384 + k.toNat := by omega
  have hw := h.1 (k.toNat + 1) (by omega) (by omega)
  rw [e]
  rw [e2] at ht
  have hs : Hs f (k.toNat + 1) = Hs f k.toNat + dl t := by rw [ht]; rfl
  rw [hs]
  rw [hs] at hw
  refine ⟨fun q => ?_, fun q => ?_, fun q r => ?_, hw⟩
  · unfold dl; rw [if_pos q]
  · unfold dl; rw [if_neg (by omega), if_pos q]; omega
  · unfold dl; rw [if_neg (by omega), if_neg r]; omega
theorem mul_rng {x y : Int} (hx : In32 x) (hy : In32 y) : -4611686018427387904 ≤ x * y ∧ x * y ≤ 4611686018427387904 := by
  have h : (x * y).natAbs ≤ 2147483648 * 2147483648 := by rw [Int.natAbs_mul]; exact Nat.mul_le_mul (by have := hx.1; have := hx.2; omega) (by have := hy.1; have := hy.2; omega)
  omega
theorem z_lmul_r {x y : Int} (F : FxM D cy ad p m c cc nL s args own A) (d : decode cc pc = .ok (.lmul, 1)) (hx : In32 x) (hy : In32 y) (k : ∀ z : Int, z = x * y → -4611686018427387904 ≤ z → z ≤ 4611686018427387904 → Z D cy ad p l e R s m args below meth c A nL n0 s0 Q (pc + 1) (ls) (ll z :: rest) (M)) : Z D cy ad p l e R s m args below meth c A nL n0 s0 Q (pc) (ls) (ll y :: ll x :: rest) (M) := z_lmul F d (k _ rfl (mul_rng hx hy).1 (mul_rng hx hy).2)
theorem z_iincN {i q : Nat} {n x : Int} (F : FxM D cy ad p m c cc nL s args own A) (d : decode cc pc = .ok (.iinc i n, 3)) (hq : ls[q]? = some (i, ii x)) (hn : i < nL) (k0 : ∀ w : Int, w = x + n → Z D cy ad p l e R s m args below meth c A nL n0 s0 Q (pc + 3) ((i, ii w) :: ls.filter (fun q => !(q.1 == i) && !(q.1 + 1 == i && q.2.category == 2))) (rest) (M)) : Z D cy ad p l e R s m args below meth c A nL n0 s0 Q (pc) (ls) (rest) (M) := z_iinc F d hq hn rfl (k0 _ rfl)
theorem z_iincW {i q : Nat} {n x : Int} (F : FxM D cy ad p m c cc nL s args own A) (d : decode cc pc = .ok (.iinc i n, 3)) (hq : ls[q]? = some (i, ii x)) (hn : i < nL) (k0 : ∀ w : Int, In32 w → (In32 (x + n) → w = x + n) → Z D cy ad p l e R s m args below meth c A nL n0 s0 Q (pc + 3) ((i, ii w) :: ls.filter (fun q => !(q.1 == i) && !(q.1 + 1 == i && q.2.category == 2))) (rest) (M)) : Z D cy ad p l e R s m args below meth c A nL n0 s0 Q (pc) (ls) (rest) (M) := by
  have h := k0 (Int32.ofInt (x + n)).toInt (r32 _) (fun q => o32 q)
  rw [show ii (Int32.ofInt (x + n)).toInt = ii (x + n) from by show Value.int _ = Value.int _; rw [← b32]] at h
  exact z_iinc F d hq hn rfl h
theorem z_zast {k n : Nat} {lo hi x v : Int} (F : FxM D cy ad p m c cc nL s args own A) (hI : Inv M) (hG : Gs[k]? = some (.inr (.inl (3, n, false)))) (h0 : 0 ≤ x) (h1 : x < n) (hn : n ≤ 100000) (hB : Bd k x.toNat = (lo, hi)) (d : decode cc pc = .ok (.bastore, 1)) (hv : vp_nar .boolean (Int32.ofInt v) = Int32.ofInt v) (hl1 : lo ≤ v) (hl2 : v ≤ hi)
    (kk : ∀ M' : Mem, Inv M' → M' k x.toNat = v → (∀ a b, ¬ (a = k ∧ b = x.toNat) → M' a b = M a b) → Z D cy ad p l e R s m args below meth c A nL n0 s0 Q (pc + 1) (ls) (rest) (M')) : Z D cy ad p l e R s m args below meth c A nL n0 s0 Q (pc) (ls) (ii v :: ii x :: .ref (ad k) :: rest) (M) := by
  intro H locs la hP hD hS hl
  refine va_zast F.x F.b F.K hP hD hS k 3 (wld_get hG) rfl (in_32 h0 h1 hn) d (fun H1 locs1 hP1 hD1 hS1 => ?_)
  rw [cl_32 h0 (by omega), hv, wld_ast hG] at hP1 hD1
  exact kk _ (hI.up hB hl1 hl2) up2_same (fun a b h => up2_other h) H1 locs1 la hP1 hD1 hS1 hl
theorem WFk.fr {ms : List Nat} {M M' : Mem} (h : WFk M) (f : Fr ms M M') (h1 : 132 ∉ ms) (h2 : 134 ∉ ms) : WFk M' := by
  have e2 : M' 132 = M 132 := funext fun b => f.at h1
  have e4 : ∀ b, M' 134 b = M 134 b := fun b => f.at h2
  unfold WFk
  simp only [e2, e4]
  exact h
theorem cpyI {f g : Nat → Int} {sp dp n : Nat} : va_cpy (fun i => Int32.ofInt (f i)) (fun i => Int32.ofInt (g i)) sp dp n = fun j => Int32.ofInt (if dp ≤ j ∧ j < dp + n then f (sp + (j - dp)) else g j) := by
  funext j; unfold va_cpy; split <;> rfl
theorem z_copy {h : Nat} {a b na nb index : Nat} {sp dp n : Int} (F : FxM D cy ad p m c cc nL s args own A) (hb2 : b ≠ 132 ∧ b ≠ 131 ∧ b ≠ 0 ∧ b ≠ 133) (hg : Cond.methodLink own index arraycopyName ∈ gtbl ∧ Cond.native arraycopyName ∈ gtbl ∧ Cond.static arraycopyName ∈ gtbl ∧ Cond.initialized "java/lang/System" ∈ gtbl) (hI : Inv M) (hGa : Gs[a]? = some (.inr (.inl (1, na, false)))) (hGb : Gs[b]? = some (.inr (.inl (1, nb, false)))) (h1 : 0 ≤ sp) (h2 : 0 ≤ dp) (h3 : 0 ≤ n) (h4 : sp + n ≤ na) (h5 : dp + n ≤ nb) (hna : na ≤ 100000) (hnb : nb ≤ 100000)
    (hB : ∀ i : Nat, i < n.toNat → Bd b (dp.toNat + i) = Bd a (sp.toNat + i)) (hw : (rest.map fun v => v.category).sum ≤ 8) (dg : decode cc pc = .ok (.invokestatic index, 3))
    (kk : ∀ M' : Mem, Inv M' → Fr [b] M M' → Z D cy ad p l e (RMh h) s m args below meth c A nL 0 0 Q (pc + 3) ls rest M') : Z D cy ad p l e (RMh h) s m args below meth c A nL 0 0 Q pc ls (ii n :: ii dp :: .ref (ad b) :: ii sp :: .ref (ad a) :: rest) M := by
  intro H locs la hP hD hS hl
  have nl : ∀ x : Int, 0 ≤ x → x ≤ 100000 → ¬ Int32.ofInt x < 0 := fun x a b q => by
    have := (lt32 (x := x) (y := 0) ⟨by omega, by omega⟩ (by decide)).mp q
    omega
  have hfr : 1 ≤ (RMh h).frames := by show 1 ≤ 8 + h; omega
  have hlo : (rest.map fun v => v.category).sum + (nativeFrameWords "java/lang/System" "arraycopy" 5 + 11) ≤ (RMh h).locals := by
    have hn : nativeFrameWords "java/lang/System" "arraycopy" 5 ≤ 100 := by decide +kernel
    show _ ≤ 120 + 40 * h
    omega
  refine va_copyi F.x F.b (F.ml.trans hl.1.symm) F.o (F.t hg.1) (F.t hg.2.1) (F.t hg.2.2.1) (F.t hg.2.2.2) F.K hP hD hS a b 1 1 (wld_get hGa) (wld_get hGb) rfl rfl rfl (nl sp h1 (by omega)) (nl dp h2 (by omega)) (nl n h3 (by omega)) (by rw [cl_32 h1 (by omega), cl_32 h3 (by omega)]; omega) (by rw [cl_32 h2 (by omega), cl_32 h3 (by omega)]; omega) (fun _ _ => rfl) hfr hlo dg (fun H1 locs1 hP1 hD1 hS1 => ?_)
  rw [cl_32 h1 (by omega), cl_32 h2 (by omega), cl_32 h3 (by omega), cpyI, show (wld ad cy M).set b (ad b, .inl (cy 1, nb, .inl (fun j => Int32.ofInt (if dp.toNat ≤ j ∧ j < dp.toNat + n.toNat then M a (sp.toNat + (j - dp.toNat)) else M b j)))) = wld ad cy (upR M b (fun j => if dp.toNat ≤ j ∧ j < dp.toNat + n.toNat then M a (sp.toNat + (j - dp.toNat)) else M b j)) from wld_set (f := fun j => if dp.toNat ≤ j ∧ j < dp.toNat + n.toNat then M a (sp.toNat + (j - dp.toNat)) else M b j) hGb] at hP1 hD1
  refine kk _ (fun k j => ?_) (fun k j q => ?_) H1 locs1 la hP1 hD1 hS1 hl
  · unfold upR
    by_cases hk : k = b
    · subst hk
      rw [if_pos rfl]
      by_cases hj : dp.toNat ≤ j ∧ j < dp.toNat + n.toNat
      · rw [if_pos hj]
        have := hB (j - dp.toNat) (by omega)
        rw [show dp.toNat + (j - dp.toNat) = j by omega] at this
        rw [this]
        exact hI a _
      · rw [if_neg hj]; exact hI k j
    · rw [if_neg hk]; exact hI k j
  · have hk : k ≠ b := by
      intro r
      rcases q with q | q | q | q | q | q
      · exact q (by rw [r]; exact List.mem_singleton.mpr rfl)
      · exact hb2.1 (r.symm.trans q.1)
      · exact hb2.2.1 (r.symm.trans q.1)
      · exact hb2.2.2.1 (r.symm.trans q.1)
      · exact hb2.2.2.2 (r.symm.trans q.1)
      · exact hb2.2.1 (r.symm.trans q.1)
    show upR M b _ k j = _
    unfold upR
    rw [if_neg hk]
theorem z_copyE {h : Nat} {a b na nb index : Nat} {sp dp n : Int} (F : FxM D cy ad p m c cc nL s args own A) (hb2 : b ≠ 132 ∧ b ≠ 131 ∧ b ≠ 0 ∧ b ≠ 133) (hg : Cond.methodLink own index arraycopyName ∈ gtbl ∧ Cond.native arraycopyName ∈ gtbl ∧ Cond.static arraycopyName ∈ gtbl ∧ Cond.initialized "java/lang/System" ∈ gtbl) (hI : Inv M) (hGa : Gs[a]? = some (.inr (.inl (1, na, false)))) (hGb : Gs[b]? = some (.inr (.inl (1, nb, false)))) (h1 : 0 ≤ sp) (h2 : 0 ≤ dp) (h3 : 0 ≤ n) (h4 : sp + n ≤ na) (h5 : dp + n ≤ nb) (hna : na ≤ 100000) (hnb : nb ≤ 100000)
    (hB : ∀ i : Nat, i < n.toNat → Bd b (dp.toNat + i) = Bd a (sp.toNat + i)) (hw : (rest.map fun v => v.category).sum ≤ 8) (dg : decode cc pc = .ok (.invokestatic index, 3))
    (kk : ∀ M' : Mem, Inv M' → Fr [b] M M' → (∀ j : Nat, M' b j = if dp.toNat ≤ j ∧ j < dp.toNat + n.toNat then M a (sp.toNat + (j - dp.toNat)) else M b j) → Z D cy ad p l e (RMh h) s m args below meth c A nL 0 0 Q (pc + 3) ls rest M') : Z D cy ad p l e (RMh h) s m args below meth c A nL 0 0 Q pc ls (ii n :: ii dp :: .ref (ad b) :: ii sp :: .ref (ad a) :: rest) M := by
  intro H locs la hP hD hS hl
  have nl : ∀ x : Int, 0 ≤ x → x ≤ 100000 → ¬ Int32.ofInt x < 0 := fun x a b q => by
    have := (lt32 (x := x) (y := 0) ⟨by omega, by omega⟩ (by decide)).mp q
    omega
  have hfr : 1 ≤ (RMh h).frames := by show 1 ≤ 8 + h; omega
  have hlo : (rest.map fun v => v.category).sum + (nativeFrameWords "java/lang/System" "arraycopy" 5 + 11) ≤ (RMh h).locals := by
    have hn : nativeFrameWords "java/lang/System" "arraycopy" 5 ≤ 100 := by decide +kernel
    show _ ≤ 120 + 40 * h
    omega
  refine va_copyi F.x F.b (F.ml.trans hl.1.symm) F.o (F.t hg.1) (F.t hg.2.1) (F.t hg.2.2.1) (F.t hg.2.2.2) F.K hP hD hS a b 1 1 (wld_get hGa) (wld_get hGb) rfl rfl rfl (nl sp h1 (by omega)) (nl dp h2 (by omega)) (nl n h3 (by omega)) (by rw [cl_32 h1 (by omega), cl_32 h3 (by omega)]; omega) (by rw [cl_32 h2 (by omega), cl_32 h3 (by omega)]; omega) (fun _ _ => rfl) hfr hlo dg (fun H1 locs1 hP1 hD1 hS1 => ?_)
  rw [cl_32 h1 (by omega), cl_32 h2 (by omega), cl_32 h3 (by omega), cpyI, show (wld ad cy M).set b (ad b, .inl (cy 1, nb, .inl (fun j => Int32.ofInt (if dp.toNat ≤ j ∧ j < dp.toNat + n.toNat then M a (sp.toNat + (j - dp.toNat)) else M b j)))) = wld ad cy (upR M b (fun j => if dp.toNat ≤ j ∧ j < dp.toNat + n.toNat then M a (sp.toNat + (j - dp.toNat)) else M b j)) from wld_set (f := fun j => if dp.toNat ≤ j ∧ j < dp.toNat + n.toNat then M a (sp.toNat + (j - dp.toNat)) else M b j) hGb] at hP1 hD1
  refine kk _ (fun k j => ?_) (fun k j q => ?_) (fun j => ?_) H1 locs1 la hP1 hD1 hS1 hl
  · unfold upR
    by_cases hk : k = b
    · subst hk
      rw [if_pos rfl]
      by_cases hj : dp.toNat ≤ j ∧ j < dp.toNat + n.toNat
      · rw [if_pos hj]
        have := hB (j - dp.toNat) (by omega)
        rw [show dp.toNat + (j - dp.toNat) = j by omega] at this
        rw [this]
        exact hI a _
      · rw [if_neg hj]; exact hI k j
    · rw [if_neg hk]; exact hI k j
  · have hk : k ≠ b := by
      intro r
      rcases q with q | q | q | q | q | q
      · exact q (by rw [r]; exact List.mem_singleton.mpr rfl)
      · exact hb2.1 (r.symm.trans q.1)
      · exact hb2.2.1 (r.symm.trans q.1)
      · exact hb2.2.2.1 (r.symm.trans q.1)
      · exact hb2.2.2.2 (r.symm.trans q.1)
      · exact hb2.2.1 (r.symm.trans q.1)
    show upR M b _ k j = _
    unfold upR
    rw [if_neg hk]
  · show upR M b _ b j = _
    unfold upR
    rw [if_pos rfl]
theorem z_wrap {x : Int} (k : ∀ w : Int, In32 w → (In32 x → w = x) ∧ Int32.ofInt w = Int32.ofInt x → Z D cy ad p l e R s m args below meth c A nL n0 s0 Q (pc) (ls) (ii w :: rest) (M)) : Z D cy ad p l e R s m args below meth c A nL n0 s0 Q (pc) (ls) (ii x :: rest) (M) := by
  have h := k (Int32.ofInt x).toInt (r32 _) ⟨fun q => o32 q, (b32 _).symm⟩
  intro H locs la hP hD hS hl
  have := h H locs la hP hD hS hl
  rw [show ii (Int32.ofInt x).toInt = ii x from by show Value.int _ = Value.int _; rw [← b32]] at this
  exact this
theorem z_nm {x : Int} (k : ∀ w : Int, w = x → Z D cy ad p l e R s m args below meth c A nL n0 s0 Q (pc) (ls) (ii w :: rest) (M)) : Z D cy ad p l e R s m args below meth c A nL n0 s0 Q (pc) (ls) (ii x :: rest) (M) := k x rfl
theorem nar_z {z : Int} (h0 : 0 ≤ z) (h1 : z ≤ 1) : narrow .boolean (ii z) = ii z := by
  have : z = 0 ∨ z = 1 := by omega
  rcases this with rfl | rfl <;> rfl
theorem fit_z {z : Int} (h0 : 0 ≤ z) (h1 : z ≤ 1) : fits .boolean (ii z) = true := by
  have : z = 0 ∨ z = 1 := by omega
  rcases this with rfl | rfl <;> rfl
theorem room_ok {h h' mL : Nat} (hh : h' + 1 ≤ h) (hm : mL ≤ 21) : (RMh h').frames + 1 ≤ (RMh h).frames ∧ 8 + (mL + 11) + (RMh h').locals ≤ (RMh h).locals := by
  show 8 + h' + 1 ≤ 8 + h ∧ 8 + (mL + 11) + (120 + 40 * h') ≤ 120 + 40 * h
  omega
/-! calls and ends -/
theorem pre_bl {M : Mem} {sz : Nat} {av : List Value} : FrameBlind (va_Pc av (PreM D cy ad M sz)) := fun a U g mk h => ⟨h.1, (pre_blind (av := av) a U g mk ⟨h.1, h.2.1⟩).2, SA.warm (State.WarmedH.refl U) h.2.2.1, SS.moved (u := U) (U := U.calling g mk a) (Vm.Alike.refl U.vm) h.2.2.2⟩
theorem rng_wld : (List.range (wld ad cy M).length).map (fun i => (wld ad cy M)[i]?) = (wld ad cy M).map some := by
  apply List.ext_getElem?
  intro i
  rw [List.getElem?_map, List.getElem?_map]
  by_cases h : i < (wld ad cy M).length
  · rw [List.getElem?_range h, List.getElem?_eq_getElem h, Option.map_some, Option.map_some, List.getElem?_eq_getElem h]
  · rw [List.getElem?_eq_none (l := List.range _) (by rw [List.length_range]; omega), List.getElem?_eq_none (l := wld ad cy M) (by omega)]; rfl
theorem nd_range : ∀ n : Nat, va_nd (List.range n) = true := by
  intro n
  have key : ∀ l : List Nat, l.Nodup → va_nd l = true := by
    intro l h
    induction l with
    | nil => rfl
    | cons x l ih =>
      obtain ⟨h1, h2⟩ := List.nodup_cons.mp h
      show (decide (x ∉ l) && va_nd l) = true
      rw [ih h2, decide_eq_true h1]; rfl
  exact key _ List.nodup_range
theorem free_cm {H : Heap} {locs : List Loc} (F : FxM D cy ad p m c cc nL s args own A) (hD : va_D A (wld ad cy M)) (hS : va_S A s.heap H locs) : ∀ q, va_A (wld ad cy M) H.size q → A q := va_free hD hS F.1.2.2.2.2 (List.range _) rng_wld
theorem pre_cm {av : List Value} {H : Heap} {locs : List Loc} (F : FxM D cy ad p m c cc nL s args own A) (hP : va_P D vwCl (wld ad cy M) H) (hD : va_D A (wld ad cy M)) (hS : va_S A s.heap H locs) : PreS s H (va_Pc av (PreM D cy ad M H.size)) av :=
  ⟨pre_bl, fun U hU hW => ⟨rfl, ((pre_call (av := av) F.1 hP hD hS (List.range _) (nd_range _) rng_wld).2 U hU hW).2, SA.warm hW F.2.1, by rw [hU]; exact ((F.2.2.kept hS.2.1).moved hW.alike).narrow (free_cm F hD hS)⟩⟩
/-- what a call answers -/
def QI (post : Int → Mem → Prop) : Int32 → Mem → Prop := fun r M' => ∃ z : Int, r = Int32.ofInt z ∧ In32 z ∧ Iw M' ∧ post z M'
def QL (post : Int → Mem → Prop) : Int64 → Mem → Prop := fun r M' => ∃ z : Int, r = Int64.ofInt z ∧ In64 z ∧ Iw M' ∧ post z M'
def QV (post : Mem → Prop) : Mem → Prop := fun M' => Iw M' ∧ post M'
end ROWS
def CI (l : Launch) (y : MethodName) (cb : ByteArray) (mL : Nat) (rt : Option FieldType) (h : Nat) (av : (Nat → Nat) → List Value) (M : Mem) (post : Int → Mem → Prop) : Prop :=
  ∀ (D : va_G) (cy : Nat → ClassId) (ad : Nat → Nat) (sz : Nat), Met l y (Cond.code y cb mL rt :: gtbl) (RMh h) (va_Pc (av ad) (PreM D cy ad M sz)) (va_Qi (QI post) (PostM D cy ad (va_A (wld ad cy M) sz)) (va_A (wld ad cy M) sz)) 0 0 (va_A (wld ad cy M) sz)
def CL (l : Launch) (y : MethodName) (cb : ByteArray) (mL : Nat) (rt : Option FieldType) (h : Nat) (av : (Nat → Nat) → List Value) (M : Mem) (post : Int → Mem → Prop) : Prop :=
  ∀ (D : va_G) (cy : Nat → ClassId) (ad : Nat → Nat) (sz : Nat), Met l y (Cond.code y cb mL rt :: gtbl) (RMh h) (va_Pc (av ad) (PreM D cy ad M sz)) (va_Ql (QL post) (PostM D cy ad (va_A (wld ad cy M) sz)) (va_A (wld ad cy M) sz)) 0 0 (va_A (wld ad cy M) sz)
def CV (l : Launch) (y : MethodName) (cb : ByteArray) (mL : Nat) (rt : Option FieldType) (h : Nat) (av : (Nat → Nat) → List Value) (M : Mem) (post : Mem → Prop) : Prop :=
  ∀ (D : va_G) (cy : Nat → ClassId) (ad : Nat → Nat) (sz : Nat), Met l y (Cond.code y cb mL rt :: gtbl) (RMh h) (va_Pc (av ad) (PreM D cy ad M sz)) (va_Qv (QV post) (PostM D cy ad (va_A (wld ad cy M) sz)) (va_A (wld ad cy M) sz)) 0 0 (va_A (wld ad cy M) sz)
section ROWS2
variable {D : va_G} {cy : Nat → ClassId} {ad : Nat → Nat} {p : Program} {l : Launch} {e : Env} {R : Room} {s : State} {m : MethodId} {args : Array Value} {below : List Frame} {meth : Method} {c : Code} {cc : ByteArray} {own : String} {A : Nat → Prop} {nL n0 s0 : Nat} {Q : State → Prop} {pc : Nat} {ls : List (Nat × Value)} {st rest : List Value} {M : Mem}
variable {y : MethodName} {cb : ByteArray} {mL h h' : Nat} {rt : Option FieldType} {av : (Nat → Nat) → List Value}
theorem zk_i {post : Int → Mem → Prop} {avl : List Value} (F : FxM D cy ad p m c cc nL s args own A) (hr : ∀ (H : Heap) (locs : List Loc) (la : Array Slot), va_P D vwCl (wld ad cy M) H → va_D A (wld ad cy M) → va_S A s.heap H locs → lv_has la nL ls → va_Run p l e R s m args below meth c H locs n0 s0 0 0 (F0 m pc la st) rest (va_Qi (QI post) (PostM D cy ad (va_A (wld ad cy M) H.size)) (va_A (wld ad cy M) H.size) avl.toArray) (va_A (wld ad cy M) H.size))
    (kk : ∀ (z : Int) (M' : Mem), In32 z → Iw M' → post z M' → Z D cy ad p l e R s m args below meth c A nL n0 s0 Q (pc + 3) (ls) (ii z :: rest) (M')) : Z D cy ad p l e R s m args below meth c A nL n0 s0 Q (pc) (ls) (st) (M) := by
  intro H locs la hP hD hS hl
  refine va_calli (hr H locs la hP hD hS hl) hS (fun q _ h => free_cm F hD hS q h) (free_cm F hD hS) (fun r u t H1 locs1 ht hvm hw hB hz hk hS1 => ?_)
  obtain ⟨hP1, hD1⟩ := hB
  rw [ht] at hP1
  obtain ⟨z, rfl, h32, hI, hp⟩ := hw
  exact kk z u h32 hI hp H1 locs1 la hP1 (hD1.weaken (fun _ _ _ h => free_cm F hD hS _ h)) hS1 hl
theorem zv_i {post : Int → Mem → Prop} {C : String} {T : u_T} {N ci index k n : Nat} {fk : List (Option Nat)} {As : List Value} (F : FxM D cy ad p m c cc nL s args own A) (hM : CI l y cb mL rt h' av M post) (hg : GoodIn gtbl (wsV own index C y (Cond.code y cb mL rt :: gtbl)) ∧ y.cls = C ∧ y.cls ≠ "java/lang/invoke/MethodHandle" ∧ y.cls ≠ "java/lang/invoke/VarHandle" ∧ (parseMethodDescriptor y.desc).map (fun d => d.parameters.length) = some n) (hcl : vwCl[ci]? = some (C, T, N))
    (hG : Gs[k]? = some (.inl (ci, fk))) (hh : h' + 1 ≤ h) (hm : mL ≤ 21) (hav : av ad = .ref (ad k) :: As) (hn : As.length = n) (hst : st = As.reverse ++ .ref (ad k) :: rest) (hw : (rest.map fun v => v.category).sum ≤ 8) (dg : decode cc pc = .ok (.invokevirtual index, 3))
    (kk : ∀ (z : Int) (M' : Mem), In32 z → Iw M' → post z M' → Z D cy ad p l e (RMh h) s m args below meth c A nL 0 0 Q (pc + 3) (ls) (ii z :: rest) M') : Z D cy ad p l e (RMh h) s m args below meth c A nL 0 0 Q (pc) (ls) (st) M := by
  refine zk_i (avl := .ref (ad k) :: As) F (fun H locs la hP hD hS hl => ?_) kk
  have hM' := hM D cy ad H.size
  rw [hav] at hM'
  have pr := pre_cm (av := .ref (ad k) :: As) F hP hD hS
  exact va_runV (As := As) (rest := rest) F.1.1 hM' (cwV n (fun w h => F.t h) hg.1 rfl rfl rfl hg.2 (room_ok hh hm)) ⟨pr.1, va_recv F.K hP hcl (wld_get hG), pr.2⟩ rfl hn hl.1 hst (lv_room hw) dg ⟨Nat.le_refl 0, Nat.le_refl 0⟩
theorem zs_i {post : Int → Mem → Prop} {index n : Nat} {As : List Value} (F : FxM D cy ad p m c cc nL s args own A) (hM : CI l y cb mL rt h' av M post) (hg : GoodIn gtbl (va_wsS own index y (Cond.code y cb mL rt :: gtbl)) ∧ y.cls ≠ "java/lang/invoke/MethodHandle" ∧ y.cls ≠ "java/lang/invoke/VarHandle" ∧ (parseMethodDescriptor y.desc).map (fun d => d.parameters.length) = some n)
    (hh : h' + 1 ≤ h) (hm : mL ≤ 21) (hav : av ad = As) (hn : As.length = n) (hst : st = As.reverse ++ rest) (hw : (rest.map fun v => v.category).sum ≤ 8) (dg : decode cc pc = .ok (.invokestatic index, 3))
    (kk : ∀ (z : Int) (M' : Mem), In32 z → Iw M' → post z M' → Z D cy ad p l e (RMh h) s m args below meth c A nL 0 0 Q (pc + 3) (ls) (ii z :: rest) M') : Z D cy ad p l e (RMh h) s m args below meth c A nL 0 0 Q (pc) (ls) (st) M := by
  refine zk_i (avl := As) F (fun H locs la hP hD hS hl => ?_) kk
  have hM' := hM D cy ad H.size
  rw [hav] at hM'
  exact va_runS (As := As) (rest := rest) F.1.1 hM' (va_cwS n (fun w h => F.t h) hg.1 rfl rfl rfl hg.2 (room_ok hh hm)) (pre_cm F hP hD hS) rfl hn hl.1 hst (lv_room hw) dg ⟨Nat.le_refl 0, Nat.le_refl 0⟩
theorem zn_i {post : Int → Mem → Prop} {index n : Nat} {host : String} {As : List Value} (F : FxM D cy ad p m c cc nL s args own A) (hM : CI l y cb mL rt h' av M post) (hg : GoodIn gtbl (Cond.code y cb mL rt :: gtbl) ∧ Cond.methodLinkNest own index y host ∈ nests ∧ Cond.initialized y.cls ∈ gtbl ∧ Cond.static y ∈ gtbl ∧ y.cls ≠ "java/lang/invoke/MethodHandle" ∧ y.cls ≠ "java/lang/invoke/VarHandle" ∧ (parseMethodDescriptor y.desc).map (fun d => d.parameters.length) = some n)
    (hh : h' + 1 ≤ h) (hm : mL ≤ 21) (hav : av ad = As) (hn : As.length = n) (hst : st = As.reverse ++ rest) (hw : (rest.map fun v => v.category).sum ≤ 8) (dg : decode cc pc = .ok (.invokestatic index, 3))
    (kk : ∀ (z : Int) (M' : Mem), In32 z → Iw M' → post z M' → Z D cy ad p l e (RMh h) s m args below meth c A nL 0 0 Q (pc + 3) (ls) (ii z :: rest) M') : Z D cy ad p l e (RMh h) s m args below meth c A nL 0 0 Q (pc) (ls) (st) M := by
  refine zk_i (avl := As) F (fun H locs la hP hD hS hl => ?_) kk
  have hM' := hM D cy ad H.size
  rw [hav] at hM'
  exact va_runSN (As := As) (rest := rest) F.1.1 hM' ⟨va_cnB n (fun w h => F.t h) hg.1 rfl rfl rfl (F.g.1 _ hg.2.1) (F.t hg.2.2.1) hg.2.2.2.2 (room_ok hh hm), F.t hg.2.2.2.1, trivial⟩ (pre_cm F hP hD hS) rfl hn hl.1 hst (lv_room hw) dg ⟨Nat.le_refl 0, Nat.le_refl 0⟩
theorem zk_l {post : Int → Mem → Prop} {avl : List Value} (F : FxM D cy ad p m c cc nL s args own A) (hr : ∀ (H : Heap) (locs : List Loc) (la : Array Slot), va_P D vwCl (wld ad cy M) H → va_D A (wld ad cy M) → va_S A s.heap H locs → lv_has la nL ls → va_Run p l e R s m args below meth c H locs n0 s0 0 0 (F0 m pc la st) rest (va_Ql (QL post) (PostM D cy ad (va_A (wld ad cy M) H.size)) (va_A (wld ad cy M) H.size) avl.toArray) (va_A (wld ad cy M) H.size))
    (kk : ∀ (z : Int) (M' : Mem), In64 z → Iw M' → post z M' → Z D cy ad p l e R s m args below meth c A nL n0 s0 Q (pc + 3) (ls) (ll z :: rest) (M')) : Z D cy ad p l e R s m args below meth c A nL n0 s0 Q (pc) (ls) (st) (M) := by
  intro H locs la hP hD hS hl
  refine va_calll (hr H locs la hP hD hS hl) hS (fun q _ h => free_cm F hD hS q h) (free_cm F hD hS) (fun r u t H1 locs1 ht hvm hw hB hz hk hS1 => ?_)
  obtain ⟨hP1, hD1⟩ := hB
  rw [ht] at hP1
  obtain ⟨z, rfl, h32, hI, hp⟩ := hw
  exact kk z u h32 hI hp H1 locs1 la hP1 (hD1.weaken (fun _ _ _ h => free_cm F hD hS _ h)) hS1 hl
theorem zv_l {post : Int → Mem → Prop} {C : String} {T : u_T} {N ci index k n : Nat} {fk : List (Option Nat)} {As : List Value} (F : FxM D cy ad p m c cc nL s args own A) (hM : CL l y cb mL rt h' av M post) (hg : GoodIn gtbl (wsV own index C y (Cond.code y cb mL rt :: gtbl)) ∧ y.cls = C ∧ y.cls ≠ "java/lang/invoke/MethodHandle" ∧ y.cls ≠ "java/lang/invoke/VarHandle" ∧ (parseMethodDescriptor y.desc).map (fun d => d.parameters.length) = some n) (hcl : vwCl[ci]? = some (C, T, N))
    (hG : Gs[k]? = some (.inl (ci, fk))) (hh : h' + 1 ≤ h) (hm : mL ≤ 21) (hav : av ad = .ref (ad k) :: As) (hn : As.length = n) (hst : st = As.reverse ++ .ref (ad k) :: rest) (hw : (rest.map fun v => v.category).sum ≤ 8) (dg : decode cc pc = .ok (.invokevirtual index, 3))
    (kk : ∀ (z : Int) (M' : Mem), In64 z → Iw M' → post z M' → Z D cy ad p l e (RMh h) s m args below meth c A nL 0 0 Q (pc + 3) (ls) (ll z :: rest) M') : Z D cy ad p l e (RMh h) s m args below meth c A nL 0 0 Q (pc) (ls) (st) M := by
  refine zk_l (avl := .ref (ad k) :: As) F (fun H locs la hP hD hS hl => ?_) kk
  have hM' := hM D cy ad H.size
  rw [hav] at hM'
  have pr := pre_cm (av := .ref (ad k) :: As) F hP hD hS
  exact va_runV (As := As) (rest := rest) F.1.1 hM' (cwV n (fun w h => F.t h) hg.1 rfl rfl rfl hg.2 (room_ok hh hm)) ⟨pr.1, va_recv F.K hP hcl (wld_get hG), pr.2⟩ rfl hn hl.1 hst (lv_room hw) dg ⟨Nat.le_refl 0, Nat.le_refl 0⟩
theorem zs_l {post : Int → Mem → Prop} {index n : Nat} {As : List Value} (F : FxM D cy ad p m c cc nL s args own A) (hM : CL l y cb mL rt h' av M post) (hg : GoodIn gtbl (va_wsS own index y (Cond.code y cb mL rt :: gtbl)) ∧ y.cls ≠ "java/lang/invoke/MethodHandle" ∧ y.cls ≠ "java/lang/invoke/VarHandle" ∧ (parseMethodDescriptor y.desc).map (fun d => d.parameters.length) = some n)
    (hh : h' + 1 ≤ h) (hm : mL ≤ 21) (hav : av ad = As) (hn : As.length = n) (hst : st = As.reverse ++ rest) (hw : (rest.map fun v => v.category).sum ≤ 8) (dg : decode cc pc = .ok (.invokestatic index, 3))
    (kk : ∀ (z : Int) (M' : Mem), In64 z → Iw M' → post z M' → Z D cy ad p l e (RMh h) s m args below meth c A nL 0 0 Q (pc + 3) (ls) (ll z :: rest) M') : Z D cy ad p l e (RMh h) s m args below meth c A nL 0 0 Q (pc) (ls) (st) M := by
  refine zk_l (avl := As) F (fun H locs la hP hD hS hl => ?_) kk
  have hM' := hM D cy ad H.size
  rw [hav] at hM'
  exact va_runS (As := As) (rest := rest) F.1.1 hM' (va_cwS n (fun w h => F.t h) hg.1 rfl rfl rfl hg.2 (room_ok hh hm)) (pre_cm F hP hD hS) rfl hn hl.1 hst (lv_room hw) dg ⟨Nat.le_refl 0, Nat.le_refl 0⟩
theorem zn_l {post : Int → Mem → Prop} {index n : Nat} {host : String} {As : List Value} (F : FxM D cy ad p m c cc nL s args own A) (hM : CL l y cb mL rt h' av M post) (hg : GoodIn gtbl (Cond.code y cb mL rt :: gtbl) ∧ Cond.methodLinkNest own index y host ∈ nests ∧ Cond.initialized y.cls ∈ gtbl ∧ Cond.static y ∈ gtbl ∧ y.cls ≠ "java/lang/invoke/MethodHandle" ∧ y.cls ≠ "java/lang/invoke/VarHandle" ∧ (parseMethodDescriptor y.desc).map (fun d => d.parameters.length) = some n)
    (hh : h' + 1 ≤ h) (hm : mL ≤ 21) (hav : av ad = As) (hn : As.length = n) (hst : st = As.reverse ++ rest) (hw : (rest.map fun v => v.category).sum ≤ 8) (dg : decode cc pc = .ok (.invokestatic index, 3))
    (kk : ∀ (z : Int) (M' : Mem), In64 z → Iw M' → post z M' → Z D cy ad p l e (RMh h) s m args below meth c A nL 0 0 Q (pc + 3) (ls) (ll z :: rest) M') : Z D cy ad p l e (RMh h) s m args below meth c A nL 0 0 Q (pc) (ls) (st) M := by
  refine zk_l (avl := As) F (fun H locs la hP hD hS hl => ?_) kk
  have hM' := hM D cy ad H.size
  rw [hav] at hM'
  exact va_runSN (As := As) (rest := rest) F.1.1 hM' ⟨va_cnB n (fun w h => F.t h) hg.1 rfl rfl rfl (F.g.1 _ hg.2.1) (F.t hg.2.2.1) hg.2.2.2.2 (room_ok hh hm), F.t hg.2.2.2.1, trivial⟩ (pre_cm F hP hD hS) rfl hn hl.1 hst (lv_room hw) dg ⟨Nat.le_refl 0, Nat.le_refl 0⟩
theorem zk_v {post : Mem → Prop} {avl : List Value} (F : FxM D cy ad p m c cc nL s args own A) (hr : ∀ (H : Heap) (locs : List Loc) (la : Array Slot), va_P D vwCl (wld ad cy M) H → va_D A (wld ad cy M) → va_S A s.heap H locs → lv_has la nL ls → va_Run p l e R s m args below meth c H locs n0 s0 0 0 (F0 m pc la st) rest (va_Qv (QV post) (PostM D cy ad (va_A (wld ad cy M) H.size)) (va_A (wld ad cy M) H.size) avl.toArray) (va_A (wld ad cy M) H.size))
    (kk : ∀ (M' : Mem), Iw M' → post M' → Z D cy ad p l e R s m args below meth c A nL n0 s0 Q (pc + 3) (ls) (rest) (M')) : Z D cy ad p l e R s m args below meth c A nL n0 s0 Q (pc) (ls) (st) (M) := by
  intro H locs la hP hD hS hl
  refine va_callv (hr H locs la hP hD hS hl) hS (fun q _ h => free_cm F hD hS q h) (free_cm F hD hS) (fun u t H1 locs1 ht hvm hw hB hz hk hS1 => ?_)
  obtain ⟨hP1, hD1⟩ := hB
  rw [ht] at hP1
  exact kk u hw.1 hw.2 H1 locs1 la hP1 (hD1.weaken (fun _ _ _ h => free_cm F hD hS _ h)) hS1 hl
theorem zv_v {post : Mem → Prop} {C : String} {T : u_T} {N ci index k n : Nat} {fk : List (Option Nat)} {As : List Value} (F : FxM D cy ad p m c cc nL s args own A) (hM : CV l y cb mL rt h' av M post) (hg : GoodIn gtbl (wsV own index C y (Cond.code y cb mL rt :: gtbl)) ∧ y.cls = C ∧ y.cls ≠ "java/lang/invoke/MethodHandle" ∧ y.cls ≠ "java/lang/invoke/VarHandle" ∧ (parseMethodDescriptor y.desc).map (fun d => d.parameters.length) = some n) (hcl : vwCl[ci]? = some (C, T, N))
    (hG : Gs[k]? = some (.inl (ci, fk))) (hh : h' + 1 ≤ h) (hm : mL ≤ 21) (hav : av ad = .ref (ad k) :: As) (hn : As.length = n) (hst : st = As.reverse ++ .ref (ad k) :: rest) (hw : (rest.map fun v => v.category).sum ≤ 8) (dg : decode cc pc = .ok (.invokevirtual index, 3))
    (kk : ∀ (M' : Mem), Iw M' → post M' → Z D cy ad p l e (RMh h) s m args below meth c A nL 0 0 Q (pc + 3) (ls) (rest) M') : Z D cy ad p l e (RMh h) s m args below meth c A nL 0 0 Q (pc) (ls) (st) M := by
  refine zk_v (avl := .ref (ad k) :: As) F (fun H locs la hP hD hS hl => ?_) kk
  have hM' := hM D cy ad H.size
  rw [hav] at hM'
  have pr := pre_cm (av := .ref (ad k) :: As) F hP hD hS
  exact va_runV (As := As) (rest := rest) F.1.1 hM' (cwV n (fun w h => F.t h) hg.1 rfl rfl rfl hg.2 (room_ok hh hm)) ⟨pr.1, va_recv F.K hP hcl (wld_get hG), pr.2⟩ rfl hn hl.1 hst (lv_room hw) dg ⟨Nat.le_refl 0, Nat.le_refl 0⟩
theorem zs_v {post : Mem → Prop} {index n : Nat} {As : List Value} (F : FxM D cy ad p m c cc nL s args own A) (hM : CV l y cb mL rt h' av M post) (hg : GoodIn gtbl (va_wsS own index y (Cond.code y cb mL rt :: gtbl)) ∧ y.cls ≠ "java/lang/invoke/MethodHandle" ∧ y.cls ≠ "java/lang/invoke/VarHandle" ∧ (parseMethodDescriptor y.desc).map (fun d => d.parameters.length) = some n)
    (hh : h' + 1 ≤ h) (hm : mL ≤ 21) (hav : av ad = As) (hn : As.length = n) (hst : st = As.reverse ++ rest) (hw : (rest.map fun v => v.category).sum ≤ 8) (dg : decode cc pc = .ok (.invokestatic index, 3))
    (kk : ∀ (M' : Mem), Iw M' → post M' → Z D cy ad p l e (RMh h) s m args below meth c A nL 0 0 Q (pc + 3) (ls) (rest) M') : Z D cy ad p l e (RMh h) s m args below meth c A nL 0 0 Q (pc) (ls) (st) M := by
  refine zk_v (avl := As) F (fun H locs la hP hD hS hl => ?_) kk
  have hM' := hM D cy ad H.size
  rw [hav] at hM'
  exact va_runS (As := As) (rest := rest) F.1.1 hM' (va_cwS n (fun w h => F.t h) hg.1 rfl rfl rfl hg.2 (room_ok hh hm)) (pre_cm F hP hD hS) rfl hn hl.1 hst (lv_room hw) dg ⟨Nat.le_refl 0, Nat.le_refl 0⟩
theorem zn_v {post : Mem → Prop} {index n : Nat} {host : String} {As : List Value} (F : FxM D cy ad p m c cc nL s args own A) (hM : CV l y cb mL rt h' av M post) (hg : GoodIn gtbl (Cond.code y cb mL rt :: gtbl) ∧ Cond.methodLinkNest own index y host ∈ nests ∧ Cond.initialized y.cls ∈ gtbl ∧ Cond.static y ∈ gtbl ∧ y.cls ≠ "java/lang/invoke/MethodHandle" ∧ y.cls ≠ "java/lang/invoke/VarHandle" ∧ (parseMethodDescriptor y.desc).map (fun d => d.parameters.length) = some n)
    (hh : h' + 1 ≤ h) (hm : mL ≤ 21) (hav : av ad = As) (hn : As.length = n) (hst : st = As.reverse ++ rest) (hw : (rest.map fun v => v.category).sum ≤ 8) (dg : decode cc pc = .ok (.invokestatic index, 3))
    (kk : ∀ (M' : Mem), Iw M' → post M' → Z D cy ad p l e (RMh h) s m args below meth c A nL 0 0 Q (pc + 3) (ls) (rest) M') : Z D cy ad p l e (RMh h) s m args below meth c A nL 0 0 Q (pc) (ls) (st) M := by
  refine zk_v (avl := As) F (fun H locs la hP hD hS hl => ?_) kk
  have hM' := hM D cy ad H.size
  rw [hav] at hM'
  exact va_runSN (As := As) (rest := rest) F.1.1 hM' ⟨va_cnB n (fun w h => F.t h) hg.1 rfl rfl rfl (F.g.1 _ hg.2.1) (F.t hg.2.2.1) hg.2.2.2.2 (room_ok hh hm), F.t hg.2.2.2.1, trivial⟩ (pre_cm F hP hD hS) rfl hn hl.1 hst (lv_room hw) dg ⟨Nat.le_refl 0, Nat.le_refl 0⟩
theorem en_i {post : Int → Mem → Prop} (hy : plainName y.cls = true) (hav : ∀ ad, (lg_sl (av ad)).length ≤ mL)
    (body : ∀ (D : va_G) (cy : Nat → ClassId) (ad : Nat → Nat) (A : Nat → Prop) (p : Program) (e : Env) (s : State) (m : MethodId) (args : Array Value) (below : List Frame) (meth : Method) (c : Code) (Q : State → Prop), FxM D cy ad p m c cb mL s args y.cls A →
      (∀ (z : Int) (M : Mem) (pc : Nat) (ls : List (Nat × Value)), In32 z → Iw M → post z M → decode cb pc = .ok (.ireturn, 1) → Z D cy ad p l e (RMh h) s m args below meth c A mL 0 0 Q pc ls [ii z] M) →
      Z D cy ad p l e (RMh h) s m args below meth c A mL 0 0 Q 0 (lv_args 0 (av ad)) [] M) : CI l y cb mL (some .int) h av M post := by
  intro D cy ad sz
  refine Met.ofW (cc := cb) (maxL := mL) (ret := some .int) hy rfl ?_
  intro p e s m args below meth c s₁ B hml hv
  obtain ⟨rfl, ⟨hsz, hP, hK, hD0, hG, hZ⟩, hSA⟩ := hv
  rw [lg_entry_eq]
  have hl := lv_entry (av ad) (n := mL) (hav ad)
  generalize (lg_sl (av ad) ++ List.replicate (mL - (lg_sl (av ad)).length) Slot.unset).toArray = la at hl ⊢
  have hts : ∀ w ∈ gtbl, w.before (av ad).toArray s = true := fun w hw => atoms_spec (ws := Cond.code y cb mL (some .int) :: gtbl) B.pre w (List.mem_cons_of_mem _ hw)
  have F : FxM D cy ad p m c cb mL s (av ad).toArray y.cls (va_A (wld ad cy M) sz) := ⟨⟨⟨B.exec, B.bytes, hml, findClass_of_methodNamed B.named, hts⟩, hK, hG, hZ, fun q h => Or.inr (by rw [← hsz]; exact h)⟩, hSA⟩
  refine body D cy ad (va_A (wld ad cy M) sz) p e s m _ below meth c _ F ?_ s.heap [] la hP (hD0.self (sz := sz)) va_S.rf hl
  intro z M pc ls h32 hI hp d H locs la hP hD hS hl
  exact W.iret F.x F.b B.returns (fun t ht _ => ⟨⟨Int32.ofInt z, M, rfl, ⟨z, rfl, h32, hI, hp⟩, by show va_P D vwCl (wld ad cy M) t.heap; rw [ht]; exact hP, hD⟩, hS.F ht⟩) hS.2.2 d B.notSynchronized
theorem en_z {post : Int → Mem → Prop} (hy : plainName y.cls = true) (hav : ∀ ad, (lg_sl (av ad)).length ≤ mL)
    (body : ∀ (D : va_G) (cy : Nat → ClassId) (ad : Nat → Nat) (A : Nat → Prop) (p : Program) (e : Env) (s : State) (m : MethodId) (args : Array Value) (below : List Frame) (meth : Method) (c : Code) (Q : State → Prop), FxM D cy ad p m c cb mL s args y.cls A →
      (∀ (z : Int) (M : Mem) (pc : Nat) (ls : List (Nat × Value)), (0 ≤ z ∧ z ≤ 1) → Iw M → post z M → decode cb pc = .ok (.ireturn, 1) → Z D cy ad p l e (RMh h) s m args below meth c A mL 0 0 Q pc ls [ii z] M) →
      Z D cy ad p l e (RMh h) s m args below meth c A mL 0 0 Q 0 (lv_args 0 (av ad)) [] M) : CI l y cb mL (some .boolean) h av M post := by
  intro D cy ad sz
  refine Met.ofW (cc := cb) (maxL := mL) (ret := some .boolean) hy rfl ?_
  intro p e s m args below meth c s₁ B hml hv
  obtain ⟨rfl, ⟨hsz, hP, hK, hD0, hG, hZ⟩, hSA⟩ := hv
  rw [lg_entry_eq]
  have hl := lv_entry (av ad) (n := mL) (hav ad)
  generalize (lg_sl (av ad) ++ List.replicate (mL - (lg_sl (av ad)).length) Slot.unset).toArray = la at hl ⊢
  have hts : ∀ w ∈ gtbl, w.before (av ad).toArray s = true := fun w hw => atoms_spec (ws := Cond.code y cb mL (some .boolean) :: gtbl) B.pre w (List.mem_cons_of_mem _ hw)
  have F : FxM D cy ad p m c cb mL s (av ad).toArray y.cls (va_A (wld ad cy M) sz) := ⟨⟨⟨B.exec, B.bytes, hml, findClass_of_methodNamed B.named, hts⟩, hK, hG, hZ, fun q h => Or.inr (by rw [← hsz]; exact h)⟩, hSA⟩
  refine body D cy ad (va_A (wld ad cy M) sz) p e s m _ below meth c _ F ?_ s.heap [] la hP (hD0.self (sz := sz)) va_S.rf hl
  intro z M pc ls h32 hI hp d H locs la hP hD hS hl
  exact W.zret F.x F.b B.returns (nar_z h32.1 h32.2) (fun t ht _ => ⟨⟨Int32.ofInt z, M, rfl, ⟨z, rfl, ⟨by omega, by omega⟩, hI, hp⟩, by show va_P D vwCl (wld ad cy M) t.heap; rw [ht]; exact hP, hD⟩, hS.F ht⟩) hS.2.2 d B.notSynchronized
theorem en_l {post : Int → Mem → Prop} (hy : plainName y.cls = true) (hav : ∀ ad, (lg_sl (av ad)).length ≤ mL)
    (body : ∀ (D : va_G) (cy : Nat → ClassId) (ad : Nat → Nat) (A : Nat → Prop) (p : Program) (e : Env) (s : State) (m : MethodId) (args : Array Value) (below : List Frame) (meth : Method) (c : Code) (Q : State → Prop), FxM D cy ad p m c cb mL s args y.cls A →
      (∀ (z : Int) (M : Mem) (pc : Nat) (ls : List (Nat × Value)), In64 z → Iw M → post z M → decode cb pc = .ok (.lreturn, 1) → Z D cy ad p l e (RMh h) s m args below meth c A mL 0 0 Q pc ls [ll z] M) →
      Z D cy ad p l e (RMh h) s m args below meth c A mL 0 0 Q 0 (lv_args 0 (av ad)) [] M) : CL l y cb mL (some .long) h av M post := by
  intro D cy ad sz
  refine Met.ofW (cc := cb) (maxL := mL) (ret := some .long) hy rfl ?_
  intro p e s m args below meth c s₁ B hml hv
  obtain ⟨rfl, ⟨hsz, hP, hK, hD0, hG, hZ⟩, hSA⟩ := hv
  rw [lg_entry_eq]
  have hl := lv_entry (av ad) (n := mL) (hav ad)
  generalize (lg_sl (av ad) ++ List.replicate (mL - (lg_sl (av ad)).length) Slot.unset).toArray = la at hl ⊢
  have hts : ∀ w ∈ gtbl, w.before (av ad).toArray s = true := fun w hw => atoms_spec (ws := Cond.code y cb mL (some .long) :: gtbl) B.pre w (List.mem_cons_of_mem _ hw)
  have F : FxM D cy ad p m c cb mL s (av ad).toArray y.cls (va_A (wld ad cy M) sz) := ⟨⟨⟨B.exec, B.bytes, hml, findClass_of_methodNamed B.named, hts⟩, hK, hG, hZ, fun q h => Or.inr (by rw [← hsz]; exact h)⟩, hSA⟩
  refine body D cy ad (va_A (wld ad cy M) sz) p e s m _ below meth c _ F ?_ s.heap [] la hP (hD0.self (sz := sz)) va_S.rf hl
  intro z M pc ls h32 hI hp d H locs la hP hD hS hl
  exact W.lret F.x F.b B.returns (fun t ht _ => ⟨⟨Int64.ofInt z, M, rfl, ⟨z, rfl, h32, hI, hp⟩, by show va_P D vwCl (wld ad cy M) t.heap; rw [ht]; exact hP, hD⟩, hS.F ht⟩) hS.2.2 d B.notSynchronized
theorem en_v {post : Mem → Prop} (hy : plainName y.cls = true) (hav : ∀ ad, (lg_sl (av ad)).length ≤ mL)
    (body : ∀ (D : va_G) (cy : Nat → ClassId) (ad : Nat → Nat) (A : Nat → Prop) (p : Program) (e : Env) (s : State) (m : MethodId) (args : Array Value) (below : List Frame) (meth : Method) (c : Code) (Q : State → Prop), FxM D cy ad p m c cb mL s args y.cls A →
      (∀ (M : Mem) (pc : Nat) (ls : List (Nat × Value)), Iw M → post M → decode cb pc = .ok (.return_, 1) → Z D cy ad p l e (RMh h) s m args below meth c A mL 0 0 Q pc ls [] M) →
      Z D cy ad p l e (RMh h) s m args below meth c A mL 0 0 Q 0 (lv_args 0 (av ad)) [] M) : CV l y cb mL (none) h av M post := by
  intro D cy ad sz
  refine Met.ofW (cc := cb) (maxL := mL) (ret := none) hy rfl ?_
  intro p e s m args below meth c s₁ B hml hv
  obtain ⟨rfl, ⟨hsz, hP, hK, hD0, hG, hZ⟩, hSA⟩ := hv
  rw [lg_entry_eq]
  have hl := lv_entry (av ad) (n := mL) (hav ad)
  generalize (lg_sl (av ad) ++ List.replicate (mL - (lg_sl (av ad)).length) Slot.unset).toArray = la at hl ⊢
  have hts : ∀ w ∈ gtbl, w.before (av ad).toArray s = true := fun w hw => atoms_spec (ws := Cond.code y cb mL (none) :: gtbl) B.pre w (List.mem_cons_of_mem _ hw)
  have F : FxM D cy ad p m c cb mL s (av ad).toArray y.cls (va_A (wld ad cy M) sz) := ⟨⟨⟨B.exec, B.bytes, hml, findClass_of_methodNamed B.named, hts⟩, hK, hG, hZ, fun q h => Or.inr (by rw [← hsz]; exact h)⟩, hSA⟩
  refine body D cy ad (va_A (wld ad cy M) sz) p e s m _ below meth c _ F ?_ s.heap [] la hP (hD0.self (sz := sz)) va_S.rf hl
  intro M pc ls hI hp d H locs la hP hD hS hl
  exact W.vret F.x F.b B.returns (fun t ht _ => ⟨⟨M, rfl, ⟨hI, hp⟩, by show va_P D vwCl (wld ad cy M) t.heap; rw [ht]; exact hP, hD⟩, hS.F ht⟩) hS.2.2 d B.notSynchronized
theorem z_max {x y : Int} {index : Nat} (F : FxM D cy ad p m c cc nL s args own A) (hg : Cond.methodLink own index Lib.Math.max.name ∈ gtbl ∧ Cond.static Lib.Math.max.name ∈ gtbl ∧ Cond.initialized "java/lang/Math" ∈ gtbl ∧ Cond.code Lib.Math.max.name Lib.Math.max.code 2 (some .int) ∈ gtbl) (hw : (rest.map fun v => v.category).sum ≤ 8) (dg : decode cc pc = .ok (.invokestatic index, 3)) (hx : In32 x) (hy : In32 y)
    (kk : ∀ z : Int, (z = y ∧ x < y) ∨ (z = x ∧ y ≤ x) → Z D cy ad p l e (RMh h) s m args below meth c A nL 0 0 Q (pc + 3) ls (ii z :: rest) M) : Z D cy ad p l e (RMh h) s m args below meth c A nL 0 0 Q pc ls (ii y :: ii x :: rest) M := by
  intro H locs la hP hD hS hl
  refine va_mmax F.x F.b (F.ml.trans hl.1.symm) F.o (F.t hg.1) (F.t hg.2.1) (F.t hg.2.2.1) (F.t hg.2.2.2) (by show 1 ≤ 8 + h; omega) (by show _ + 13 ≤ 120 + 40 * h; omega) (Nat.zero_le _) (Nat.zero_le _) dg ?_
  by_cases q : x < y
  · rw [if_pos ((lt32 hx hy).mpr q)]; exact kk y (Or.inl ⟨rfl, q⟩) H locs la hP hD hS hl
  · rw [if_neg (fun r => q ((lt32 hx hy).mp r))]; exact kk x (Or.inr ⟨rfl, Int.not_lt.mp q⟩) H locs la hP hD hS hl
theorem z_min {x y : Int} {index : Nat} (F : FxM D cy ad p m c cc nL s args own A) (hg : Cond.methodLink own index Lib.Math.min.name ∈ gtbl ∧ Cond.static Lib.Math.min.name ∈ gtbl ∧ Cond.initialized "java/lang/Math" ∈ gtbl ∧ Cond.code Lib.Math.min.name Lib.Math.min.code 2 (some .int) ∈ gtbl) (hw : (rest.map fun v => v.category).sum ≤ 8) (dg : decode cc pc = .ok (.invokestatic index, 3)) (hx : In32 x) (hy : In32 y)
    (kk : ∀ z : Int, (z = y ∧ y < x) ∨ (z = x ∧ x ≤ y) → Z D cy ad p l e (RMh h) s m args below meth c A nL 0 0 Q (pc + 3) ls (ii z :: rest) M) : Z D cy ad p l e (RMh h) s m args below meth c A nL 0 0 Q pc ls (ii y :: ii x :: rest) M := by
  intro H locs la hP hD hS hl
  refine va_mmin F.x F.b (F.ml.trans hl.1.symm) F.o (F.t hg.1) (F.t hg.2.1) (F.t hg.2.2.1) (F.t hg.2.2.2) (by show 1 ≤ 8 + h; omega) (by show _ + 13 ≤ 120 + 40 * h; omega) (Nat.zero_le _) (Nat.zero_le _) dg ?_
  by_cases q : y < x
  · rw [if_pos ((lt32 hy hx).mpr q)]; exact kk y (Or.inl ⟨rfl, q⟩) H locs la hP hD hS hl
  · rw [if_neg (fun r => q ((lt32 hy hx).mp r))]; exact kk x (Or.inr ⟨rfl, Int.not_lt.mp q⟩) H locs la hP hD hS hl
theorem z_maxl {x y : Int} {index : Nat} (F : FxM D cy ad p m c cc nL s args own A) (hg : Cond.methodLink own index Lib.MathLoose.max_long.x ∈ gtbl ∧ Cond.static Lib.MathLoose.max_long.x ∈ gtbl ∧ Cond.initialized "java/lang/Math" ∈ gtbl ∧ Cond.code Lib.MathLoose.max_long.x Lib.MathLoose.max_long.code 4 (some .long) ∈ gtbl) (hw : (rest.map fun v => v.category).sum ≤ 8) (dg : decode cc pc = .ok (.invokestatic index, 3)) (hx : In64 x) (hy : In64 y)
    (kk : ∀ z : Int, (z = x ∧ y < x) ∨ (z = y ∧ x ≤ y) → Z D cy ad p l e (RMh h) s m args below meth c A nL 0 0 Q (pc + 3) ls (ll z :: rest) M) : Z D cy ad p l e (RMh h) s m args below meth c A nL 0 0 Q pc ls (ll y :: ll x :: rest) M := by
  intro H locs la hP hD hS hl
  refine va_mmax_long F.x F.b (F.ml.trans hl.1.symm) F.o (F.t hg.1) (F.t hg.2.1) (F.t hg.2.2.1) (F.t hg.2.2.2) (by show 1 ≤ 8 + h; omega) (by show _ + 15 ≤ 120 + 40 * h; omega) (Nat.zero_le _) (Nat.zero_le _) dg ?_
  by_cases q : y < x
  · rw [if_pos ((lt64 hy hx).mpr q)]; exact kk x (Or.inl ⟨rfl, q⟩) H locs la hP hD hS hl
  · rw [if_neg (fun r => q ((lt64 hy hx).mp r))]; exact kk y (Or.inr ⟨rfl, Int.not_lt.mp q⟩) H locs la hP hD hS hl
theorem z_minl {x y : Int} {index : Nat} (F : FxM D cy ad p m c cc nL s args own A) (hg : Cond.methodLink own index Lib.MathLoose.min_long.x ∈ gtbl ∧ Cond.static Lib.MathLoose.min_long.x ∈ gtbl ∧ Cond.initialized "java/lang/Math" ∈ gtbl ∧ Cond.code Lib.MathLoose.min_long.x Lib.MathLoose.min_long.code 4 (some .long) ∈ gtbl) (hw : (rest.map fun v => v.category).sum ≤ 8) (dg : decode cc pc = .ok (.invokestatic index, 3)) (hx : In64 x) (hy : In64 y)
    (kk : ∀ z : Int, (z = y ∧ y < x) ∨ (z = x ∧ x ≤ y) → Z D cy ad p l e (RMh h) s m args below meth c A nL 0 0 Q (pc + 3) ls (ll z :: rest) M) : Z D cy ad p l e (RMh h) s m args below meth c A nL 0 0 Q pc ls (ll y :: ll x :: rest) M := by
  intro H locs la hP hD hS hl
  refine va_mmin_long F.x F.b (F.ml.trans hl.1.symm) F.o (F.t hg.1) (F.t hg.2.1) (F.t hg.2.2.1) (F.t hg.2.2.2) (by show 1 ≤ 8 + h; omega) (by show _ + 15 ≤ 120 + 40 * h; omega) (Nat.zero_le _) (Nat.zero_le _) dg ?_
  by_cases q : y < x
  · rw [if_pos ((lt64 hy hx).mpr q)]; exact kk y (Or.inl ⟨rfl, q⟩) H locs la hP hD hS hl
  · rw [if_neg (fun r => q ((lt64 hy hx).mp r))]; exact kk x (Or.inr ⟨rfl, Int.not_lt.mp q⟩) H locs la hP hD hS hl
end ROWS2
theorem goodV {own C : String} {idx : Nat} {y : MethodName} {cb : ByteArray} {mL : Nat} {rt : Option FieldType} (h1 : Cond.methodLink own idx y ∈ lw_tbl) (h2 : Cond.instanceMethod y ∈ lw_tbl) (h3 : Cond.selects C y y ∈ lw_tbl) (h4 : Cond.initialized C ∈ lw_tbl) (h5 : Cond.code y cb mL rt ∈ lw_tbl) (g5 : goodWord (Cond.code y cb mL rt) = true) (g : ([.methodLink own idx y, .instanceMethod y, .selects C y y, .initialized C] : List Cond).all goodWord = true) : GoodIn gtbl (wsV own idx C y (Cond.code y cb mL rt :: gtbl)) := by
  intro w hw
  unfold wsV at hw
  have hall := List.all_eq_true.mp g
  rcases List.mem_append.mp hw with q | q
  · have hg := hall w q
    refine ⟨gin ?_ hg, good_of_word hg⟩
    rcases List.mem_cons.mp q with rfl | q
    · exact h1
    rcases List.mem_cons.mp q with rfl | q
    · exact h2
    rcases List.mem_cons.mp q with rfl | q
    · exact h3
    rcases List.mem_cons.mp q with rfl | q
    · exact h4
    cases q
  · rcases List.mem_cons.mp q with rfl | q
    · exact ⟨gin h5 g5, good_of_word g5⟩
    · exact ⟨q, good_of_word (gtbl_good q)⟩
theorem goodS {own : String} {idx : Nat} {y : MethodName} {cb : ByteArray} {mL : Nat} {rt : Option FieldType} (h1 : Cond.methodLink own idx y ∈ lw_tbl) (h2 : Cond.static y ∈ lw_tbl) (h4 : Cond.initialized y.cls ∈ lw_tbl) (h5 : Cond.code y cb mL rt ∈ lw_tbl) (g5 : goodWord (Cond.code y cb mL rt) = true) (g : ([.methodLink own idx y, .static y, .initialized y.cls] : List Cond).all goodWord = true) : GoodIn gtbl (va_wsS own idx y (Cond.code y cb mL rt :: gtbl)) := by
  intro w hw
  unfold va_wsS at hw
  have hall := List.all_eq_true.mp g
  rcases List.mem_append.mp hw with q | q
  · have hg := hall w q
    refine ⟨gin ?_ hg, good_of_word hg⟩
    rcases List.mem_cons.mp q with rfl | q
    · exact h1
    rcases List.mem_cons.mp q with rfl | q
    · exact h2
    rcases List.mem_cons.mp q with rfl | q
    · exact h4
    cases q
  · rcases List.mem_cons.mp q with rfl | q
    · exact ⟨gin h5 g5, good_of_word g5⟩
    · exact ⟨q, good_of_word (gtbl_good q)⟩
theorem goodC {y : MethodName} {cb : ByteArray} {mL : Nat} {rt : Option FieldType} (h5 : Cond.code y cb mL rt ∈ lw_tbl) (g5 : goodWord (Cond.code y cb mL rt) = true) : GoodIn gtbl (Cond.code y cb mL rt :: gtbl) := by
  intro w q
  rcases List.mem_cons.mp q with rfl | q
  · exact ⟨gin h5 g5, good_of_word g5⟩
  · exact ⟨q, good_of_word (gtbl_good q)⟩
theorem ix3 {M M' : Mem} {x : Int} (h0 : 0 ≤ x) (h2 : x ≤ 2) (s : M' 135 x.toNat = 1) (f : ∀ a b, ¬ (a = 135 ∧ b = x.toNat) → M' a b = M a b) : x = 0 ∧ M' 135 0 = 1 ∧ M' 135 1 = M 135 1 ∧ M' 135 2 = M 135 2 ∨ x = 1 ∧ M' 135 0 = M 135 0 ∧ M' 135 1 = 1 ∧ M' 135 2 = M 135 2 ∨ x = 2 ∧ M' 135 0 = M 135 0 ∧ M' 135 1 = M 135 1 ∧ M' 135 2 = 1 := by
  rcases (show x = 0 ∨ x = 1 ∨ x = 2 by omega) with rfl | rfl | rfl
  · exact Or.inl ⟨rfl, s, f 135 1 (fun q => absurd q.2 (by decide)), f 135 2 (fun q => absurd q.2 (by decide))⟩
  · exact Or.inr (Or.inl ⟨rfl, f 135 0 (fun q => absurd q.2 (by decide)), s, f 135 2 (fun q => absurd q.2 (by decide))⟩)
  · exact Or.inr (Or.inr ⟨rfl, f 135 0 (fun q => absurd q.2 (by decide)), f 135 1 (fun q => absurd q.2 (by decide)), s⟩)
end SK
