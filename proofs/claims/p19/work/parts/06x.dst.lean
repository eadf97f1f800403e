/-! ===== the town that a text tells ===== -/
section DST
abbrev Dt : Type := Int × Int × (Nat → Nat → Bool) × Int × (Int → Bool) × Int × (Nat → Int) × Int
def mkD (P T : Int) (A : Nat → Nat → Bool) (N : Int) (H : Int → Bool) (E : Int) (V : Nat → Int) (l : Int) : Dt := (P, T, A, N, H, E, V, l)
def d_p (D : Dt) : Int := D.1
def d_t (D : Dt) : Int := D.2.1
def d_a (D : Dt) : Nat → Nat → Bool := D.2.2.1
def d_n (D : Dt) : Int := D.2.2.2.1
def d_h (D : Dt) : Int → Bool := D.2.2.2.2.1
def d_e (D : Dt) : Int := D.2.2.2.2.2.1
def d_v (D : Dt) : Nat → Int := D.2.2.2.2.2.2.1
def d_l (D : Dt) : Int := D.2.2.2.2.2.2.2
theorem mkD_e {P P' T T' : Int} {A A' : Nat → Nat → Bool} {N N' : Int} {H H' : Int → Bool} {E E' : Int} {V V' : Nat → Int} {l l' : Int} (h1 : P = P') (h2 : T = T') (h3 : A = A') (h4 : N = N') (h5 : H = H') (h6 : E = E') (h7 : V = V') (h8 : l = l') : mkD P T A N H E V l = mkD P' T' A' N' H' E' V' l' := by
  subst h1 h2 h3 h4 h5 h6 h7 h8; rfl
def D0 : Dt := mkD 0 0 (fun _ _ => false) 0 (fun _ => false) 0 (fun _ => 0) 0
abbrev Tn : Type := St × Dt
def fz (S : St) (D : Dt) : Tn := if s_fl S = 0 then (S, D) else (S, D0)
theorem fz_0 {S : St} {D : Dt} (h : s_fl S = 0) : fz S D = (S, D) := if_pos h
theorem fz_n {S : St} {D : Dt} (h : ¬ s_fl S = 0) : fz S D = (S, D0) := if_neg h
theorem fz_1 (S : St) (D : Dt) : (fz S D).1 = S := by
  by_cases h : s_fl S = 0
  · rw [fz_0 h]
  · rw [fz_n h]
theorem fz_2 {S : St} {D : Dt} (h : s_fl S = 0) : (fz S D).2 = D := by rw [fz_0 h]
theorem fz_e {S S' : St} {D D' : Dt} (hS : S = S') (hD : s_fl S' = 0 → D = D') : fz S D = fz S' D' := by
  subst hS
  by_cases h : s_fl S = 0
  · rw [hD h]
  · rw [fz_n h, fz_n h]
def barA (A : Nat → Nat → Bool) (p v : Int) : Bool := v == p || A p.toNat v.toNat
theorem barA_t {A : Nat → Nat → Bool} {p v : Int} : barA A p v = true ↔ v = p ∨ A p.toNat v.toNat = true := by
  unfold barA; rw [Bool.or_eq_true, beq_iff_eq]
def wr (x : Int) : Int := (Int32.ofInt x).toInt
theorem wr_eq {w x : Int} (r : In32 w) (e : Int32.ofInt w = Int32.ofInt x) : w = wr x := by unfold wr; rw [← e]; exact (o32 r).symm
theorem wr_id {x : Int} (h : In32 x) : wr x = x := o32 h
def addT (D : Dt) (p q : Int) : Dt := mkD (d_p D) (wr (d_t D + 1)) (fun a b => d_a D a b || ((a == p.toNat && b == q.toNat) || (a == q.toNat && b == p.toNat))) (d_n D) (d_h D) (d_e D) (d_v D) (d_l D)
def addN (D : Dt) (p : Int) : Dt := mkD (d_p D) (d_t D) (d_a D) (d_n D + 1) (fun v => d_h D v || v == p) (d_e D) (d_v D) (d_l D)
def addE (D : Dt) (m t b : Int) : Dt := mkD (d_p D) (d_t D) (d_a D) (d_n D) (d_h D) (d_e D + 1) (fun j => if (j : Int) = 3 * d_e D then m else if (j : Int) = 3 * d_e D + 1 then t else if (j : Int) = 3 * d_e D + 2 then b else d_v D j) (d_l D)
def incL (D : Dt) : Dt := mkD (d_p D) (d_t D) (d_a D) (d_n D) (d_h D) (d_e D) (d_v D) (wr (d_l D + 1))
def openD (P : Int) : Dt := mkD P 0 (fun _ _ => false) 0 (fun _ => false) 0 (fun _ => 0) 0
theorem numB_v {lo hi : Int} {bar bar' : Int → Bool} {S : St} (h : s_fl S = 0 → s_tk S = 2 → lo ≤ s_vl S → s_vl S ≤ hi → bar (s_vl S) = bar' (s_vl S)) : numB lo hi bar S = numB lo hi bar' S := by
  unfold numB
  by_cases h0 : s_fl S = 0 ∧ s_tk S = 2
  · rw [if_pos h0, if_pos h0]
    by_cases h1 : lo ≤ s_vl S ∧ s_vl S ≤ hi
    · rw [h h0.1 h0.2 h1.1 h1.2]
    · rw [if_neg (fun q => h1 ⟨q.1, q.2.1⟩), if_neg (fun q => h1 ⟨q.1, q.2.1⟩)]
  · rw [if_neg h0, if_neg h0]
theorem blame_n {k : Int} {S : St} (hk : ¬ k = 0) : ¬ s_fl (blame k S) = 0 := by
  unfold blame setf
  by_cases h : s_fl S = 0
  · rw [if_pos h]
    by_cases h3 : s_tk S = 3
    · rw [if_pos h3]; show ¬ (1 : Int) = 0; decide
    · rw [if_neg h3]; exact hk
  · rw [if_neg h]; exact h
theorem numB_b {lo hi : Int} {bar : Int → Bool} {S : St} (h0 : s_fl S = 0) (h1 : s_tk S = 2) (h : lo ≤ s_vl S → s_vl S ≤ hi → bar (s_vl S) = true) : numB lo hi noB (blame 3 S) = numB lo hi bar S := by
  rw [nb_f (blame_n (by decide))]
  refine (nb_3 h0 h1 (fun q => ?_) rfl).symm
  rw [h q.1 q.2.1] at q
  exact absurd q.2.2 (by decide)
theorem numB_ok {lo hi : Int} {bar : Int → Bool} {S : St} (h : s_fl (numB lo hi bar S) = 0) : s_fl S = 0 ∧ lo ≤ s_vl S ∧ s_vl S ≤ hi := by
  by_cases h0 : s_fl S = 0 ∧ s_tk S = 2
  · by_cases h1 : lo ≤ s_vl S ∧ s_vl S ≤ hi ∧ bar (s_vl S) = false
    · exact ⟨h0.1, h1.1, h1.2.1⟩
    · rw [nb_3 h0.1 h0.2 h1 rfl] at h; exact absurd h (blame_n (by decide))
  · have e : numB lo hi bar S = blame 2 S := by unfold numB; rw [if_neg h0]
    rw [e] at h; exact absurd h (blame_n (by decide))
theorem barA_f {A : Nat → Nat → Bool} {p v : Int} (h1 : ¬ v = p) (h2 : A p.toNat v.toNat = false) : barA A p v = false := by
  rcases hb : barA A p v with _ | _
  · rfl
  · rcases barA_t.mp hb with q | q
    · exact absurd q h1
    · rw [h2] at q; exact absurd q (by decide)
theorem tookW_f {w : List Int} {S : St} (h : ¬ s_fl S = 0) : tookW w S = S := took_f (isW_fl h)
theorem mustW_f {w : List Int} {S : St} (h : ¬ s_fl S = 0) : mustW w S = S := by unfold mustW; rw [isW_fl h]; exact blame_f h
noncomputable def optN (w : List Int) (lo hi : Int) (S : St) : St := if isW w S then numB lo hi noB (adv S) else S
theorem optN_f {w : List Int} {lo hi : Int} {S : St} (h : ¬ s_fl S = 0) : optN w lo hi S = S := by unfold optN; rw [isW_fl h]; rfl
theorem opt_t {w : List Int} {lo hi : Int} {S S1 A : St} (h : isW w S = true) (h1 : adv S = S1) (h2 : numB lo hi noB S1 = A) : optN w lo hi S = A := by unfold optN; rw [if_pos h, h1]; exact h2
theorem opt_n {w : List Int} {lo hi : Int} {S : St} (h : isW w S = false) : optN w lo hi S = S := by unfold optN; rw [h]; rfl
noncomputable def lessF (S : St) : St := if isW w_less S then adv S else mustW w_more S
theorem lessF_f {S : St} (h : ¬ s_fl S = 0) : lessF S = S := by unfold lessF; rw [isW_fl h]; exact mustW_f h
theorem less_t {S A : St} (h : isW w_less S = true) (y : adv S = A) : lessF S = A := by unfold lessF; rw [if_pos h]; exact y
theorem less_n {S A : St} (h : isW w_less S = false) (y : mustW w_more S = A) : lessF S = A := by unfold lessF; rw [h]; exact y
noncomputable def tc1 (D : Dt) (S : St) : St := begT (d_t D) 20 S
noncomputable def tc2 (D : Dt) (S : St) : St := numB 0 (d_p D - 1) noB (tc1 D S)
noncomputable def tc3 (D : Dt) (S : St) : St := numB 0 (d_p D - 1) (barA (d_a D) (s_vl (tc1 D S))) (tc2 D S)
noncomputable def tc4 (D : Dt) (S : St) : St := tookW w_wall (tc3 D S)
noncomputable def touchF (T : Tn) : Tn := fz (tc4 T.2 T.1) (addT T.2 (s_vl (tc1 T.2 T.1)) (s_vl (tc2 T.2 T.1)))
noncomputable def th1 (D : Dt) (S : St) : St := begT (d_n D) 8 S
noncomputable def th2 (D : Dt) (S : St) : St := numB 0 (d_p D - 1) (d_h D) (th1 D S)
noncomputable def th4 (D : Dt) (S : St) : St := numB 0 99 noB (mustW w_count (th2 D S))
noncomputable def th5 (D : Dt) (S : St) : St := optN w_kind 0 9 (th4 D S)
noncomputable def th6 (D : Dt) (S : St) : St := optN w_slow 1 9 (th5 D S)
noncomputable def th7 (D : Dt) (S : St) : St := tookW w_stays (th6 D S)
noncomputable def thingF (T : Tn) : Tn := fz (th7 T.2 T.1) (addN T.2 (s_vl (th1 T.2 T.1)))
noncomputable def ev1 (D : Dt) (S : St) : St := begT (d_e D) 6 S
noncomputable def ev3 (D : Dt) (S : St) : St := mustW w_thing (numB 0 999 noB (ev1 D S))
noncomputable def ev4 (D : Dt) (S : St) : St := numB 0 (d_n D - 1) noB (ev3 D S)
noncomputable def ev5 (D : Dt) (S : St) : St := lessF (ev4 D S)
noncomputable def ev6 (D : Dt) (S : St) : St := numB 1 9 noB (ev5 D S)
noncomputable def eventF (T : Tn) : Tn := fz (ev6 T.2 T.1) (addE T.2 (s_vl (ev1 T.2 T.1)) (s_vl (ev3 T.2 T.1)) (if isW w_less (ev4 T.2 T.1) then - s_vl (ev5 T.2 T.1) else s_vl (ev5 T.2 T.1)))
theorem touch_1 {S S1 : St} {D D' : Dt} (h : tc1 D S = S1) (hf : ¬ s_fl S1 = 0) : fz S1 D' = touchF (S, D) := by
  have e : tc4 D S = S1 := by unfold tc4 tc3 tc2; rw [h, nb_f hf, nb_f hf, tookW_f hf]
  exact fz_e e.symm (fun q => absurd (by rw [e] at q; exact q) hf)
theorem touch_4 {S S4 : St} {D D' : Dt} (h : tc4 D S = S4) (hD : s_fl S4 = 0 → D' = addT D (s_vl (tc1 D S)) (s_vl (tc2 D S))) : fz S4 D' = touchF (S, D) := fz_e h.symm (fun q => hD (by rw [← h]; exact q))
theorem thing_1 {S S1 : St} {D D' : Dt} (h : th1 D S = S1) (hf : ¬ s_fl S1 = 0) : fz S1 D' = thingF (S, D) := by
  have e : th7 D S = S1 := by unfold th7 th6 th5 th4 th2; rw [h, nb_f hf, mustW_f hf, nb_f hf, optN_f hf, optN_f hf, tookW_f hf]
  exact fz_e e.symm (fun q => absurd (by rw [e] at q; exact q) hf)
theorem thing_7 {S S7 : St} {D D' : Dt} (h : th7 D S = S7) (hD : s_fl S7 = 0 → D' = addN D (s_vl (th1 D S))) : fz S7 D' = thingF (S, D) := fz_e h.symm (fun q => hD (by rw [← h]; exact q))
theorem event_1 {S S1 : St} {D D' : Dt} (h : ev1 D S = S1) (hf : ¬ s_fl S1 = 0) : fz S1 D' = eventF (S, D) := by
  have e : ev6 D S = S1 := by unfold ev6 ev5 ev4 ev3; rw [h, nb_f hf, mustW_f hf, nb_f hf, lessF_f hf, nb_f hf]
  exact fz_e e.symm (fun q => absurd (by rw [e] at q; exact q) hf)
theorem event_6 {S S6 : St} {D D' : Dt} (h : ev6 D S = S6) (hD : s_fl S6 = 0 → D' = addE D (s_vl (ev1 D S)) (s_vl (ev3 D S)) (if isW w_less (ev4 D S) then - s_vl (ev5 D S) else s_vl (ev5 D S))) : fz S6 D' = eventF (S, D) := fz_e h.symm (fun q => hD (by rw [← h]; exact q))
noncomputable def zeroF (S : St) : St := if isW w_even S then adv S else if isW w_odd S then adv S else if isW w_both S then adv S else if isW w_neither S then adv S else blame 2 S
noncomputable def rdF (S : St) : St := Classical.epsilon (fun A : St => RdE 0 0 S A)
theorem rdF_eq {S A : St} (h : RdE 0 0 S A) : rdF S = A := rdE_u (Classical.epsilon_spec (p := fun A : St => RdE 0 0 S A) ⟨A, h⟩) h
noncomputable def bodyF (T : Tn) : Tn := if isW w_touch T.1 then touchF T else if isW w_thing T.1 then thingF T else if isW w_event T.1 then eventF T else if isW w_zero T.1 then fz (zeroF (adv T.1)) T.2 else if isW w_law T.1 then fz (rdF (adv T.1)) T.2 else fz (blame 2 T.1) T.2
noncomputable def stopF (T : Tn) : Tn := fz (mustT 59 T.1) (incL T.2)
noncomputable def lineF (T : Tn) : Tn := stopF (bodyF T)
theorem stop_i {T : Tn} {S' : St} {D' : Dt} (hm : mustT 59 T.1 = S') (hD : s_fl S' = 0 → D' = incL T.2) : fz S' D' = stopF T := fz_e hm.symm (fun q => hD (by rw [← hm]; exact q))
theorem zero_1 {S A : St} (h : isW w_even S = true) (y : adv S = A) : zeroF S = A := by unfold zeroF; rw [if_pos h]; exact y
theorem zero_2 {S A : St} (g1 : isW w_even S = false) (h : isW w_odd S = true) (y : adv S = A) : zeroF S = A := by unfold zeroF; rw [if_neg (by rw [g1]; decide), if_pos h]; exact y
theorem zero_3 {S A : St} (g1 : isW w_even S = false) (g2 : isW w_odd S = false) (h : isW w_both S = true) (y : adv S = A) : zeroF S = A := by unfold zeroF; rw [if_neg (by rw [g1]; decide), if_neg (by rw [g2]; decide), if_pos h]; exact y
theorem zero_4 {S A : St} (g1 : isW w_even S = false) (g2 : isW w_odd S = false) (g3 : isW w_both S = false) (h : isW w_neither S = true) (y : adv S = A) : zeroF S = A := by unfold zeroF; rw [if_neg (by rw [g1]; decide), if_neg (by rw [g2]; decide), if_neg (by rw [g3]; decide), if_pos h]; exact y
theorem zero_5 {S A : St} (g1 : isW w_even S = false) (g2 : isW w_odd S = false) (g3 : isW w_both S = false) (g4 : isW w_neither S = false) (y : blame 2 S = A) : zeroF S = A := by unfold zeroF; rw [if_neg (by rw [g1]; decide), if_neg (by rw [g2]; decide), if_neg (by rw [g3]; decide), if_neg (by rw [g4]; decide)]; exact y
theorem less_a {S A : St} (h : isW w_less S = true ∨ isW w_more S = true) (y : adv S = A) : lessF S = A := by
  rcases hb : isW w_less S with _ | _
  · rcases h with h | h
    · rw [hb] at h; exact absurd h (by decide)
    · exact less_n hb (must_t h y)
  · exact less_t hb y
theorem ln_touch {T T1 T2 : Tn} (h : isW w_touch T.1 = true) (h1 : T1 = touchF T) (h2 : T2 = stopF T1) : T2 = lineF T := by
  rw [h2, h1]; unfold lineF bodyF; rw [if_pos h]
theorem ln_thing {T T1 T2 : Tn} (g1 : isW w_touch T.1 = false) (h : isW w_thing T.1 = true) (h1 : T1 = thingF T) (h2 : T2 = stopF T1) : T2 = lineF T := by
  rw [h2, h1]; unfold lineF bodyF; rw [if_neg (by rw [g1]; decide), if_pos h]
theorem ln_event {T T1 T2 : Tn} (g1 : isW w_touch T.1 = false) (g2 : isW w_thing T.1 = false) (h : isW w_event T.1 = true) (h1 : T1 = eventF T) (h2 : T2 = stopF T1) : T2 = lineF T := by
  rw [h2, h1]; unfold lineF bodyF; rw [if_neg (by rw [g1]; decide), if_neg (by rw [g2]; decide), if_pos h]
theorem ln_zero {T T1 T2 : Tn} (g1 : isW w_touch T.1 = false) (g2 : isW w_thing T.1 = false) (g3 : isW w_event T.1 = false) (h : isW w_zero T.1 = true) (h1 : T1 = fz (zeroF (adv T.1)) T.2) (h2 : T2 = stopF T1) : T2 = lineF T := by
  rw [h2, h1]; unfold lineF bodyF; rw [if_neg (by rw [g1]; decide), if_neg (by rw [g2]; decide), if_neg (by rw [g3]; decide), if_pos h]
theorem ln_law {T T1 T2 : Tn} {A : St} (g1 : isW w_touch T.1 = false) (g2 : isW w_thing T.1 = false) (g3 : isW w_event T.1 = false) (g4 : isW w_zero T.1 = false) (h : isW w_law T.1 = true) (hr : RdE 0 0 (adv T.1) A) (h1 : T1 = fz A T.2) (h2 : T2 = stopF T1) : T2 = lineF T := by
  rw [h2, h1, ← rdF_eq hr]; unfold lineF bodyF; rw [if_neg (by rw [g1]; decide), if_neg (by rw [g2]; decide), if_neg (by rw [g3]; decide), if_neg (by rw [g4]; decide), if_pos h]
theorem ln_bad {T T1 T2 : Tn} (g1 : isW w_touch T.1 = false) (g2 : isW w_thing T.1 = false) (g3 : isW w_event T.1 = false) (g4 : isW w_zero T.1 = false) (g5 : isW w_law T.1 = false) (h1 : T1 = fz (blame 2 T.1) T.2) (h2 : T2 = stopF T1) : T2 = lineF T := by
  rw [h2, h1]; unfold lineF bodyF; rw [if_neg (by rw [g1]; decide), if_neg (by rw [g2]; decide), if_neg (by rw [g3]; decide), if_neg (by rw [g4]; decide), if_neg (by rw [g5]; decide)]
/-- all the lines -/
noncomputable def lns : Nat → Tn → Option Tn
  | 0, _ => none
  | n + 1, T => if s_fl T.1 = 0 ∧ ¬ s_tk T.1 = 0 then lns n (lineF T) else some T
theorem lns_1 : ∀ (n : Nat) (T A : Tn), lns n T = some A → lns (n + 1) T = some A := by
  intro n
  induction n with
  | zero => intro T A h; exact absurd h (by unfold lns; simp)
  | succ n ih =>
    intro T A h
    rw [lns] at h ⊢
    by_cases hc : s_fl T.1 = 0 ∧ ¬ s_tk T.1 = 0
    · rw [if_pos hc] at h ⊢; exact ih _ _ h
    · rw [if_neg hc] at h ⊢; exact h
theorem lns_le {n m : Nat} {T A : Tn} (hn : n ≤ m) (h : lns n T = some A) : lns m T = some A := by
  obtain ⟨q, rfl⟩ := Nat.le.dest hn
  induction q with
  | zero => exact h
  | succ q ih => exact lns_1 _ _ _ (ih (Nat.le_add_right n q))
def LnE (T A : Tn) : Prop := ∃ n : Nat, lns n T = some A
theorem lnE_u {T A B : Tn} (x : LnE T A) (y : LnE T B) : A = B := by
  obtain ⟨n, x⟩ := x
  obtain ⟨m, y⟩ := y
  exact Option.some.inj ((lns_le (Nat.le_max_left n m) x).symm.trans (lns_le (Nat.le_max_right n m) y))
theorem lnE_s {T A : Tn} (h1 : s_fl T.1 = 0) (h2 : ¬ s_tk T.1 = 0) (x : LnE (lineF T) A) : LnE T A := by
  obtain ⟨n, x⟩ := x
  exact ⟨n + 1, by rw [lns, if_pos ⟨h1, h2⟩]; exact x⟩
theorem lnE_e {T : Tn} (h : ¬ s_fl T.1 = 0 ∨ s_tk T.1 = 0) : LnE T T := ⟨1, by rw [lns, if_neg (fun q => h.elim (fun r => r q.1) (fun r => q.2 r))]⟩
def LnI (T B : Tn) : Prop := ∀ C : Tn, LnE B C → LnE T C
theorem lnI_0 {T B : Tn} (h : B = T) : LnI T B := fun C y => by rw [← h]; exact y
theorem lnI_s {T B B' : Tn} (h : LnI T B) (h1 : s_fl B.1 = 0) (h2 : ¬ s_tk B.1 = 0) (hB : B' = lineF B) : LnI T B' := fun C y => h C (lnE_s h1 h2 (by rw [← hB]; exact y))
theorem lnI_e {T B : Tn} (h : LnI T B) (hc : ¬ s_fl B.1 = 0 ∨ s_tk B.1 = 0) : LnE T B := h B (lnE_e hc)
def S00 (U : Nat → Int) (n : Int) : St := mkS U n 0 0 0 0 0 0
theorem adv_c {S S' : St} (h1 : s_tx S = s_tx S') (h2 : s_ln S = s_ln S') (h3 : s_hd S = s_hd S') (h4 : s_fp S = s_fp S') : adv S = adv S' := by
  have e : advq S = advq S' := by unfold advq; rw [h1, h2, h3]
  unfold adv; rw [e, h1, h2, h4]
noncomputable def plS (U : Nat → Int) (n : Int) : St := mustW w_places (adv (S00 U n))
noncomputable def begF (U : Nat → Int) (n : Int) : Tn := stopF (fz (numB 1 10 noB (plS U n)) (openD (s_vl (plS U n))))
noncomputable def townF (U : Nat → Int) (n : Int) : Tn := Classical.epsilon (fun A : Tn => LnE (begF U n) A)
theorem townF_eq {U : Nat → Int} {n : Int} {A : Tn} (h : LnE (begF U n) A) : townF U n = A := lnE_u (Classical.epsilon_spec (p := fun A : Tn => LnE (begF U n) A) ⟨A, h⟩) h
def ansT (A : Tn) : Int := if s_fl A.1 = 0 then d_l A.2 else -10 - s_fl A.1
def fpT (A : Tn) : Int := if s_fl A.1 = 0 then -1 else s_fp A.1
/-- who lies at a place -/
noncomputable def hasN (n : Int) (f : Nat → Int) (v : Int) : Bool := @decide (∃ t : Nat, (t : Int) < n ∧ f t = v) (Classical.propDecidable _)
theorem hasN_t {n : Int} {f : Nat → Int} {v : Int} : hasN n f v = true ↔ ∃ t : Nat, (t : Int) < n ∧ f t = v := by
  unfold hasN; exact @decide_eq_true_iff _ (Classical.propDecidable _)
theorem hasN_c {n : Int} {f g : Nat → Int} (h : ∀ t : Nat, (t : Int) < n → f t = g t) : hasN n f = hasN n g := by
  funext v
  rw [Bool.eq_iff_iff, hasN_t, hasN_t]
  constructor
  · rintro ⟨t, h1, h2⟩; exact ⟨t, h1, (h t h1).symm.trans h2⟩
  · rintro ⟨t, h1, h2⟩; exact ⟨t, h1, (h t h1).trans h2⟩
theorem hasN_n {n : Int} {f : Nat → Int} {v : Int} (h : ∀ t : Nat, (t : Int) < n → ¬ f t = v) : hasN n f v = false := by
  rcases hb : hasN n f v with _ | _
  · rfl
  · obtain ⟨t, h1, h2⟩ := hasN_t.mp hb; exact absurd h2 (h t h1)
theorem hasN_0 {f : Nat → Int} {n : Int} (h : n ≤ 0) : hasN n f = fun _ => false := by
  funext v
  rcases hb : hasN n f v with _ | _
  · rfl
  · obtain ⟨t, h1, _⟩ := hasN_t.mp hb; exfalso; omega
theorem hasN_s {n n' : Int} {f g : Nat → Int} {p : Int} (h0 : 0 ≤ n) (hn : n' = n + 1) (h : ∀ t : Nat, (t : Int) < n → g t = f t) (hp : g n.toNat = p) : hasN n' g = fun v => hasN n f v || v == p := by
  funext v
  rw [Bool.eq_iff_iff, hasN_t, Bool.or_eq_true, hasN_t, beq_iff_eq]
  constructor
  · rintro ⟨t, h1, h2⟩
    by_cases ht : (t : Int) < n
    · exact Or.inl ⟨t, ht, (h t ht).symm.trans h2⟩
    · have : n.toNat = t := by omega
      rw [this] at hp; exact Or.inr (h2.symm.trans hp)
  · rintro (⟨t, h1, h2⟩ | hv)
    · exact ⟨t, by omega, (h t h1).trans h2⟩
    · exact ⟨n.toNat, by omega, hp.trans hv.symm⟩
/-- the bytes that feed lays -/
def sh (w s : Int) : Int := ((Int32.ofInt w).toUInt32 >>> ((Int32.ofInt s).toUInt32 &&& Int32.toUInt32 31)).toInt32.toInt
def by8 (w s : Int) : Int := (Int32.ofInt (sh w s) &&& Int32.ofInt 255).toInt
def fdb (a b c d e k : Int) : Int := by8 (if k < 4 then a else if k < 8 then b else if k < 12 then c else if k < 16 then d else e) (24 - 8 * (k % 4))
theorem and3 {k v : Int} (h0 : 0 ≤ k) (h1 : k < 20) (e : v = (Int32.ofInt k &&& Int32.ofInt 3).toInt) : v = k % 4 := by
  have t : ∀ q : Nat, q < 20 → (Int32.ofInt (q : Int) &&& Int32.ofInt 3).toInt = (q : Int) % 4 := by decide +kernel
  obtain ⟨q, rfl⟩ := Int.eq_ofNat_of_zero_le h0
  rw [e]; exact t q (by omega)
theorem and255' (x : Int32) : (x &&& Int32.ofInt 255).toInt = x.toInt % 256 := by
  have e : (x &&& Int32.ofInt 255).toBitVec.toNat = x.toBitVec.toNat % 256 := by
    rw [Int32.toBitVec_and, BitVec.toNat_and, show (Int32.ofInt 255).toBitVec.toNat = 2 ^ 8 - 1 from rfl, Nat.and_two_pow_sub_one_eq_mod]
  have h1 := ti (x &&& Int32.ofInt 255)
  have h2 := ti x
  rw [e] at h1
  have h3 : x.toBitVec.toNat < 2 ^ 32 := x.toBitVec.isLt
  rw [if_pos (by omega)] at h1
  rw [h1, h2]
  by_cases h4 : 2 * x.toBitVec.toNat < 4294967296
  · rw [if_pos h4]; omega
  · rw [if_neg h4]; omega
theorem nar8 (x : Int32) : (x.toInt8.toInt32).toInt % 256 = x.toInt % 256 := by
  rw [Int8.toInt_toInt32, Int32.toInt_toInt8]
  exact Int.bmod_emod
theorem by8_c {w s x v z : Int} (hx : x = sh w s) (hv : v = ((Int32.ofInt x).toInt8.toInt32).toInt) (hz : z = ((Int32.ofInt v).toInt8.toInt32).toInt) : z % 256 = by8 w s := by
  unfold by8
  rw [and255', hz, nar8, hv, Int32.ofInt_toInt, nar8, hx]
def wsel (a b c d e k : Int) : Int := if k < 4 then a else if k < 8 then b else if k < 12 then c else if k < 16 then d else e
theorem fdb_i {a b c d e k w s : Int} (hw : wsel a b c d e k = w) (hs : s = 24 - 8 * (k % 4)) : fdb a b c d e k = by8 w s := by
  rw [← hw, hs]; rfl
theorem fd_step {U V : Nat → Int} {g : Int → Int} {n k u v : Int} {h : Nat → Int} (i : ∀ j : Nat, h j = if n ≤ j ∧ (j : Int) < n + k then g (j - n) else U j) (n0 : 0 ≤ n) (k0 : 0 ≤ k) (hu : u = n + k) (hs : V u.toNat = v) (hv : v = g k) (hf : ∀ j : Nat, ¬ j = u.toNat → V j = h j) : ∀ j : Nat, V j = if n ≤ j ∧ (j : Int) < n + (k + 1) then g (j - n) else U j := by
  intro j
  by_cases hq : j = u.toNat
  · rw [hq, hs, if_pos (by omega), hv, show ((u.toNat : Nat) : Int) - n = k by omega]
  · rw [hf j hq, i j]
    by_cases h1 : n ≤ j ∧ (j : Int) < n + k
    · rw [if_pos h1, if_pos (by omega)]
    · rw [if_neg h1, if_neg (by omega)]
/-- five rows of four, one behind the other -/
theorem fd_cat {U V W : Nat → Int} {g1 g2 g : Int → Int} {n k m : Int} (k0 : 0 ≤ k) (m0 : 0 ≤ m) (h1 : ∀ j : Nat, V j = if n ≤ j ∧ (j : Int) < n + k then g1 (j - n) else U j) (h2 : ∀ j : Nat, W j = if n + k ≤ j ∧ (j : Int) < n + k + m then g2 (j - (n + k)) else V j) (e1 : ∀ q : Int, 0 ≤ q → q < k → g q = g1 q) (e2 : ∀ q : Int, 0 ≤ q → q < m → g (k + q) = g2 q) : ∀ j : Nat, W j = if n ≤ j ∧ (j : Int) < n + (k + m) then g (j - n) else U j := by
  intro j
  rw [h2 j]
  by_cases a : n + k ≤ j ∧ (j : Int) < n + k + m
  · rw [if_pos a, if_pos (by omega), ← e2 _ (by omega) (by omega)]; congr 1; omega
  · rw [if_neg a, h1 j]
    by_cases b : n ≤ j ∧ (j : Int) < n + k
    · rw [if_pos b, if_pos (by omega), e1 _ (by omega) (by omega)]
    · rw [if_neg b, if_neg (by omega)]
def UTR (M : Mem) (n : Int) : Nat → Int := fun j => if (j : Int) < n then M 136 j else 0
def UTC (M : Mem) (n : Int) : Nat → Int := fun j => if (j : Int) < n then M 1 j % 256 else 0
/-- the reference -/
def aR (M : Mem) (p q : Nat) : Bool := decide ((p : Int) < M 133 1 ∧ (q : Int) < M 133 1) && !(M 133 (50 + 10 * p + q) == 0)
theorem aR_t {M : Mem} {p q : Nat} : aR M p q = true ↔ ((p : Int) < M 133 1 ∧ (q : Int) < M 133 1) ∧ ¬ M 133 (50 + 10 * p + q) = 0 := by
  unfold aR; rw [Bool.and_eq_true, decide_eq_true_iff, Bool.not_eq_true', beq_eq_false_iff_ne]
def eR (M : Mem) (j : Nat) : Int := if (j : Int) < 3 * M 133 4 then M 133 (150 + j) else 0
noncomputable def dR (M : Mem) : Dt := mkD (M 133 1) (M 133 3) (aR M) (M 133 2) (hasN (M 133 2) (fun t => M 133 (8 + t))) (M 133 4) (eR M) (M 133 0)
noncomputable def tR (M : Mem) : Tn := fz (absR M) (dR M)
theorem tR_0 {M : Mem} (h : M 131 12 = 0) : tR M = (absR M, dR M) := fz_0 ((vR_fl M).trans h)
theorem tR_1 (M : Mem) : (tR M).1 = absR M := fz_1 _ _
theorem tR_2 {M : Mem} (h : M 131 12 = 0) : (tR M).2 = dR M := by rw [tR_0 h]
theorem tR_e {M M' : Mem} (h : absR M' = absR M) (hD : dR M' = dR M) : tR M' = tR M := by unfold tR; rw [h, hD]
theorem dR_g {M M' : Mem} (hI : Inv M) (h : ∀ b : Nat, b < 384 ∧ ¬ b = 5 ∧ ¬ b = 6 → M' 133 b = M 133 b) : dR M' = dR M := by
  have b1 := hI.at (show Bd 133 1 = (0, 10) from rfl)
  have b2 := hI.at (show Bd 133 2 = (0, 8) from rfl)
  have b4 := hI.at (show Bd 133 4 = (0, 6) from rfl)
  have e1 := h 1 (by decide)
  have e2 := h 2 (by decide)
  have e4 := h 4 (by decide)
  refine mkD_e e1 (h 3 (by decide)) ?_ e2 ?_ e4 ?_ (h 0 (by decide))
  · funext p q
    rw [Bool.eq_iff_iff, aR_t, aR_t, e1]
    refine and_congr_right (fun hc => ?_)
    rw [h _ (by omega)]
  · rw [e2]; exact hasN_c (fun t ht => h _ (by omega))
  · funext j
    unfold eR
    rw [e4]
    by_cases hj : (j : Int) < 3 * M 133 4
    · rw [if_pos hj, if_pos hj]; exact h _ (by omega)
    · rw [if_neg hj, if_neg hj]
theorem dR_f {M M' : Mem} (h : ∀ b : Nat, M' 133 b = M 133 b) : dR M' = dR M := by
  have ea : aR M' = aR M := by funext p q; unfold aR; rw [h, h]
  have ee : eR M' = eR M := by funext j; unfold eR; rw [h, h]
  have eh : (fun t : Nat => M' 133 (8 + t)) = (fun t : Nat => M 133 (8 + t)) := funext (fun t => h _)
  exact mkD_e (h 1) (h 3) ea (h 2) (by rw [eh, h]) (h 4) ee (h 0)
theorem dR_stop {M M' : Mem} (s : M' 133 0 = wr (M 133 0 + 1)) (f : ∀ b : Nat, ¬ b = 0 → M' 133 b = M 133 b) : dR M' = incL (dR M) := by
  have ea : aR M' = aR M := by funext p q; unfold aR; rw [f 1 (by decide), f _ (by omega)]
  have ee : eR M' = eR M := by funext j; unfold eR; rw [f 4 (by decide), f _ (by omega)]
  have eh : (fun t : Nat => M' 133 (8 + t)) = (fun t : Nat => M 133 (8 + t)) := funext (fun t => f _ (by omega))
  exact mkD_e (f 1 (by decide)) (f 3 (by decide)) ea (f 2 (by decide)) (by rw [eh, f 2 (by decide)]; rfl) (f 4 (by decide)) ee s
theorem dR_touch {M M3 : Mem} {p q v : Int} (hI : Inv M) (p0 : 0 ≤ p) (p1 : p ≤ M 133 1 - 1) (q0 : 0 ≤ q) (q1 : q ≤ M 133 1 - 1) (hv : ¬ v = 0) (s1 : M3 133 (50 + 10 * p + q).toNat = v) (s2 : M3 133 (50 + 10 * q + p).toNat = v) (s3 : M3 133 3 = M 133 3 + 1) (f : ∀ b : Nat, ¬ b = (50 + 10 * p + q).toNat → ¬ b = (50 + 10 * q + p).toNat → ¬ b = 3 → M3 133 b = M 133 b) : dR M3 = addT (dR M) p q := by
  have b1 := hI.at (show Bd 133 1 = (0, 10) from rfl)
  have g : ∀ b : Nat, b < 50 ∨ 150 ≤ b → ¬ b = 3 → M3 133 b = M 133 b := fun b h1 h2 => f b (by omega) (by omega) h2
  have e1 := g 1 (by decide) (by decide)
  have e2 := g 2 (by decide) (by decide)
  have e4 := g 4 (by decide) (by decide)
  have b3 := hI.at (show Bd 133 3 = (0, 20) from rfl)
  refine mkD_e e1 (s3.trans (wr_id ⟨by omega, by omega⟩).symm) ?_ e2 ?_ e4 ?_ (g 0 (by decide) (by decide))
  · funext a b
    show aR M3 a b = (aR M a b || ((a == p.toNat && b == q.toNat) || (a == q.toNat && b == p.toNat)))
    rw [Bool.eq_iff_iff, aR_t, Bool.or_eq_true, aR_t, Bool.or_eq_true, Bool.and_eq_true, Bool.and_eq_true, beq_iff_eq, beq_iff_eq, beq_iff_eq, beq_iff_eq, e1]
    by_cases h1 : a = p.toNat ∧ b = q.toNat
    · have hi : 50 + 10 * a + b = (50 + 10 * p + q).toNat := by omega
      rw [hi, s1]
      exact ⟨fun _ => Or.inr (Or.inl h1), fun _ => ⟨by omega, hv⟩⟩
    · by_cases h2 : a = q.toNat ∧ b = p.toNat
      · have hi : 50 + 10 * a + b = (50 + 10 * q + p).toNat := by omega
        rw [hi, s2]
        exact ⟨fun _ => Or.inr (Or.inr h2), fun _ => ⟨by omega, hv⟩⟩
      · constructor
        · intro h
          rw [f _ (by omega) (by omega) (by omega)] at h
          exact Or.inl h
        · rintro (h | h | h)
          · rw [f _ (by omega) (by omega) (by omega)]; exact h
          · exact absurd h h1
          · exact absurd h h2
  · rw [e2]; exact hasN_c (fun t ht => g _ (by have b2 := hI.at (show Bd 133 2 = (0, 8) from rfl); omega) (by omega))
  · funext j
    show eR M3 j = eR M j
    unfold eR
    rw [e4, g _ (by omega) (by omega)]
theorem dR_thing {M M3 : Mem} {p n : Int} (hI : Inv M) (hn : n = M 133 2) (n7 : n ≤ 7) (s1 : M3 133 (8 + n).toNat = p) (s2 : M3 133 2 = n + 1) (f : ∀ b : Nat, ¬ b = (8 + n).toNat → ¬ b = 2 → b < 16 ∨ 50 ≤ b → M3 133 b = M 133 b) : dR M3 = addN (dR M) p := by
  have b2 := hI.at (show Bd 133 2 = (0, 8) from rfl)
  have e1 := f 1 (by omega) (by decide) (by decide)
  have e4 := f 4 (by omega) (by decide) (by decide)
  refine mkD_e e1 (f 3 (by omega) (by decide) (by decide)) ?_ (by rw [s2, hn]; rfl) ?_ e4 ?_ (f 0 (by omega) (by decide) (by decide))
  · funext a b
    show aR M3 a b = aR M a b
    unfold aR; rw [e1, f _ (by omega) (by omega) (by omega)]
  · show hasN (M3 133 2) _ = fun v => hasN (M 133 2) (fun t => M 133 (8 + t)) v || v == p
    refine hasN_s (by omega) (by omega) (fun t ht => f _ (by omega) (by omega) (by omega)) ?_
    show M3 133 (8 + (M 133 2).toNat) = p
    rw [show 8 + (M 133 2).toNat = (8 + n).toNat by omega]; exact s1
  · funext j
    show eR M3 j = eR M j
    unfold eR; rw [e4, f _ (by omega) (by omega) (by omega)]
theorem dR_event {M M3 : Mem} {m t b n : Int} (hI : Inv M) (hn : n = M 133 4) (n5 : n ≤ 5) (s1 : M3 133 (150 + 3 * n).toNat = m) (s2 : M3 133 (150 + 3 * n + 1).toNat = t) (s3 : M3 133 (150 + 3 * n + 2).toNat = b) (s4 : M3 133 4 = n + 1) (f : ∀ j : Nat, ¬ j = 4 → (j : Int) < 150 + 3 * n → M3 133 j = M 133 j) : dR M3 = addE (dR M) m t b := by
  have b1 := hI.at (show Bd 133 1 = (0, 10) from rfl)
  have b2 := hI.at (show Bd 133 2 = (0, 8) from rfl)
  have b4 := hI.at (show Bd 133 4 = (0, 6) from rfl)
  have e1 := f 1 (by decide) (by omega)
  have e2 := f 2 (by decide) (by omega)
  refine mkD_e e1 (f 3 (by decide) (by omega)) ?_ e2 ?_ (by rw [s4, hn]; rfl) ?_ (f 0 (by decide) (by omega))
  · funext p q
    rw [Bool.eq_iff_iff, aR_t, show d_a (dR M) p q = aR M p q from rfl, aR_t, e1]
    refine and_congr_right (fun hc => ?_)
    rw [f _ (by omega) (by omega)]
  · rw [e2]; exact hasN_c (fun k hk => f _ (by omega) (by omega))
  · funext j
    show eR M3 j = if (j : Int) = 3 * M 133 4 then m else if (j : Int) = 3 * M 133 4 + 1 then t else if (j : Int) = 3 * M 133 4 + 2 then b else eR M j
    rw [← hn]
    unfold eR
    rw [s4, ← hn]
    by_cases h0 : (j : Int) = 3 * n
    · rw [if_pos h0, if_pos (by omega), show 150 + j = (150 + 3 * n).toNat by omega]; exact s1
    · rw [if_neg h0]
      by_cases h1 : (j : Int) = 3 * n + 1
      · rw [if_pos h1, if_pos (by omega), show 150 + j = (150 + 3 * n + 1).toNat by omega]; exact s2
      · rw [if_neg h1]
        by_cases h2 : (j : Int) = 3 * n + 2
        · rw [if_pos h2, if_pos (by omega), show 150 + j = (150 + 3 * n + 2).toNat by omega]; exact s3
        · rw [if_neg h2]
          by_cases h3 : (j : Int) < 3 * n
          · rw [if_pos h3, if_pos (by omega)]; exact f _ (by omega) (by omega)
          · rw [if_neg h3, if_neg (by omega)]
theorem dR_open {M M' : Mem} {P : Int} (h0 : ∀ j : Nat, j < 1300 → M 133 j = 0) (hP : P ≤ 10) (s : M' 133 1 = P) (f : ∀ b : Nat, ¬ b = 1 → M' 133 b = M 133 b) : dR M' = openD P := by
  have z : ∀ j : Nat, j < 1300 → ¬ j = 1 → M' 133 j = 0 := fun j h1 h2 => (f j h2).trans (h0 j h1)
  refine mkD_e s (z 3 (by decide) (by decide)) ?_ (z 2 (by decide) (by decide)) ?_ (z 4 (by decide) (by decide)) ?_ (z 0 (by decide) (by decide))
  · funext p q
    rcases hb : aR M' p q with _ | _
    · rfl
    · have h9 := aR_t.mp hb
      exact absurd (z (50 + 10 * p + q) (by omega) (by omega)) h9.2
  · exact hasN_0 (by rw [z 2 (by decide) (by decide)]; decide)
  · funext j
    unfold eR
    rw [z 4 (by decide) (by decide), if_neg (by omega)]
/-- the class -/
theorem sg5 : ∀ q : Nat, q < 32 → (Int32.ofInt (q : Int) &&& 31) = Int32.ofInt (q : Int) ∧ ((Int32.ofInt (q : Int)).toBitVec.smod 32).toNat = q := by decide +kernel
theorem bt_lsb {s v : Int} (h0 : 0 ≤ v) (h1 : v ≤ 31) : Bt s v ↔ (Int32.ofInt s).toBitVec.getLsbD v.toNat = true := by
  obtain ⟨q, rfl⟩ := Int.eq_ofNat_of_zero_le h0
  have hq : q < 32 := by omega
  have e := sg5 q hq
  have e2 : ((Int32.ofInt s >>> Int32.ofInt (q : Int)) &&& Int32.ofInt 1).toBitVec = BitVec.setWidth 32 (BitVec.ofBool ((Int32.ofInt s).toBitVec.getLsbD q)) := by
    rw [Int32.toBitVec_and, Int32.toBitVec_shiftRight, show (Int32.ofInt 1).toBitVec = 1#32 from rfl, BitVec.and_one_eq_setWidth_ofBool_getLsbD]
    rw [BitVec.sshiftRight', e.2, BitVec.getLsbD_sshiftRight]
    rw [show (decide (32 ≤ 0)) = false from rfl, if_pos (show q + 0 < 32 by omega)]
    rfl
  unfold Bt
  rw [e.1, ← Int32.toInt_toBitVec, e2]
  show _ ↔ (Int32.ofInt s).toBitVec.getLsbD q = true
  rcases (Int32.ofInt s).toBitVec.getLsbD q with _ | _
  · decide
  · decide
theorem pow_lsb : ∀ q : Nat, q < 31 → ∀ k : Nat, k < 32 → (Int32.ofInt ((2 ^ q : Nat) : Int)).toBitVec.getLsbD k = decide (k = q) := by decide +kernel
theorem btB_lsb {s v : Int} (h0 : 0 ≤ v) (h1 : v ≤ 31) : btB s v = (Int32.ofInt s).toBitVec.getLsbD v.toNat := by
  rw [Bool.eq_iff_iff, btB_iff, bt_lsb h0 h1]
theorem btB_or {x w z p v : Int} (p0 : 0 ≤ p) (p1 : p ≤ 30) (v0 : 0 ≤ v) (v1 : v ≤ 31) (hw : w = 2 ^ p.toNat) (hz : z = (Int32.ofInt x ||| Int32.ofInt w).toInt) : btB z v = (btB x v || v == p) := by
  rw [btB_lsb v0 v1, btB_lsb v0 v1, hz, Int32.ofInt_toInt, Int32.toBitVec_or, BitVec.getLsbD_or]
  have h9 := pow_lsb p.toNat (by omega) v.toNat (by omega)
  rw [show ((2 ^ p.toNat : Nat) : Int) = w from by rw [hw]; push_cast; rfl] at h9
  rw [h9]
  congr 1
  rw [Bool.eq_iff_iff, decide_eq_true_iff, beq_iff_eq]
  omega
def aC (M : Mem) (p q : Nat) : Bool := decide ((p : Int) < M 19 1 ∧ (q : Int) < M 19 1) && btB (M 20 p) (q : Int)
theorem aC_t {M : Mem} {p q : Nat} : aC M p q = true ↔ ((p : Int) < M 19 1 ∧ (q : Int) < M 19 1) ∧ btB (M 20 p) (q : Int) = true := by
  unfold aC; rw [Bool.and_eq_true, decide_eq_true_iff]
def eC (M : Mem) (j : Nat) : Int := if (j : Int) < 3 * M 19 4 then (if j % 3 = 0 then M 27 (j / 3) else if j % 3 = 1 then M 28 (j / 3) else M 29 (j / 3)) else 0
noncomputable def dC (M : Mem) : Dt := mkD (M 19 1) (M 19 2) (aC M) (M 19 3) (hasN (M 19 3) (fun t => M 23 t)) (M 19 4) (eC M) (M 19 0)
noncomputable def tC (M : Mem) : Tn := fz (absC M) (dC M)
theorem tC_0 {M : Mem} (h : M 18 1 = 0) : tC M = (absC M, dC M) := fz_0 ((vC_fl M).trans h)
theorem tC_1 (M : Mem) : (tC M).1 = absC M := fz_1 _ _
theorem tC_2 {M : Mem} (h : M 18 1 = 0) : (tC M).2 = dC M := by rw [tC_0 h]
theorem tC_e {M M' : Mem} (h : absC M' = absC M) (hD : dC M' = dC M) : tC M' = tC M := by unfold tC; rw [h, hD]
theorem dC_f {M M' : Mem} (h : ∀ a b : Nat, a = 19 ∨ a = 20 ∨ a = 23 ∨ a = 27 ∨ a = 28 ∨ a = 29 → M' a b = M a b) : dC M' = dC M := by
  have h19 : ∀ b, M' 19 b = M 19 b := fun b => h 19 b (by decide)
  have ea : aC M' = aC M := by funext p q; unfold aC; rw [h19, h 20 p (by decide)]
  have ee : eC M' = eC M := by funext j; unfold eC; rw [h19, h 27 _ (by decide), h 28 _ (by decide), h 29 _ (by decide)]
  have eh : (fun t : Nat => M' 23 t) = (fun t : Nat => M 23 t) := funext (fun t => h 23 t (by decide))
  exact mkD_e (h19 1) (h19 2) ea (h19 3) (by rw [eh, h19]) (h19 4) ee (h19 0)
theorem dC_fr {ms : List Nat} {M M' : Mem} (f : Fr ms M M') (hm : 19 ∉ ms ∧ 20 ∉ ms ∧ 23 ∉ ms ∧ 27 ∉ ms ∧ 28 ∉ ms ∧ 29 ∉ ms) : dC M' = dC M := dC_f (fun a b h => by
  rcases h with rfl | rfl | rfl | rfl | rfl | rfl
  · exact f.at hm.1
  · exact f.at hm.2.1
  · exact f.at hm.2.2.1
  · exact f.at hm.2.2.2.1
  · exact f.at hm.2.2.2.2.1
  · exact f.at hm.2.2.2.2.2)
theorem dC_stop {M M' : Mem} (s : M' 19 0 = wr (M 19 0 + 1)) (f : ∀ a b : Nat, ¬ (a = 19 ∧ b = 0) → M' a b = M a b) : dC M' = incL (dC M) := by
  have g : ∀ b, ¬ b = 0 → M' 19 b = M 19 b := fun b hb => f 19 b (fun q => hb q.2)
  have k : ∀ a b, ¬ a = 19 → M' a b = M a b := fun a b ha => f a b (fun q => ha q.1)
  have ea : aC M' = aC M := by funext p q; unfold aC; rw [g 1 (by decide), k 20 p (by decide)]
  have ee : eC M' = eC M := by funext j; unfold eC; rw [g 4 (by decide), k 27 _ (by decide), k 28 _ (by decide), k 29 _ (by decide)]
  have eh : (fun t : Nat => M' 23 t) = (fun t : Nat => M 23 t) := funext (fun t => k 23 t (by decide))
  exact mkD_e (g 1 (by decide)) (g 2 (by decide)) ea (g 3 (by decide)) (by rw [eh, g 3 (by decide)]; rfl) (g 4 (by decide)) ee s
theorem bar_C {M : Mem} {p v w x b : Int} (hP : M 19 1 ≤ 10) (p0 : 0 ≤ p) (p1 : p ≤ M 19 1 - 1) (v0 : 0 ≤ v) (v1 : v ≤ M 19 1 - 1) (hx : x = M 20 p.toNat) (hw : w = 2 ^ p.toNat) (hb : b = (Int32.ofInt x ||| Int32.ofInt w).toInt) : btB b v = barA (aC M) p v := by
  rw [btB_or p0 (by omega) v0 (by omega) hw hb, Bool.eq_iff_iff, barA_t, aC_t, Bool.or_eq_true, beq_iff_eq, hx, show ((v.toNat : Nat) : Int) = v by omega]
  constructor
  · rintro (h | h)
    · exact Or.inr ⟨by omega, h⟩
    · exact Or.inl h
  · rintro (h | h)
    · exact Or.inr h
    · exact Or.inl h.2
theorem dC_touch {M M1 M3 : Mem} {p q x1 w1 z1 x2 w2 z2 : Int} (hP : M 19 1 ≤ 10) (p0 : 0 ≤ p) (p1 : p ≤ M 19 1 - 1) (q0 : 0 ≤ q) (q1 : q ≤ M 19 1 - 1) (e1 : x1 = M 20 p.toNat) (ew1 : w1 = 2 ^ q.toNat) (ez1 : z1 = (Int32.ofInt x1 ||| Int32.ofInt w1).toInt) (s1 : M1 20 p.toNat = z1) (f1 : ∀ a b, ¬ (a = 20 ∧ b = p.toNat) → M1 a b = M a b) (e2 : x2 = M1 20 q.toNat) (ew2 : w2 = 2 ^ p.toNat) (ez2 : z2 = (Int32.ofInt x2 ||| Int32.ofInt w2).toInt) (s2 : M3 20 q.toNat = z2) (f2 : ∀ b, ¬ b = q.toNat → M3 20 b = M1 20 b) (s3 : M3 19 2 = wr (M 19 2 + 1)) (f3 : ∀ b, ¬ b = 2 → M3 19 b = M 19 b) (f4 : ∀ a b, a = 23 ∨ a = 27 ∨ a = 28 ∨ a = 29 → M3 a b = M a b) : dC M3 = addT (dC M) p q := by
  have g1 := f3 1 (by decide)
  refine mkD_e g1 s3 ?_ (f3 3 (by decide)) ?_ (f3 4 (by decide)) ?_ (f3 0 (by decide))
  · funext a b
    show aC M3 a b = (aC M a b || ((a == p.toNat && b == q.toNat) || (a == q.toNat && b == p.toNat)))
    rw [Bool.eq_iff_iff, aC_t, Bool.or_eq_true, aC_t, Bool.or_eq_true, Bool.and_eq_true, Bool.and_eq_true, beq_iff_eq, beq_iff_eq, beq_iff_eq, beq_iff_eq, g1]
    by_cases hc : (a : Int) < M 19 1 ∧ (b : Int) < M 19 1
    · have k1 : ∀ c : Nat, btB (M1 20 c) (b : Int) = (btB (M 20 c) (b : Int) || (c == p.toNat && (b : Int) == q)) := by
        intro c
        by_cases h : c = p.toNat
        · subst h
          rw [s1, btB_or q0 (by omega) (by omega) (by omega) ew1 ez1, e1]; simp
        · rw [f1 20 c (fun r => h r.2)]; simp [h]
      have k2 : btB (M3 20 a) (b : Int) = (btB (M1 20 a) (b : Int) || (a == q.toNat && (b : Int) == p)) := by
        by_cases h : a = q.toNat
        · subst h
          rw [s2, btB_or p0 (by omega) (by omega) (by omega) ew2 ez2, e2]; simp
        · rw [f2 a h]; simp [h]
      rw [k2, k1, Bool.or_eq_true, Bool.or_eq_true, Bool.and_eq_true, Bool.and_eq_true, beq_iff_eq, beq_iff_eq, beq_iff_eq, beq_iff_eq]
      constructor
      · rintro ⟨_, (h | h) | h⟩
        · exact Or.inl ⟨hc, h⟩
        · exact Or.inr (Or.inl ⟨h.1, by omega⟩)
        · exact Or.inr (Or.inr ⟨h.1, by omega⟩)
      · rintro (h | h | h)
        · exact ⟨hc, Or.inl (Or.inl h.2)⟩
        · exact ⟨hc, Or.inl (Or.inr ⟨h.1, by omega⟩)⟩
        · exact ⟨hc, Or.inr ⟨h.1, by omega⟩⟩
    · constructor
      · intro h; exact absurd h.1 hc
      · rintro (h | h | h)
        · exact absurd h.1 hc
        · exact absurd (show (a : Int) < M 19 1 ∧ (b : Int) < M 19 1 by omega) hc
        · exact absurd (show (a : Int) < M 19 1 ∧ (b : Int) < M 19 1 by omega) hc
  · rw [f3 3 (by decide), show (fun t : Nat => M3 23 t) = (fun t : Nat => M 23 t) from funext (fun t => f4 23 t (by decide))]; rfl
  · funext j
    show eC M3 j = eC M j
    unfold eC; rw [f3 4 (by decide), f4 27 _ (by decide), f4 28 _ (by decide), f4 29 _ (by decide)]
theorem dC_thing {M M3 : Mem} {p n : Int} (n0 : 0 ≤ n) (hn : n = M 19 3) (s1 : M3 23 n.toNat = p) (f1 : ∀ b : Nat, ¬ b = n.toNat → M3 23 b = M 23 b) (s2 : M3 19 3 = n + 1) (f2 : ∀ b : Nat, b < 3 ∨ b = 4 → M3 19 b = M 19 b) (f3 : ∀ a b, a = 20 ∨ a = 27 ∨ a = 28 ∨ a = 29 → M3 a b = M a b) : dC M3 = addN (dC M) p := by
  refine mkD_e (f2 1 (by decide)) (f2 2 (by decide)) ?_ (by rw [s2, hn]; rfl) ?_ (f2 4 (by decide)) ?_ (f2 0 (by decide))
  · funext a b
    show aC M3 a b = aC M a b
    unfold aC; rw [f2 1 (by decide), f3 20 a (by decide)]
  · show hasN (M3 19 3) _ = fun v => hasN (M 19 3) (fun t => M 23 t) v || v == p
    refine hasN_s (by omega) (by omega) (fun t ht => f1 _ (by omega)) ?_
    show M3 23 (M 19 3).toNat = p
    rw [← hn]; exact s1
  · funext j
    show eC M3 j = eC M j
    unfold eC; rw [f2 4 (by decide), f3 27 _ (by decide), f3 28 _ (by decide), f3 29 _ (by decide)]
theorem dC_event {M M3 : Mem} {m t b n : Int} (n0 : 0 ≤ n) (hn : n = M 19 4) (s1 : M3 27 n.toNat = m) (s2 : M3 28 n.toNat = t) (s3 : M3 29 n.toNat = b) (s4 : M3 19 4 = n + 1) (f1 : ∀ a j, a = 27 ∨ a = 28 ∨ a = 29 → ¬ j = n.toNat → M3 a j = M a j) (f2 : ∀ b : Nat, b < 4 → M3 19 b = M 19 b) (f3 : ∀ a j, a = 20 ∨ a = 23 → M3 a j = M a j) : dC M3 = addE (dC M) m t b := by
  refine mkD_e (f2 1 (by decide)) (f2 2 (by decide)) ?_ (f2 3 (by decide)) ?_ (by rw [s4, hn]; rfl) ?_ (f2 0 (by decide))
  · funext a b
    show aC M3 a b = aC M a b
    unfold aC; rw [f2 1 (by decide), f3 20 a (by decide)]
  · rw [f2 3 (by decide), show (fun t : Nat => M3 23 t) = (fun t : Nat => M 23 t) from funext (fun t => f3 23 t (by decide))]; rfl
  · funext j
    show eC M3 j = if (j : Int) = 3 * M 19 4 then m else if (j : Int) = 3 * M 19 4 + 1 then t else if (j : Int) = 3 * M 19 4 + 2 then b else eC M j
    rw [← hn]
    unfold eC
    rw [s4, ← hn]
    by_cases h0 : (j : Int) = 3 * n
    · rw [if_pos h0, if_pos (by omega), if_pos (by omega), show j / 3 = n.toNat by omega]; exact s1
    · rw [if_neg h0]
      by_cases h1 : (j : Int) = 3 * n + 1
      · rw [if_pos h1, if_pos (by omega), if_neg (by omega), if_pos (by omega), show j / 3 = n.toNat by omega]; exact s2
      · rw [if_neg h1]
        by_cases h2 : (j : Int) = 3 * n + 2
        · rw [if_pos h2, if_pos (by omega), if_neg (by omega), if_neg (by omega), show j / 3 = n.toNat by omega]; exact s3
        · rw [if_neg h2]
          by_cases h3 : (j : Int) < 3 * n
          · rw [if_pos h3, if_pos (by omega), f1 27 _ (by decide) (by omega), f1 28 _ (by decide) (by omega), f1 29 _ (by decide) (by omega)]
          · rw [if_neg h3, if_neg (by omega)]
theorem dC_open {M : Mem} {P : Int} (hP : M 19 1 = P) (h : ∀ p : Nat, (p : Int) < P → M 20 p = 0) (h0 : M 19 0 = 0) (h2 : M 19 2 = 0) (h3 : M 19 3 = 0) (h4 : M 19 4 = 0) : dC M = openD P := by
  refine mkD_e hP h2 ?_ h3 (hasN_0 (by omega)) h4 ?_ h0
  · funext p q
    rcases hb : aC M p q with _ | _
    · rfl
    · have h9 := aC_t.mp hb
      rw [h p (by omega), btB_0] at h9
      exact absurd h9.2 (by show ¬ false = true; decide)
  · funext j
    unfold eC
    rw [h4, if_neg (by omega)]
def RlT (M : Mem) : Prop := M 0 1 = M 131 6 ∧ ∀ j : Nat, (j : Int) < M 0 1 → M 136 j = M 1 j % 256
theorem rl_fr {ms : List Nat} {M M' : Mem} (f : Fr ms M M') (hm : 1 ∉ ms ∧ 136 ∉ ms ∧ 200 ∉ ms ∧ 231 ∉ ms) (h : RlT M) : RlT M' := by
  refine ⟨(f.t1 hm.2.2.1).trans (h.1.trans (f.t6 hm.2.2.2).symm), fun j hj => ?_⟩
  rw [f.at hm.1, f.at hm.2.1]
  exact h.2 j (by rw [f.t1 hm.2.2.1] at hj; exact hj)
theorem rl_feed {M M1 M2 : Mem} {g : Int → Int} (h : RlT M) (l1 : M 0 1 ≤ 880 ∧ M1 0 1 = M 0 1 + 20 ∨ 880 < M 0 1 ∧ M1 0 1 = M 0 1) (a1 : Im (M 0 1 ≤ 880) (∀ j : Nat, M1 1 j % 256 = if M 0 1 ≤ j ∧ (j : Int) < M 0 1 + 20 then g (j - M 0 1) else M 1 j % 256)) (b1 : Im (880 < M 0 1) (∀ j : Nat, M1 1 j % 256 = M 1 j % 256)) (e1 : M1 131 6 = M 131 6) (e2 : ∀ j : Nat, M1 136 j = M 136 j)
    (l2 : M1 131 6 ≤ 880 ∧ M2 131 6 = M1 131 6 + 20 ∨ 880 < M1 131 6 ∧ M2 131 6 = M1 131 6) (a2 : Im (M1 131 6 ≤ 880) (∀ j : Nat, M2 136 j = if M1 131 6 ≤ j ∧ (j : Int) < M1 131 6 + 20 then g (j - M1 131 6) else M1 136 j)) (b2 : Im (880 < M1 131 6) (∀ j : Nat, M2 136 j = M1 136 j)) (e3 : M2 0 1 = M1 0 1) (e4 : ∀ j : Nat, M2 1 j = M1 1 j) : RlT M2 := by
  have h1 := h.1
  refine ⟨by omega, fun j hj => ?_⟩
  rw [e4]
  by_cases hq : M 0 1 ≤ 880
  · rw [a2 (by omega) j, a1 hq j, e1, ← h1]
    by_cases hk : M 0 1 ≤ j ∧ (j : Int) < M 0 1 + 20
    · rw [if_pos hk, if_pos hk]
    · rw [if_neg hk, if_neg hk, e2]; exact h.2 j (by omega)
  · rw [b2 (by omega) j, b1 (by omega) j, e2]; exact h.2 j (by omega)
theorem utr_utc {M : Mem} {n : Int} (h : RlT M) (hn : n ≤ M 0 1) : UTR M n = UTC M n := by
  funext j
  unfold UTR UTC
  by_cases hj : (j : Int) < n
  · rw [if_pos hj, if_pos hj]; exact h.2 j (by omega)
  · rw [if_neg hj, if_neg hj]
def fpC (A : Tn) : Int := if s_fl A.1 = 0 then s_fp A.1 - 1 else s_fp A.1
end DST
