/-! ===== texts, tokens ===== -/
section TEXTS
def Im (a b : Prop) : Prop := a → b
def Or2 (a b : Prop) : Prop := a ∨ b
abbrev St : Type := (Nat → Int) × Int × Int × Int × Int × Int × Int × Int
def mkS (U : Nat → Int) (len f q h b t v : Int) : St := (U, len, f, q, h, b, t, v)
def s_tx (S : St) : Nat → Int := S.1
def s_ln (S : St) : Int := S.2.1
def s_fl (S : St) : Int := S.2.2.1
def s_fp (S : St) : Int := S.2.2.2.1
def s_hd (S : St) : Int := S.2.2.2.2.1
def s_bg (S : St) : Int := S.2.2.2.2.2.1
def s_tk (S : St) : Int := S.2.2.2.2.2.2.1
def s_vl (S : St) : Int := S.2.2.2.2.2.2.2
def c_bl (c : Int) : Prop := c = 32 ∨ c = 10
def c_lt (c : Int) : Prop := 97 ≤ c ∧ c ≤ 122
def c_dg (c : Int) : Prop := 48 ≤ c ∧ c ≤ 57
def c_sg (c : Int) : Prop := c = 59 ∨ c = 43 ∨ c = 45 ∨ c = 42 ∨ c = 40 ∨ c = 41 ∨ c = 91 ∨ c = 93 ∨ c = 61 ∨ c = 60 ∨ c = 62
def dec3 (U : Nat → Int) (b : Nat) : Nat → Int
  | 0 => 0
  | n + 1 => 10 * dec3 U b n + U (b + n) - 48
/-- one token on: from h on blanks to b, the token to e, its sort t, its number v -/
def Adv (U : Nat → Int) (len h b e t v : Int) : Prop :=
  0 ≤ h ∧ h ≤ b ∧ b ≤ len ∧ (∀ j : Nat, h ≤ j → (j : Int) < b → c_bl (U j)) ∧
  (b = len ∧ e = b ∧ t = 0 ∧ v = 0 ∨
   b < len ∧ ¬ c_bl (U b.toNat) ∧
    (c_lt (U b.toNat) ∧ b < e ∧ e ≤ len ∧ (∀ j : Nat, b ≤ j → (j : Int) < e → c_lt (U j)) ∧ (e = len ∨ ¬ c_lt (U e.toNat)) ∧ t = 1 ∧ v = 0 ∨
     c_dg (U b.toNat) ∧ b < e ∧ e ≤ len ∧ (∀ j : Nat, b ≤ j → (j : Int) < e → c_dg (U j)) ∧ (e = len ∨ ¬ c_dg (U e.toNat)) ∧ (3 < e - b ∧ t = 3 ∧ v = 0 ∨ e - b ≤ 3 ∧ t = 2 ∧ v = dec3 U b.toNat (e - b).toNat) ∨
     ¬ c_lt (U b.toNat) ∧ ¬ c_dg (U b.toNat) ∧ e = b + 1 ∧ v = 0 ∧ (c_sg (U b.toNat) ∧ t = U b.toNat ∨ ¬ c_sg (U b.toNat) ∧ t = 3)))
theorem run_u {U : Nat → Int} {P : Int → Prop} {len b e f : Int} (hb : 0 ≤ b) (a1 : b ≤ e) (a2 : e ≤ len) (a3 : ∀ j : Nat, b ≤ j → (j : Int) < e → P (U j)) (a4 : e = len ∨ ¬ P (U e.toNat)) (b1 : b ≤ f) (b2 : f ≤ len) (b3 : ∀ j : Nat, b ≤ j → (j : Int) < f → P (U j)) (b4 : f = len ∨ ¬ P (U f.toNat)) : e = f := by
  rcases Int.lt_trichotomy e f with h | h | h
  · rcases a4 with q | q
    · omega
    · exact absurd (b3 e.toNat (by omega) (by omega)) q
  · exact h
  · rcases b4 with q | q
    · omega
    · exact absurd (a3 f.toNat (by omega) (by omega)) q
theorem adv_u {U : Nat → Int} {len h b e t v b' e' t' v' : Int} (x : Adv U len h b e t v) (y : Adv U len h b' e' t' v') : b = b' ∧ e = e' ∧ t = t' ∧ v = v' := by
  obtain ⟨x0, x1, x2, x3, x4⟩ := x
  obtain ⟨_, y1, y2, y3, y4⟩ := y
  have hb : b = b' := run_u (P := c_bl) x0 x1 x2 x3 (x4.elim (fun q => Or.inl q.1) (fun q => Or.inr q.2.1)) y1 y2 y3 (y4.elim (fun q => Or.inl q.1) (fun q => Or.inr q.2.1))
  subst hb
  rcases x4 with x4 | x4
  · rcases y4 with y4 | y4
    · exact ⟨rfl, by omega, by omega, by omega⟩
    · exfalso; have h1 := x4.1; have h2 := y4.1; omega
  · rcases y4 with y4 | y4
    · exfalso; have h1 := x4.1; have h2 := y4.1; omega
    · obtain ⟨_, _, p⟩ := x4
      obtain ⟨_, _, r⟩ := y4
      have ld : ∀ c : Int, c_lt c → c_dg c → False := fun c g1 g2 => by have := g1.1; have := g2.2; omega
      rcases p with p | p | p
      · rcases r with r | r | r
        · have he := run_u (P := c_lt) (by omega) (Int.le_of_lt p.2.1) p.2.2.1 p.2.2.2.1 p.2.2.2.2.1 (Int.le_of_lt r.2.1) r.2.2.1 r.2.2.2.1 r.2.2.2.2.1
          exact ⟨rfl, he, p.2.2.2.2.2.1.trans r.2.2.2.2.2.1.symm, p.2.2.2.2.2.2.trans r.2.2.2.2.2.2.symm⟩
        · exact (ld _ p.1 r.1).elim
        · exact absurd p.1 r.1
      · rcases r with r | r | r
        · exact (ld _ r.1 p.1).elim
        · have he := run_u (P := c_dg) (by omega) (Int.le_of_lt p.2.1) p.2.2.1 p.2.2.2.1 p.2.2.2.2.1 (Int.le_of_lt r.2.1) r.2.2.1 r.2.2.2.1 r.2.2.2.2.1
          subst he
          have p6 := p.2.2.2.2.2
          have r6 := r.2.2.2.2.2
          exact ⟨rfl, rfl, by omega, by omega⟩
        · exact absurd p.1 r.2.1
      · rcases r with r | r | r
        · exact absurd r.1 p.1
        · exact absurd r.1 p.2.1
        · have p6 := p.2.2
          have r6 := r.2.2
          refine ⟨rfl, by omega, ?_, by omega⟩
          rcases p6.2.2 with p7 | p7
          · rcases r6.2.2 with r7 | r7
            · exact p7.2.trans r7.2.symm
            · exact absurd p7.1 r7.1
          · rcases r6.2.2 with r7 | r7
            · exact absurd r7.1 p7.1
            · exact p7.2.trans r7.2.symm
noncomputable def advq (S : St) : Int × Int × Int × Int := Classical.epsilon (fun q : Int × Int × Int × Int => Adv (s_tx S) (s_ln S) (s_hd S) q.1 q.2.1 q.2.2.1 q.2.2.2)
noncomputable def adv (S : St) : St := mkS (s_tx S) (s_ln S) 0 (s_fp S) (advq S).2.1 (advq S).1 (advq S).2.2.1 (advq S).2.2.2
theorem advq_eq {S : St} {b e t v : Int} (x : Adv (s_tx S) (s_ln S) (s_hd S) b e t v) : advq S = (b, e, t, v) := by
  have y : Adv (s_tx S) (s_ln S) (s_hd S) (advq S).1 (advq S).2.1 (advq S).2.2.1 (advq S).2.2.2 := Classical.epsilon_spec (p := fun q : Int × Int × Int × Int => Adv (s_tx S) (s_ln S) (s_hd S) q.1 q.2.1 q.2.2.1 q.2.2.2) ⟨(b, e, t, v), x⟩
  obtain ⟨h1, h2, h3, h4⟩ := adv_u x y
  exact Prod.ext h1.symm (Prod.ext h2.symm (Prod.ext h3.symm h4.symm))
theorem adv_eq {S : St} {b e t v : Int} (x : Adv (s_tx S) (s_ln S) (s_hd S) b e t v) : adv S = mkS (s_tx S) (s_ln S) 0 (s_fp S) e b t v := by
  unfold adv; rw [advq_eq x]
def isW (w : List Int) (S : St) : Bool := s_fl S == 0 && (s_tk S == 1 && (s_hd S - s_bg S == (w.length : Int) && (List.range w.length).all (fun k => s_tx S ((s_bg S).toNat + k) == w.getD k 0)))
theorem isW_iff {w : List Int} {S : St} : isW w S = true ↔ s_fl S = 0 ∧ s_tk S = 1 ∧ s_hd S - s_bg S = (w.length : Int) ∧ ∀ k : Nat, k < w.length → s_tx S ((s_bg S).toNat + k) = w.getD k 0 := by
  unfold isW
  simp only [Bool.and_eq_true, beq_iff_eq, List.all_eq_true, List.mem_range]
def isT (c : Int) (S : St) : Bool := s_fl S == 0 && s_tk S == c
theorem isT_iff {c : Int} {S : St} : isT c S = true ↔ s_fl S = 0 ∧ s_tk S = c := by
  unfold isT
  simp only [Bool.and_eq_true, beq_iff_eq]
theorem isW_fl {w : List Int} {S : St} (h : ¬ s_fl S = 0) : isW w S = false := by
  rcases hb : isW w S with _ | _
  · rfl
  · exact absurd (isW_iff.mp hb).1 h
theorem isT_fl {c : Int} {S : St} (h : ¬ s_fl S = 0) : isT c S = false := by
  rcases hb : isT c S with _ | _
  · rfl
  · exact absurd (isT_iff.mp hb).1 h
/-- a method's answer for a Bool -/
def WZ (z : Int) (b : Bool) : Prop := z = 1 ∧ b = true ∨ z = 0 ∧ b = false
theorem wz_t {z : Int} {b : Bool} (h : WZ z b) (hz : ¬ z = 0) : b = true := h.elim (fun q => q.2) (fun q => absurd q.1 hz)
theorem wz_f {z : Int} {b : Bool} (h : WZ z b) (hz : ¬ z = 1) : b = false := h.elim (fun q => absurd q.1 hz) (fun q => q.2)
def setf (k : Int) (S : St) : St := if s_fl S = 0 then mkS (s_tx S) (s_ln S) k (s_bg S) 0 0 0 0 else S
def blame (k : Int) (S : St) : St := setf (if s_tk S = 3 then 1 else k) S
theorem setf_f {k : Int} {S : St} (h : ¬ s_fl S = 0) : setf k S = S := if_neg h
theorem blame_f {k : Int} {S : St} (h : ¬ s_fl S = 0) : blame k S = S := setf_f h
noncomputable def mustT (c : Int) (S : St) : St := if isT c S then adv S else blame 2 S
noncomputable def mustW (w : List Int) (S : St) : St := if isW w S then adv S else blame 2 S
noncomputable def tookW (w : List Int) (S : St) : St := if isW w S then adv S else S
noncomputable def numB (lo hi : Int) (bar : Int → Bool) (S : St) : St := if s_fl S = 0 ∧ s_tk S = 2 then (if lo ≤ s_vl S ∧ s_vl S ≤ hi ∧ bar (s_vl S) = false then adv S else blame 3 S) else blame 2 S
def noB : Int → Bool := fun _ => false
noncomputable def anyN (S : St) : St := if s_fl S = 0 ∧ s_tk S = 2 then adv S else blame 2 S
theorem num_any {lo hi : Int} {S : St} (h0 : lo ≤ s_vl S) (h1 : s_vl S ≤ hi) : numB lo hi noB S = anyN S := by
  unfold numB anyN
  rw [if_pos (show lo ≤ s_vl S ∧ s_vl S ≤ hi ∧ noB (s_vl S) = false from ⟨h0, h1, rfl⟩)]
noncomputable def cmpT (S : St) : St := if isT 61 S || isT 60 S || isT 62 S then adv S else blame 2 S
noncomputable def goIn (d : Int) (S : St) : St := if 6 ≤ d then setf 4 S else adv S
def w_places : List Int := [112, 108, 97, 99, 101, 115]
theorem wl_places : ((w_places.length : Nat) : Int) = 6 := rfl
def w_touch : List Int := [116, 111, 117, 99, 104]
theorem wl_touch : ((w_touch.length : Nat) : Int) = 5 := rfl
def w_thing : List Int := [116, 104, 105, 110, 103]
theorem wl_thing : ((w_thing.length : Nat) : Int) = 5 := rfl
def w_event : List Int := [101, 118, 101, 110, 116]
theorem wl_event : ((w_event.length : Nat) : Int) = 5 := rfl
def w_zero : List Int := [122, 101, 114, 111]
theorem wl_zero : ((w_zero.length : Nat) : Int) = 4 := rfl
def w_law : List Int := [108, 97, 119]
theorem wl_law : ((w_law.length : Nat) : Int) = 3 := rfl
def w_count : List Int := [99, 111, 117, 110, 116]
theorem wl_count : ((w_count.length : Nat) : Int) = 5 := rfl
def w_kind : List Int := [107, 105, 110, 100]
theorem wl_kind : ((w_kind.length : Nat) : Int) = 4 := rfl
def w_slow : List Int := [115, 108, 111, 119]
theorem wl_slow : ((w_slow.length : Nat) : Int) = 4 := rfl
def w_stays : List Int := [115, 116, 97, 121, 115]
theorem wl_stays : ((w_stays.length : Nat) : Int) = 5 := rfl
def w_wall : List Int := [119, 97, 108, 108]
theorem wl_wall : ((w_wall.length : Nat) : Int) = 4 := rfl
def w_more : List Int := [109, 111, 114, 101]
theorem wl_more : ((w_more.length : Nat) : Int) = 4 := rfl
def w_less : List Int := [108, 101, 115, 115]
theorem wl_less : ((w_less.length : Nat) : Int) = 4 := rfl
def w_even : List Int := [101, 118, 101, 110]
theorem wl_even : ((w_even.length : Nat) : Int) = 4 := rfl
def w_odd : List Int := [111, 100, 100]
theorem wl_odd : ((w_odd.length : Nat) : Int) = 3 := rfl
def w_both : List Int := [98, 111, 116, 104]
theorem wl_both : ((w_both.length : Nat) : Int) = 4 := rfl
def w_neither : List Int := [110, 101, 105, 116, 104, 101, 114]
theorem wl_neither : ((w_neither.length : Nat) : Int) = 7 := rfl
def w_or : List Int := [111, 114]
theorem wl_or : ((w_or.length : Nat) : Int) = 2 := rfl
def w_and : List Int := [97, 110, 100]
theorem wl_and : ((w_and.length : Nat) : Int) = 3 := rfl
def w_not : List Int := [110, 111, 116]
theorem wl_not : ((w_not.length : Nat) : Int) = 3 := rfl
def w_a : List Int := [97]
theorem wl_a : ((w_a.length : Nat) : Int) = 1 := rfl
def w_b : List Int := [98]
theorem wl_b : ((w_b.length : Nat) : Int) = 1 := rfl
def w_odda : List Int := [111, 100, 100, 97]
theorem wl_odda : ((w_odda.length : Nat) : Int) = 4 := rfl
def w_oddb : List Int := [111, 100, 100, 98]
theorem wl_oddb : ((w_oddb.length : Nat) : Int) = 4 := rfl
def w_evena : List Int := [101, 118, 101, 110, 97]
theorem wl_evena : ((w_evena.length : Nat) : Int) = 5 := rfl
def w_evenb : List Int := [101, 118, 101, 110, 98]
theorem wl_evenb : ((w_evenb.length : Nat) : Int) = 5 := rfl
def w_alike : List Int := [97, 108, 105, 107, 101]
theorem wl_alike : ((w_alike.length : Nat) : Int) = 5 := rfl
def lawW (S : St) : Bool := isW w_a S || isW w_b S || isW w_odda S || isW w_oddb S || isW w_evena S || isW w_evenb S || isW w_alike S || isW w_wall S
theorem mustT_f {c : Int} {S : St} (h : ¬ s_fl S = 0) : mustT c S = S := by unfold mustT; rw [isT_fl h]; exact blame_f h
theorem anyN_f {S : St} (h : ¬ s_fl S = 0) : anyN S = S := by unfold anyN; rw [if_neg (fun q => h q.1)]; exact blame_f h
theorem cmpT_f {S : St} (h : ¬ s_fl S = 0) : cmpT S = S := by unfold cmpT; rw [isT_fl h, isT_fl h, isT_fl h]; exact blame_f h
theorem lawW_f {S : St} (h : ¬ s_fl S = 0) : lawW S = false := by unfold lawW; rw [isW_fl h, isW_fl h, isW_fl h, isW_fl h, isW_fl h, isW_fl h, isW_fl h, isW_fl h]; rfl
/-- the law's readers: 0 truth, 1 both, 2 unit, 3 sum, 4 term, 5 atom; 6 to 9 their loops -/
def rdm (f : Nat → Int → St → Option St) (k : Nat) (d : Int) (S : St) (e : St → St) (g : St → St) (m : Int → St → St) (c : St → St) (a : St → St) : Option St :=
  match k with
  | 0 => (f 1 d S).bind (f 6 d)
  | 1 => (f 2 d S).bind (f 7 d)
  | 2 => if isW w_not S then f 2 (d + 1) (g S) else if isT 91 S then (f 0 (d + 1) (g S)).map (m 93) else (f 3 d S).bind (fun A => f 3 d (c A))
  | 3 => (f 4 d S).bind (f 8 d)
  | 4 => (f 5 d S).bind (f 9 d)
  | 5 => if lawW S then some (e S) else if isT 40 S then (f 3 (d + 1) (g S)).map (m 41) else some (a S)
  | 6 => if isW w_or S then (f 1 d (e S)).bind (f 6 d) else some S
  | 7 => if isW w_and S then (f 2 d (e S)).bind (f 7 d) else some S
  | 8 => if isT 43 S || isT 45 S then (f 4 d (e S)).bind (f 8 d) else some S
  | _ => if isT 42 S then (f 5 d (e S)).bind (f 9 d) else some S
noncomputable def rd : Nat → Nat → Int → St → Option St
  | 0, _, _, _ => none
  | n + 1, k, d, S => if s_fl S = 0 then rdm (fun k d S => rd n k d S) k d S adv (goIn d) mustT cmpT anyN else some S
theorem rd_p {n k : Nat} {d : Int} {S : St} (hf : s_fl S = 0) : rd (n + 1) k d S = rdm (fun k d S => rd n k d S) k d S adv (goIn d) mustT cmpT anyN := if_pos hf
theorem rd_n {n k : Nat} {d : Int} {S : St} (hf : ¬ s_fl S = 0) : rd (n + 1) k d S = some S := if_neg hf
theorem bind_m {x x' : Option St} {f f' : St → Option St} {A : St} (hx : ∀ B, x = some B → x' = some B) (hf : ∀ B C, f B = some C → f' B = some C) (h : x.bind f = some A) : x'.bind f' = some A := by
  rcases x with _ | B
  · exact absurd h (by simp)
  · rw [hx B rfl]; exact hf B A h
theorem map_m {x x' : Option St} {g : St → St} {A : St} (hx : ∀ B, x = some B → x' = some B) (h : x.map g = some A) : x'.map g = some A := by
  rcases x with _ | B
  · exact absurd h (by simp)
  · rw [hx B rfl]; exact h
theorem rd_1 : ∀ (n k : Nat) (d : Int) (S A : St), rd n k d S = some A → rd (n + 1) k d S = some A := by
  intro n
  induction n with
  | zero => intro k d S A h; exact absurd h (by show ¬ (none : Option St) = some A; simp)
  | succ n ih =>
    intro k d S A h
    by_cases hf : s_fl S = 0
    · rw [rd_p hf] at h ⊢
      match k, h with
      | 0, h => exact bind_m (x := rd n 1 d S) (f := rd n 6 d) (x' := rd (n + 1) 1 d S) (f' := rd (n + 1) 6 d) (ih _ _ _) (ih _ _) h
      | 1, h => exact bind_m (x := rd n 2 d S) (f := rd n 7 d) (x' := rd (n + 1) 2 d S) (f' := rd (n + 1) 7 d) (ih _ _ _) (ih _ _) h
      | 2, h =>
        show (if isW w_not S then rd (n + 1) 2 (d + 1) (goIn d S) else if isT 91 S then (rd (n + 1) 0 (d + 1) (goIn d S)).map (mustT 93) else (rd (n + 1) 3 d S).bind (fun A => rd (n + 1) 3 d (cmpT A))) = some A
        have h : (if isW w_not S then rd n 2 (d + 1) (goIn d S) else if isT 91 S then (rd n 0 (d + 1) (goIn d S)).map (mustT 93) else (rd n 3 d S).bind (fun A => rd n 3 d (cmpT A))) = some A := h
        by_cases h1 : isW w_not S = true
        · rw [if_pos h1] at h ⊢; exact ih _ _ _ _ h
        · rw [if_neg h1] at h ⊢
          by_cases h2 : isT 91 S = true
          · rw [if_pos h2] at h ⊢; exact map_m (ih _ _ _) h
          · rw [if_neg h2] at h ⊢; exact bind_m (ih _ _ _) (fun B C => ih _ _ _ _) h
      | 3, h => exact bind_m (x := rd n 4 d S) (f := rd n 8 d) (x' := rd (n + 1) 4 d S) (f' := rd (n + 1) 8 d) (ih _ _ _) (ih _ _) h
      | 4, h => exact bind_m (x := rd n 5 d S) (f := rd n 9 d) (x' := rd (n + 1) 5 d S) (f' := rd (n + 1) 9 d) (ih _ _ _) (ih _ _) h
      | 5, h =>
        show (if lawW S then some (adv S) else if isT 40 S then (rd (n + 1) 3 (d + 1) (goIn d S)).map (mustT 41) else some (anyN S)) = some A
        have h : (if lawW S then some (adv S) else if isT 40 S then (rd n 3 (d + 1) (goIn d S)).map (mustT 41) else some (anyN S)) = some A := h
        by_cases h1 : lawW S = true
        · rw [if_pos h1] at h ⊢; exact h
        · rw [if_neg h1] at h ⊢
          by_cases h2 : isT 40 S = true
          · rw [if_pos h2] at h ⊢; exact map_m (ih _ _ _) h
          · rw [if_neg h2] at h ⊢; exact h
      | 6, h =>
        show (if isW w_or S then (rd (n + 1) 1 d (adv S)).bind (rd (n + 1) 6 d) else some S) = some A
        have h : (if isW w_or S then (rd n 1 d (adv S)).bind (rd n 6 d) else some S) = some A := h
        by_cases h1 : isW w_or S = true
        · rw [if_pos h1] at h ⊢; exact bind_m (ih _ _ _) (ih _ _) h
        · rw [if_neg h1] at h ⊢; exact h
      | 7, h =>
        show (if isW w_and S then (rd (n + 1) 2 d (adv S)).bind (rd (n + 1) 7 d) else some S) = some A
        have h : (if isW w_and S then (rd n 2 d (adv S)).bind (rd n 7 d) else some S) = some A := h
        by_cases h1 : isW w_and S = true
        · rw [if_pos h1] at h ⊢; exact bind_m (ih _ _ _) (ih _ _) h
        · rw [if_neg h1] at h ⊢; exact h
      | 8, h =>
        show (if (isT 43 S || isT 45 S) then (rd (n + 1) 4 d (adv S)).bind (rd (n + 1) 8 d) else some S) = some A
        have h : (if (isT 43 S || isT 45 S) then (rd n 4 d (adv S)).bind (rd n 8 d) else some S) = some A := h
        by_cases h1 : (isT 43 S || isT 45 S) = true
        · rw [if_pos h1] at h ⊢; exact bind_m (ih _ _ _) (ih _ _) h
        · rw [if_neg h1] at h ⊢; exact h
      | k + 9, h =>
        show (if isT 42 S then (rd (n + 1) 5 d (adv S)).bind (rd (n + 1) 9 d) else some S) = some A
        have h : (if isT 42 S then (rd n 5 d (adv S)).bind (rd n 9 d) else some S) = some A := h
        by_cases h1 : isT 42 S = true
        · rw [if_pos h1] at h ⊢; exact bind_m (ih _ _ _) (ih _ _) h
        · rw [if_neg h1] at h ⊢; exact h
    · rw [rd_n hf] at h ⊢; exact h
theorem rd_le {n m k : Nat} {d : Int} {S A : St} (hn : n ≤ m) (h : rd n k d S = some A) : rd m k d S = some A := by
  obtain ⟨q, rfl⟩ := Nat.le.dest hn
  induction q with
  | zero => exact h
  | succ q ih => exact rd_1 _ _ _ _ _ (ih (Nat.le_add_right n q))
def RdE (k : Nat) (d : Int) (S A : St) : Prop := ∃ n : Nat, rd n k d S = some A
theorem rdE_u {k : Nat} {d : Int} {S A B : St} (x : RdE k d S A) (y : RdE k d S B) : A = B := by
  obtain ⟨n, x⟩ := x
  obtain ⟨m, y⟩ := y
  have x2 := rd_le (Nat.le_max_left n m) x
  have y2 := rd_le (Nat.le_max_right n m) y
  exact Option.some.inj (x2.symm.trans y2)
theorem rdE_f {k : Nat} {d : Int} {S : St} (h : ¬ s_fl S = 0) : RdE k d S S := ⟨1, by rw [rd_n h]⟩
theorem rdE_fe {k : Nat} {d : Int} {S A : St} (h : ¬ s_fl S = 0) (x : RdE k d S A) : A = S := rdE_u x (rdE_f h)
theorem r_s0 {d : Int} {S A B : St} (x : RdE 1 d S A) (y : RdE 6 d A B) : RdE 0 d S B := by
  by_cases hf : s_fl S = 0
  · obtain ⟨n, x⟩ := x
    obtain ⟨m, y⟩ := y
    refine ⟨max n m + 1, ?_⟩
    rw [rd_p hf]
    show (rd (max n m) 1 d S).bind (rd (max n m) 6 d) = some B
    rw [rd_le (Nat.le_max_left n m) x]; exact rd_le (Nat.le_max_right n m) y
  · have := rdE_fe hf x
    subst this
    have := rdE_fe hf y
    subst this
    exact rdE_f hf
theorem r_s1 {d : Int} {S A B : St} (x : RdE 2 d S A) (y : RdE 7 d A B) : RdE 1 d S B := by
  by_cases hf : s_fl S = 0
  · obtain ⟨n, x⟩ := x
    obtain ⟨m, y⟩ := y
    refine ⟨max n m + 1, ?_⟩
    rw [rd_p hf]
    show (rd (max n m) 2 d S).bind (rd (max n m) 7 d) = some B
    rw [rd_le (Nat.le_max_left n m) x]; exact rd_le (Nat.le_max_right n m) y
  · have := rdE_fe hf x
    subst this
    have := rdE_fe hf y
    subst this
    exact rdE_f hf
theorem r_s3 {d : Int} {S A B : St} (x : RdE 4 d S A) (y : RdE 8 d A B) : RdE 3 d S B := by
  by_cases hf : s_fl S = 0
  · obtain ⟨n, x⟩ := x
    obtain ⟨m, y⟩ := y
    refine ⟨max n m + 1, ?_⟩
    rw [rd_p hf]
    show (rd (max n m) 4 d S).bind (rd (max n m) 8 d) = some B
    rw [rd_le (Nat.le_max_left n m) x]; exact rd_le (Nat.le_max_right n m) y
  · have := rdE_fe hf x
    subst this
    have := rdE_fe hf y
    subst this
    exact rdE_f hf
theorem r_s4 {d : Int} {S A B : St} (x : RdE 5 d S A) (y : RdE 9 d A B) : RdE 4 d S B := by
  by_cases hf : s_fl S = 0
  · obtain ⟨n, x⟩ := x
    obtain ⟨m, y⟩ := y
    refine ⟨max n m + 1, ?_⟩
    rw [rd_p hf]
    show (rd (max n m) 5 d S).bind (rd (max n m) 9 d) = some B
    rw [rd_le (Nat.le_max_left n m) x]; exact rd_le (Nat.le_max_right n m) y
  · have := rdE_fe hf x
    subst this
    have := rdE_fe hf y
    subst this
    exact rdE_f hf
theorem r_l6 {d : Int} {S A B : St} (hc : isW w_or S = true) (x : RdE 1 d (adv S) A) (y : RdE 6 d A B) : RdE 6 d S B := by
  obtain ⟨n, x⟩ := x
  obtain ⟨m, y⟩ := y
  refine ⟨max n m + 1, ?_⟩
  rw [rd_p (isW_iff.mp hc).1]
  show (if isW w_or S then (rd (max n m) 1 d (adv S)).bind (rd (max n m) 6 d) else some S) = some B
  rw [if_pos hc, rd_le (Nat.le_max_left n m) x]; exact rd_le (Nat.le_max_right n m) y
theorem r_e6 {d : Int} {S : St} (hc : isW w_or S = false) : RdE 6 d S S := by
  by_cases hf : s_fl S = 0
  · refine ⟨1, ?_⟩
    rw [rd_p hf]
    show (if isW w_or S then (rd 0 1 d (adv S)).bind (rd 0 6 d) else some S) = some S
    rw [hc]; rfl
  · exact rdE_f hf
theorem r_l7 {d : Int} {S A B : St} (hc : isW w_and S = true) (x : RdE 2 d (adv S) A) (y : RdE 7 d A B) : RdE 7 d S B := by
  obtain ⟨n, x⟩ := x
  obtain ⟨m, y⟩ := y
  refine ⟨max n m + 1, ?_⟩
  rw [rd_p (isW_iff.mp hc).1]
  show (if isW w_and S then (rd (max n m) 2 d (adv S)).bind (rd (max n m) 7 d) else some S) = some B
  rw [if_pos hc, rd_le (Nat.le_max_left n m) x]; exact rd_le (Nat.le_max_right n m) y
theorem r_e7 {d : Int} {S : St} (hc : isW w_and S = false) : RdE 7 d S S := by
  by_cases hf : s_fl S = 0
  · refine ⟨1, ?_⟩
    rw [rd_p hf]
    show (if isW w_and S then (rd 0 2 d (adv S)).bind (rd 0 7 d) else some S) = some S
    rw [hc]; rfl
  · exact rdE_f hf
theorem r_l8 {d : Int} {S A B : St} (hc : (isT 43 S || isT 45 S) = true) (x : RdE 4 d (adv S) A) (y : RdE 8 d A B) : RdE 8 d S B := by
  obtain ⟨n, x⟩ := x
  obtain ⟨m, y⟩ := y
  refine ⟨max n m + 1, ?_⟩
  rw [rd_p (by rcases (Bool.or_eq_true _ _).mp hc with q | q <;> exact (isT_iff.mp q).1)]
  show (if (isT 43 S || isT 45 S) then (rd (max n m) 4 d (adv S)).bind (rd (max n m) 8 d) else some S) = some B
  rw [if_pos hc, rd_le (Nat.le_max_left n m) x]; exact rd_le (Nat.le_max_right n m) y
theorem r_e8 {d : Int} {S : St} (hc : (isT 43 S || isT 45 S) = false) : RdE 8 d S S := by
  by_cases hf : s_fl S = 0
  · refine ⟨1, ?_⟩
    rw [rd_p hf]
    show (if (isT 43 S || isT 45 S) then (rd 0 4 d (adv S)).bind (rd 0 8 d) else some S) = some S
    rw [hc]; rfl
  · exact rdE_f hf
theorem r_l9 {d : Int} {S A B : St} (hc : isT 42 S = true) (x : RdE 5 d (adv S) A) (y : RdE 9 d A B) : RdE 9 d S B := by
  obtain ⟨n, x⟩ := x
  obtain ⟨m, y⟩ := y
  refine ⟨max n m + 1, ?_⟩
  rw [rd_p (isT_iff.mp hc).1]
  show (if isT 42 S then (rd (max n m) 5 d (adv S)).bind (rd (max n m) 9 d) else some S) = some B
  rw [if_pos hc, rd_le (Nat.le_max_left n m) x]; exact rd_le (Nat.le_max_right n m) y
theorem r_e9 {d : Int} {S : St} (hc : isT 42 S = false) : RdE 9 d S S := by
  by_cases hf : s_fl S = 0
  · refine ⟨1, ?_⟩
    rw [rd_p hf]
    show (if isT 42 S then (rd 0 5 d (adv S)).bind (rd 0 9 d) else some S) = some S
    rw [hc]; rfl
  · exact rdE_f hf
theorem r_not {d : Int} {S A : St} (hc : isW w_not S = true) (x : RdE 2 (d + 1) (goIn d S) A) : RdE 2 d S A := by
  obtain ⟨n, x⟩ := x
  refine ⟨n + 1, ?_⟩
  rw [rd_p (isW_iff.mp hc).1]
  show (if isW w_not S then rd n 2 (d + 1) (goIn d S) else if isT 91 S then (rd n 0 (d + 1) (goIn d S)).map (mustT 93) else (rd n 3 d S).bind (fun A => rd n 3 d (cmpT A))) = some A
  rw [if_pos hc]; exact x
theorem r_brk {d : Int} {S A : St} (h1 : isW w_not S = false) (hc : isT 91 S = true) (x : RdE 0 (d + 1) (goIn d S) A) : RdE 2 d S (mustT 93 A) := by
  obtain ⟨n, x⟩ := x
  refine ⟨n + 1, ?_⟩
  rw [rd_p (isT_iff.mp hc).1]
  show (if isW w_not S then rd n 2 (d + 1) (goIn d S) else if isT 91 S then (rd n 0 (d + 1) (goIn d S)).map (mustT 93) else (rd n 3 d S).bind (fun A => rd n 3 d (cmpT A))) = some (mustT 93 A)
  rw [if_neg (by rw [h1]; decide), if_pos hc, x]; rfl
theorem r_cmp {d : Int} {S A B : St} (h1 : isW w_not S = false) (hc : isT 91 S = false) (x : RdE 3 d S A) (y : RdE 3 d (cmpT A) B) : RdE 2 d S B := by
  by_cases hf : s_fl S = 0
  · obtain ⟨n, x⟩ := x
    obtain ⟨m, y⟩ := y
    refine ⟨max n m + 1, ?_⟩
    rw [rd_p hf]
    show (if isW w_not S then rd (max n m) 2 (d + 1) (goIn d S) else if isT 91 S then (rd (max n m) 0 (d + 1) (goIn d S)).map (mustT 93) else (rd (max n m) 3 d S).bind (fun A => rd (max n m) 3 d (cmpT A))) = some B
    rw [if_neg (by rw [h1]; decide), if_neg (by rw [hc]; decide), rd_le (Nat.le_max_left n m) x]; exact rd_le (Nat.le_max_right n m) y
  · have := rdE_fe hf x
    subst this
    rw [cmpT_f hf] at y
    have := rdE_fe hf y
    subst this
    exact rdE_f hf
theorem r_law {d : Int} {S : St} (hc : lawW S = true) : RdE 5 d S (adv S) := by
  by_cases hf : s_fl S = 0
  · refine ⟨1, ?_⟩
    rw [rd_p hf]
    show (if lawW S then some (adv S) else if isT 40 S then (rd 0 3 (d + 1) (goIn d S)).map (mustT 41) else some (anyN S)) = some (adv S)
    rw [if_pos hc]
  · rw [lawW_f hf] at hc; exact absurd hc (by decide)
theorem r_par {d : Int} {S A : St} (h1 : lawW S = false) (hc : isT 40 S = true) (x : RdE 3 (d + 1) (goIn d S) A) : RdE 5 d S (mustT 41 A) := by
  obtain ⟨n, x⟩ := x
  refine ⟨n + 1, ?_⟩
  rw [rd_p (isT_iff.mp hc).1]
  show (if lawW S then some (adv S) else if isT 40 S then (rd n 3 (d + 1) (goIn d S)).map (mustT 41) else some (anyN S)) = some (mustT 41 A)
  rw [if_neg (by rw [h1]; decide), if_pos hc, x]; rfl
theorem r_num {d : Int} {S : St} (h1 : lawW S = false) (hc : isT 40 S = false) : RdE 5 d S (anyN S) := by
  by_cases hf : s_fl S = 0
  · refine ⟨1, ?_⟩
    rw [rd_p hf]
    show (if lawW S then some (adv S) else if isT 40 S then (rd 0 3 (d + 1) (goIn d S)).map (mustT 41) else some (anyN S)) = some (anyN S)
    rw [if_neg (by rw [h1]; decide), if_neg (by rw [hc]; decide)]
  · rw [anyN_f hf]; exact rdE_f hf
/-- within a loop: what the rest of it makes of B, the whole makes of S -/
def LpI (k k2 : Nat) (d : Int) (S B : St) : Prop := ∀ C : St, RdE k2 d B C → RdE k d S C
theorem lp_i0 {d : Int} {S A : St} (x : RdE 1 d S A) : LpI 0 6 d S A := fun _ y => r_s0 x y
theorem lp_i1 {d : Int} {S A : St} (x : RdE 2 d S A) : LpI 1 7 d S A := fun _ y => r_s1 x y
theorem lp_i3 {d : Int} {S A : St} (x : RdE 4 d S A) : LpI 3 8 d S A := fun _ y => r_s3 x y
theorem lp_i4 {d : Int} {S A : St} (x : RdE 5 d S A) : LpI 4 9 d S A := fun _ y => r_s4 x y
theorem lp_b0 {d : Int} {S B A : St} (h : LpI 0 6 d S B) (hc : isW w_or B = true) (x : RdE 1 d (adv B) A) : LpI 0 6 d S A := fun C y => h C (r_l6 hc x y)
theorem lp_e0 {d : Int} {S B : St} (h : LpI 0 6 d S B) (hc : isW w_or B = false) : RdE 0 d S B := h B (r_e6 hc)
theorem lp_b1 {d : Int} {S B A : St} (h : LpI 1 7 d S B) (hc : isW w_and B = true) (x : RdE 2 d (adv B) A) : LpI 1 7 d S A := fun C y => h C (r_l7 hc x y)
theorem lp_e1 {d : Int} {S B : St} (h : LpI 1 7 d S B) (hc : isW w_and B = false) : RdE 1 d S B := h B (r_e7 hc)
theorem lp_b3 {d : Int} {S B A : St} (h : LpI 3 8 d S B) (hc : (isT 43 B || isT 45 B) = true) (x : RdE 4 d (adv B) A) : LpI 3 8 d S A := fun C y => h C (r_l8 hc x y)
theorem lp_e3 {d : Int} {S B : St} (h : LpI 3 8 d S B) (hc : (isT 43 B || isT 45 B) = false) : RdE 3 d S B := h B (r_e8 hc)
theorem lp_b4 {d : Int} {S B A : St} (h : LpI 4 9 d S B) (hc : isT 42 B = true) (x : RdE 5 d (adv B) A) : LpI 4 9 d S A := fun C y => h C (r_l9 hc x y)
theorem lp_e4 {d : Int} {S B : St} (h : LpI 4 9 d S B) (hc : isT 42 B = false) : RdE 4 d S B := h B (r_e9 hc)
end TEXTS
