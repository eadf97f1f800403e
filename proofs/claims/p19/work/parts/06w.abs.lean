/-! ===== the two readers as one state ===== -/
section ABS
theorem run_sn {U : Nat → Int} {P : Int → Prop} {b h : Int} (a : ∀ j : Nat, b ≤ j → (j : Int) < h → P (U j)) (hp : P (U h.toNat)) (h0 : 0 ≤ h) : ∀ j : Nat, b ≤ j → (j : Int) < h + 1 → P (U j) := by
  intro j g1 g2
  by_cases hj : (j : Int) < h
  · exact a j g1 hj
  · have : h.toNat = j := by omega
    rw [← this]; exact hp
theorem adv_E {U : Nat → Int} {len h b : Int} (h0 : 0 ≤ h) (h1 : h ≤ b) (h2 : b = len) (hs : ∀ j : Nat, h ≤ j → (j : Int) < b → c_bl (U j)) : Adv U len h b b 0 0 := ⟨h0, h1, Int.le_of_eq h2, hs, Or.inl ⟨h2, rfl, rfl, rfl⟩⟩
theorem adv_W {U : Nat → Int} {len h b e : Int} (h0 : 0 ≤ h) (h1 : h ≤ b) (h2 : b < len) (hs : ∀ j : Nat, h ≤ j → (j : Int) < b → c_bl (U j)) (hc : c_lt (U b.toNat)) (e1 : b < e) (e2 : e ≤ len) (hr : ∀ j : Nat, b ≤ j → (j : Int) < e → c_lt (U j)) (he : e = len ∨ ¬ c_lt (U e.toNat)) : Adv U len h b e 1 0 := ⟨h0, h1, Int.le_of_lt h2, hs, Or.inr ⟨h2, fun q => by have := hc.1; rcases q with q | q <;> omega, Or.inl ⟨hc, e1, e2, hr, he, rfl, rfl⟩⟩⟩
theorem adv_N {U : Nat → Int} {len h b e t v : Int} (h0 : 0 ≤ h) (h1 : h ≤ b) (h2 : b < len) (hs : ∀ j : Nat, h ≤ j → (j : Int) < b → c_bl (U j)) (hc : c_dg (U b.toNat)) (e1 : b < e) (e2 : e ≤ len) (hr : ∀ j : Nat, b ≤ j → (j : Int) < e → c_dg (U j)) (he : e = len ∨ ¬ c_dg (U e.toNat)) (ht : 3 < e - b ∧ t = 3 ∧ v = 0 ∨ e - b ≤ 3 ∧ t = 2 ∧ v = dec3 U b.toNat (e - b).toNat) : Adv U len h b e t v := ⟨h0, h1, Int.le_of_lt h2, hs, Or.inr ⟨h2, fun q => by have := hc.1; rcases q with q | q <;> omega, Or.inr (Or.inl ⟨hc, e1, e2, hr, he, ht⟩)⟩⟩
theorem adv_S {U : Nat → Int} {len h b t : Int} (h0 : 0 ≤ h) (h1 : h ≤ b) (h2 : b < len) (hs : ∀ j : Nat, h ≤ j → (j : Int) < b → c_bl (U j)) (hb : ¬ c_bl (U b.toNat)) (hl : ¬ c_lt (U b.toNat)) (hd : ¬ c_dg (U b.toNat)) (ht : c_sg (U b.toNat) ∧ t = U b.toNat ∨ ¬ c_sg (U b.toNat) ∧ t = 3) : Adv U len h b (b + 1) t 0 := ⟨h0, h1, Int.le_of_lt h2, hs, Or.inr ⟨h2, hb, Or.inr (Or.inr ⟨hl, hd, rfl, rfl, ht⟩)⟩⟩
/-- the value of a run of digits, as long as it has at most three -/
theorem dec3_sn {U : Nat → Int} {b : Nat} {n : Nat} {v w : Int} (h : v = dec3 U b n) (hw : w = 10 * v + U (b + n) - 48) : w = dec3 U b (n + 1) := by
  rw [hw, h]; rfl
def WS (z c : Int) : Prop := z = 1 ∧ c_sg c ∨ z = 0 ∧ ¬ c_sg c
theorem dec3_c {U V : Nat → Int} {b : Nat} : ∀ n : Nat, (∀ k : Nat, k < n → U (b + k) = V (b + k)) → dec3 U b n = dec3 V b n := by
  intro n
  induction n with
  | zero => intro _; rfl
  | succ n ih =>
    intro h
    show 10 * dec3 U b n + U (b + n) - 48 = 10 * dec3 V b n + V (b + n) - 48
    rw [ih (fun k hk => h k (by omega)), h n (by omega)]
theorem cmp_t {S A : St} (h : (isT 61 S || isT 60 S || isT 62 S) = true) (y : adv S = A) : cmpT S = A := by unfold cmpT; rw [if_pos h]; exact y
theorem cmp_n {S A : St} (h : (isT 61 S || isT 60 S || isT 62 S) = false) (y : blame 2 S = A) : cmpT S = A := by unfold cmpT; rw [h]; exact y
theorem isW_tk {w : List Int} {S : St} (h : ¬ s_tk S = 1) : isW w S = false := by
  rcases hb : isW w S with _ | _
  · rfl
  · exact absurd (isW_iff.mp hb).2.1 h
theorem lawW_40 {S : St} (h : isT 40 S = true) : lawW S = false := by
  have q : ¬ s_tk S = 1 := by rw [(isT_iff.mp h).2]; decide
  unfold lawW; rw [isW_tk q, isW_tk q, isW_tk q, isW_tk q, isW_tk q, isW_tk q, isW_tk q, isW_tk q]; rfl
def So (z c : Int) : Prop := z = 1 ∧ c_lt c ∨ z = 2 ∧ c_dg c ∨ z = 3 ∧ c_sg c ∧ ¬ c_lt c ∧ ¬ c_dg c ∨ z = 4 ∧ ¬ c_sg c ∧ ¬ c_lt c ∧ ¬ c_dg c
theorem so_u {z z' c : Int} (h : So z c) (h' : So z' c) : z = z' := by unfold So c_lt c_dg c_sg at h h'; omega
theorem so_1 {z c : Int} (h : So z c) (hz : z = 1) : c_lt (c % 256) := by unfold So c_lt c_dg c_sg at h; unfold c_lt; omega
theorem so_2 {z c : Int} (h : So z c) (hz : z = 2) : 48 ≤ c ∧ c ≤ 57 := by unfold So c_lt c_dg c_sg at h; omega
theorem so_2m {z c : Int} (h : So z c) (hz : z = 2) : c_dg (c % 256) := by unfold So c_lt c_dg c_sg at h; unfold c_dg; omega
theorem so_n1 {z c : Int} (h : So z c) (hz : ¬ z = 1) (hc : -128 ≤ c ∧ c ≤ 127) : ¬ c_lt (c % 256) := by unfold So c_lt c_dg c_sg at h; unfold c_lt; omega
theorem so_n2 {z c : Int} (h : So z c) (hz : ¬ z = 2) (hc : -128 ≤ c ∧ c ≤ 127) : ¬ c_dg (c % 256) := by unfold So c_lt c_dg c_sg at h; unfold c_dg; omega
theorem so_3 {z c : Int} (h : So z c) (hz : z = 3) : c_sg (c % 256) ∧ c % 256 = c ∧ 40 ≤ c := by unfold So c_lt c_dg c_sg at h; unfold c_sg; omega
theorem so_4 {z c : Int} (h : So z c) (hz : z = 4) (hc : -128 ≤ c ∧ c ≤ 127) : ¬ c_sg (c % 256) := by unfold So c_lt c_dg c_sg at h; unfold c_sg; omega
theorem ws_40 {z c : Int} (h : WS z c) (hz : ¬ z = 0) : 40 ≤ c := by
  rcases h with ⟨_, q⟩ | ⟨q, _⟩
  · unfold c_sg at q; omega
  · exact absurd q hz
theorem took_t {w : List Int} {S A : St} (h : isW w S = true) (y : adv S = A) : tookW w S = A := by unfold tookW; rw [if_pos h]; exact y
theorem took_f {w : List Int} {S : St} (h : isW w S = false) : tookW w S = S := by unfold tookW; rw [h]; rfl
theorem took_e {w : List Int} {S A : St} (h : isW w S = false) (y : tookW w S = A) : A = S := by rw [← y]; exact took_f h
theorem took_a {w : List Int} {S A : St} (h : isW w S = true) (y : tookW w S = A) : adv S = A := by rw [← y]; unfold tookW; rw [if_pos h]
theorem must_t {w : List Int} {S A : St} (h : isW w S = true) (y : adv S = A) : mustW w S = A := by unfold mustW; rw [if_pos h]; exact y
theorem must_f {w : List Int} {S A : St} (h : isW w S = false) (y : blame 2 S = A) : mustW w S = A := by unfold mustW; rw [h]; exact y
theorem musT_t {c : Int} {S A : St} (h : isT c S = true) (y : adv S = A) : mustT c S = A := by unfold mustT; rw [if_pos h]; exact y
theorem musT_n {c : Int} {S A : St} (h : isT c S = false) (y : blame 2 S = A) : mustT c S = A := by unfold mustT; rw [h]; exact y
theorem nb_2 {lo hi : Int} {bar : Int → Bool} {S A : St} (h : ¬ s_fl S = 0 ∨ ¬ s_tk S = 2) (y : blame 2 S = A) : numB lo hi bar S = A := by
  unfold numB; rw [if_neg (fun q => h.elim (fun r => r q.1) (fun r => r q.2))]; exact y
theorem nb_f {lo hi : Int} {bar : Int → Bool} {S : St} (h : ¬ s_fl S = 0) : numB lo hi bar S = S := nb_2 (Or.inl h) (blame_f h)
theorem nb_3 {lo hi : Int} {bar : Int → Bool} {S A : St} (h0 : s_fl S = 0) (h1 : s_tk S = 2) (h : ¬ (lo ≤ s_vl S ∧ s_vl S ≤ hi ∧ bar (s_vl S) = false)) (y : blame 3 S = A) : numB lo hi bar S = A := by
  unfold numB; rw [if_pos ⟨h0, h1⟩, if_neg h]; exact y
theorem nb_a {lo hi : Int} {bar : Int → Bool} {S A : St} (h0 : s_fl S = 0) (h1 : s_tk S = 2) (h : lo ≤ s_vl S ∧ s_vl S ≤ hi ∧ bar (s_vl S) = false) (y : adv S = A) : numB lo hi bar S = A := by
  unfold numB; rw [if_pos ⟨h0, h1⟩, if_pos h]; exact y
theorem go_4 {d : Int} {S A : St} (h : 6 ≤ d) (y : setf 4 S = A) : goIn d S = A := by unfold goIn; rw [if_pos h]; exact y
theorem go_a {d : Int} {S A : St} (h : ¬ 6 ≤ d) (y : adv S = A) : goIn d S = A := by unfold goIn; rw [if_neg h]; exact y
theorem bl_set {k : Int} {S A : St} (h : ¬ s_tk S = 3) (y : blame k S = A) : setf k S = A := by unfold blame at y; rw [if_neg h] at y; exact y
def bR (M : Mem) (j : Nat) : Int := M 136 j
def UR (M : Mem) : Nat → Int := fun j => if (j : Int) < M 131 7 then M 136 j else 0
def tkR (M : Mem) : Int := M 131 10
def vlR (M : Mem) : Int := if M 131 10 = 2 then M 131 11 else 0
def absR (M : Mem) : St := if M 131 12 = 0 then mkS (UR M) (M 131 7) 0 (0) (M 131 8) (M 131 9) (tkR M) (vlR M) else mkS (UR M) (M 131 7) (M 131 12) (M 131 13) 0 0 0 0
theorem absR_0 {M : Mem} (h : M 131 12 = 0) : absR M = mkS (UR M) (M 131 7) 0 (0) (M 131 8) (M 131 9) (tkR M) (vlR M) := if_pos h
theorem absR_1 {M : Mem} (h : ¬ M 131 12 = 0) : absR M = mkS (UR M) (M 131 7) (M 131 12) (M 131 13) 0 0 0 0 := if_neg h
theorem vR_fl (M : Mem) : s_fl (absR M) = M 131 12 := by
  by_cases h : M 131 12 = 0
  · rw [absR_0 h, h]; rfl
  · rw [absR_1 h]; rfl
theorem vR_f0 {M : Mem} (h : M 131 12 = 0) : s_fp (absR M) = 0 := by rw [absR_0 h]; rfl
theorem vR_fp {M : Mem} (h : ¬ M 131 12 = 0) : s_fp (absR M) = M 131 13 := by rw [absR_1 h]; rfl
theorem vR_tx (M : Mem) : s_tx (absR M) = UR M ∧ s_ln (absR M) = M 131 7 := by
  by_cases h : M 131 12 = 0
  · rw [absR_0 h]; exact ⟨rfl, rfl⟩
  · rw [absR_1 h]; exact ⟨rfl, rfl⟩
theorem vR_tk {M : Mem} (h : M 131 12 = 0) : s_tk (absR M) = tkR M ∧ s_hd (absR M) = M 131 8 ∧ s_bg (absR M) = M 131 9 ∧ s_vl (absR M) = vlR M := by
  rw [absR_0 h]; exact ⟨rfl, rfl, rfl, rfl⟩
theorem UR_eq {M M' : Mem} (h7 : M' 131 7 = M 131 7) (hu : ∀ j : Nat, M' 136 j = M 136 j) : UR M' = UR M := by
  funext j; unfold UR; rw [h7, hu]
theorem UR_at {M : Mem} {j : Nat} (h : (j : Int) < M 131 7) : UR M j = M 136 j := if_pos h
theorem run_R {P : Int → Prop} {M : Mem} {a b : Int} (hb : b ≤ M 131 7) (h : ∀ j : Nat, a ≤ j → (j : Int) < b → P (M 136 j)) : ∀ j : Nat, a ≤ j → (j : Int) < b → P (UR M j) := fun j g1 g2 => by rw [UR_at (by omega)]; exact h j g1 g2
theorem advR {M M' : Mem} {t v : Int} (h0 : M 131 12 = 0) (h0' : M' 131 12 = 0) (h7 : M' 131 7 = M 131 7) (hu : ∀ j : Nat, M' 136 j = M 136 j) (hf : M' 131 13 = M 131 13) (ht : tkR M' = t) (hv : vlR M' = v) (x : Adv (UR M) (M 131 7) (M 131 8) (M' 131 9) (M' 131 8) t v) : adv (absR M) = absR M' := by
  have y : Adv (s_tx (absR M)) (s_ln (absR M)) (s_hd (absR M)) (M' 131 9) (M' 131 8) t v := by
    rw [(vR_tx M).1, (vR_tx M).2, (vR_tk h0).2.1]; exact x
  rw [adv_eq y, absR_0 h0', (vR_tx M).1, (vR_tx M).2, vR_f0 h0, UR_eq h7 hu, h7, ht, hv]
theorem setfR {M M' : Mem} {v : Int} (h0 : M 131 12 = 0) (hn : ¬ v = 0) (e1 : M' 131 12 = v) (e2 : M' 131 13 = M 131 9) (h7 : M' 131 7 = M 131 7) (hu : ∀ j : Nat, M' 136 j = M 136 j) : setf v (absR M) = absR M' := by
  unfold setf
  rw [if_pos ((vR_fl M).trans h0), absR_1 (M := M') (by rw [e1]; exact hn), (vR_tx M).1, (vR_tx M).2, (vR_tk h0).2.2.1, UR_eq h7 hu, h7, e1, e2]
theorem blameR {M M' : Mem} {k v : Int} (h0 : M 131 12 = 0) (hv : tkR M = 3 ∧ v = 1 ∨ ¬ tkR M = 3 ∧ v = k) (hn : ¬ v = 0) (e1 : M' 131 12 = v) (e2 : M' 131 13 = M 131 9) (h7 : M' 131 7 = M 131 7) (hu : ∀ j : Nat, M' 136 j = M 136 j) : blame k (absR M) = absR M' := by
  unfold blame
  rw [(vR_tk h0).1]
  rcases hv with q | q
  · rw [if_pos q.1, ← q.2]; exact setfR h0 hn e1 e2 h7 hu
  · rw [if_neg q.1, ← q.2]; exact setfR h0 hn e1 e2 h7 hu
theorem absR_g {M M' : Mem} (h1 : M' 131 7 = M 131 7) (h2 : M' 131 8 = M 131 8) (h3 : M' 131 9 = M 131 9) (h4 : M' 131 10 = M 131 10) (h5 : M' 131 11 = M 131 11) (h6 : M' 131 12 = M 131 12) (h7 : M' 131 13 = M 131 13) (hu : ∀ j : Nat, M' 136 j = M 136 j) : absR M' = absR M := by
  have e : UR M' = UR M := UR_eq h1 hu
  unfold absR tkR vlR
  rw [e, h1, h2, h3, h4, h5, h6, h7]
theorem absR_eq {M M' : Mem} (h : ∀ j : Nat, M' 131 j = M 131 j) (hu : ∀ j : Nat, M' 136 j = M 136 j) : absR M' = absR M := absR_g (h _) (h _) (h _) (h _) (h _) (h _) (h _) hu
theorem cmpR_t {M : Mem} {A : St} (h0 : M 131 12 = 0) (ht : tkR M = 61 ∨ tkR M = 60 ∨ tkR M = 62) (y : adv (absR M) = A) : cmpT (absR M) = A := by
  unfold cmpT
  rw [if_pos ?_]
  · exact y
  · have g0 := (vR_fl M).trans h0
    have g1 := (vR_tk h0).1
    rcases ht with q | q | q
    · rw [isT_iff.mpr ⟨g0, g1.trans q⟩]; rfl
    · rw [isT_iff.mpr ⟨g0, g1.trans q⟩]; simp
    · rw [isT_iff.mpr ⟨g0, g1.trans q⟩]; simp
theorem isWR {M : Mem} {w : List Int} {z : Int} (h : z = 1 ∧ M 131 12 = 0 ∧ tkR M = 1 ∧ M 131 8 - M 131 9 = (w.length : Int) ∧ 0 ≤ M 131 9 ∧ M 131 8 ≤ M 131 7 ∧ (∀ k : Nat, k < w.length → bR M ((M 131 9).toNat + k) = w.getD k 0) ∨ z = 0 ∧ (¬ M 131 12 = 0 ∨ ¬ tkR M = 1 ∨ ¬ M 131 8 - M 131 9 = (w.length : Int) ∨ 0 ≤ M 131 9 ∧ M 131 8 ≤ M 131 7 ∧ ∃ k : Nat, (k : Int) < M 131 8 - M 131 9 ∧ k < w.length ∧ ¬ bR M ((M 131 9).toNat + k) = w.getD k 0)) : WZ z (isW w (absR M)) := by
  rcases h with ⟨hz, h0, ht, hl, hb, hh, hk⟩ | ⟨hz, hn⟩
  · refine Or.inl ⟨hz, isW_iff.mpr ?_⟩
    rw [vR_fl, (vR_tk h0).1, (vR_tk h0).2.1, (vR_tk h0).2.2.1, (vR_tx M).1]
    refine ⟨h0, ht, hl, fun k q => ?_⟩
    rw [UR_at (by omega)]; exact hk k q
  · refine Or.inr ⟨hz, ?_⟩
    rcases hb : isW w (absR M) with _ | _
    · rfl
    · exfalso
      obtain ⟨g0, g1, g2, g3⟩ := isW_iff.mp hb
      rw [vR_fl] at g0
      rw [(vR_tk g0).1] at g1
      rw [(vR_tk g0).2.1, (vR_tk g0).2.2.1] at g2
      rcases hn with q | q | q | q
      · exact q g0
      · exact q g1
      · exact q g2
      · obtain ⟨b0, b1, k, k1, k2, k3⟩ := q
        have g4 := g3 k k2
        rw [(vR_tk g0).2.2.1, (vR_tx M).1, UR_at (by omega)] at g4
        exact k3 g4
theorem isTR {M : Mem} {c z : Int} (h : z = 1 ∧ M 131 12 = 0 ∧ tkR M = c ∨ z = 0 ∧ (¬ M 131 12 = 0 ∨ ¬ tkR M = c)) : WZ z (isT c (absR M)) := by
  rcases h with ⟨hz, h0, ht⟩ | ⟨hz, hn⟩
  · refine Or.inl ⟨hz, isT_iff.mpr ?_⟩
    rw [vR_fl, (vR_tk h0).1]; exact ⟨h0, ht⟩
  · refine Or.inr ⟨hz, ?_⟩
    rcases hb : isT c (absR M) with _ | _
    · rfl
    · exfalso
      obtain ⟨g0, g1⟩ := isT_iff.mp hb
      rw [vR_fl] at g0
      rw [(vR_tk g0).1] at g1
      rcases hn with q | q
      · exact q g0
      · exact q g1
theorem isTR_t {M : Mem} {c : Int} (h0 : M 131 12 = 0) (ht : tkR M = c) : isT c (absR M) = true := isT_iff.mpr ⟨(vR_fl M).trans h0, (vR_tk h0).1.trans ht⟩
theorem isTR_f {M : Mem} {c : Int} (h : ¬ M 131 12 = 0 ∨ ¬ tkR M = c) : isT c (absR M) = false := by
  have q : WZ 0 (isT c (absR M)) := isTR (Or.inr ⟨rfl, h⟩)
  exact wz_f q (by decide)
theorem cmpR_n {M : Mem} {A : St} (h : ¬ M 131 12 = 0 ∨ ¬ tkR M = 61 ∧ ¬ tkR M = 60 ∧ ¬ tkR M = 62) (y : blame 2 (absR M) = A) : cmpT (absR M) = A := by
  unfold cmpT
  rw [isTR_f (c := 61) (h.elim Or.inl (fun q => Or.inr q.1)), isTR_f (c := 60) (h.elim Or.inl (fun q => Or.inr q.2.1)), isTR_f (c := 62) (h.elim Or.inl (fun q => Or.inr q.2.2))]
  exact y
theorem anyR_t {M : Mem} {A : St} (h0 : M 131 12 = 0) (ht : tkR M = 2) (y : adv (absR M) = A) : anyN (absR M) = A := by
  unfold anyN; rw [if_pos ⟨(vR_fl M).trans h0, (vR_tk h0).1.trans ht⟩]; exact y
theorem anyR_n {M : Mem} {A : St} (h : ¬ M 131 12 = 0 ∨ ¬ tkR M = 2) (y : blame 2 (absR M) = A) : anyN (absR M) = A := by
  unfold anyN
  rw [if_neg ?_]
  · exact y
  · intro q
    have g0 := (vR_fl M).symm.trans q.1
    rcases h with r | r
    · exact r g0
    · exact r ((vR_tk g0).1.symm.trans q.2)
theorem nb2R {lo hi : Int} {bar : Int → Bool} {M : Mem} {A : St} (h : ¬ M 131 12 = 0 ∨ ¬ tkR M = 2) (y : blame 2 (absR M) = A) : numB lo hi bar (absR M) = A := by
  refine nb_2 ?_ y
  by_cases h0 : M 131 12 = 0
  · rw [(vR_tk h0).1]; exact h.elim (fun q => absurd h0 q) Or.inr
  · exact Or.inl (by rw [vR_fl]; exact h0)
theorem nbfR {lo hi : Int} {bar : Int → Bool} {M : Mem} (h : ¬ M 131 12 = 0) : numB lo hi bar (absR M) = absR M := nb_f (by rw [vR_fl]; exact h)
theorem nb3R {lo hi : Int} {bar : Int → Bool} {M : Mem} {A : St} (ht : tkR M = 2) (hv : ¬ (lo ≤ vlR M ∧ vlR M ≤ hi ∧ bar (vlR M) = false)) (y : blame 3 (absR M) = A) : numB lo hi bar (absR M) = A := by
  by_cases h0 : M 131 12 = 0
  · refine nb_3 ((vR_fl M).trans h0) ((vR_tk h0).1.trans ht) ?_ y
    rw [(vR_tk h0).2.2.2]; exact hv
  · have hf : ¬ s_fl (absR M) = 0 := by rw [vR_fl]; exact h0
    rw [nb_f hf, ← y, blame_f hf]
theorem nbaR {lo hi : Int} {bar : Int → Bool} {M : Mem} {A : St} (h0 : M 131 12 = 0) (ht : tkR M = 2) (hv : lo ≤ vlR M ∧ vlR M ≤ hi ∧ bar (vlR M) = false) (y : adv (absR M) = A) : numB lo hi bar (absR M) = A := by
  refine nb_a ((vR_fl M).trans h0) ((vR_tk h0).1.trans ht) ?_ y
  rw [(vR_tk h0).2.2.2]; exact hv
def Iw_R (M : Mem) (w : List Int) (z k : Int) : Prop := z = 1 ∧ (∀ q : Nat, (q : Int) < k → bR M ((M 131 9).toNat + q) = w.getD q 0) ∨ z = 0 ∧ (¬ M 131 12 = 0 ∨ ¬ tkR M = 1 ∨ ¬ M 131 8 - M 131 9 = (w.length : Int) ∨ ∃ q : Nat, q < w.length ∧ M 131 8 - M 131 9 = (w.length : Int) ∧ ¬ bR M ((M 131 9).toNat + q) = w.getD q 0)
theorem iwR_0 {M : Mem} {w : List Int} : Iw_R M w 1 0 := Or.inl ⟨rfl, fun q h => by exfalso; omega⟩
theorem iwR_n {M : Mem} {w : List Int} {k : Int} (h : ¬ M 131 12 = 0 ∨ ¬ tkR M = 1 ∨ ¬ M 131 8 - M 131 9 = (w.length : Int)) : Iw_R M w 0 k := Or.inr ⟨rfl, h.elim Or.inl (fun q => q.elim (fun r => Or.inr (Or.inl r)) (fun r => Or.inr (Or.inr (Or.inl r))))⟩
theorem iwR_s {M : Mem} {w : List Int} {z z' k c1 c2 : Int} (h : Iw_R M w z k) (hz : z = 1) (h0 : 0 ≤ k) (h1 : k < (w.length : Int)) (hl : M 131 8 - M 131 9 = (w.length : Int)) (e1 : c1 = bR M ((M 131 9).toNat + k.toNat)) (e2 : c2 = w.getD k.toNat 0) (hc : z' = 1 ∧ c1 = c2 ∨ z' = 0 ∧ ¬ c1 = c2) : Iw_R M w z' (k + 1) := by
  rcases h with ⟨_, h⟩ | ⟨q, _⟩
  · rcases hc with ⟨g1, g2⟩ | ⟨g1, g2⟩
    · refine Or.inl ⟨g1, fun q hq => ?_⟩
      by_cases hk : (q : Int) < k
      · exact h q hk
      · have : k.toNat = q := by omega
        rw [← this, ← e1, g2, e2]
    · refine Or.inr ⟨g1, Or.inr (Or.inr (Or.inr ⟨k.toNat, by omega, hl, ?_⟩))⟩
      rw [← e1, ← e2]; exact g2
  · exfalso; omega
theorem iwR_e {M : Mem} {w : List Int} {z k : Int} (h : Iw_R M w z k) (h1 : z = 1 → M 131 12 = 0 ∧ tkR M = 1 ∧ M 131 8 - M 131 9 = (w.length : Int) ∧ (w.length : Int) ≤ k) (hb : 0 ≤ M 131 9) (hh : M 131 8 ≤ M 131 7) : WZ z (isW w (absR M)) := by
  refine isWR ?_
  rcases h with ⟨hz, h⟩ | ⟨hz, h⟩
  · obtain ⟨a1, a2, a3, a4⟩ := h1 hz
    exact Or.inl ⟨hz, a1, a2, a3, hb, hh, fun q hq => h q (by omega)⟩
  · refine Or.inr ⟨hz, ?_⟩
    rcases h with h | h | h | ⟨q, q1, q2, q3⟩
    · exact Or.inl h
    · exact Or.inr (Or.inl h)
    · exact Or.inr (Or.inr (Or.inl h))
    · exact Or.inr (Or.inr (Or.inr ⟨hb, hh, q, by omega, q1, q3⟩))
def bC (M : Mem) (j : Nat) : Int := M 1 j % 256
def UC (M : Mem) : Nat → Int := fun j => if (j : Int) < M 18 4 then M 1 j % 256 else 0
def tkC (M : Mem) : Int := if M 18 7 = 3 then (if 40 ≤ M 18 8 then M 18 8 else 4) else if M 18 7 = 4 then 3 else M 18 7
def vlC (M : Mem) : Int := if M 18 7 = 2 then M 18 8 else 0
def absC (M : Mem) : St := if M 18 1 = 0 then mkS (UC M) (M 18 4) 0 (M 18 2 + 1) (M 18 5) (M 18 6) (tkC M) (vlC M) else mkS (UC M) (M 18 4) (M 18 1) (M 18 2) 0 0 0 0
theorem absC_0 {M : Mem} (h : M 18 1 = 0) : absC M = mkS (UC M) (M 18 4) 0 (M 18 2 + 1) (M 18 5) (M 18 6) (tkC M) (vlC M) := if_pos h
theorem absC_1 {M : Mem} (h : ¬ M 18 1 = 0) : absC M = mkS (UC M) (M 18 4) (M 18 1) (M 18 2) 0 0 0 0 := if_neg h
theorem vC_fl (M : Mem) : s_fl (absC M) = M 18 1 := by
  by_cases h : M 18 1 = 0
  · rw [absC_0 h, h]; rfl
  · rw [absC_1 h]; rfl
theorem vC_f0 {M : Mem} (h : M 18 1 = 0) : s_fp (absC M) = M 18 2 + 1 := by rw [absC_0 h]; rfl
theorem vC_fp {M : Mem} (h : ¬ M 18 1 = 0) : s_fp (absC M) = M 18 2 := by rw [absC_1 h]; rfl
theorem vC_tx (M : Mem) : s_tx (absC M) = UC M ∧ s_ln (absC M) = M 18 4 := by
  by_cases h : M 18 1 = 0
  · rw [absC_0 h]; exact ⟨rfl, rfl⟩
  · rw [absC_1 h]; exact ⟨rfl, rfl⟩
theorem vC_tk {M : Mem} (h : M 18 1 = 0) : s_tk (absC M) = tkC M ∧ s_hd (absC M) = M 18 5 ∧ s_bg (absC M) = M 18 6 ∧ s_vl (absC M) = vlC M := by
  rw [absC_0 h]; exact ⟨rfl, rfl, rfl, rfl⟩
theorem UC_eq {M M' : Mem} (h7 : M' 18 4 = M 18 4) (hu : ∀ j : Nat, M' 1 j = M 1 j) : UC M' = UC M := by
  funext j; unfold UC; rw [h7, hu]
theorem UC_at {M : Mem} {j : Nat} (h : (j : Int) < M 18 4) : UC M j = M 1 j % 256 := if_pos h
theorem run_C {P : Int → Prop} {M : Mem} {a b : Int} (hb : b ≤ M 18 4) (h : ∀ j : Nat, a ≤ j → (j : Int) < b → P (M 1 j % 256)) : ∀ j : Nat, a ≤ j → (j : Int) < b → P (UC M j) := fun j g1 g2 => by rw [UC_at (by omega)]; exact h j g1 g2
theorem advC {M M' : Mem} {t v : Int} (h0 : M 18 1 = 0) (h0' : M' 18 1 = 0) (h7 : M' 18 4 = M 18 4) (hu : ∀ j : Nat, M' 1 j = M 1 j) (hf : M' 18 2 = M 18 2) (ht : tkC M' = t) (hv : vlC M' = v) (x : Adv (UC M) (M 18 4) (M 18 5) (M' 18 6) (M' 18 5) t v) : adv (absC M) = absC M' := by
  have y : Adv (s_tx (absC M)) (s_ln (absC M)) (s_hd (absC M)) (M' 18 6) (M' 18 5) t v := by
    rw [(vC_tx M).1, (vC_tx M).2, (vC_tk h0).2.1]; exact x
  rw [adv_eq y, absC_0 h0', (vC_tx M).1, (vC_tx M).2, vC_f0 h0, UC_eq h7 hu, h7, ht, hv, hf]
theorem setfC {M M' : Mem} {v : Int} (h0 : M 18 1 = 0) (hn : ¬ v = 0) (e1 : M' 18 1 = v) (e2 : M' 18 2 = M 18 6) (h7 : M' 18 4 = M 18 4) (hu : ∀ j : Nat, M' 1 j = M 1 j) : setf v (absC M) = absC M' := by
  unfold setf
  rw [if_pos ((vC_fl M).trans h0), absC_1 (M := M') (by rw [e1]; exact hn), (vC_tx M).1, (vC_tx M).2, (vC_tk h0).2.2.1, UC_eq h7 hu, h7, e1, e2]
theorem blameC {M M' : Mem} {k v : Int} (h0 : M 18 1 = 0) (hv : tkC M = 3 ∧ v = 1 ∨ ¬ tkC M = 3 ∧ v = k) (hn : ¬ v = 0) (e1 : M' 18 1 = v) (e2 : M' 18 2 = M 18 6) (h7 : M' 18 4 = M 18 4) (hu : ∀ j : Nat, M' 1 j = M 1 j) : blame k (absC M) = absC M' := by
  unfold blame
  rw [(vC_tk h0).1]
  rcases hv with q | q
  · rw [if_pos q.1, ← q.2]; exact setfC h0 hn e1 e2 h7 hu
  · rw [if_neg q.1, ← q.2]; exact setfC h0 hn e1 e2 h7 hu
theorem absC_g {M M' : Mem} (h1 : M' 18 4 = M 18 4) (h2 : M' 18 5 = M 18 5) (h3 : M' 18 6 = M 18 6) (h4 : M' 18 7 = M 18 7) (h5 : M' 18 8 = M 18 8) (h6 : M' 18 1 = M 18 1) (h7 : M' 18 2 = M 18 2) (hu : ∀ j : Nat, M' 1 j = M 1 j) : absC M' = absC M := by
  have e : UC M' = UC M := UC_eq h1 hu
  unfold absC tkC vlC
  rw [e, h1, h2, h3, h4, h5, h6, h7]
theorem absC_eq {M M' : Mem} (h : ∀ j : Nat, M' 18 j = M 18 j) (hu : ∀ j : Nat, M' 1 j = M 1 j) : absC M' = absC M := absC_g (h _) (h _) (h _) (h _) (h _) (h _) (h _) hu
theorem cmpC_t {M : Mem} {A : St} (h0 : M 18 1 = 0) (ht : tkC M = 61 ∨ tkC M = 60 ∨ tkC M = 62) (y : adv (absC M) = A) : cmpT (absC M) = A := by
  unfold cmpT
  rw [if_pos ?_]
  · exact y
  · have g0 := (vC_fl M).trans h0
    have g1 := (vC_tk h0).1
    rcases ht with q | q | q
    · rw [isT_iff.mpr ⟨g0, g1.trans q⟩]; rfl
    · rw [isT_iff.mpr ⟨g0, g1.trans q⟩]; simp
    · rw [isT_iff.mpr ⟨g0, g1.trans q⟩]; simp
theorem isWC {M : Mem} {w : List Int} {z : Int} (h : z = 1 ∧ M 18 1 = 0 ∧ tkC M = 1 ∧ M 18 5 - M 18 6 = (w.length : Int) ∧ 0 ≤ M 18 6 ∧ M 18 5 ≤ M 18 4 ∧ (∀ k : Nat, k < w.length → bC M ((M 18 6).toNat + k) = w.getD k 0) ∨ z = 0 ∧ (¬ M 18 1 = 0 ∨ ¬ tkC M = 1 ∨ ¬ M 18 5 - M 18 6 = (w.length : Int) ∨ 0 ≤ M 18 6 ∧ M 18 5 ≤ M 18 4 ∧ ∃ k : Nat, (k : Int) < M 18 5 - M 18 6 ∧ k < w.length ∧ ¬ bC M ((M 18 6).toNat + k) = w.getD k 0)) : WZ z (isW w (absC M)) := by
  rcases h with ⟨hz, h0, ht, hl, hb, hh, hk⟩ | ⟨hz, hn⟩
  · refine Or.inl ⟨hz, isW_iff.mpr ?_⟩
    rw [vC_fl, (vC_tk h0).1, (vC_tk h0).2.1, (vC_tk h0).2.2.1, (vC_tx M).1]
    refine ⟨h0, ht, hl, fun k q => ?_⟩
    rw [UC_at (by omega)]; exact hk k q
  · refine Or.inr ⟨hz, ?_⟩
    rcases hb : isW w (absC M) with _ | _
    · rfl
    · exfalso
      obtain ⟨g0, g1, g2, g3⟩ := isW_iff.mp hb
      rw [vC_fl] at g0
      rw [(vC_tk g0).1] at g1
      rw [(vC_tk g0).2.1, (vC_tk g0).2.2.1] at g2
      rcases hn with q | q | q | q
      · exact q g0
      · exact q g1
      · exact q g2
      · obtain ⟨b0, b1, k, k1, k2, k3⟩ := q
        have g4 := g3 k k2
        rw [(vC_tk g0).2.2.1, (vC_tx M).1, UC_at (by omega)] at g4
        exact k3 g4
theorem isTC {M : Mem} {c z : Int} (h : z = 1 ∧ M 18 1 = 0 ∧ tkC M = c ∨ z = 0 ∧ (¬ M 18 1 = 0 ∨ ¬ tkC M = c)) : WZ z (isT c (absC M)) := by
  rcases h with ⟨hz, h0, ht⟩ | ⟨hz, hn⟩
  · refine Or.inl ⟨hz, isT_iff.mpr ?_⟩
    rw [vC_fl, (vC_tk h0).1]; exact ⟨h0, ht⟩
  · refine Or.inr ⟨hz, ?_⟩
    rcases hb : isT c (absC M) with _ | _
    · rfl
    · exfalso
      obtain ⟨g0, g1⟩ := isT_iff.mp hb
      rw [vC_fl] at g0
      rw [(vC_tk g0).1] at g1
      rcases hn with q | q
      · exact q g0
      · exact q g1
theorem isTC_t {M : Mem} {c : Int} (h0 : M 18 1 = 0) (ht : tkC M = c) : isT c (absC M) = true := isT_iff.mpr ⟨(vC_fl M).trans h0, (vC_tk h0).1.trans ht⟩
theorem isTC_f {M : Mem} {c : Int} (h : ¬ M 18 1 = 0 ∨ ¬ tkC M = c) : isT c (absC M) = false := by
  have q : WZ 0 (isT c (absC M)) := isTC (Or.inr ⟨rfl, h⟩)
  exact wz_f q (by decide)
theorem cmpC_n {M : Mem} {A : St} (h : ¬ M 18 1 = 0 ∨ ¬ tkC M = 61 ∧ ¬ tkC M = 60 ∧ ¬ tkC M = 62) (y : blame 2 (absC M) = A) : cmpT (absC M) = A := by
  unfold cmpT
  rw [isTC_f (c := 61) (h.elim Or.inl (fun q => Or.inr q.1)), isTC_f (c := 60) (h.elim Or.inl (fun q => Or.inr q.2.1)), isTC_f (c := 62) (h.elim Or.inl (fun q => Or.inr q.2.2))]
  exact y
theorem anyC_t {M : Mem} {A : St} (h0 : M 18 1 = 0) (ht : tkC M = 2) (y : adv (absC M) = A) : anyN (absC M) = A := by
  unfold anyN; rw [if_pos ⟨(vC_fl M).trans h0, (vC_tk h0).1.trans ht⟩]; exact y
theorem anyC_n {M : Mem} {A : St} (h : ¬ M 18 1 = 0 ∨ ¬ tkC M = 2) (y : blame 2 (absC M) = A) : anyN (absC M) = A := by
  unfold anyN
  rw [if_neg ?_]
  · exact y
  · intro q
    have g0 := (vC_fl M).symm.trans q.1
    rcases h with r | r
    · exact r g0
    · exact r ((vC_tk g0).1.symm.trans q.2)
theorem nb2C {lo hi : Int} {bar : Int → Bool} {M : Mem} {A : St} (h : ¬ M 18 1 = 0 ∨ ¬ tkC M = 2) (y : blame 2 (absC M) = A) : numB lo hi bar (absC M) = A := by
  refine nb_2 ?_ y
  by_cases h0 : M 18 1 = 0
  · rw [(vC_tk h0).1]; exact h.elim (fun q => absurd h0 q) Or.inr
  · exact Or.inl (by rw [vC_fl]; exact h0)
theorem nbfC {lo hi : Int} {bar : Int → Bool} {M : Mem} (h : ¬ M 18 1 = 0) : numB lo hi bar (absC M) = absC M := nb_f (by rw [vC_fl]; exact h)
theorem nb3C {lo hi : Int} {bar : Int → Bool} {M : Mem} {A : St} (ht : tkC M = 2) (hv : ¬ (lo ≤ vlC M ∧ vlC M ≤ hi ∧ bar (vlC M) = false)) (y : blame 3 (absC M) = A) : numB lo hi bar (absC M) = A := by
  by_cases h0 : M 18 1 = 0
  · refine nb_3 ((vC_fl M).trans h0) ((vC_tk h0).1.trans ht) ?_ y
    rw [(vC_tk h0).2.2.2]; exact hv
  · have hf : ¬ s_fl (absC M) = 0 := by rw [vC_fl]; exact h0
    rw [nb_f hf, ← y, blame_f hf]
theorem nbaC {lo hi : Int} {bar : Int → Bool} {M : Mem} {A : St} (h0 : M 18 1 = 0) (ht : tkC M = 2) (hv : lo ≤ vlC M ∧ vlC M ≤ hi ∧ bar (vlC M) = false) (y : adv (absC M) = A) : numB lo hi bar (absC M) = A := by
  refine nb_a ((vC_fl M).trans h0) ((vC_tk h0).1.trans ht) ?_ y
  rw [(vC_tk h0).2.2.2]; exact hv
def Iw_C (M : Mem) (w : List Int) (z k : Int) : Prop := z = 1 ∧ (∀ q : Nat, (q : Int) < k → bC M ((M 18 6).toNat + q) = w.getD q 0) ∨ z = 0 ∧ (¬ M 18 1 = 0 ∨ ¬ tkC M = 1 ∨ ¬ M 18 5 - M 18 6 = (w.length : Int) ∨ ∃ q : Nat, q < w.length ∧ M 18 5 - M 18 6 = (w.length : Int) ∧ ¬ bC M ((M 18 6).toNat + q) = w.getD q 0)
theorem iwC_0 {M : Mem} {w : List Int} : Iw_C M w 1 0 := Or.inl ⟨rfl, fun q h => by exfalso; omega⟩
theorem iwC_n {M : Mem} {w : List Int} {k : Int} (h : ¬ M 18 1 = 0 ∨ ¬ tkC M = 1 ∨ ¬ M 18 5 - M 18 6 = (w.length : Int)) : Iw_C M w 0 k := Or.inr ⟨rfl, h.elim Or.inl (fun q => q.elim (fun r => Or.inr (Or.inl r)) (fun r => Or.inr (Or.inr (Or.inl r))))⟩
theorem iwC_s {M : Mem} {w : List Int} {z z' k c1 c2 : Int} (h : Iw_C M w z k) (hz : z = 1) (h0 : 0 ≤ k) (h1 : k < (w.length : Int)) (hl : M 18 5 - M 18 6 = (w.length : Int)) (e1 : c1 = bC M ((M 18 6).toNat + k.toNat)) (e2 : c2 = w.getD k.toNat 0) (hc : z' = 1 ∧ c1 = c2 ∨ z' = 0 ∧ ¬ c1 = c2) : Iw_C M w z' (k + 1) := by
  rcases h with ⟨_, h⟩ | ⟨q, _⟩
  · rcases hc with ⟨g1, g2⟩ | ⟨g1, g2⟩
    · refine Or.inl ⟨g1, fun q hq => ?_⟩
      by_cases hk : (q : Int) < k
      · exact h q hk
      · have : k.toNat = q := by omega
        rw [← this, ← e1, g2, e2]
    · refine Or.inr ⟨g1, Or.inr (Or.inr (Or.inr ⟨k.toNat, by omega, hl, ?_⟩))⟩
      rw [← e1, ← e2]; exact g2
  · exfalso; omega
theorem iwC_e {M : Mem} {w : List Int} {z k : Int} (h : Iw_C M w z k) (h1 : z = 1 → M 18 1 = 0 ∧ tkC M = 1 ∧ M 18 5 - M 18 6 = (w.length : Int) ∧ (w.length : Int) ≤ k) (hb : 0 ≤ M 18 6) (hh : M 18 5 ≤ M 18 4) : WZ z (isW w (absC M)) := by
  refine isWC ?_
  rcases h with ⟨hz, h⟩ | ⟨hz, h⟩
  · obtain ⟨a1, a2, a3, a4⟩ := h1 hz
    exact Or.inl ⟨hz, a1, a2, a3, hb, hh, fun q hq => h q (by omega)⟩
  · refine Or.inr ⟨hz, ?_⟩
    rcases h with h | h | h | ⟨q, q1, q2, q3⟩
    · exact Or.inl h
    · exact Or.inr (Or.inl h)
    · exact Or.inr (Or.inr (Or.inl h))
    · exact Or.inr (Or.inr (Or.inr ⟨hb, hh, q, by omega, q1, q3⟩))
theorem tkC_lt {M : Mem} {c : Int} (h0 : 0 ≤ c) (h2 : c ≤ 2) : tkC M = c ↔ M 18 7 = c := by
  unfold tkC
  by_cases h3 : M 18 7 = 3
  · rw [if_pos h3]
    by_cases h4 : 40 ≤ M 18 8
    · rw [if_pos h4]; omega
    · rw [if_neg h4]; omega
  · rw [if_neg h3]
    by_cases h4 : M 18 7 = 4
    · rw [if_pos h4]; omega
    · rw [if_neg h4]
theorem tkC_3 {M : Mem} (hb : M 18 7 ≤ 4) : tkC M = 3 ↔ M 18 7 = 4 := by
  unfold tkC
  by_cases h3 : M 18 7 = 3
  · rw [if_pos h3]
    by_cases h4 : 40 ≤ M 18 8
    · rw [if_pos h4]; omega
    · rw [if_neg h4]; omega
  · rw [if_neg h3]
    by_cases h4 : M 18 7 = 4
    · rw [if_pos h4]; omega
    · rw [if_neg h4]; omega
theorem tkC_s {M : Mem} {c : Int} (hc : 40 ≤ c) (hb : M 18 7 ≤ 4) : tkC M = c ↔ M 18 7 = 3 ∧ M 18 8 = c := by
  unfold tkC
  by_cases h3 : M 18 7 = 3
  · rw [if_pos h3]
    by_cases h4 : 40 ≤ M 18 8
    · rw [if_pos h4]; omega
    · rw [if_neg h4]; omega
  · rw [if_neg h3]
    by_cases h4 : M 18 7 = 4
    · rw [if_pos h4]; omega
    · rw [if_neg h4]; omega
theorem bl_of {k : Int} {S A : St} (h : ¬ s_tk S = 3) (y : setf k S = A) : blame k S = A := by unfold blame; rw [if_neg h]; exact y
theorem refC_1 {M : Mem} {A : St} (h : M 18 7 = 4) (y : setf 1 (absC M) = A) : blame 2 (absC M) = A := by
  by_cases h0 : M 18 1 = 0
  · unfold blame; rw [(vC_tk h0).1, if_pos ((tkC_3 (by omega)).mpr h)]; exact y
  · rw [blame_f (by rw [vC_fl]; exact h0), ← y, setf_f (by rw [vC_fl]; exact h0)]
theorem refC_2 {M : Mem} {A : St} (h : ¬ M 18 7 = 4 ∧ M 18 7 ≤ 4) (y : setf 2 (absC M) = A) : blame 2 (absC M) = A := by
  by_cases h0 : M 18 1 = 0
  · unfold blame; rw [(vC_tk h0).1, if_neg (fun q => h.1 ((tkC_3 h.2).mp q))]; exact y
  · rw [blame_f (by rw [vC_fl]; exact h0), ← y, setf_f (by rw [vC_fl]; exact h0)]
def btB (s v : Int) : Bool := ((Int32.ofInt s >>> (Int32.ofInt v &&& 31)) &&& Int32.ofInt 1).toInt == 1
theorem btB_iff {s v : Int} : btB s v = true ↔ Bt s v := beq_iff_eq
theorem btB_n {s v : Int} (h : btB s v = false) : ¬ Bt s v := fun q => by rw [btB_iff.mpr q] at h; exact absurd h (by decide)
theorem btB_f {s v : Int} (h : ¬ Bt s v) : btB s v = false := by
  rcases hb : btB s v with _ | _
  · rfl
  · exact absurd (btB_iff.mp hb) h
theorem btB_0 : btB 0 = noB := funext (fun v => btB_f (by unfold Bt; rw [show Int32.ofInt 0 = 0 from rfl, Int32.zero_shiftRight, Int32.zero_and]; decide))
theorem isWC_f {M : Mem} {w : List Int} (h : ¬ M 18 1 = 0 ∨ ¬ M 18 5 - M 18 6 = (w.length : Int)) : isW w (absC M) = false := by
  have q : WZ 0 (isW w (absC M)) := isWC (Or.inr ⟨rfl, h.elim Or.inl (fun q => Or.inr (Or.inr (Or.inl q)))⟩)
  exact wz_f q (by decide)
theorem absR_16 {M M' : Mem} (f : ∀ a b, ¬ (a = 131 ∧ b = 16) → M' a b = M a b) : absR M' = absR M := absR_g (f _ _ (fun q => absurd q.2 (by decide))) (f _ _ (fun q => absurd q.2 (by decide))) (f _ _ (fun q => absurd q.2 (by decide))) (f _ _ (fun q => absurd q.2 (by decide))) (f _ _ (fun q => absurd q.2 (by decide))) (f _ _ (fun q => absurd q.2 (by decide))) (f _ _ (fun q => absurd q.2 (by decide))) (fun _ => f _ _ (fun q => absurd q.1 (by decide)))
theorem vlR_b {M : Mem} (h : 0 ≤ M 131 11 ∧ M 131 11 ≤ 999) : 0 ≤ s_vl (absR M) ∧ s_vl (absR M) ≤ 999 := by
  by_cases h0 : M 131 12 = 0
  · rw [(vR_tk h0).2.2.2]; unfold vlR
    by_cases h1 : M 131 10 = 2
    · rw [if_pos h1]; exact h
    · rw [if_neg h1]; decide
  · rw [absR_1 h0]; show (0 : Int) ≤ 0 ∧ (0 : Int) ≤ 999; decide
noncomputable def begT (n m : Int) (S : St) : St := if m ≤ n then setf 4 S else adv S
theorem beg_4 {n m : Int} {S A : St} (h : m ≤ n) (y : setf 4 S = A) : begT n m S = A := by unfold begT; rw [if_pos h]; exact y
theorem beg_a {n m : Int} {S A : St} (h : ¬ m ≤ n) (y : adv S = A) : begT n m S = A := by unfold begT; rw [if_neg h]; exact y
end ABS
