/-! ===== the static part of a town ===== -/
section STT
abbrev Sx : Type := Int × (Nat → Nat → Bool) × Int × Int × (Nat → Int)
def stD (D : Dt) : Sx := (d_p D, d_a D, d_n D, d_e D, d_v D)
theorem sx_e {P P' : Int} {A A' : Nat → Nat → Bool} {N N' E E' : Int} {V V' : Nat → Int} (h1 : P = P') (h2 : A = A') (h3 : N = N') (h4 : E = E') (h5 : V = V') : ((P, A, N, E, V) : Sx) = (P', A', N', E', V') := by
  subst h1 h2 h3 h4 h5; rfl
def aRx (s o : Nat) (M : Mem) (p q : Nat) : Bool := decide ((p : Int) < M s (o + 1) ∧ (q : Int) < M s (o + 1)) && !(M s (o + (50 + 10 * p + q)) == 0)
def eRx (s o : Nat) (M : Mem) (j : Nat) : Int := if (j : Int) < 3 * M s (o + 4) then M s (o + (150 + j)) else 0
def sR (s o : Nat) (M : Mem) : Sx := (M s (o + 1), aRx s o M, M s (o + 2), M s (o + 4), eRx s o M)
theorem aRx_t {s o : Nat} {M : Mem} {p q : Nat} : aRx s o M p q = true ↔ ((p : Int) < M s (o + 1) ∧ (q : Int) < M s (o + 1)) ∧ ¬ M s (o + (50 + 10 * p + q)) = 0 := by
  unfold aRx; rw [Bool.and_eq_true, decide_eq_true_iff, Bool.not_eq_true', beq_eq_false_iff_ne]
theorem sR_eq {s o s' o' : Nat} {M M' : Mem} (b1 : M s (o + 1) ≤ 10) (b4 : M s (o + 4) ≤ 6) (h : ∀ j : Nat, j < 7 ∨ 26 ≤ j → j < 168 → M' s' (o' + j) = M s (o + j)) : sR s' o' M' = sR s o M := by
  have e1 := h 1 (by decide) (by decide)
  have e4 := h 4 (by decide) (by decide)
  refine sx_e e1 ?_ (h 2 (by decide) (by decide)) e4 ?_
  · funext p q
    rw [Bool.eq_iff_iff, aRx_t, aRx_t, e1]
    refine and_congr_right (fun hc => ?_)
    rw [h _ (by omega) (by omega)]
  · funext j
    unfold eRx
    rw [e4]
    by_cases hj : (j : Int) < 3 * M s (o + 4)
    · rw [if_pos hj, if_pos hj]; exact h _ (by omega) (by omega)
    · rw [if_neg hj, if_neg hj]
theorem sR_D (M : Mem) : sR 133 0 M = stD (dR M) := by
  refine sx_e rfl ?_ rfl rfl ?_
  · funext p q
    show aRx 133 0 M p q = aR M p q
    unfold aRx aR; rw [Nat.zero_add, Nat.zero_add]
  · funext j
    show eRx 133 0 M j = eR M j
    unfold eRx eR; rw [Nat.zero_add, Nat.zero_add]
def aCx (t : Nat) (M : Mem) (p q : Nat) : Bool := decide ((p : Int) < M t 1 ∧ (q : Int) < M t 1) && btB (M (t + 1) p) (q : Int)
def eCx (t : Nat) (M : Mem) (j : Nat) : Int := if (j : Int) < 3 * M t 4 then (if j % 3 = 0 then M (t + 8) (j / 3) else if j % 3 = 1 then M (t + 9) (j / 3) else M (t + 10) (j / 3)) else 0
def sC (t : Nat) (M : Mem) : Sx := (M t 1, aCx t M, M t 3, M t 4, eCx t M)
theorem sC_D (M : Mem) : sC 19 M = stD (dC M) := rfl
theorem aCx_t {t : Nat} {M : Mem} {p q : Nat} : aCx t M p q = true ↔ ((p : Int) < M t 1 ∧ (q : Int) < M t 1) ∧ btB (M (t + 1) p) (q : Int) = true := by
  unfold aCx; rw [Bool.and_eq_true, decide_eq_true_iff]
theorem sC_eq {t t' : Nat} {M M' : Mem} (b1 : M t 1 ≤ 10) (b4 : M t 4 ≤ 6) (h1 : M' t' 1 = M t 1) (h3 : M' t' 3 = M t 3) (h4 : M' t' 4 = M t 4) (ha : ∀ j : Nat, j < 10 → M' (t' + 1) j = M (t + 1) j) (hm : ∀ j : Nat, j < 6 → M' (t' + 8) j = M (t + 8) j) (hu : ∀ j : Nat, j < 6 → M' (t' + 9) j = M (t + 9) j) (hw : ∀ j : Nat, j < 6 → M' (t' + 10) j = M (t + 10) j) : sC t' M' = sC t M := by
  refine sx_e h1 ?_ h3 h4 ?_
  · funext p q
    rw [Bool.eq_iff_iff, aCx_t, aCx_t, h1]
    refine and_congr_right (fun hc => ?_)
    rw [ha p (by omega)]
  · funext j
    unfold eCx
    rw [h4]
    by_cases hj : (j : Int) < 3 * M t 4
    · rw [if_pos hj, if_pos hj, hm _ (by omega), hu _ (by omega), hw _ (by omega)]
    · rw [if_neg hj, if_neg hj]
theorem sC_f {t : Nat} {M M' : Mem} (h : ∀ b, M' t b = M t b) (h1 : ∀ b, M' (t + 1) b = M (t + 1) b) (h8 : ∀ b, M' (t + 8) b = M (t + 8) b) (h9 : ∀ b, M' (t + 9) b = M (t + 9) b) (h10 : ∀ b, M' (t + 10) b = M (t + 10) b) : sC t M' = sC t M := by
  have ea : aCx t M' = aCx t M := by funext p q; unfold aCx; rw [h, h1]
  have ee : eCx t M' = eCx t M := by funext j; unfold eCx; rw [h, h8, h9, h10]
  exact sx_e (h 1) ea (h 3) (h 4) ee
theorem sC_fr {t : Nat} {ms : List Nat} {M M' : Mem} (f : Fr ms M M') (hm : t ∉ ms ∧ t + 1 ∉ ms ∧ t + 8 ∉ ms ∧ t + 9 ∉ ms ∧ t + 10 ∉ ms) : sC t M' = sC t M := sC_f (fun _ => f.at hm.1) (fun _ => f.at hm.2.1) (fun _ => f.at hm.2.2.1) (fun _ => f.at hm.2.2.2.1) (fun _ => f.at hm.2.2.2.2)
theorem sR_fr {ms : List Nat} {M M' : Mem} (hI : Inv M) (f : Fr ms M M') (hm : 232 ∉ ms) : sR 132 0 M' = sR 132 0 M := by
  have b1 := hI.at (show Bd 132 1 = (0, 10) from rfl)
  have b4 := hI.at (show Bd 132 4 = (0, 6) from rfl)
  exact sR_eq (show M 132 1 ≤ 10 from b1.2) (show M 132 4 ≤ 6 from b4.2) (fun j h1 h2 => f.st hm (by unfold stat; omega))
theorem sR_f4 {o : Nat} {M M' : Mem} (h : ∀ b : Nat, M' 134 (o + b) = M 134 (o + b)) : sR 134 o M' = sR 134 o M := by
  have ea : aRx 134 o M' = aRx 134 o M := by funext p q; unfold aRx; rw [h, h]
  have ee : eRx 134 o M' = eRx 134 o M := by funext j; unfold eRx; rw [h, h]
  exact sx_e (h 1) ea (h 2) (h 4) ee
/-- t' has what t had: the static part, and the rows of steps -/
def Cp (t t' : Nat) (M M' : Mem) : Prop := sC t' M' = sC t M ∧ ∀ j : Nat, j < 100 → M' (t' + 3) j = M (t + 3) j
theorem cp_i {t t' : Nat} {M M' : Mem} (h : sC t' M' = sC t M) (g : ∀ j : Nat, j < 100 → M' (t' + 3) j = M (t + 3) j) : Cp t t' M M' := ⟨h, g⟩
theorem cp_rf {t : Nat} {M : Mem} : Cp t t M M := ⟨rfl, fun _ _ => rfl⟩
theorem cp_tr {a b c : Nat} {M M1 M2 : Mem} (h : Cp a b M M1) (g : Cp b c M1 M2) : Cp a c M M2 := ⟨g.1.trans h.1, fun j q => (g.2 j q).trans (h.2 j q)⟩
def No5 (t : Nat) (ms : List Nat) : Prop := t ∉ ms ∧ t + 1 ∉ ms ∧ t + 8 ∉ ms ∧ t + 9 ∉ ms ∧ t + 10 ∉ ms
theorem sC_no {t : Nat} {ms : List Nat} {M M' : Mem} (f : Fr ms M M') (hm : No5 t ms) : sC t M' = sC t M := sC_fr f hm
theorem cp_fr {t : Nat} {ms : List Nat} {M M' : Mem} (f : Fr ms M M') (hm : t ∉ ms ∧ t + 1 ∉ ms ∧ t + 8 ∉ ms ∧ t + 9 ∉ ms ∧ t + 10 ∉ ms) (h3 : t + 3 ∉ ms) : Cp t t M M' := ⟨sC_fr f hm, fun _ _ => f.at h3⟩
theorem cp_ws {t k j : Nat} {M M' : Mem} (f : ∀ a b, ¬ (a = k ∧ b = j) → M' a b = M a b) (h0 : t ≠ k) (h1 : t + 1 ≠ k) (h8 : t + 8 ≠ k) (h9 : t + 9 ≠ k) (h10 : t + 10 ≠ k) (h3 : t + 3 ≠ k) : Cp t t M M' := ⟨sC_f (fun b => f _ b (fun q => h0 q.1)) (fun b => f _ b (fun q => h1 q.1)) (fun b => f _ b (fun q => h8 q.1)) (fun b => f _ b (fun q => h9 q.1)) (fun b => f _ b (fun q => h10 q.1)), fun b _ => f _ b (fun q => h3 q.1)⟩
theorem cp_at {f g h : Nat → Int} {n : Int} (c : Nat) (k : ∀ j : Nat, f j = if (0 : Int).toNat ≤ j ∧ j < (0 : Int).toNat + n.toNat then g ((0 : Int).toNat + (j - (0 : Int).toNat)) else h j) (hn : n = (c : Int)) : ∀ j : Nat, j < c → f j = g j := fun j hj => by
  rw [k j, if_pos ⟨Nat.zero_le _, by show j < 0 + n.toNat; omega⟩]
  show g (0 + (j - 0)) = g j
  rw [Nat.zero_add, Nat.sub_zero]
theorem sR_f {s o : Nat} {M M' : Mem} (h : ∀ b : Nat, M' s b = M s b) : sR s o M' = sR s o M := by
  have ea : aRx s o M' = aRx s o M := by funext p q; unfold aRx; rw [h, h]
  have ee : eRx s o M' = eRx s o M := by funext j; unfold eRx; rw [h, h]
  exact sx_e (h _) ea (h _) (h _) ee
theorem bd_im {d o : Nat} (hd : d < 3) (ho : o = 1300 * d) : Bd 134 (o + 1) = (0, 10) ∧ Bd 134 (o + 4) = (0, 6) := by
  rcases (show d = 0 ∨ d = 1 ∨ d = 2 by omega) with rfl | rfl | rfl <;> subst ho <;> exact ⟨rfl, rfl⟩
theorem sR_im {o : Nat} (d : Nat) {M M' : Mem} (hI : Inv M) (hd : d < 3) (ho : o = 1300 * d) (h : ∀ j : Nat, j < 1300 → M' 134 (o + j) = M 134 (o + j)) : sR 134 o M' = sR 134 o M :=
  sR_eq (hI.at (bd_im hd ho).1).2 (hI.at (bd_im hd ho).2).2 (fun j h1 h2 => h j (by omega))
theorem sR_ti {o : Nat} {M M' : Mem} (hI : Inv M) (h : ∀ j : Nat, j < 1300 → M' 134 (o + j) = M 132 j) : sR 134 o M' = sR 132 0 M := by
  have b1 := hI.at (show Bd 132 1 = (0, 10) from rfl)
  have b4 := hI.at (show Bd 132 4 = (0, 6) from rfl)
  exact sR_eq (show M 132 1 ≤ 10 from b1.2) (show M 132 4 ≤ 6 from b4.2) (fun j h1 h2 => by rw [Nat.zero_add]; exact h j (by omega))
theorem sR_ri {o : Nat} (d : Nat) {M M' : Mem} (hI : Inv M) (hd : d < 3) (ho : o = 1300 * d) (h : ∀ j : Nat, j < 1300 → M' 132 j = M 134 (o + j)) : sR 132 0 M' = sR 134 o M :=
  sR_eq (hI.at (bd_im hd ho).1).2 (hI.at (bd_im hd ho).2).2 (fun j h1 h2 => by rw [Nat.zero_add]; exact h j (by omega))
theorem sR_cp {M M' : Mem} (hI : Inv M) (h : ∀ j : Nat, j < 1300 → M' 132 j = M 133 j) : sR 132 0 M' = stD (dR M) := by
  have b1 := hI.at (show Bd 133 1 = (0, 10) from rfl)
  have b4 := hI.at (show Bd 133 4 = (0, 6) from rfl)
  refine (sR_eq (s := 133) (o := 0) (show M 133 1 ≤ 10 from b1.2) (show M 133 4 ≤ 6 from b4.2) (fun j h1 h2 => ?_)).trans (sR_D M)
  rw [Nat.zero_add]; exact h j (by omega)
/-- an image is made, or given back, on either side -/
def ImC (x : Int) (M M' : Mem) : Prop := x = 0 ∧ (Cp 2 64 M M' ∧ Cp 84 84 M M' ∧ Cp 104 104 M M') ∧ M' 63 0 = 1 ∧ M' 83 0 = M 83 0 ∧ M' 103 0 = M 103 0 ∨ x = 1 ∧ (Cp 64 64 M M' ∧ Cp 2 84 M M' ∧ Cp 104 104 M M') ∧ M' 63 0 = M 63 0 ∧ M' 83 0 = 1 ∧ M' 103 0 = M 103 0 ∨ x = 2 ∧ (Cp 64 64 M M' ∧ Cp 84 84 M M' ∧ Cp 2 104 M M') ∧ M' 63 0 = M 63 0 ∧ M' 83 0 = M 83 0 ∧ M' 103 0 = 1
def ReC (x : Int) (M M' : Mem) : Prop := x = 0 ∧ M 63 0 = 1 ∧ Cp 64 2 M M' ∨ x = 1 ∧ M 83 0 = 1 ∧ Cp 84 2 M M' ∨ x = 2 ∧ M 103 0 = 1 ∧ Cp 104 2 M M'
def ImR (x : Int) (M M' : Mem) : Prop := Im (0 ≤ x) (Im (x ≤ 2) (∀ j : Nat, j < 1300 → M' 134 (1300 * x.toNat + j) = M 132 j)) ∧ (∀ b : Nat, b < 1300 * x.toNat ∨ 1300 * x.toNat + 1300 ≤ b → M' 134 b = M 134 b) ∧ Im (x < 0 ∨ 2 < x) (∀ b : Nat, M' 134 b = M 134 b)
def ReR (x : Int) (M M' : Mem) : Prop := Im (M' 131 4 = 0) (∀ j : Nat, j < 1300 → M' 132 j = M 134 (1300 * x.toNat + j)) ∧ Im (¬ M' 131 4 = 0) (∀ b : Nat, M' 132 b = M 132 b)
/-- what the law keeps: the tapes, the town, the images -/
def RlS (M : Mem) : Prop := sC 2 M = sR 132 0 M ∧ (M 63 0 = M 135 0 ∧ M 83 0 = M 135 1 ∧ M 103 0 = M 135 2) ∧ Im (M 63 0 = 1) (sC 64 M = sR 134 0 M) ∧ Im (M 83 0 = 1) (sC 84 M = sR 134 1300 M) ∧ Im (M 103 0 = 1) (sC 104 M = sR 134 2600 M)
def RlD (M : Mem) : Prop := RlT M ∧ RlS M
def NoI (ms : List Nat) : Prop := No5 64 ms ∧ No5 84 ms ∧ No5 104 ms ∧ 63 ∉ ms ∧ 83 ∉ ms ∧ 103 ∉ ms
/-- one step of both sides, by what becomes of town, flags, images -/
theorem rs_gen {M M1 M2 : Mem} (h1 : sC 2 M2 = sR 132 0 M2) (f0 : M2 63 0 = M2 135 0) (f1 : M2 83 0 = M2 135 1) (f2 : M2 103 0 = M2 135 2) (g0 : M2 63 0 = 1 → sC 64 M2 = sR 134 0 M2) (g1 : M2 83 0 = 1 → sC 84 M2 = sR 134 1300 M2) (g2 : M2 103 0 = 1 → sC 104 M2 = sR 134 2600 M2) : RlS M2 := ⟨h1, ⟨f0, f1, f2⟩, g0, g1, g2⟩
theorem rs_fr {ms : List Nat} {M M' : Mem} (hI : Inv M) (f : Fr ms M M') (hm : 232 ∉ ms) (m4 : 134 ∉ ms) (m5 : 135 ∉ ms) (m2 : No5 2 ms) (mi : NoI ms) (h : RlS M) : RlS M' := by
  obtain ⟨h1, h2, h3, h4, h5⟩ := h
  obtain ⟨m64, m84, m104, m63, m83, m103⟩ := mi
  refine ⟨(sC_no f m2).trans (h1.trans (sR_fr hI f hm).symm), ⟨?_, ?_, ?_⟩, fun q => ?_, fun q => ?_, fun q => ?_⟩
  · rw [f.at m63, f.at m5]; exact h2.1
  · rw [f.at m83, f.at m5]; exact h2.2.1
  · rw [f.at m103, f.at m5]; exact h2.2.2
  · exact (sC_no f m64).trans ((h3 (by rw [← f.at m63]; exact q)).trans (sR_f (fun b => f.at m4)).symm)
  · exact (sC_no f m84).trans ((h4 (by rw [← f.at m83]; exact q)).trans (sR_f (fun b => f.at m4)).symm)
  · exact (sC_no f m104).trans ((h5 (by rw [← f.at m103]; exact q)).trans (sR_f (fun b => f.at m4)).symm)
theorem rs_im0 {M M1 M2 : Mem} {ms ns : List Nat} (hI : Inv M) (h : RlS M) (f1 : Fr ms M M1) (n1 : No5 2 ms ∧ 132 ∉ ms ∧ 134 ∉ ms ∧ 135 ∉ ms) (c0 : Cp 2 64 M M1) (c1 : Cp 84 84 M M1) (c2 : Cp 104 104 M M1) (g0 : M1 63 0 = 1) (g1 : M1 83 0 = M 83 0) (g2 : M1 103 0 = M 103 0) (f2 : Fr ns M1 M2) (m1 : No5 2 ns) (m2 : NoI ns) (m3 : 132 ∉ ns) (e0 : M2 135 0 = 1) (e1 : M2 135 1 = M1 135 1) (e2 : M2 135 2 = M1 135 2) (a : ∀ j : Nat, j < 1300 → M2 134 (0 + j) = M1 132 j) (b : ∀ b : Nat, b < 0 ∨ 1300 ≤ b → M2 134 b = M1 134 b) : RlS M2 := by
  obtain ⟨h1, h2, h3, h4, h5⟩ := h
  obtain ⟨n2, n3, n4, n5⟩ := n1
  obtain ⟨m64, m84, m104, m63, m83, m103⟩ := m2
  have kn : sR 132 0 M2 = sR 132 0 M := (sR_f (fun _ => f2.at m3)).trans (sR_f (fun _ => f1.at n3))
  refine ⟨((sC_no f2 m1).trans (sC_no f1 n2)).trans (h1.trans kn.symm), ⟨?_, ?_, ?_⟩, fun q => ?_, fun q => ?_, fun q => ?_⟩
  · rw [f2.at m63, g0, e0]
  · rw [f2.at m83, g1, e1, f1.at n5]; exact h2.2.1
  · rw [f2.at m103, g2, e2, f1.at n5]; exact h2.2.2
  · exact (sC_no f2 m64).trans (c0.1.trans (h1.trans (sR_ti hI (fun j hj => (a j hj).trans (f1.at n3))).symm))
  · exact (sC_no f2 m84).trans (c1.1.trans ((h4 (by rw [← g1, ← f2.at m83]; exact q)).trans (sR_im 1 hI (by decide) (by decide) (fun j hj => (b _ (by omega)).trans (f1.at n4))).symm))
  · exact (sC_no f2 m104).trans (c2.1.trans ((h5 (by rw [← g2, ← f2.at m103]; exact q)).trans (sR_im 2 hI (by decide) (by decide) (fun j hj => (b _ (by omega)).trans (f1.at n4))).symm))
theorem rs_re0 {M M1 M2 : Mem} {ms ns : List Nat} (hI : Inv M) (h : RlS M) (f1 : Fr ms M M1) (n1 : NoI ms ∧ 134 ∉ ms ∧ 135 ∉ ms) (c : Cp 64 2 M M1) (g : M 63 0 = 1) (f2 : Fr ns M1 M2) (m1 : No5 2 ns) (m2 : NoI ns) (m3 : 134 ∉ ns ∧ 135 ∉ ns) (a : ∀ j : Nat, j < 1300 → M2 132 j = M1 134 (0 + j)) : RlS M2 := by
  obtain ⟨h1, h2, h3, h4, h5⟩ := h
  obtain ⟨⟨n64, n84, n104, n63, n83, n103⟩, n4, n5⟩ := n1
  obtain ⟨m64, m84, m104, m63, m83, m103⟩ := m2
  have i4 : ∀ o : Nat, sR 134 o M2 = sR 134 o M := fun o => (sR_f (fun _ => f2.at m3.1)).trans (sR_f (fun _ => f1.at n4))
  refine ⟨(sC_no f2 m1).trans (c.1.trans ((h3 g).trans (sR_ri 0 hI (by decide) (by decide) (fun j hj => (a j hj).trans (f1.at n4))).symm)), ⟨?_, ?_, ?_⟩, fun q => ?_, fun q => ?_, fun q => ?_⟩
  · rw [f2.at m63, f1.at n63, f2.at m3.2, f1.at n5]; exact h2.1
  · rw [f2.at m83, f1.at n83, f2.at m3.2, f1.at n5]; exact h2.2.1
  · rw [f2.at m103, f1.at n103, f2.at m3.2, f1.at n5]; exact h2.2.2
  · exact (sC_no f2 m64).trans ((sC_no f1 n64).trans ((h3 (by rw [← f1.at n63, ← f2.at m63]; exact q)).trans (i4 _).symm))
  · exact (sC_no f2 m84).trans ((sC_no f1 n84).trans ((h4 (by rw [← f1.at n83, ← f2.at m83]; exact q)).trans (i4 _).symm))
  · exact (sC_no f2 m104).trans ((sC_no f1 n104).trans ((h5 (by rw [← f1.at n103, ← f2.at m103]; exact q)).trans (i4 _).symm))
theorem rs_im1 {M M1 M2 : Mem} {ms ns : List Nat} (hI : Inv M) (h : RlS M) (f1 : Fr ms M M1) (n1 : No5 2 ms ∧ 132 ∉ ms ∧ 134 ∉ ms ∧ 135 ∉ ms) (c0 : Cp 64 64 M M1) (c1 : Cp 2 84 M M1) (c2 : Cp 104 104 M M1) (g0 : M1 63 0 = M 63 0) (g1 : M1 83 0 = 1) (g2 : M1 103 0 = M 103 0) (f2 : Fr ns M1 M2) (m1 : No5 2 ns) (m2 : NoI ns) (m3 : 132 ∉ ns) (e0 : M2 135 0 = M1 135 0) (e1 : M2 135 1 = 1) (e2 : M2 135 2 = M1 135 2) (a : ∀ j : Nat, j < 1300 → M2 134 (1300 + j) = M1 132 j) (b : ∀ b : Nat, b < 1300 ∨ 2600 ≤ b → M2 134 b = M1 134 b) : RlS M2 := by
  obtain ⟨h1, h2, h3, h4, h5⟩ := h
  obtain ⟨n2, n3, n4, n5⟩ := n1
  obtain ⟨m64, m84, m104, m63, m83, m103⟩ := m2
  have kn : sR 132 0 M2 = sR 132 0 M := (sR_f (fun _ => f2.at m3)).trans (sR_f (fun _ => f1.at n3))
  refine ⟨((sC_no f2 m1).trans (sC_no f1 n2)).trans (h1.trans kn.symm), ⟨?_, ?_, ?_⟩, fun q => ?_, fun q => ?_, fun q => ?_⟩
  · rw [f2.at m63, g0, e0, f1.at n5]; exact h2.1
  · rw [f2.at m83, g1, e1]
  · rw [f2.at m103, g2, e2, f1.at n5]; exact h2.2.2
  · exact (sC_no f2 m64).trans (c0.1.trans ((h3 (by rw [← g0, ← f2.at m63]; exact q)).trans (sR_im 0 hI (by decide) (by decide) (fun j hj => (b _ (by omega)).trans (f1.at n4))).symm))
  · exact (sC_no f2 m84).trans (c1.1.trans (h1.trans (sR_ti hI (fun j hj => (a j hj).trans (f1.at n3))).symm))
  · exact (sC_no f2 m104).trans (c2.1.trans ((h5 (by rw [← g2, ← f2.at m103]; exact q)).trans (sR_im 2 hI (by decide) (by decide) (fun j hj => (b _ (by omega)).trans (f1.at n4))).symm))
theorem rs_re1 {M M1 M2 : Mem} {ms ns : List Nat} (hI : Inv M) (h : RlS M) (f1 : Fr ms M M1) (n1 : NoI ms ∧ 134 ∉ ms ∧ 135 ∉ ms) (c : Cp 84 2 M M1) (g : M 83 0 = 1) (f2 : Fr ns M1 M2) (m1 : No5 2 ns) (m2 : NoI ns) (m3 : 134 ∉ ns ∧ 135 ∉ ns) (a : ∀ j : Nat, j < 1300 → M2 132 j = M1 134 (1300 + j)) : RlS M2 := by
  obtain ⟨h1, h2, h3, h4, h5⟩ := h
  obtain ⟨⟨n64, n84, n104, n63, n83, n103⟩, n4, n5⟩ := n1
  obtain ⟨m64, m84, m104, m63, m83, m103⟩ := m2
  have i4 : ∀ o : Nat, sR 134 o M2 = sR 134 o M := fun o => (sR_f (fun _ => f2.at m3.1)).trans (sR_f (fun _ => f1.at n4))
  refine ⟨(sC_no f2 m1).trans (c.1.trans ((h4 g).trans (sR_ri 1 hI (by decide) (by decide) (fun j hj => (a j hj).trans (f1.at n4))).symm)), ⟨?_, ?_, ?_⟩, fun q => ?_, fun q => ?_, fun q => ?_⟩
  · rw [f2.at m63, f1.at n63, f2.at m3.2, f1.at n5]; exact h2.1
  · rw [f2.at m83, f1.at n83, f2.at m3.2, f1.at n5]; exact h2.2.1
  · rw [f2.at m103, f1.at n103, f2.at m3.2, f1.at n5]; exact h2.2.2
  · exact (sC_no f2 m64).trans ((sC_no f1 n64).trans ((h3 (by rw [← f1.at n63, ← f2.at m63]; exact q)).trans (i4 _).symm))
  · exact (sC_no f2 m84).trans ((sC_no f1 n84).trans ((h4 (by rw [← f1.at n83, ← f2.at m83]; exact q)).trans (i4 _).symm))
  · exact (sC_no f2 m104).trans ((sC_no f1 n104).trans ((h5 (by rw [← f1.at n103, ← f2.at m103]; exact q)).trans (i4 _).symm))
theorem rs_im2 {M M1 M2 : Mem} {ms ns : List Nat} (hI : Inv M) (h : RlS M) (f1 : Fr ms M M1) (n1 : No5 2 ms ∧ 132 ∉ ms ∧ 134 ∉ ms ∧ 135 ∉ ms) (c0 : Cp 64 64 M M1) (c1 : Cp 84 84 M M1) (c2 : Cp 2 104 M M1) (g0 : M1 63 0 = M 63 0) (g1 : M1 83 0 = M 83 0) (g2 : M1 103 0 = 1) (f2 : Fr ns M1 M2) (m1 : No5 2 ns) (m2 : NoI ns) (m3 : 132 ∉ ns) (e0 : M2 135 0 = M1 135 0) (e1 : M2 135 1 = M1 135 1) (e2 : M2 135 2 = 1) (a : ∀ j : Nat, j < 1300 → M2 134 (2600 + j) = M1 132 j) (b : ∀ b : Nat, b < 2600 ∨ 3900 ≤ b → M2 134 b = M1 134 b) : RlS M2 := by
  obtain ⟨h1, h2, h3, h4, h5⟩ := h
  obtain ⟨n2, n3, n4, n5⟩ := n1
  obtain ⟨m64, m84, m104, m63, m83, m103⟩ := m2
  have kn : sR 132 0 M2 = sR 132 0 M := (sR_f (fun _ => f2.at m3)).trans (sR_f (fun _ => f1.at n3))
  refine ⟨((sC_no f2 m1).trans (sC_no f1 n2)).trans (h1.trans kn.symm), ⟨?_, ?_, ?_⟩, fun q => ?_, fun q => ?_, fun q => ?_⟩
  · rw [f2.at m63, g0, e0, f1.at n5]; exact h2.1
  · rw [f2.at m83, g1, e1, f1.at n5]; exact h2.2.1
  · rw [f2.at m103, g2, e2]
  · exact (sC_no f2 m64).trans (c0.1.trans ((h3 (by rw [← g0, ← f2.at m63]; exact q)).trans (sR_im 0 hI (by decide) (by decide) (fun j hj => (b _ (by omega)).trans (f1.at n4))).symm))
  · exact (sC_no f2 m84).trans (c1.1.trans ((h4 (by rw [← g1, ← f2.at m83]; exact q)).trans (sR_im 1 hI (by decide) (by decide) (fun j hj => (b _ (by omega)).trans (f1.at n4))).symm))
  · exact (sC_no f2 m104).trans (c2.1.trans (h1.trans (sR_ti hI (fun j hj => (a j hj).trans (f1.at n3))).symm))
theorem rs_re2 {M M1 M2 : Mem} {ms ns : List Nat} (hI : Inv M) (h : RlS M) (f1 : Fr ms M M1) (n1 : NoI ms ∧ 134 ∉ ms ∧ 135 ∉ ms) (c : Cp 104 2 M M1) (g : M 103 0 = 1) (f2 : Fr ns M1 M2) (m1 : No5 2 ns) (m2 : NoI ns) (m3 : 134 ∉ ns ∧ 135 ∉ ns) (a : ∀ j : Nat, j < 1300 → M2 132 j = M1 134 (2600 + j)) : RlS M2 := by
  obtain ⟨h1, h2, h3, h4, h5⟩ := h
  obtain ⟨⟨n64, n84, n104, n63, n83, n103⟩, n4, n5⟩ := n1
  obtain ⟨m64, m84, m104, m63, m83, m103⟩ := m2
  have i4 : ∀ o : Nat, sR 134 o M2 = sR 134 o M := fun o => (sR_f (fun _ => f2.at m3.1)).trans (sR_f (fun _ => f1.at n4))
  refine ⟨(sC_no f2 m1).trans (c.1.trans ((h5 g).trans (sR_ri 2 hI (by decide) (by decide) (fun j hj => (a j hj).trans (f1.at n4))).symm)), ⟨?_, ?_, ?_⟩, fun q => ?_, fun q => ?_, fun q => ?_⟩
  · rw [f2.at m63, f1.at n63, f2.at m3.2, f1.at n5]; exact h2.1
  · rw [f2.at m83, f1.at n83, f2.at m3.2, f1.at n5]; exact h2.2.1
  · rw [f2.at m103, f1.at n103, f2.at m3.2, f1.at n5]; exact h2.2.2
  · exact (sC_no f2 m64).trans ((sC_no f1 n64).trans ((h3 (by rw [← f1.at n63, ← f2.at m63]; exact q)).trans (i4 _).symm))
  · exact (sC_no f2 m84).trans ((sC_no f1 n84).trans ((h4 (by rw [← f1.at n83, ← f2.at m83]; exact q)).trans (i4 _).symm))
  · exact (sC_no f2 m104).trans ((sC_no f1 n104).trans ((h5 (by rw [← f1.at n103, ← f2.at m103]; exact q)).trans (i4 _).symm))
/-- the class threw, or nothing of it counts: the reference changed neither town nor images -/
theorem rs_sm {M M2 : Mem} {ns : List Nat} (h : RlS M) (f2 : Fr ns M M2) (m1 : No5 2 ns) (m2 : NoI ns) (e0 : M2 135 0 = M 135 0) (e1 : M2 135 1 = M 135 1) (e2 : M2 135 2 = M 135 2) (a : sR 132 0 M2 = sR 132 0 M) (b : ∀ b : Nat, M2 134 b = M 134 b) : RlS M2 := by
  obtain ⟨h1, h2, h3, h4, h5⟩ := h
  obtain ⟨m64, m84, m104, m63, m83, m103⟩ := m2
  have i4 : ∀ o : Nat, sR 134 o M2 = sR 134 o M := fun o => sR_f b
  refine ⟨(sC_no f2 m1).trans (h1.trans a.symm), ⟨?_, ?_, ?_⟩, fun q => ?_, fun q => ?_, fun q => ?_⟩
  · rw [f2.at m63, e0]; exact h2.1
  · rw [f2.at m83, e1]; exact h2.2.1
  · rw [f2.at m103, e2]; exact h2.2.2
  · exact (sC_no f2 m64).trans ((h3 (by rw [← f2.at m63]; exact q)).trans (i4 _).symm)
  · exact (sC_no f2 m84).trans ((h4 (by rw [← f2.at m83]; exact q)).trans (i4 _).symm)
  · exact (sC_no f2 m104).trans ((h5 (by rw [← f2.at m103]; exact q)).trans (i4 _).symm)
/-- the town anew: what both sides take over -/
theorem rs_tw {M M1 M2 : Mem} {ms ns : List Nat} {X : Sx} (h : RlS M) (f1 : Fr ms M M1) (n1 : NoI ms ∧ 134 ∉ ms ∧ 135 ∉ ms) (c : sC 2 M1 = X) (f2 : Fr ns M1 M2) (m1 : No5 2 ns) (m2 : NoI ns) (m3 : 134 ∉ ns ∧ 135 ∉ ns) (a : sR 132 0 M2 = X) : RlS M2 := by
  obtain ⟨h1, h2, h3, h4, h5⟩ := h
  obtain ⟨⟨n64, n84, n104, n63, n83, n103⟩, n4, n5⟩ := n1
  obtain ⟨m64, m84, m104, m63, m83, m103⟩ := m2
  have i4 : ∀ o : Nat, sR 134 o M2 = sR 134 o M := fun o => (sR_f (fun _ => f2.at m3.1)).trans (sR_f (fun _ => f1.at n4))
  refine ⟨(sC_no f2 m1).trans (c.trans a.symm), ⟨?_, ?_, ?_⟩, fun q => ?_, fun q => ?_, fun q => ?_⟩
  · rw [f2.at m63, f1.at n63, f2.at m3.2, f1.at n5]; exact h2.1
  · rw [f2.at m83, f1.at n83, f2.at m3.2, f1.at n5]; exact h2.2.1
  · rw [f2.at m103, f1.at n103, f2.at m3.2, f1.at n5]; exact h2.2.2
  · exact (sC_no f2 m64).trans ((sC_no f1 n64).trans ((h3 (by rw [← f1.at n63, ← f2.at m63]; exact q)).trans (i4 _).symm))
  · exact (sC_no f2 m84).trans ((sC_no f1 n84).trans ((h4 (by rw [← f1.at n83, ← f2.at m83]; exact q)).trans (i4 _).symm))
  · exact (sC_no f2 m104).trans ((sC_no f1 n104).trans ((h5 (by rw [← f1.at n103, ← f2.at m103]; exact q)).trans (i4 _).symm))
/-- image and restore of both sides, one behind the other -/
def ImP (x : Int) (M M' : Mem) : Prop := M' 131 4 = 0 ∧ (x = 0 ∧ M' 135 0 = 1 ∧ M' 135 1 = M 135 1 ∧ M' 135 2 = M 135 2 ∨ x = 1 ∧ M' 135 0 = M 135 0 ∧ M' 135 1 = 1 ∧ M' 135 2 = M 135 2 ∨ x = 2 ∧ M' 135 0 = M 135 0 ∧ M' 135 1 = M 135 1 ∧ M' 135 2 = 1) ∨ M' 131 4 = 1 ∧ (x < 0 ∨ 2 < x) ∧ M' 135 0 = M 135 0 ∧ M' 135 1 = M 135 1 ∧ M' 135 2 = M 135 2
theorem rs_image {M M1 M2 : Mem} {ms ns : List Nat} {x : Int} (hI : Inv M) (h : RlS M) (f1 : Fr ms M M1) (n1 : No5 2 ms ∧ 132 ∉ ms ∧ 134 ∉ ms ∧ 135 ∉ ms) (c : ImC x M M1 ∨ (x < 0 ∨ 2 < x) ∧ M1 = M) (f2 : Fr ns M1 M2) (m1 : No5 2 ns) (m2 : NoI ns) (m3 : 132 ∉ ns) (p : ImP x M1 M2) (r : ImR x M1 M2) : RlS M2 := by
  obtain ⟨r1, r2, r3⟩ := r
  rcases c with (⟨rfl, ⟨c0, c1, c2⟩, g0, g1, g2⟩ | ⟨rfl, ⟨c0, c1, c2⟩, g0, g1, g2⟩ | ⟨rfl, ⟨c0, c1, c2⟩, g0, g1, g2⟩) | ⟨hx, rfl⟩
  · have e : M2 135 0 = 1 ∧ M2 135 1 = M1 135 1 ∧ M2 135 2 = M1 135 2 := by unfold ImP at p; omega
    exact rs_im0 hI h f1 n1 c0 c1 c2 g0 g1 g2 f2 m1 m2 m3 e.1 e.2.1 e.2.2 (r1 (by decide) (by decide)) (fun b hb => r2 b (by omega))
  · have e : M2 135 0 = M1 135 0 ∧ M2 135 1 = 1 ∧ M2 135 2 = M1 135 2 := by unfold ImP at p; omega
    exact rs_im1 hI h f1 n1 c0 c1 c2 g0 g1 g2 f2 m1 m2 m3 e.1 e.2.1 e.2.2 (r1 (by decide) (by decide)) (fun b hb => r2 b (by omega))
  · have e : M2 135 0 = M1 135 0 ∧ M2 135 1 = M1 135 1 ∧ M2 135 2 = 1 := by unfold ImP at p; omega
    exact rs_im2 hI h f1 n1 c0 c1 c2 g0 g1 g2 f2 m1 m2 m3 e.1 e.2.1 e.2.2 (r1 (by decide) (by decide)) (fun b hb => r2 b (by omega))
  · have e : M2 135 0 = M1 135 0 ∧ M2 135 1 = M1 135 1 ∧ M2 135 2 = M1 135 2 := by unfold ImP at p; omega
    exact rs_sm h f2 m1 m2 e.1 e.2.1 e.2.2 (sR_f (fun _ => f2.at m3)) (r3 hx)
def ReP (x : Int) (M M' : Mem) : Prop := M' 131 4 = 1 ∧ (x < 0 ∨ 2 < x) ∨ M' 131 4 = 2 ∧ (x = 0 ∧ M 135 0 = 0 ∨ x = 1 ∧ M 135 1 = 0 ∨ x = 2 ∧ M 135 2 = 0) ∨ M' 131 4 = 0 ∧ (x = 0 ∧ M 135 0 = 1 ∨ x = 1 ∧ M 135 1 = 1 ∨ x = 2 ∧ M 135 2 = 1)
theorem rs_restore {M M1 M2 : Mem} {ms ns : List Nat} {x : Int} (hI : Inv M) (h : RlS M) (f1 : Fr ms M M1) (n1 : NoI ms ∧ 134 ∉ ms ∧ 135 ∉ ms) (c : ReC x M M1 ∨ (x < 0 ∨ 2 < x ∨ x = 0 ∧ M 63 0 = 0 ∨ x = 1 ∧ M 83 0 = 0 ∨ x = 2 ∧ M 103 0 = 0) ∧ M1 = M) (f2 : Fr ns M1 M2) (m1 : No5 2 ns) (m2 : NoI ns) (m3 : 134 ∉ ns ∧ 135 ∉ ns) (p : ReP x M1 M2) (r : ReR x M1 M2) : RlS M2 := by
  obtain ⟨r1, r2⟩ := r
  have hf := h.2.1
  have k0 : M1 135 0 = M 135 0 := f1.at n1.2.2
  have k1 : M1 135 1 = M 135 1 := f1.at n1.2.2
  have k2 : M1 135 2 = M 135 2 := f1.at n1.2.2
  rcases c with (⟨rfl, g, c⟩ | ⟨rfl, g, c⟩ | ⟨rfl, g, c⟩) | ⟨hx, rfl⟩
  · have e : M2 131 4 = 0 := by unfold ReP at p; omega
    exact rs_re0 hI h f1 n1 c g f2 m1 m2 m3 (r1 e)
  · have e : M2 131 4 = 0 := by unfold ReP at p; omega
    exact rs_re1 hI h f1 n1 c g f2 m1 m2 m3 (r1 e)
  · have e : M2 131 4 = 0 := by unfold ReP at p; omega
    exact rs_re2 hI h f1 n1 c g f2 m1 m2 m3 (r1 e)
  · have e : ¬ M2 131 4 = 0 := by unfold ReP at p; omega
    exact rs_sm h f2 m1 m2 (f2.at m3.2) (f2.at m3.2) (f2.at m3.2) (sR_f (r2 e)) (fun _ => f2.at m3.1)
/-- town of both sides -/
def TwC (T : Tn) (M M' : Mem) : Prop := Im (s_fl T.1 = 0) (sC 2 M' = stD T.2) ∧ Im (¬ s_fl T.1 = 0) (Cp 2 2 M M')
def TwR (T : Tn) (M M' : Mem) : Prop := Im (s_fl T.1 = 0) (sR 132 0 M' = stD T.2) ∧ Im (¬ s_fl T.1 = 0) (sR 132 0 M' = sR 132 0 M)
theorem rs_town {M M1 M2 : Mem} {ms ns : List Nat} {T : Tn} (h : RlS M) (f1 : Fr ms M M1) (n0 : 132 ∉ ms) (n1 : NoI ms ∧ 134 ∉ ms ∧ 135 ∉ ms) (c : TwC T M M1) (f2 : Fr ns M1 M2) (m1 : No5 2 ns) (m2 : NoI ns) (m3 : 134 ∉ ns ∧ 135 ∉ ns) (r : TwR T M1 M2) : RlS M2 := by
  by_cases hq : s_fl T.1 = 0
  · exact rs_tw h f1 n1 (c.1 hq) f2 m1 m2 m3 (r.1 hq)
  · exact rs_tw h f1 n1 ((c.2 hq).1.trans h.1) f2 m1 m2 m3 ((r.2 hq).trans (sR_f (fun _ => f1.at n0)))
theorem rs_townx {M M2 : Mem} {ns : List Nat} (h : RlS M) (f2 : Fr ns M M2) (m1 : No5 2 ns) (m2 : NoI ns) (m3 : 134 ∉ ns ∧ 135 ∉ ns) (r : sR 132 0 M2 = sR 132 0 M) : RlS M2 := rs_sm h f2 m1 m2 (f2.at m3.2) (f2.at m3.2) (f2.at m3.2) r (fun _ => f2.at m3.1)
theorem eC_at0 {M : Mem} {x0 x1 v : Int} (h0 : 0 ≤ x0) (h1 : x0 < M 2 4) (hx : x1 = 0) (e : v = M 10 x0.toNat) : v = eCx 2 M (3 * x0 + x1).toNat := by
  unfold eCx
  rw [if_pos (by omega), if_pos (by omega), e, show (3 * x0 + x1).toNat / 3 = x0.toNat by omega]
theorem eC_at1 {M : Mem} {x0 x1 v : Int} (h0 : 0 ≤ x0) (h1 : x0 < M 2 4) (hx : x1 = 1) (e : v = M 11 x0.toNat) : v = eCx 2 M (3 * x0 + x1).toNat := by
  unfold eCx
  rw [if_pos (by omega), if_neg (by omega), if_pos (by omega), e, show (3 * x0 + x1).toNat / 3 = x0.toNat by omega]
theorem eC_at2 {M : Mem} {x0 x1 v : Int} (h0 : 0 ≤ x0) (h1 : x0 < M 2 4) (hx : x1 = 2) (e : v = M 12 x0.toNat) : v = eCx 2 M (3 * x0 + x1).toNat := by
  unfold eCx
  rw [if_pos (by omega), if_neg (by omega), if_neg (by omega), e, show (3 * x0 + x1).toNat / 3 = x0.toNat by omega]
theorem eR_at {M : Mem} {x0 x1 v : Int} (h0 : 0 ≤ x0) (h1 : x0 < M 132 4) (h2 : 0 ≤ x1) (h3 : x1 ≤ 2) (e : v = M 132 (150 + 3 * x0 + x1).toNat) : v = eRx 132 0 M (3 * x0 + x1).toNat := by
  unfold eRx
  rw [Nat.zero_add, if_pos (by omega), e, Nat.zero_add, show (150 + 3 * x0 + x1).toNat = 150 + (3 * x0 + x1).toNat by omega]
theorem rs_ev {M : Mem} (h : RlS M) : M 2 4 = M 132 4 ∧ ∀ j, eCx 2 M j = eRx 132 0 M j := by
  have h1 := h.1
  exact ⟨congrArg (fun X : Sx => X.2.2.2.1) h1, fun j => congrFun (congrArg (fun X : Sx => X.2.2.2.2) h1) j⟩
theorem rs_n {M : Mem} (h : RlS M) : M 2 3 = M 132 2 := congrArg (fun X : Sx => X.2.2.1) h.1
theorem rs_0 {M : Mem} (h2 : ∀ b, M 2 b = 0) (hr : ∀ b, M 132 b = 0) (h63 : M 63 0 = 0) (h83 : M 83 0 = 0) (h103 : M 103 0 = 0) (h135 : ∀ b, M 135 b = 0) : RlS M := by
  refine ⟨sx_e ((h2 _).trans (hr _).symm) ?_ ((h2 _).trans (hr _).symm) ((h2 _).trans (hr _).symm) ?_, ⟨h63.trans (h135 _).symm, h83.trans (h135 _).symm, h103.trans (h135 _).symm⟩, fun q => absurd (h63.symm.trans q) (by decide), fun q => absurd (h83.symm.trans q) (by decide), fun q => absurd (h103.symm.trans q) (by decide)⟩
  · funext p q
    rw [Bool.eq_iff_iff, aCx_t, aRx_t]
    constructor
    · intro h; exfalso; have h9 := h.1.1; rw [h2] at h9; omega
    · intro h; exfalso; have h9 := h.1.1; rw [hr] at h9; omega
  · funext j
    unfold eCx eRx
    rw [h2, hr, if_neg (by omega), if_neg (by omega)]
theorem ec_fr {ms : List Nat} {M M' : Mem} (f : Fr ms M M') (hm : No5 2 ms) (j : Nat) : eCx 2 M' j = eCx 2 M j := by
  have h1 := sC_no f hm
  exact congrFun (congrArg (fun X : Sx => X.2.2.2.2) h1) j
theorem tw_w {T : Tn} {M M1 M2 : Mem} (h : TwC T M M1) (c : Cp 2 2 M1 M2) : TwC T M M2 := ⟨fun q => c.1.trans (h.1 q), fun q => cp_tr (h.2 q) c⟩
end STT
