/-! ===== trays ===== -/
section TRAYS
def cutv (s v : Int) : Int := if s = 0 then v.bmod 256 else if s = 1 then v.bmod 65536 else if s = 2 then v.bmod 4294967296 else v
theorem cutv_0 {v : Int} : cutv 0 v = v.bmod 256 := by unfold cutv; rw [if_pos rfl]
theorem cutv_1 {v : Int} : cutv 1 v = v.bmod 65536 := by unfold cutv; rw [if_neg (by decide), if_pos rfl]
theorem cutv_2 {v : Int} : cutv 2 v = v.bmod 4294967296 := by unfold cutv; rw [if_neg (by decide), if_neg (by decide), if_pos rfl]
theorem cutv_n {s v : Int} (h0 : ¬ s = 0) (h1 : ¬ s = 1) (h2 : ¬ s = 2) : cutv s v = v := by unfold cutv; rw [if_neg h0, if_neg h1, if_neg h2]
theorem cut_b {s x w z : Int} (hs : s = 0) (e : z = ((Int32.ofInt w).toInt8.toInt32).toInt) (hw : Int32.ofInt w = Int32.ofInt x) : z = cutv s x := by
  subst hs; rw [e, hw, Int8.toInt_toInt32, Int32.toInt8_ofInt, Int8.toInt_ofInt, cutv_0] <;> rfl
theorem cut_s {s x w z : Int} (hs : s = 1) (e : z = ((Int32.ofInt w).toInt16.toInt32).toInt) (hw : Int32.ofInt w = Int32.ofInt x) : z = cutv s x := by
  subst hs; rw [e, hw, Int16.toInt_toInt32, Int32.toInt16_ofInt, Int16.toInt_ofInt, cutv_1] <;> rfl
theorem cut_i {s x w : Int} (hs : s = 2) (hr : In32 w) (hw : Int32.ofInt w = Int32.ofInt x) : w = cutv s x := by
  subst hs; rw [← o32 hr, hw, Int32.toInt_ofInt, cutv_2] <;> rfl
theorem cut_l {s x : Int} (h0 : ¬ s = 0) (h1 : ¬ s = 1) (h2 : ¬ s = 2) : x = cutv s x := (cutv_n h0 h1 h2).symm
theorem sh_56 {x w z : Int} (e1 : w = (Int64.ofInt x <<< (56 : Int64)).toInt) (e2 : z = (Int64.ofInt w >>> (56 : Int64)).toInt) : z = x.bmod 256 := by
  have hw : In64 w := by rw [e1]; exact r64 _
  have h1 : w = Int.bmod (((x % ((18446744073709551616 : Nat) : Int)).toNat * 72057594037927936 % 18446744073709551616 : Nat) : Int) 18446744073709551616 := by
    rw [e1, ← Int64.toInt_toBitVec, Int64.toBitVec_shiftLeft, show ((56 : Int64).toBitVec.smod 64) = 56#64 from by decide, BitVec.shiftLeft_eq', show (56#64).toNat = 56 from rfl, BitVec.toInt_eq_toNat_bmod, BitVec.toNat_shiftLeft, Nat.shiftLeft_eq, Int64.toBitVec_ofInt, BitVec.toNat_ofInt] <;> rfl
  have h2 : z = w / ((72057594037927936 : Nat) : Int) := by
    rw [e2, ← Int64.toInt_toBitVec, Int64.toBitVec_shiftRight, show ((56 : Int64).toBitVec.smod 64) = 56#64 from by decide, BitVec.toInt_sshiftRight', show (56#64).toNat = 56 from rfl, Int64.toInt_toBitVec, o64 hw, Int.shiftRight_eq_div_pow] <;> rfl
  rw [Int.bmod_def] at h1 ⊢
  split at h1 <;> split <;> omega
theorem sh_48 {x w z : Int} (e1 : w = (Int64.ofInt x <<< (48 : Int64)).toInt) (e2 : z = (Int64.ofInt w >>> (48 : Int64)).toInt) : z = x.bmod 65536 := by
  have hw : In64 w := by rw [e1]; exact r64 _
  have h1 : w = Int.bmod (((x % ((18446744073709551616 : Nat) : Int)).toNat * 281474976710656 % 18446744073709551616 : Nat) : Int) 18446744073709551616 := by
    rw [e1, ← Int64.toInt_toBitVec, Int64.toBitVec_shiftLeft, show ((48 : Int64).toBitVec.smod 64) = 48#64 from by decide, BitVec.shiftLeft_eq', show (48#64).toNat = 48 from rfl, BitVec.toInt_eq_toNat_bmod, BitVec.toNat_shiftLeft, Nat.shiftLeft_eq, Int64.toBitVec_ofInt, BitVec.toNat_ofInt] <;> rfl
  have h2 : z = w / ((281474976710656 : Nat) : Int) := by
    rw [e2, ← Int64.toInt_toBitVec, Int64.toBitVec_shiftRight, show ((48 : Int64).toBitVec.smod 64) = 48#64 from by decide, BitVec.toInt_sshiftRight', show (48#64).toNat = 48 from rfl, Int64.toInt_toBitVec, o64 hw, Int.shiftRight_eq_div_pow] <;> rfl
  rw [Int.bmod_def] at h1 ⊢
  split at h1 <;> split <;> omega
theorem sh_32 {x w z : Int} (e1 : w = (Int64.ofInt x <<< (32 : Int64)).toInt) (e2 : z = (Int64.ofInt w >>> (32 : Int64)).toInt) : z = x.bmod 4294967296 := by
  have hw : In64 w := by rw [e1]; exact r64 _
  have h1 : w = Int.bmod (((x % ((18446744073709551616 : Nat) : Int)).toNat * 4294967296 % 18446744073709551616 : Nat) : Int) 18446744073709551616 := by
    rw [e1, ← Int64.toInt_toBitVec, Int64.toBitVec_shiftLeft, show ((32 : Int64).toBitVec.smod 64) = 32#64 from by decide, BitVec.shiftLeft_eq', show (32#64).toNat = 32 from rfl, BitVec.toInt_eq_toNat_bmod, BitVec.toNat_shiftLeft, Nat.shiftLeft_eq, Int64.toBitVec_ofInt, BitVec.toNat_ofInt] <;> rfl
  have h2 : z = w / ((4294967296 : Nat) : Int) := by
    rw [e2, ← Int64.toInt_toBitVec, Int64.toBitVec_shiftRight, show ((32 : Int64).toBitVec.smod 64) = 32#64 from by decide, BitVec.toInt_sshiftRight', show (32#64).toNat = 32 from rfl, Int64.toInt_toBitVec, o64 hw, Int.shiftRight_eq_div_pow] <;> rfl
  rw [Int.bmod_def] at h1 ⊢
  split at h1 <;> split <;> omega
theorem sh_0 {x w z : Int} (hx : In64 x) (e1 : w = (Int64.ofInt x <<< (0 : Int64)).toInt) (e2 : z = (Int64.ofInt w >>> (0 : Int64)).toInt) : z = x := by
  rw [Int64.shiftLeft_zero, o64 hx] at e1
  rw [Int64.shiftRight_zero, e1, o64 hx] at e2
  exact e2
theorem cut_ref {s v1 ls x w z : Int} (h0 : 0 ≤ s) (h3 : s ≤ 3) (hx : In64 x) (e1 : v1 = (Int32.ofInt 8 <<< (Int32.ofInt s &&& 31)).toInt) (el : In32 (64 - v1) → ls = 64 - v1) (e2 : w = (Int64.ofInt x <<< ((Int32.ofInt ls).toInt64 &&& 63)).toInt) (e3 : z = (Int64.ofInt w >>> ((Int32.ofInt ls).toInt64 &&& 63)).toInt) : z = cutv s x := by
  rcases (show s = 0 ∨ s = 1 ∨ s = 2 ∨ s = 3 by omega) with rfl | rfl | rfl | rfl
  · have a1 : v1 = 8 := e1.trans (by decide)
    subst a1
    have a2 : ls = 56 := (el ⟨by omega, by omega⟩).trans (by decide)
    subst a2
    rw [show ((Int32.ofInt 56).toInt64 &&& 63) = (56 : Int64) from by decide] at e2 e3
    rw [cutv_0]; exact sh_56 e2 e3
  · have a1 : v1 = 16 := e1.trans (by decide)
    subst a1
    have a2 : ls = 48 := (el ⟨by omega, by omega⟩).trans (by decide)
    subst a2
    rw [show ((Int32.ofInt 48).toInt64 &&& 63) = (48 : Int64) from by decide] at e2 e3
    rw [cutv_1]; exact sh_48 e2 e3
  · have a1 : v1 = 32 := e1.trans (by decide)
    subst a1
    have a2 : ls = 32 := (el ⟨by omega, by omega⟩).trans (by decide)
    subst a2
    rw [show ((Int32.ofInt 32).toInt64 &&& 63) = (32 : Int64) from by decide] at e2 e3
    rw [cutv_2]; exact sh_32 e2 e3
  · have a1 : v1 = 64 := e1.trans (by decide)
    subst a1
    have a2 : ls = 0 := (el ⟨by omega, by omega⟩).trans (by decide)
    subst a2
    rw [show ((Int32.ofInt 0).toInt64 &&& 63) = (0 : Int64) from by decide] at e2 e3
    rw [cutv_n (by decide) (by decide) (by decide)]; exact sh_0 hx e2 e3
def tmC (M : Mem) (t : Int) : Int := if t = 0 then M 123 0 else if t = 1 then M 125 0 else if t = 2 then M 127 0 else M 129 0
def tsC (M : Mem) (t : Int) : Int := if t = 0 then M 123 1 else if t = 1 then M 125 1 else if t = 2 then M 127 1 else M 129 1
theorem ytC_0 {M : Mem} {t : Int} (h : t = 0) : tmC M t = M 123 0 ∧ tsC M t = M 123 1 := by subst h; unfold tmC tsC; rw [if_pos rfl, if_pos rfl]; exact ⟨rfl, rfl⟩
theorem ytC_1 {M : Mem} {t : Int} (h : t = 1) : tmC M t = M 125 0 ∧ tsC M t = M 125 1 := by subst h; unfold tmC tsC; rw [if_neg (by decide), if_pos rfl, if_neg (by decide), if_pos rfl]; exact ⟨rfl, rfl⟩
theorem ytC_2 {M : Mem} {t : Int} (h : t = 2) : tmC M t = M 127 0 ∧ tsC M t = M 127 1 := by subst h; unfold tmC tsC; rw [if_neg (by decide), if_neg (by decide), if_pos rfl, if_neg (by decide), if_neg (by decide), if_pos rfl]; exact ⟨rfl, rfl⟩
theorem ytC_3 {M : Mem} {t : Int} (h : t = 3) : tmC M t = M 129 0 ∧ tsC M t = M 129 1 := by subst h; unfold tmC tsC; rw [if_neg (by decide), if_neg (by decide), if_neg (by decide), if_neg (by decide), if_neg (by decide), if_neg (by decide)]; exact ⟨rfl, rfl⟩
def tmR (M : Mem) (t : Int) : Int := if M 148 t.toNat = -1 then -1 else M 149 t.toNat
def tsR (M : Mem) (t : Int) : Int := M 148 t.toNat
theorem tmR_n {M : Mem} {t : Int} (h : M 148 t.toNat = -1) : tmR M t = -1 := if_pos h
theorem tmR_p {M : Mem} {t : Int} (h : ¬ M 148 t.toNat = -1) : tmR M t = M 149 t.toNat := if_neg h
def Wr (t pl v m s k o : Int) : Prop := (t < 0 ∨ 3 < t) ∧ k = 1 ∨ 0 ≤ t ∧ t ≤ 3 ∧ (m = -1 ∧ k = 2 ∨ 0 ≤ m ∧ (pl < 0 ∨ m ≤ pl) ∧ k = 3 ∨ 0 ≤ pl ∧ pl < m ∧ k = 0 ∧ o = cutv s v)
def Rt (M : Mem) : Prop := ∀ t : Int, 0 ≤ t → t ≤ 3 → tmC M t = tmR M t ∧ (¬ tmC M t = -1 → tsC M t = tsR M t)
theorem ytC_eq {M M' : Mem} (h : ∀ a b : Nat, a = 123 ∨ a = 125 ∨ a = 127 ∨ a = 129 → M' a b = M a b) (t : Int) : tmC M' t = tmC M t ∧ tsC M' t = tsC M t := by
  unfold tmC tsC
  rw [h 123 _ (by omega), h 123 _ (by omega), h 125 _ (by omega), h 125 _ (by omega), h 127 _ (by omega), h 127 _ (by omega), h 129 _ (by omega), h 129 _ (by omega)]
  exact ⟨rfl, rfl⟩
theorem ytR_eq {M M' : Mem} (h8 : ∀ b : Nat, M' 148 b = M 148 b) (h9 : ∀ b : Nat, M' 149 b = M 149 b) (t : Int) : tmR M' t = tmR M t ∧ tsR M' t = tsR M t := by
  unfold tmR tsR
  rw [h8, h9]
  exact ⟨rfl, rfl⟩
theorem rt_fr {ms : List Nat} {M M' : Mem} (f : Fr ms M M') (h : 123 ∉ ms ∧ 125 ∉ ms ∧ 127 ∉ ms ∧ 129 ∉ ms ∧ 148 ∉ ms ∧ 149 ∉ ms) (hR : Rt M) : Rt M' := by
  intro t h0 h1
  have a := ytC_eq (M := M) (M' := M') (fun a b q => by rcases q with q | q | q | q <;> subst q <;> first | exact f.at h.1 | exact f.at h.2.1 | exact f.at h.2.2.1 | exact f.at h.2.2.2.1) t
  have b := ytR_eq (M := M) (M' := M') (fun b => f.at h.2.2.2.2.1) (fun b => f.at h.2.2.2.2.2) t
  rw [a.1, a.2, b.1, b.2]; exact hR t h0 h1
theorem wr_same {M M1 : Mem} {t pl v k o k' o' : Int} (hR : Rt M) (x1 : Wr t pl v (tmC M t) (tsC M t) k o) (x2 : Wr t pl v (tmR M1 t) (tsR M1 t) k' o') (h8 : ∀ b : Nat, M1 148 b = M 148 b) (h9 : ∀ b : Nat, M1 149 b = M 149 b) : k' = k ∧ (k = 0 → o = o') := by
  have b := ytR_eq h8 h9 t
  rw [b.1, b.2] at x2
  by_cases hr : 0 ≤ t ∧ t ≤ 3
  · have q := hR t hr.1 hr.2
    by_cases hm : tmC M t = -1
    · rw [← q.1] at x2
      unfold Wr at x1 x2
      omega
    · rw [← q.1, ← q.2 hm] at x2
      unfold Wr at x1 x2
      generalize cutv (tsC M t) v = cc at x1 x2
      omega
  · unfold Wr at x1 x2
    omega
def okT (t s m : Int) : Prop := 0 ≤ t ∧ t ≤ 3 ∧ 0 ≤ s ∧ s ≤ 3 ∧ 0 ≤ m ∧ m ≤ 30
def TyC (M M' : Mem) (t s m : Int) : Prop := okT t s m ∧ ∀ u : Int, 0 ≤ u → u ≤ 3 → (u = t → tmC M' u = m ∧ tsC M' u = s) ∧ (¬ u = t → tmC M' u = tmC M u ∧ tsC M' u = tsC M u)
theorem tyC_i {M M' : Mem} {t s m : Int} (hr : 0 ≤ t ∧ t ≤ 3 ∧ 0 ≤ s ∧ s ≤ 3 ∧ 0 ≤ m ∧ m ≤ 30) (h0 : t = 0 → M' 123 0 = m ∧ M' 123 1 = s) (g0 : ¬ t = 0 → M' 123 0 = M 123 0 ∧ M' 123 1 = M 123 1) (h1 : t = 1 → M' 125 0 = m ∧ M' 125 1 = s) (g1 : ¬ t = 1 → M' 125 0 = M 125 0 ∧ M' 125 1 = M 125 1) (h2 : t = 2 → M' 127 0 = m ∧ M' 127 1 = s) (g2 : ¬ t = 2 → M' 127 0 = M 127 0 ∧ M' 127 1 = M 127 1) (h3 : t = 3 → M' 129 0 = m ∧ M' 129 1 = s) (g3 : ¬ t = 3 → M' 129 0 = M 129 0 ∧ M' 129 1 = M 129 1) : TyC M M' t s m := by
  refine ⟨hr, fun u a b => ?_⟩
  rcases (show u = 0 ∨ u = 1 ∨ u = 2 ∨ u = 3 by omega) with e | e | e | e
  · rw [(ytC_0 (M := M') e).1, (ytC_0 (M := M') e).2, (ytC_0 (M := M) e).1, (ytC_0 (M := M) e).2]; exact ⟨fun q => h0 (q.symm.trans e), fun q => g0 (fun r => q (e.trans r.symm))⟩
  · rw [(ytC_1 (M := M') e).1, (ytC_1 (M := M') e).2, (ytC_1 (M := M) e).1, (ytC_1 (M := M) e).2]; exact ⟨fun q => h1 (q.symm.trans e), fun q => g1 (fun r => q (e.trans r.symm))⟩
  · rw [(ytC_2 (M := M') e).1, (ytC_2 (M := M') e).2, (ytC_2 (M := M) e).1, (ytC_2 (M := M) e).2]; exact ⟨fun q => h2 (q.symm.trans e), fun q => g2 (fun r => q (e.trans r.symm))⟩
  · rw [(ytC_3 (M := M') e).1, (ytC_3 (M := M') e).2, (ytC_3 (M := M) e).1, (ytC_3 (M := M) e).2]; exact ⟨fun q => h3 (q.symm.trans e), fun q => g3 (fun r => q (e.trans r.symm))⟩
def TyR (M M' : Mem) (t s m : Int) : Prop := okT t s m ∧ (∀ b : Nat, M' 148 b = if b = t.toNat then s else M 148 b) ∧ (∀ b : Nat, M' 149 b = if b = t.toNat then m else M 149 b)
def SaR (M M' : Mem) : Prop := (∀ b : Nat, M' 148 b = M 148 b) ∧ (∀ b : Nat, M' 149 b = M 149 b)
theorem st_if {M M' M0 : Mem} {k j : Nat} {v : Int} (s : M' k j = v) (f : ∀ a b, ¬ (a = k ∧ b = j) → M' a b = M a b) (b : Nat) (h : M k b = M0 k b) : M' k b = if b = j then v else M0 k b := by
  by_cases hb : b = j
  · subst hb; rw [if_pos rfl]; exact s
  · rw [if_neg hb, f k b (fun q => hb q.2)]; exact h
theorem rt_tray {M M1 M2 : Mem} {ms1 ms2 : List Nat} {k t s m th : Int} (hR : Rt M) (x1 : k = 0 ∧ TyC M M1 t s m ∨ ¬ k = 0 ∧ ¬ okT t s m ∧ M1 = M) (f1 : Fr ms1 M M1) (n1 : 148 ∉ ms1 ∧ 149 ∉ ms1) (x2 : th = 0 ∧ TyR M1 M2 t s m ∨ ¬ th = 0 ∧ ¬ okT t s m ∧ SaR M1 M2) (f2 : Fr ms2 M1 M2) (n2 : 123 ∉ ms2 ∧ 125 ∉ ms2 ∧ 127 ∉ ms2 ∧ 129 ∉ ms2) : Rt M2 := by
  intro u h0 h1
  have a := ytC_eq (M := M1) (M' := M2) (fun a b q => by rcases q with q | q | q | q <;> subst q <;> first | exact f2.at n2.1 | exact f2.at n2.2.1 | exact f2.at n2.2.2.1 | exact f2.at n2.2.2.2) u
  have b := ytR_eq (M := M) (M' := M1) (fun b => f1.at n1.1) (fun b => f1.at n1.2) u
  have q := hR u h0 h1
  rcases x1 with ⟨_, o1, x1⟩ | ⟨_, o1, e1⟩
  · rcases x2 with ⟨_, _, y8, y9⟩ | ⟨_, o2, _⟩
    · have z := x1 u h0 h1
      rw [a.1, a.2]
      by_cases hu : u = t
      · subst hu
        have c8 := y8 u.toNat
        have c9 := y9 u.toNat
        rw [if_pos rfl] at c8 c9
        rw [(z.1 rfl).1, (z.1 rfl).2, tmR_p (M := M2) (by rw [c8]; have := o1.2.2.1; omega)]
        exact ⟨c9.symm, fun _ => c8.symm⟩
      · have hn : ¬ u.toNat = t.toNat := fun r => hu (by have := o1.1; omega)
        have c8 := y8 u.toNat
        have c9 := y9 u.toNat
        rw [if_neg hn] at c8 c9
        rw [(z.2 hu).1, (z.2 hu).2]
        have g : tmR M2 u = tmR M1 u ∧ tsR M2 u = tsR M1 u := by unfold tmR tsR; rw [c8, c9]; exact ⟨rfl, rfl⟩
        rw [g.1, g.2, b.1, b.2]; exact q
    · exact absurd o1 o2
  · rcases x2 with ⟨_, o2, _⟩ | ⟨_, _, y8, y9⟩
    · exact absurd o2 o1
    · have g := ytR_eq y8 y9 u
      rw [a.1, a.2, g.1, g.2, b.1, b.2, e1]; exact q
end TRAYS
/-! ===== pour ===== -/
section POUR
def Po (t m n k z : Int) : Prop := (t < 0 ∨ 3 < t) ∧ k = 1 ∨ 0 ≤ t ∧ t ≤ 3 ∧ (m = -1 ∧ k = 2 ∨ 0 ≤ m ∧ k = 0 ∧ (z = m ∧ m ≤ n ∨ z = n ∧ n ≤ m))
theorem po_same {M M1 : Mem} {t n n' k o k' o' : Int} (hR : Rt M) (hn : n' = n) (x1 : Po t (tmC M t) n k o) (x2 : Po t (tmR M1 t) n' k' o') (h8 : ∀ b : Nat, M1 148 b = M 148 b) (h9 : ∀ b : Nat, M1 149 b = M 149 b) : k' = k ∧ (k = 0 → o = o') := by
  have b := (ytR_eq h8 h9 t).1
  rw [b] at x2
  by_cases hr : 0 ≤ t ∧ t ≤ 3
  · have q := (hR t hr.1 hr.2).1
    rw [← q] at x2
    unfold Po at x1 x2
    omega
  · unfold Po at x1 x2
    omega
theorem rt_0 {M : Mem} (hc : ∀ a b : Nat, a = 123 ∨ a = 125 ∨ a = 127 ∨ a = 129 → b = 0 → M a b = -1) (hr : ∀ b : Nat, b < 4 → M 148 b = -1) : Rt M := by
  intro t h0 h1
  have e1 : tmC M t = -1 := by
    unfold tmC
    rw [hc 123 0 (by omega) rfl, hc 125 0 (by omega) rfl, hc 127 0 (by omega) rfl, hc 129 0 (by omega) rfl]
    split
    · rfl
    · split
      · rfl
      · split <;> rfl
  have e2 : tmR M t = -1 := tmR_n (hr t.toNat (by omega))
  exact ⟨e1.trans e2.symm, fun h => absurd e1 h⟩
end POUR
