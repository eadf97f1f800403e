/-! ===== what the law keeps ===== -/
def RlF (M : Mem) : Prop := RlT M ∧ M 18 1 = M 131 14 ∧ M 18 2 = M 131 15
theorem rf_fr {ms : List Nat} {M M' : Mem} (f : Fr ms M M') (hm : 1 ∉ ms ∧ 136 ∉ ms ∧ 200 ∉ ms ∧ 231 ∉ ms) (hn : 18 ∉ ms ∧ 234 ∉ ms) (h : RlF M) : RlF M' := ⟨rl_fr f hm h.1, by rw [f.at hn.1, f.fk hn.2 (by decide)]; exact h.2.1, by rw [f.at hn.1, f.fk hn.2 (by decide)]; exact h.2.2⟩
theorem ans_ct {A : Tn} (h : 0 ≤ s_fl A.1 ∧ s_fl A.1 ≤ 4) : ansC A = ansT A := by
  unfold ansC ansT
  by_cases hq : s_fl A.1 = 0
  · rw [if_pos hq, if_pos hq]
  · rw [if_neg hq, if_neg hq]; exact wr_id ⟨by omega, by omega⟩
theorem fp_tc {A : Tn} (h : Im (s_fl A.1 = 0) (s_fp A.1 = 0)) : fpT A = fpC A := by
  unfold fpT fpC
  by_cases hq : s_fl A.1 = 0
  · rw [if_pos hq, if_pos hq, h hq]; rfl
  · rw [if_neg hq, if_neg hq]
