theorem dL_law_1697 : decode cL_law 1697 = .ok (.iconst 1, 1) := by decide +kernel
theorem dL_law_1698 : decode cL_law 1698 = .ok (.ireturn, 1) := by decide +kernel
theorem dL_law_23 : decode cL_law 23 = .ok (.iload 4, 2) := by decide +kernel
theorem dL_law_25 : decode cL_law 25 = .ok (.aload_n 0, 1) := by decide +kernel
theorem dL_law_26 : decode cL_law 26 = .ok (.arraylength, 1) := by decide +kernel
theorem dL_law_27 : decode cL_law 27 = .ok (.bipush 6, 2) := by decide +kernel
theorem dL_law_29 : decode cL_law 29 = .ok (.isub, 1) := by decide +kernel
theorem dL_law_30 : decode cL_law 30 = .ok (.if_icmp .gt 1667, 3) := by decide +kernel
theorem dL_law_33 : decode cL_law 33 = .ok (.aload_n 0, 1) := by decide +kernel
theorem dL_law_34 : decode cL_law 34 = .ok (.iload 4, 2) := by decide +kernel
theorem dL_law_36 : decode cL_law 36 = .ok (.iaload, 1) := by decide +kernel
theorem dL_law_37 : decode cL_law 37 = .ok (.bipush 63, 2) := by decide +kernel
theorem dL_law_39 : decode cL_law 39 = .ok (.iand, 1) := by decide +kernel
theorem dL_law_40 : decode cL_law 40 = .ok (.tableswitch 1651 0 41 #[184, 257, 285, 310, 350, 390, 430, 498, 511, 524, 564, 601, 638, 666, 694, 734, 762, 802, 858, 871, 884, 924, 952, 968, 996, 1024, 1037, 1065, 1105, 1161, 1229, 1281, 1321, 1334, 1347, 1375, 1415, 1464, 1548, 1576, 1601, 1626], 184) := by decide +kernel
set_option maxRecDepth 4000 in
theorem law_loop {p : Program} {l : Launch} {e : Env} {s : State} {m : MethodId} {below : List Frame} {meth : Method} {c : Code} {b L : Nat} {xs : Nat → Int32} {D : va_G} {cy : Nat → ClassId} {ad : Nat → Nat} {A : Nat → Prop} (hlT : l.stackTraces = false) (F : FxM D cy ad p m c cL_law 8 s #[Value.ref b] RL A) (hX : va_X b L xs s s.heap) (hbl : b < s.heap.size) (hbA : ¬ A b) (hL : L ≤ 3072) (hr : meth.sig.returnType = ret) (hlk : meth.locks = false) (hAq : ∀ q, A q → s.heap.size ≤ q) : ∀ (n : Nat) (y : Int) (nk sk : Nat) (M : Mem), Iw M → (RlD M ∧ RlG M) → 0 ≤ y → y ≤ (L : Int) → (L : Int) - y < (n : Int) → nk ≤ 4000 + y.toNat → sk ≤ 40000 + 6 * y.toNat → Z D cy ad p l e room_1 s m #[Value.ref b] below meth c A 8 nk sk (lw_Z below #[Value.ref b] s) 23 [(4, ii y), (0, .ref b), (1, .ref (ad 0)), (2, .ref (ad 131)), (3, .ref (ad 151))] [] M := by
  intro n
  induction n with
  | zero => intro y nk sk M hJ hR h0 h1 hn h2 h3; exfalso; omega
  | succ n ih =>
  intro y nk sk M hJ hR h0 h1 hn h2 h3
  refine z_iload F dL_law_23 (q := 0) rfl ?_
  refine z_aload_n F dL_law_25 rfl (q := 1) rfl ?_
  refine z_slenB F hX hbl hbA dL_law_26 ?_
  refine z_bipush F dL_law_27 (by decide +kernel) ?_
  refine z_isub F dL_law_29 ?_
  refine z_icmp_gt (tgt := 1697) F dL_law_30 (by decide +kernel) (by omega) (by omega) (fun c1 => ?_) (fun c1 => ?_)
  · refine z_iconst F dL_law_1697 ?_
    exact z_lret F hr hlk hAq (by omega) (by omega) dL_law_1698
  · refine z_aload_n F dL_law_33 rfl (q := 1) rfl ?_
    refine z_iload F dL_law_34 (q := 0) rfl ?_
    refine z_sld F hX hbl hbA hL (by omega) (by omega) dL_law_36 (fun v ev rv => ?_)
    refine z_bipush F dL_law_37 (by decide +kernel) ?_
    refine z_iand_r F dL_law_39 (by omega) (by omega) (fun v1 e1 a1 b1 => ?_)
    rcases (show v1 = 0 ∨ v1 = 1 ∨ v1 = 2 ∨ v1 = 3 ∨ v1 = 4 ∨ v1 = 5 ∨ v1 = 6 ∨ v1 = 7 ∨ v1 = 8 ∨ v1 = 9 ∨ v1 = 10 ∨ v1 = 11 ∨ v1 = 12 ∨ v1 = 13 ∨ v1 = 14 ∨ v1 = 15 ∨ v1 = 16 ∨ v1 = 17 ∨ v1 = 18 ∨ v1 = 19 ∨ v1 = 20 ∨ v1 = 21 ∨ v1 = 22 ∨ v1 = 23 ∨ v1 = 24 ∨ v1 = 25 ∨ v1 = 26 ∨ v1 = 27 ∨ v1 = 28 ∨ v1 = 29 ∨ v1 = 30 ∨ v1 = 31 ∨ v1 = 32 ∨ v1 = 33 ∨ v1 = 34 ∨ v1 = 35 ∨ v1 = 36 ∨ v1 = 37 ∨ v1 = 38 ∨ v1 = 39 ∨ v1 = 40 ∨ v1 = 41 ∨ 41 < v1 by omega) with c2 | c2 | c2 | c2 | c2 | c2 | c2 | c2 | c2 | c2 | c2 | c2 | c2 | c2 | c2 | c2 | c2 | c2 | c2 | c2 | c2 | c2 | c2 | c2 | c2 | c2 | c2 | c2 | c2 | c2 | c2 | c2 | c2 | c2 | c2 | c2 | c2 | c2 | c2 | c2 | c2 | c2 | c2
    · refine z_tabIn (tgt := 224) (off := 184) F dL_law_40 (by omega) (by omega) (by omega) (by rw [c2]; rfl) (by decide +kernel) ?_
      exact law_c0 hlT F hX hbl hbA hL y h0 (by omega) nk sk (by omega) M hJ hR (fun M' hJ' hR' => ih (y + 6) (nk + 6) (sk + 36) M' hJ' hR' (by omega) (by omega) (by omega) (by omega) (by omega))
    · refine z_tabIn (tgt := 297) (off := 257) F dL_law_40 (by omega) (by omega) (by omega) (by rw [c2]; rfl) (by decide +kernel) ?_
      exact law_c1 hlT F hX hbl hbA hL y h0 (by omega) nk sk (by omega) M hJ hR (fun M' hJ' hR' => ih (y + 6) (nk + 6) (sk + 36) M' hJ' hR' (by omega) (by omega) (by omega) (by omega) (by omega))
    · refine z_tabIn (tgt := 325) (off := 285) F dL_law_40 (by omega) (by omega) (by omega) (by rw [c2]; rfl) (by decide +kernel) ?_
      exact law_c2 hlT F hX hbl hbA hL y h0 (by omega) nk sk (by omega) M hJ hR (fun M' hJ' hR' => ih (y + 6) (nk + 6) (sk + 36) M' hJ' hR' (by omega) (by omega) (by omega) (by omega) (by omega))
    · refine z_tabIn (tgt := 350) (off := 310) F dL_law_40 (by omega) (by omega) (by omega) (by rw [c2]; rfl) (by decide +kernel) ?_
      exact law_c3 hlT F hX hbl hbA hL y h0 (by omega) nk sk (by omega) M hJ hR (fun M' hJ' hR' => ih (y + 6) (nk + 6) (sk + 36) M' hJ' hR' (by omega) (by omega) (by omega) (by omega) (by omega))
    · refine z_tabIn (tgt := 390) (off := 350) F dL_law_40 (by omega) (by omega) (by omega) (by rw [c2]; rfl) (by decide +kernel) ?_
      exact law_c4 hlT F hX hbl hbA hL y h0 (by omega) nk sk (by omega) M hJ hR (fun M' hJ' hR' => ih (y + 6) (nk + 6) (sk + 36) M' hJ' hR' (by omega) (by omega) (by omega) (by omega) (by omega))
    · refine z_tabIn (tgt := 430) (off := 390) F dL_law_40 (by omega) (by omega) (by omega) (by rw [c2]; rfl) (by decide +kernel) ?_
      exact law_c5 hlT F hX hbl hbA hL y h0 (by omega) nk sk (by omega) M hJ hR (fun M' hJ' hR' => ih (y + 6) (nk + 6) (sk + 36) M' hJ' hR' (by omega) (by omega) (by omega) (by omega) (by omega))
    · refine z_tabIn (tgt := 470) (off := 430) F dL_law_40 (by omega) (by omega) (by omega) (by rw [c2]; rfl) (by decide +kernel) ?_
      exact law_c6 hlT F hX hbl hbA hL y h0 (by omega) nk sk (by omega) M hJ hR (fun M' hJ' hR' => ih (y + 6) (nk + 6) (sk + 36) M' hJ' hR' (by omega) (by omega) (by omega) (by omega) (by omega))
    · refine z_tabIn (tgt := 538) (off := 498) F dL_law_40 (by omega) (by omega) (by omega) (by rw [c2]; rfl) (by decide +kernel) ?_
      exact law_c7 hlT F hX hbl hbA hL y h0 (by omega) nk sk (by omega) M hJ hR (fun M' hJ' hR' => ih (y + 6) (nk + 6) (sk + 36) M' hJ' hR' (by omega) (by omega) (by omega) (by omega) (by omega))
    · refine z_tabIn (tgt := 551) (off := 511) F dL_law_40 (by omega) (by omega) (by omega) (by rw [c2]; rfl) (by decide +kernel) ?_
      exact law_c8 hlT F hX hbl hbA hL y h0 (by omega) nk sk (by omega) M hJ hR (fun M' hJ' hR' => ih (y + 6) (nk + 6) (sk + 36) M' hJ' hR' (by omega) (by omega) (by omega) (by omega) (by omega))
    · refine z_tabIn (tgt := 564) (off := 524) F dL_law_40 (by omega) (by omega) (by omega) (by rw [c2]; rfl) (by decide +kernel) ?_
      exact law_c9 hlT F hX hbl hbA hL y h0 (by omega) nk sk (by omega) M hJ hR (fun M' hJ' hR' => ih (y + 6) (nk + 6) (sk + 36) M' hJ' hR' (by omega) (by omega) (by omega) (by omega) (by omega))
    · refine z_tabIn (tgt := 604) (off := 564) F dL_law_40 (by omega) (by omega) (by omega) (by rw [c2]; rfl) (by decide +kernel) ?_
      exact law_c10 hlT F hX hbl hbA hL y h0 (by omega) nk sk (by omega) M hJ hR (fun M' hJ' hR' => ih (y + 6) (nk + 6) (sk + 36) M' hJ' hR' (by omega) (by omega) (by omega) (by omega) (by omega))
    · refine z_tabIn (tgt := 641) (off := 601) F dL_law_40 (by omega) (by omega) (by omega) (by rw [c2]; rfl) (by decide +kernel) ?_
      exact law_c11 hlT F hX hbl hbA hL y h0 (by omega) nk sk (by omega) M hJ hR (fun M' hJ' hR' => ih (y + 6) (nk + 6) (sk + 36) M' hJ' hR' (by omega) (by omega) (by omega) (by omega) (by omega))
    · refine z_tabIn (tgt := 678) (off := 638) F dL_law_40 (by omega) (by omega) (by omega) (by rw [c2]; rfl) (by decide +kernel) ?_
      exact law_c12 hlT F hX hbl hbA hL y h0 (by omega) nk sk (by omega) M hJ hR (fun M' hJ' hR' => ih (y + 6) (nk + 6) (sk + 36) M' hJ' hR' (by omega) (by omega) (by omega) (by omega) (by omega))
    · refine z_tabIn (tgt := 706) (off := 666) F dL_law_40 (by omega) (by omega) (by omega) (by rw [c2]; rfl) (by decide +kernel) ?_
      exact law_c13 hlT F hX hbl hbA hL y h0 (by omega) nk sk (by omega) M hJ hR (fun M' hJ' hR' => ih (y + 6) (nk + 6) (sk + 36) M' hJ' hR' (by omega) (by omega) (by omega) (by omega) (by omega))
    · refine z_tabIn (tgt := 734) (off := 694) F dL_law_40 (by omega) (by omega) (by omega) (by rw [c2]; rfl) (by decide +kernel) ?_
      exact law_c14 hlT F hX hbl hbA hL y h0 (by omega) nk sk (by omega) M hJ hR (fun M' hJ' hR' => ih (y + 6) (nk + 6) (sk + 36) M' hJ' hR' (by omega) (by omega) (by omega) (by omega) (by omega))
    · refine z_tabIn (tgt := 774) (off := 734) F dL_law_40 (by omega) (by omega) (by omega) (by rw [c2]; rfl) (by decide +kernel) ?_
      exact law_c15 hlT F hX hbl hbA hL y h0 (by omega) nk sk (by omega) M hJ hR (fun M' hJ' hR' => ih (y + 6) (nk + 6) (sk + 36) M' hJ' hR' (by omega) (by omega) (by omega) (by omega) (by omega))
    · refine z_tabIn (tgt := 802) (off := 762) F dL_law_40 (by omega) (by omega) (by omega) (by rw [c2]; rfl) (by decide +kernel) ?_
      exact law_c16 hlT F hX hbl hbA hL y h0 (by omega) nk sk (by omega) M hJ hR (fun M' hJ' hR' => ih (y + 6) (nk + 6) (sk + 36) M' hJ' hR' (by omega) (by omega) (by omega) (by omega) (by omega))
    · refine z_tabIn (tgt := 842) (off := 802) F dL_law_40 (by omega) (by omega) (by omega) (by rw [c2]; rfl) (by decide +kernel) ?_
      exact law_c17 hlT F hX hbl hbA hL y h0 (by omega) nk sk (by omega) M hJ hR (fun M' hJ' hR' => ih (y + 6) (nk + 6) (sk + 36) M' hJ' hR' (by omega) (by omega) (by omega) (by omega) (by omega))
    · refine z_tabIn (tgt := 898) (off := 858) F dL_law_40 (by omega) (by omega) (by omega) (by rw [c2]; rfl) (by decide +kernel) ?_
      exact law_c18 hlT F hX hbl hbA hL y h0 (by omega) nk sk (by omega) M hJ hR (fun M' hJ' hR' => ih (y + 6) (nk + 6) (sk + 36) M' hJ' hR' (by omega) (by omega) (by omega) (by omega) (by omega))
    · refine z_tabIn (tgt := 911) (off := 871) F dL_law_40 (by omega) (by omega) (by omega) (by rw [c2]; rfl) (by decide +kernel) ?_
      exact law_c19 hlT F hX hbl hbA hL y h0 (by omega) nk sk (by omega) M hJ hR (fun M' hJ' hR' => ih (y + 6) (nk + 6) (sk + 36) M' hJ' hR' (by omega) (by omega) (by omega) (by omega) (by omega))
    · refine z_tabIn (tgt := 924) (off := 884) F dL_law_40 (by omega) (by omega) (by omega) (by rw [c2]; rfl) (by decide +kernel) ?_
      exact law_c20 hlT F hX hbl hbA hL y h0 (by omega) nk sk (by omega) M hJ hR (fun M' hJ' hR' => ih (y + 6) (nk + 6) (sk + 36) M' hJ' hR' (by omega) (by omega) (by omega) (by omega) (by omega))
    · refine z_tabIn (tgt := 964) (off := 924) F dL_law_40 (by omega) (by omega) (by omega) (by rw [c2]; rfl) (by decide +kernel) ?_
      exact law_c21 hlT F hX hbl hbA hL y h0 (by omega) nk sk (by omega) M hJ hR (fun M' hJ' hR' => ih (y + 6) (nk + 6) (sk + 36) M' hJ' hR' (by omega) (by omega) (by omega) (by omega) (by omega))
    · refine z_tabIn (tgt := 992) (off := 952) F dL_law_40 (by omega) (by omega) (by omega) (by rw [c2]; rfl) (by decide +kernel) ?_
      exact law_c22 hlT F hX hbl hbA hL y h0 (by omega) nk sk (by omega) M hJ hR (fun M' hJ' hR' => ih (y + 6) (nk + 6) (sk + 36) M' hJ' hR' (by omega) (by omega) (by omega) (by omega) (by omega))
    · refine z_tabIn (tgt := 1008) (off := 968) F dL_law_40 (by omega) (by omega) (by omega) (by rw [c2]; rfl) (by decide +kernel) ?_
      exact law_c23 hlT F hX hbl hbA hL y h0 (by omega) nk sk (by omega) M hJ hR (fun M' hJ' hR' => ih (y + 6) (nk + 6) (sk + 36) M' hJ' hR' (by omega) (by omega) (by omega) (by omega) (by omega))
    · refine z_tabIn (tgt := 1036) (off := 996) F dL_law_40 (by omega) (by omega) (by omega) (by rw [c2]; rfl) (by decide +kernel) ?_
      exact law_c24 hlT F hX hbl hbA hL y h0 (by omega) nk sk (by omega) M hJ hR (fun M' hJ' hR' => ih (y + 6) (nk + 6) (sk + 36) M' hJ' hR' (by omega) (by omega) (by omega) (by omega) (by omega))
    · refine z_tabIn (tgt := 1064) (off := 1024) F dL_law_40 (by omega) (by omega) (by omega) (by rw [c2]; rfl) (by decide +kernel) ?_
      exact law_c25 hlT F hX hbl hbA hL y h0 (by omega) nk sk (by omega) M hJ hR (fun M' hJ' hR' => ih (y + 6) (nk + 6) (sk + 36) M' hJ' hR' (by omega) (by omega) (by omega) (by omega) (by omega))
    · refine z_tabIn (tgt := 1077) (off := 1037) F dL_law_40 (by omega) (by omega) (by omega) (by rw [c2]; rfl) (by decide +kernel) ?_
      exact law_c26 hlT F hX hbl hbA hL y h0 (by omega) nk sk (by omega) M hJ hR (fun M' hJ' hR' => ih (y + 6) (nk + 6) (sk + 36) M' hJ' hR' (by omega) (by omega) (by omega) (by omega) (by omega))
    · refine z_tabIn (tgt := 1105) (off := 1065) F dL_law_40 (by omega) (by omega) (by omega) (by rw [c2]; rfl) (by decide +kernel) ?_
      exact law_c27 hlT F hX hbl hbA hL y h0 (by omega) nk sk (by omega) M hJ hR (fun M' hJ' hR' => ih (y + 6) (nk + 6) (sk + 36) M' hJ' hR' (by omega) (by omega) (by omega) (by omega) (by omega))
    · refine z_tabIn (tgt := 1145) (off := 1105) F dL_law_40 (by omega) (by omega) (by omega) (by rw [c2]; rfl) (by decide +kernel) ?_
      exact law_c28 hlT F hX hbl hbA hL y h0 (by omega) nk sk (by omega) M hJ hR (fun M' hJ' hR' => ih (y + 6) (nk + 6) (sk + 36) M' hJ' hR' (by omega) (by omega) (by omega) (by omega) (by omega))
    · refine z_tabIn (tgt := 1201) (off := 1161) F dL_law_40 (by omega) (by omega) (by omega) (by rw [c2]; rfl) (by decide +kernel) ?_
      exact law_c29 hlT F hX hbl hbA hL y h0 (by omega) nk sk (by omega) M hJ hR (fun M' hJ' hR' => ih (y + 6) (nk + 6) (sk + 36) M' hJ' hR' (by omega) (by omega) (by omega) (by omega) (by omega))
    · refine z_tabIn (tgt := 1269) (off := 1229) F dL_law_40 (by omega) (by omega) (by omega) (by rw [c2]; rfl) (by decide +kernel) ?_
      exact law_c30 hlT F hX hbl hbA hL y h0 (by omega) nk sk (by omega) M hJ hR (fun M' hJ' hR' => ih (y + 6) (nk + 6) (sk + 36) M' hJ' hR' (by omega) (by omega) (by omega) (by omega) (by omega))
    · refine z_tabIn (tgt := 1321) (off := 1281) F dL_law_40 (by omega) (by omega) (by omega) (by rw [c2]; rfl) (by decide +kernel) ?_
      exact law_c31 hlT F hX hbl hbA hL y h0 (by omega) nk sk (by omega) M hJ hR (fun M' hJ' hR' => ih (y + 6) (nk + 6) (sk + 36) M' hJ' hR' (by omega) (by omega) (by omega) (by omega) (by omega))
    · refine z_tabIn (tgt := 1361) (off := 1321) F dL_law_40 (by omega) (by omega) (by omega) (by rw [c2]; rfl) (by decide +kernel) ?_
      exact law_c32 hlT F hX hbl hbA hL y h0 (by omega) nk sk (by omega) M hJ hR (fun M' hJ' hR' => ih (y + 6) (nk + 6) (sk + 36) M' hJ' hR' (by omega) (by omega) (by omega) (by omega) (by omega))
    · refine z_tabIn (tgt := 1374) (off := 1334) F dL_law_40 (by omega) (by omega) (by omega) (by rw [c2]; rfl) (by decide +kernel) ?_
      exact law_c33 hlT F hX hbl hbA hL y h0 (by omega) nk sk (by omega) M hJ hR (fun M' hJ' hR' => ih (y + 6) (nk + 6) (sk + 36) M' hJ' hR' (by omega) (by omega) (by omega) (by omega) (by omega))
    · refine z_tabIn (tgt := 1387) (off := 1347) F dL_law_40 (by omega) (by omega) (by omega) (by rw [c2]; rfl) (by decide +kernel) ?_
      exact law_c34 hlT F hX hbl hbA hL y h0 (by omega) nk sk (by omega) M hJ hR (fun M' hJ' hR' => ih (y + 6) (nk + 6) (sk + 36) M' hJ' hR' (by omega) (by omega) (by omega) (by omega) (by omega))
    · refine z_tabIn (tgt := 1415) (off := 1375) F dL_law_40 (by omega) (by omega) (by omega) (by rw [c2]; rfl) (by decide +kernel) ?_
      exact law_c35 hlT F hX hbl hbA hL y h0 (by omega) nk sk (by omega) M hJ hR (fun M' hJ' hR' => ih (y + 6) (nk + 6) (sk + 36) M' hJ' hR' (by omega) (by omega) (by omega) (by omega) (by omega))
    · refine z_tabIn (tgt := 1455) (off := 1415) F dL_law_40 (by omega) (by omega) (by omega) (by rw [c2]; rfl) (by decide +kernel) ?_
      exact law_c36 hlT F hX hbl hbA hL y h0 (by omega) nk sk (by omega) M hJ hR (fun M' hJ' hR' => ih (y + 6) (nk + 6) (sk + 36) M' hJ' hR' (by omega) (by omega) (by omega) (by omega) (by omega))
    · refine z_tabIn (tgt := 1504) (off := 1464) F dL_law_40 (by omega) (by omega) (by omega) (by rw [c2]; rfl) (by decide +kernel) ?_
      exact law_c37 hlT F hX hbl hbA hL y h0 (by omega) nk sk (by omega) M hJ hR (fun M' hJ' hR' => ih (y + 6) (nk + 6) (sk + 36) M' hJ' hR' (by omega) (by omega) (by omega) (by omega) (by omega))
    · refine z_tabIn (tgt := 1588) (off := 1548) F dL_law_40 (by omega) (by omega) (by omega) (by rw [c2]; rfl) (by decide +kernel) ?_
      exact law_c38 hlT F hX hbl hbA hL y h0 (by omega) nk sk (by omega) M hJ hR (fun M' hJ' hR' => ih (y + 6) (nk + 6) (sk + 36) M' hJ' hR' (by omega) (by omega) (by omega) (by omega) (by omega))
    · refine z_tabIn (tgt := 1616) (off := 1576) F dL_law_40 (by omega) (by omega) (by omega) (by rw [c2]; rfl) (by decide +kernel) ?_
      exact law_c39 hlT F hX hbl hbA hL y h0 (by omega) nk sk (by omega) M hJ hR (fun M' hJ' hR' => ih (y + 6) (nk + 6) (sk + 36) M' hJ' hR' (by omega) (by omega) (by omega) (by omega) (by omega))
    · refine z_tabIn (tgt := 1641) (off := 1601) F dL_law_40 (by omega) (by omega) (by omega) (by rw [c2]; rfl) (by decide +kernel) ?_
      exact law_c40 hlT F hX hbl hbA hL y h0 (by omega) nk sk (by omega) M hJ hR (fun M' hJ' hR' => ih (y + 6) (nk + 6) (sk + 36) M' hJ' hR' (by omega) (by omega) (by omega) (by omega) (by omega))
    · refine z_tabIn (tgt := 1666) (off := 1626) F dL_law_40 (by omega) (by omega) (by omega) (by rw [c2]; rfl) (by decide +kernel) ?_
      exact law_c41 hlT F hX hbl hbA hL y h0 (by omega) nk sk (by omega) M hJ hR (fun M' hJ' hR' => ih (y + 6) (nk + 6) (sk + 36) M' hJ' hR' (by omega) (by omega) (by omega) (by omega) (by omega))
    · refine z_tabOut (tgt := 1691) F dL_law_40 (by omega) (by omega) (by decide +kernel) ?_
      refine z_iincN F dL_law_1691 (q := 0) rfl (by decide) (fun w e => ?_)
      subst e
      refine z_eq (ls' := [(4, ii (y + 6)), (0, .ref b), (1, .ref (ad 0)), (2, .ref (ad 131)), (3, .ref (ad 151))]) rfl rfl rfl ?_
      refine z_goto (tgt := 23) F dL_law_1694 (by decide +kernel) ?_
      exact ih (y + 6) nk sk M hJ hR (by omega) (by omega) (by omega) (by omega) (by omega)
