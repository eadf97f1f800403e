theorem dL_law_2433 : decode cL_law 2433 = .ok (.aload_n 1, 1) := by decide +kernel
theorem dL_law_2434 : decode cL_law 2434 = .ok (.aload_n 0, 1) := by decide +kernel
theorem dL_law_2435 : decode cL_law 2435 = .ok (.iload 4, 2) := by decide +kernel
theorem dL_law_2437 : decode cL_law 2437 = .ok (.iconst 1, 1) := by decide +kernel
theorem dL_law_2438 : decode cL_law 2438 = .ok (.iadd, 1) := by decide +kernel
theorem dL_law_2439 : decode cL_law 2439 = .ok (.iaload, 1) := by decide +kernel
theorem dL_law_2440 : decode cL_law 2440 = .ok (.invokevirtual 274, 3) := by decide +kernel
theorem dL_law_2443 : decode cL_law 2443 = .ok (.aload_n 2, 1) := by decide +kernel
theorem dL_law_2444 : decode cL_law 2444 = .ok (.aload_n 0, 1) := by decide +kernel
theorem dL_law_2445 : decode cL_law 2445 = .ok (.iload 4, 2) := by decide +kernel
theorem dL_law_2447 : decode cL_law 2447 = .ok (.iconst 1, 1) := by decide +kernel
theorem dL_law_2448 : decode cL_law 2448 = .ok (.iadd, 1) := by decide +kernel
theorem dL_law_2449 : decode cL_law 2449 = .ok (.iaload, 1) := by decide +kernel
theorem dL_law_2450 : decode cL_law 2450 = .ok (.invokevirtual 277, 3) := by decide +kernel
theorem dL_law_2453 : decode cL_law 2453 = .ok (.if_icmp .eq 5, 3) := by decide +kernel
set_option maxHeartbeats 4000000 in
set_option maxRecDepth 100000 in
theorem law_c41 {p : Program} {l : Launch} {e : Env} {s : State} {m : MethodId} {below : List Frame} {meth : Method} {c : Code} {b : Nat} {xs : Nat → Int32} {D : va_G} {cy : Nat → ClassId} {A : Nat → Prop} (hlT : l.stackTraces = false) (F : Fx D cy p m c cL_law 8 s #[Value.ref b] lw_tbl RL A) (hr : meth.sig.returnType = ret) (hlk : meth.locks = false) (hX : va_X b 6 xs s s.heap) (hbl : b < s.heap.size) (hbA : ¬ A b) (hAq : ∀ q, A q → s.heap.size ≤ q) {H : Heap} {locs : List Loc} {ls : Array Slot} (n1900 n1000 n1001 n1017 n1034 n1039 n1041 n1042 n1043 n1044 n1048 n1056 n1057 n1002 n1003 n1004 n1005 n1006 n1007 n1008 n1009 n1010 n1011 n1012 n1013 n1014 n1015 n1016 n1035 n1036 n1037 n1038 n1040 n3900 n3000 n3001 n3002 n3003 n3004 n3005 n3006 n3007 n3008 n3009 n3010 n3011 n3012 n3013 n3014 n3015 n3016 n3017 n3018 n5000 : Nat) (hP : va_P D vwCl [(n1900, .inr (11, [.ref n1000, .int 0, .ref n1001, .ref n1017, .ref n1034, .ref n1039, .ref n1041, .ref n1042, .ref n1043, .ref n1044, .ref n1048, .ref n1056, .ref n1057, .int 0])), (n1001, .inr (9, [.int 0, .int 0, .int 0, .int 0, .int 0, .ref n1002, .ref n1003, .ref n1004, .ref n1005, .ref n1006, .ref n1007, .ref n1008, .int 0, .ref n1009, .ref n1010, .ref n1011, .ref n1012, .ref n1013])), (n1013, .inr (2, [.ref n1014, .int 0, .int 1, .ref n1015, .ref n1016])), (n1034, .inr (7, [.ref n1001, .ref n1035, .ref n1036, .ref n1037, .ref n1038, .int 0, .int 0])), (n1039, .inr (4, [.int 0, .int 0, .ref n1040])), (n3900, .inr (12, [.ref n3000, .ref n3001, .ref n3002, .ref n3003, .int 0, .ref n3004, .int 0, .int 0, .int 0, .int 0, .int 0, .int 0, .int 0, .int 0, .int 0, .int (-1), .int 0, .ref n3005, .ref n3006, .int 0, .ref n3007, .ref n3008, .int 0, .int 0, .int 0, .int 0, .int 0, .int 0, .int 0, .ref n3009, .ref n3010, .int 0, .int 0, .ref n3011, .ref n3012, .int 0, .int 0, .ref n3013, .ref n3014, .ref n3015, .int 0, .ref n3016, .ref n3017, .ref n3018])), (n3000, .inl (cy 1, 1300, .inl (fun _ => 0)))] H) (hD : va_D A [(n1900, .inr (11, [.ref n1000, .int 0, .ref n1001, .ref n1017, .ref n1034, .ref n1039, .ref n1041, .ref n1042, .ref n1043, .ref n1044, .ref n1048, .ref n1056, .ref n1057, .int 0])), (n1001, .inr (9, [.int 0, .int 0, .int 0, .int 0, .int 0, .ref n1002, .ref n1003, .ref n1004, .ref n1005, .ref n1006, .ref n1007, .ref n1008, .int 0, .ref n1009, .ref n1010, .ref n1011, .ref n1012, .ref n1013])), (n1013, .inr (2, [.ref n1014, .int 0, .int 1, .ref n1015, .ref n1016])), (n1034, .inr (7, [.ref n1001, .ref n1035, .ref n1036, .ref n1037, .ref n1038, .int 0, .int 0])), (n1039, .inr (4, [.int 0, .int 0, .ref n1040])), (n3900, .inr (12, [.ref n3000, .ref n3001, .ref n3002, .ref n3003, .int 0, .ref n3004, .int 0, .int 0, .int 0, .int 0, .int 0, .int 0, .int 0, .int 0, .int 0, .int (-1), .int 0, .ref n3005, .ref n3006, .int 0, .ref n3007, .ref n3008, .int 0, .int 0, .int 0, .int 0, .int 0, .int 0, .int 0, .ref n3009, .ref n3010, .int 0, .int 0, .ref n3011, .ref n3012, .int 0, .int 0, .ref n3013, .ref n3014, .ref n3015, .int 0, .ref n3016, .ref n3017, .ref n3018])), (n3000, .inl (cy 1, 1300, .inl (fun _ => 0)))]) (hS : va_S A s.heap H locs) (hl : lv_has ls 8 [(4, .int 0), (3, .ref n5000), (2, .ref n3900), (1, .ref n1900), (0, .ref b)]) : W p l e room_1 s m #[Value.ref b] below meth c H locs 152 18765 (lw_Z below #[Value.ref b] s) (F0 m 2433 ls []) := by
  obtain ⟨⟨hx, hb, hml, hown, hts⟩, hK, hG, hZ, hA⟩ := id F
  obtain ⟨z1, ez1⟩ : ∃ z, xs 1 = z := ⟨_, rfl⟩
  obtain ⟨z2, ez2⟩ : ∃ z, xs 2 = z := ⟨_, rfl⟩
  obtain ⟨z3, ez3⟩ : ∃ z, xs 3 = z := ⟨_, rfl⟩
  obtain ⟨z4, ez4⟩ : ∃ z, xs 4 = z := ⟨_, rfl⟩
  obtain ⟨z5, ez5⟩ : ∃ z, xs 5 = z := ⟨_, rfl⟩
  refine lv_aload_n hx hb dL_law_2433 rfl (lv_at hl 3 rfl) ?_
  refine lv_aload_n hx hb dL_law_2434 rfl (lv_at hl 4 rfl) ?_
  refine lv_iload hx hb dL_law_2435 (lv_at hl 0 rfl) ?_
  refine lv_iconst (v := 1) hx hb dL_law_2437 (by decide +kernel) ?_
  refine lv_iadd hx hb dL_law_2438 ?_
  refine top_i (v := 1) (by decide +kernel) ?_
  refine va_sld hx hb hX hbl hbA hS (i := 1) (vin (by decide +kernel)) dL_law_2439 ?_
  refine top_i (v := z1) ez1 ?_
  refine call_i (av := [.ref n1900, .int z1]) F hP hD hS [(n1900, .inr (11, [.ref n1000, .int 0, .ref n1001, .ref n1017, .ref n1034, .ref n1039, .ref n1041, .ref n1042, .ref n1043, .ref n1044, .ref n1048, .ref n1056, .ref n1057, .int 0])), (n1001, .inr (9, [.int 0, .int 0, .int 0, .int 0, .int 0, .ref n1002, .ref n1003, .ref n1004, .ref n1005, .ref n1006, .ref n1007, .ref n1008, .int 0, .ref n1009, .ref n1010, .ref n1011, .ref n1012, .ref n1013])), (n1013, .inr (2, [.ref n1014, .int 0, .int 1, .ref n1015, .ref n1016])), (n1034, .inr (7, [.ref n1001, .ref n1035, .ref n1036, .ref n1037, .ref n1038, .int 0, .int 0])), (n1039, .inr (4, [.int 0, .int 0, .ref n1040]))] [(n3900, .inr (12, [.ref n3000, .ref n3001, .ref n3002, .ref n3003, .int 0, .ref n3004, .int 0, .int 0, .int 0, .int 0, .int 0, .int 0, .int 0, .int 0, .int 0, .int (-1), .int 0, .ref n3005, .ref n3006, .int 0, .ref n3007, .ref n3008, .int 0, .int 0, .int 0, .int 0, .int 0, .int 0, .int 0, .ref n3009, .ref n3010, .int 0, .int 0, .ref n3011, .ref n3012, .int 0, .int 0, .ref n3013, .ref n3014, .ref n3015, .int 0, .ref n3016, .ref n3017, .ref n3018])), (n3000, .inl (cy 1, 1300, .inl (fun _ => 0)))] [0, 1, 2, 3, 4] [5, 6] rfl rfl (by decide +kernel) (fun pr => va_runV (As := [.int z1]) (rest := []) ⟨hx, hb, hml, hown, hts⟩ (k39_X11_count l D cy H.size n1900 z1 n1001 n1013 n1034 n1039 n1000 n1017 n1041 n1042 n1043 n1044 n1048 n1056 n1057 n1002 n1003 n1004 n1005 n1006 n1007 n1008 n1009 n1010 n1011 n1012 n1014 n1015 n1016 n1035 n1036 n1037 n1038 n1040) (cwV 1 hts gw_X11_count rfl rfl rfl (by decide +kernel) ⟨(by decide +kernel), (by decide +kernel)⟩) ⟨pr.1, va_recv hK hP (ci := 11) (q0 := 0) rfl rfl, pr.2⟩ rfl rfl hl.1 rfl (lv_room (Nat.le_of_ble_eq_true rfl)) dL_law_2440 ⟨(by decide +kernel), (by decide +kernel)⟩) (fun r u H locs hw hP hD hS => ?_)
  rcases hw with ⟨c800001, c800002, c800003, c800004, c800005, c800006, c800007, c800008, c800009, c800010, c800011, rfl, -⟩ | ⟨c800012, rfl, -⟩ | ⟨c800013, rfl, -⟩ | ⟨c800014, rfl, -⟩ | ⟨c800015, rfl, -⟩ | ⟨c800016, rfl, -⟩ | ⟨c800017, rfl, -⟩ | ⟨c800018, rfl, -⟩ | ⟨c800019, rfl, -⟩ | ⟨c800020, rfl, -⟩ | ⟨c800021, rfl, -⟩ | ⟨c800022, rfl, -⟩
  · have hP := left_P hP
    have hD := left_D hD
    have hP : va_P D vwCl [(n3900, .inr (12, [.ref n3000, .ref n3001, .ref n3002, .ref n3003, .int 0, .ref n3004, .int 0, .int 0, .int 0, .int 0, .int 0, .int 0, .int 0, .int 0, .int 0, .int (-1), .int 0, .ref n3005, .ref n3006, .int 0, .ref n3007, .ref n3008, .int 0, .int 0, .int 0, .int 0, .int 0, .int 0, .int 0, .ref n3009, .ref n3010, .int 0, .int 0, .ref n3011, .ref n3012, .int 0, .int 0, .ref n3013, .ref n3014, .ref n3015, .int 0, .ref n3016, .ref n3017, .ref n3018])), (n3000, .inl (cy 1, 1300, .inl (fun _ => 0)))] H := hP
    have hD : va_D A [(n3900, .inr (12, [.ref n3000, .ref n3001, .ref n3002, .ref n3003, .int 0, .ref n3004, .int 0, .int 0, .int 0, .int 0, .int 0, .int 0, .int 0, .int 0, .int 0, .int (-1), .int 0, .ref n3005, .ref n3006, .int 0, .ref n3007, .ref n3008, .int 0, .int 0, .int 0, .int 0, .int 0, .int 0, .int 0, .ref n3009, .ref n3010, .int 0, .int 0, .ref n3011, .ref n3012, .int 0, .int 0, .ref n3013, .ref n3014, .ref n3015, .int 0, .ref n3016, .ref n3017, .ref n3018])), (n3000, .inl (cy 1, 1300, .inl (fun _ => 0)))] := hD
    refine lv_aload_n hx hb dL_law_2443 rfl (lv_at hl 2 rfl) ?_
    refine lv_aload_n hx hb dL_law_2444 rfl (lv_at hl 4 rfl) ?_
    refine lv_iload hx hb dL_law_2445 (lv_at hl 0 rfl) ?_
    refine lv_iconst (v := 1) hx hb dL_law_2447 (by decide +kernel) ?_
    refine lv_iadd hx hb dL_law_2448 ?_
    refine top_i (v := 1) (by decide +kernel) ?_
    refine va_sld hx hb hX hbl hbA hS (i := 1) (vin (by decide +kernel)) dL_law_2449 ?_
    refine top_i (v := z1) ez1 ?_
    refine call_i (av := [.ref n3900, .int z1]) F hP hD hS [(n3900, .inr (12, [.ref n3000, .ref n3001, .ref n3002, .ref n3003, .int 0, .ref n3004, .int 0, .int 0, .int 0, .int 0, .int 0, .int 0, .int 0, .int 0, .int 0, .int (-1), .int 0, .ref n3005, .ref n3006, .int 0, .ref n3007, .ref n3008, .int 0, .int 0, .int 0, .int 0, .int 0, .int 0, .int 0, .ref n3009, .ref n3010, .int 0, .int 0, .ref n3011, .ref n3012, .int 0, .int 0, .ref n3013, .ref n3014, .ref n3015, .int 0, .ref n3016, .ref n3017, .ref n3018])), (n3000, .inl (cy 1, 1300, .inl (fun _ => 0)))] [] [0, 1] [] rfl rfl (by decide +kernel) (fun pr => va_runV (As := [.int z1]) (rest := [.int (-1)]) ⟨hx, hb, hml, hown, hts⟩ (k203_X12_count l D cy H.size n3900 z1 n3000 n3001 n3002 n3003 n3004 n3005 n3006 n3007 n3008 n3009 n3010 n3011 n3012 n3013 n3014 n3015 n3016 n3017 n3018) (cwV 1 hts gw_X12_count rfl rfl rfl (by decide +kernel) ⟨(by decide +kernel), (by decide +kernel)⟩) ⟨pr.1, va_recv hK hP (ci := 12) (q0 := 0) rfl rfl, pr.2⟩ rfl rfl hl.1 rfl (lv_room (Nat.le_of_ble_eq_true rfl)) dL_law_2450 ⟨(by decide +kernel), (by decide +kernel)⟩) (fun r u H locs hw hP hD hS => ?_)
    rcases hw with ⟨c800023, c800024, c800025, c800026, c800027, c800028, c800029, c800030, c800031, c800032, c800033, rfl, rfl⟩ | ⟨c800034, rfl, rfl⟩ | ⟨c800035, rfl, rfl⟩ | ⟨c800036, rfl, rfl⟩ | ⟨c800037, rfl, rfl⟩ | ⟨c800038, rfl, rfl⟩ | ⟨c800039, rfl, rfl⟩ | ⟨c800040, rfl, rfl⟩ | ⟨c800041, rfl, rfl⟩ | ⟨c800042, rfl, rfl⟩ | ⟨c800043, rfl, rfl⟩ | ⟨c800044, rfl, rfl⟩
    · have hP : va_P D vwCl [(n3900, .inr (12, [.ref n3000, .ref n3001, .ref n3002, .ref n3003, .int 0, .ref n3004, .int 0, .int 0, .int 0, .int 0, .int 0, .int 0, .int 0, .int 0, .int 0, .int (-1), .int 0, .ref n3005, .ref n3006, .int 0, .ref n3007, .ref n3008, .int 0, .int 0, .int 0, .int 0, .int 0, .int 0, .int 0, .ref n3009, .ref n3010, .int 0, .int 0, .ref n3011, .ref n3012, .int 0, .int 0, .ref n3013, .ref n3014, .ref n3015, .int 0, .ref n3016, .ref n3017, .ref n3018])), (n3000, .inl (cy 1, 1300, .inl (fun _ => 0)))] H := hP
      have hD : va_D A [(n3900, .inr (12, [.ref n3000, .ref n3001, .ref n3002, .ref n3003, .int 0, .ref n3004, .int 0, .int 0, .int 0, .int 0, .int 0, .int 0, .int 0, .int 0, .int 0, .int (-1), .int 0, .ref n3005, .ref n3006, .int 0, .ref n3007, .ref n3008, .int 0, .int 0, .int 0, .int 0, .int 0, .int 0, .int 0, .ref n3009, .ref n3010, .int 0, .int 0, .ref n3011, .ref n3012, .int 0, .int 0, .ref n3013, .ref n3014, .ref n3015, .int 0, .ref n3016, .ref n3017, .ref n3018])), (n3000, .inl (cy 1, 1300, .inl (fun _ => 0)))] := hD
      refine lv_icmp_eq (tgt := 2458) hx hb dL_law_2453 (by decide +kernel) (fun _ => ?_) (fun h => absurd (by decide +kernel) h)
      refine lv_iinc (v := 6) (lv' := [(4, .int 6), (3, .ref n5000), (2, .ref n3900), (1, .ref n1900), (0, .ref b)]) hx hb dL_law_2458 hl (k := 0) rfl (by decide) (by decide +kernel) rfl (fun ls hl => ?_)
      refine lv_goto (tgt := 23) hx hb dL_law_2461 (by decide +kernel) ?_
      refine lv_iload hx hb dL_law_23 (lv_at hl 0 rfl) ?_
      refine lv_aload_n hx hb dL_law_25 rfl (lv_at hl 4 rfl) ?_
      refine va_slen hx hb hX hbl hbA hS dL_law_26 ?_
      refine top_i (v := 6) rfl ?_
      refine lv_bipush (v := 6) hx hb dL_law_27 (by decide +kernel) ?_
      refine lv_isub hx hb dL_law_29 ?_
      refine top_i (v := 0) (by decide +kernel) ?_
      refine lv_icmp_gt (tgt := 2464) hx hb dL_law_30 (by decide +kernel) (fun _ => ?_) (fun h => absurd (by decide +kernel) h)
      refine lv_iconst (v := 1) hx hb dL_law_2464 (by decide +kernel) ?_
      refine va_forget (fun q hq => hAq _ (hS.2.2 q hq)) ?_
      refine W.widen (k := 600002) (n := 7302232) (by decide +kernel) (by decide +kernel) ?_
      exact lw_ret hx hb hr hlk dL_law_2465
    · exact absurd c800034 c800001
    · exact absurd c800035 c800002
    · exact absurd c800036 c800003
    · exact absurd c800037 c800004
    · exact absurd c800038 c800005
    · exact absurd c800039 c800006
    · exact absurd c800040 c800007
    · exact absurd c800041 c800008
    · exact absurd c800042 c800009
    · exact absurd c800043 c800010
    · exact absurd c800044 c800011
  · have hP := left_P hP
    have hD := left_D hD
    subst c800012
    have hP : va_P D vwCl [(n3900, .inr (12, [.ref n3000, .ref n3001, .ref n3002, .ref n3003, .int 0, .ref n3004, .int 0, .int 0, .int 0, .int 0, .int 0, .int 0, .int 0, .int 0, .int 0, .int (-1), .int 0, .ref n3005, .ref n3006, .int 0, .ref n3007, .ref n3008, .int 0, .int 0, .int 0, .int 0, .int 0, .int 0, .int 0, .ref n3009, .ref n3010, .int 0, .int 0, .ref n3011, .ref n3012, .int 0, .int 0, .ref n3013, .ref n3014, .ref n3015, .int 0, .ref n3016, .ref n3017, .ref n3018])), (n3000, .inl (cy 1, 1300, .inl (fun _ => 0)))] H := hP
    have hD : va_D A [(n3900, .inr (12, [.ref n3000, .ref n3001, .ref n3002, .ref n3003, .int 0, .ref n3004, .int 0, .int 0, .int 0, .int 0, .int 0, .int 0, .int 0, .int 0, .int 0, .int (-1), .int 0, .ref n3005, .ref n3006, .int 0, .ref n3007, .ref n3008, .int 0, .int 0, .int 0, .int 0, .int 0, .int 0, .int 0, .ref n3009, .ref n3010, .int 0, .int 0, .ref n3011, .ref n3012, .int 0, .int 0, .ref n3013, .ref n3014, .ref n3015, .int 0, .ref n3016, .ref n3017, .ref n3018])), (n3000, .inl (cy 1, 1300, .inl (fun _ => 0)))] := hD
    refine lv_aload_n hx hb dL_law_2443 rfl (lv_at hl 2 rfl) ?_
    refine lv_aload_n hx hb dL_law_2444 rfl (lv_at hl 4 rfl) ?_
    refine lv_iload hx hb dL_law_2445 (lv_at hl 0 rfl) ?_
    refine lv_iconst (v := 1) hx hb dL_law_2447 (by decide +kernel) ?_
    refine lv_iadd hx hb dL_law_2448 ?_
    refine top_i (v := 1) (by decide +kernel) ?_
    refine va_sld hx hb hX hbl hbA hS (i := 1) (vin (by decide +kernel)) dL_law_2449 ?_
    refine top_i (v := 0) ez1 ?_
    refine call_i (av := [.ref n3900, .int 0]) F hP hD hS [(n3900, .inr (12, [.ref n3000, .ref n3001, .ref n3002, .ref n3003, .int 0, .ref n3004, .int 0, .int 0, .int 0, .int 0, .int 0, .int 0, .int 0, .int 0, .int 0, .int (-1), .int 0, .ref n3005, .ref n3006, .int 0, .ref n3007, .ref n3008, .int 0, .int 0, .int 0, .int 0, .int 0, .int 0, .int 0, .ref n3009, .ref n3010, .int 0, .int 0, .ref n3011, .ref n3012, .int 0, .int 0, .ref n3013, .ref n3014, .ref n3015, .int 0, .ref n3016, .ref n3017, .ref n3018])), (n3000, .inl (cy 1, 1300, .inl (fun _ => 0)))] [] [0, 1] [] rfl rfl (by decide +kernel) (fun pr => va_runV (As := [.int 0]) (rest := [.int 0]) ⟨hx, hb, hml, hown, hts⟩ (k203_X12_count l D cy H.size n3900 0 n3000 n3001 n3002 n3003 n3004 n3005 n3006 n3007 n3008 n3009 n3010 n3011 n3012 n3013 n3014 n3015 n3016 n3017 n3018) (cwV 1 hts gw_X12_count rfl rfl rfl (by decide +kernel) ⟨(by decide +kernel), (by decide +kernel)⟩) ⟨pr.1, va_recv hK hP (ci := 12) (q0 := 0) rfl rfl, pr.2⟩ rfl rfl hl.1 rfl (lv_room (Nat.le_of_ble_eq_true rfl)) dL_law_2450 ⟨(by decide +kernel), (by decide +kernel)⟩) (fun r u H locs hw hP hD hS => ?_)
    rcases hw with ⟨c800047, c800048, c800049, c800050, c800051, c800052, c800053, c800054, c800055, c800056, c800057, rfl, rfl⟩ | ⟨c800058, rfl, rfl⟩ | ⟨c800059, rfl, rfl⟩ | ⟨c800060, rfl, rfl⟩ | ⟨c800061, rfl, rfl⟩ | ⟨c800062, rfl, rfl⟩ | ⟨c800063, rfl, rfl⟩ | ⟨c800064, rfl, rfl⟩ | ⟨c800065, rfl, rfl⟩ | ⟨c800066, rfl, rfl⟩ | ⟨c800067, rfl, rfl⟩ | ⟨c800068, rfl, rfl⟩
    · exact absurd (by decide +kernel) c800047
    · have hP : va_P D vwCl [(n3900, .inr (12, [.ref n3000, .ref n3001, .ref n3002, .ref n3003, .int 0, .ref n3004, .int 0, .int 0, .int 0, .int 0, .int 0, .int 0, .int 0, .int 0, .int 0, .int (-1), .int 0, .ref n3005, .ref n3006, .int 0, .ref n3007, .ref n3008, .int 0, .int 0, .int 0, .int 0, .int 0, .int 0, .int 0, .ref n3009, .ref n3010, .int 0, .int 0, .ref n3011, .ref n3012, .int 0, .int 0, .ref n3013, .ref n3014, .ref n3015, .int 0, .ref n3016, .ref n3017, .ref n3018])), (n3000, .inl (cy 1, 1300, .inl (fun _ => 0)))] H := hP
      have hD : va_D A [(n3900, .inr (12, [.ref n3000, .ref n3001, .ref n3002, .ref n3003, .int 0, .ref n3004, .int 0, .int 0, .int 0, .int 0, .int 0, .int 0, .int 0, .int 0, .int 0, .int (-1), .int 0, .ref n3005, .ref n3006, .int 0, .ref n3007, .ref n3008, .int 0, .int 0, .int 0, .int 0, .int 0, .int 0, .int 0, .ref n3009, .ref n3010, .int 0, .int 0, .ref n3011, .ref n3012, .int 0, .int 0, .ref n3013, .ref n3014, .ref n3015, .int 0, .ref n3016, .ref n3017, .ref n3018])), (n3000, .inl (cy 1, 1300, .inl (fun _ => 0)))] := hD
      refine lv_icmp_eq (tgt := 2458) hx hb dL_law_2453 (by decide +kernel) (fun _ => ?_) (fun h => absurd (by decide +kernel) h)
      refine lv_iinc (v := 6) (lv' := [(4, .int 6), (3, .ref n5000), (2, .ref n3900), (1, .ref n1900), (0, .ref b)]) hx hb dL_law_2458 hl (k := 0) rfl (by decide) (by decide +kernel) rfl (fun ls hl => ?_)
      refine lv_goto (tgt := 23) hx hb dL_law_2461 (by decide +kernel) ?_
      refine lv_iload hx hb dL_law_23 (lv_at hl 0 rfl) ?_
      refine lv_aload_n hx hb dL_law_25 rfl (lv_at hl 4 rfl) ?_
      refine va_slen hx hb hX hbl hbA hS dL_law_26 ?_
      refine top_i (v := 6) rfl ?_
      refine lv_bipush (v := 6) hx hb dL_law_27 (by decide +kernel) ?_
      refine lv_isub hx hb dL_law_29 ?_
      refine top_i (v := 0) (by decide +kernel) ?_
      refine lv_icmp_gt (tgt := 2464) hx hb dL_law_30 (by decide +kernel) (fun _ => ?_) (fun h => absurd (by decide +kernel) h)
      refine lv_iconst (v := 1) hx hb dL_law_2464 (by decide +kernel) ?_
      refine va_forget (fun q hq => hAq _ (hS.2.2 q hq)) ?_
      refine W.widen (k := 600002) (n := 7302232) (by decide +kernel) (by decide +kernel) ?_
      exact lw_ret hx hb hr hlk dL_law_2465
    · exact absurd c800059 (by decide +kernel)
    · exact absurd c800060 (by decide +kernel)
    · exact absurd c800061 (by decide +kernel)
    · exact absurd c800062 (by decide +kernel)
    · exact absurd c800063 (by decide +kernel)
    · exact absurd c800064 (by decide +kernel)
    · exact absurd c800065 (by decide +kernel)
    · exact absurd c800066 (by decide +kernel)
    · exact absurd c800067 (by decide +kernel)
    · exact absurd c800068 (by decide +kernel)
  · have hP := left_P hP
    have hD := left_D hD
    subst c800013
    have hP : va_P D vwCl [(n3900, .inr (12, [.ref n3000, .ref n3001, .ref n3002, .ref n3003, .int 0, .ref n3004, .int 0, .int 0, .int 0, .int 0, .int 0, .int 0, .int 0, .int 0, .int 0, .int (-1), .int 0, .ref n3005, .ref n3006, .int 0, .ref n3007, .ref n3008, .int 0, .int 0, .int 0, .int 0, .int 0, .int 0, .int 0, .ref n3009, .ref n3010, .int 0, .int 0, .ref n3011, .ref n3012, .int 0, .int 0, .ref n3013, .ref n3014, .ref n3015, .int 0, .ref n3016, .ref n3017, .ref n3018])), (n3000, .inl (cy 1, 1300, .inl (fun _ => 0)))] H := hP
    have hD : va_D A [(n3900, .inr (12, [.ref n3000, .ref n3001, .ref n3002, .ref n3003, .int 0, .ref n3004, .int 0, .int 0, .int 0, .int 0, .int 0, .int 0, .int 0, .int 0, .int 0, .int (-1), .int 0, .ref n3005, .ref n3006, .int 0, .ref n3007, .ref n3008, .int 0, .int 0, .int 0, .int 0, .int 0, .int 0, .int 0, .ref n3009, .ref n3010, .int 0, .int 0, .ref n3011, .ref n3012, .int 0, .int 0, .ref n3013, .ref n3014, .ref n3015, .int 0, .ref n3016, .ref n3017, .ref n3018])), (n3000, .inl (cy 1, 1300, .inl (fun _ => 0)))] := hD
    refine lv_aload_n hx hb dL_law_2443 rfl (lv_at hl 2 rfl) ?_
    refine lv_aload_n hx hb dL_law_2444 rfl (lv_at hl 4 rfl) ?_
    refine lv_iload hx hb dL_law_2445 (lv_at hl 0 rfl) ?_
    refine lv_iconst (v := 1) hx hb dL_law_2447 (by decide +kernel) ?_
    refine lv_iadd hx hb dL_law_2448 ?_
    refine top_i (v := 1) (by decide +kernel) ?_
    refine va_sld hx hb hX hbl hbA hS (i := 1) (vin (by decide +kernel)) dL_law_2449 ?_
    refine top_i (v := 1) ez1 ?_
    refine call_i (av := [.ref n3900, .int 1]) F hP hD hS [(n3900, .inr (12, [.ref n3000, .ref n3001, .ref n3002, .ref n3003, .int 0, .ref n3004, .int 0, .int 0, .int 0, .int 0, .int 0, .int 0, .int 0, .int 0, .int 0, .int (-1), .int 0, .ref n3005, .ref n3006, .int 0, .ref n3007, .ref n3008, .int 0, .int 0, .int 0, .int 0, .int 0, .int 0, .int 0, .ref n3009, .ref n3010, .int 0, .int 0, .ref n3011, .ref n3012, .int 0, .int 0, .ref n3013, .ref n3014, .ref n3015, .int 0, .ref n3016, .ref n3017, .ref n3018])), (n3000, .inl (cy 1, 1300, .inl (fun _ => 0)))] [] [0, 1] [] rfl rfl (by decide +kernel) (fun pr => va_runV (As := [.int 1]) (rest := [.int 0]) ⟨hx, hb, hml, hown, hts⟩ (k203_X12_count l D cy H.size n3900 1 n3000 n3001 n3002 n3003 n3004 n3005 n3006 n3007 n3008 n3009 n3010 n3011 n3012 n3013 n3014 n3015 n3016 n3017 n3018) (cwV 1 hts gw_X12_count rfl rfl rfl (by decide +kernel) ⟨(by decide +kernel), (by decide +kernel)⟩) ⟨pr.1, va_recv hK hP (ci := 12) (q0 := 0) rfl rfl, pr.2⟩ rfl rfl hl.1 rfl (lv_room (Nat.le_of_ble_eq_true rfl)) dL_law_2450 ⟨(by decide +kernel), (by decide +kernel)⟩) (fun r u H locs hw hP hD hS => ?_)
    rcases hw with ⟨c800071, c800072, c800073, c800074, c800075, c800076, c800077, c800078, c800079, c800080, c800081, rfl, rfl⟩ | ⟨c800082, rfl, rfl⟩ | ⟨c800083, rfl, rfl⟩ | ⟨c800084, rfl, rfl⟩ | ⟨c800085, rfl, rfl⟩ | ⟨c800086, rfl, rfl⟩ | ⟨c800087, rfl, rfl⟩ | ⟨c800088, rfl, rfl⟩ | ⟨c800089, rfl, rfl⟩ | ⟨c800090, rfl, rfl⟩ | ⟨c800091, rfl, rfl⟩ | ⟨c800092, rfl, rfl⟩
    · exact absurd (by decide +kernel) c800072
    · exact absurd c800082 (by decide +kernel)
    · have hP : va_P D vwCl [(n3900, .inr (12, [.ref n3000, .ref n3001, .ref n3002, .ref n3003, .int 0, .ref n3004, .int 0, .int 0, .int 0, .int 0, .int 0, .int 0, .int 0, .int 0, .int 0, .int (-1), .int 0, .ref n3005, .ref n3006, .int 0, .ref n3007, .ref n3008, .int 0, .int 0, .int 0, .int 0, .int 0, .int 0, .int 0, .ref n3009, .ref n3010, .int 0, .int 0, .ref n3011, .ref n3012, .int 0, .int 0, .ref n3013, .ref n3014, .ref n3015, .int 0, .ref n3016, .ref n3017, .ref n3018])), (n3000, .inl (cy 1, 1300, .inl (fun _ => 0)))] H := hP
      have hD : va_D A [(n3900, .inr (12, [.ref n3000, .ref n3001, .ref n3002, .ref n3003, .int 0, .ref n3004, .int 0, .int 0, .int 0, .int 0, .int 0, .int 0, .int 0, .int 0, .int 0, .int (-1), .int 0, .ref n3005, .ref n3006, .int 0, .ref n3007, .ref n3008, .int 0, .int 0, .int 0, .int 0, .int 0, .int 0, .int 0, .ref n3009, .ref n3010, .int 0, .int 0, .ref n3011, .ref n3012, .int 0, .int 0, .ref n3013, .ref n3014, .ref n3015, .int 0, .ref n3016, .ref n3017, .ref n3018])), (n3000, .inl (cy 1, 1300, .inl (fun _ => 0)))] := hD
      refine lv_icmp_eq (tgt := 2458) hx hb dL_law_2453 (by decide +kernel) (fun _ => ?_) (fun h => absurd (by decide +kernel) h)
      refine lv_iinc (v := 6) (lv' := [(4, .int 6), (3, .ref n5000), (2, .ref n3900), (1, .ref n1900), (0, .ref b)]) hx hb dL_law_2458 hl (k := 0) rfl (by decide) (by decide +kernel) rfl (fun ls hl => ?_)
      refine lv_goto (tgt := 23) hx hb dL_law_2461 (by decide +kernel) ?_
      refine lv_iload hx hb dL_law_23 (lv_at hl 0 rfl) ?_
      refine lv_aload_n hx hb dL_law_25 rfl (lv_at hl 4 rfl) ?_
      refine va_slen hx hb hX hbl hbA hS dL_law_26 ?_
      refine top_i (v := 6) rfl ?_
      refine lv_bipush (v := 6) hx hb dL_law_27 (by decide +kernel) ?_
      refine lv_isub hx hb dL_law_29 ?_
      refine top_i (v := 0) (by decide +kernel) ?_
      refine lv_icmp_gt (tgt := 2464) hx hb dL_law_30 (by decide +kernel) (fun _ => ?_) (fun h => absurd (by decide +kernel) h)
      refine lv_iconst (v := 1) hx hb dL_law_2464 (by decide +kernel) ?_
      refine va_forget (fun q hq => hAq _ (hS.2.2 q hq)) ?_
      refine W.widen (k := 600002) (n := 7302232) (by decide +kernel) (by decide +kernel) ?_
      exact lw_ret hx hb hr hlk dL_law_2465
    · exact absurd c800084 (by decide +kernel)
    · exact absurd c800085 (by decide +kernel)
    · exact absurd c800086 (by decide +kernel)
    · exact absurd c800087 (by decide +kernel)
    · exact absurd c800088 (by decide +kernel)
    · exact absurd c800089 (by decide +kernel)
    · exact absurd c800090 (by decide +kernel)
    · exact absurd c800091 (by decide +kernel)
    · exact absurd c800092 (by decide +kernel)
  · have hP := left_P hP
    have hD := left_D hD
    subst c800014
    have hP : va_P D vwCl [(n3900, .inr (12, [.ref n3000, .ref n3001, .ref n3002, .ref n3003, .int 0, .ref n3004, .int 0, .int 0, .int 0, .int 0, .int 0, .int 0, .int 0, .int 0, .int 0, .int (-1), .int 0, .ref n3005, .ref n3006, .int 0, .ref n3007, .ref n3008, .int 0, .int 0, .int 0, .int 0, .int 0, .int 0, .int 0, .ref n3009, .ref n3010, .int 0, .int 0, .ref n3011, .ref n3012, .int 0, .int 0, .ref n3013, .ref n3014, .ref n3015, .int 0, .ref n3016, .ref n3017, .ref n3018])), (n3000, .inl (cy 1, 1300, .inl (fun _ => 0)))] H := hP
    have hD : va_D A [(n3900, .inr (12, [.ref n3000, .ref n3001, .ref n3002, .ref n3003, .int 0, .ref n3004, .int 0, .int 0, .int 0, .int 0, .int 0, .int 0, .int 0, .int 0, .int 0, .int (-1), .int 0, .ref n3005, .ref n3006, .int 0, .ref n3007, .ref n3008, .int 0, .int 0, .int 0, .int 0, .int 0, .int 0, .int 0, .ref n3009, .ref n3010, .int 0, .int 0, .ref n3011, .ref n3012, .int 0, .int 0, .ref n3013, .ref n3014, .ref n3015, .int 0, .ref n3016, .ref n3017, .ref n3018])), (n3000, .inl (cy 1, 1300, .inl (fun _ => 0)))] := hD
    refine lv_aload_n hx hb dL_law_2443 rfl (lv_at hl 2 rfl) ?_
    refine lv_aload_n hx hb dL_law_2444 rfl (lv_at hl 4 rfl) ?_
    refine lv_iload hx hb dL_law_2445 (lv_at hl 0 rfl) ?_
    refine lv_iconst (v := 1) hx hb dL_law_2447 (by decide +kernel) ?_
    refine lv_iadd hx hb dL_law_2448 ?_
    refine top_i (v := 1) (by decide +kernel) ?_
    refine va_sld hx hb hX hbl hbA hS (i := 1) (vin (by decide +kernel)) dL_law_2449 ?_
    refine top_i (v := 2) ez1 ?_
    refine call_i (av := [.ref n3900, .int 2]) F hP hD hS [(n3900, .inr (12, [.ref n3000, .ref n3001, .ref n3002, .ref n3003, .int 0, .ref n3004, .int 0, .int 0, .int 0, .int 0, .int 0, .int 0, .int 0, .int 0, .int 0, .int (-1), .int 0, .ref n3005, .ref n3006, .int 0, .ref n3007, .ref n3008, .int 0, .int 0, .int 0, .int 0, .int 0, .int 0, .int 0, .ref n3009, .ref n3010, .int 0, .int 0, .ref n3011, .ref n3012, .int 0, .int 0, .ref n3013, .ref n3014, .ref n3015, .int 0, .ref n3016, .ref n3017, .ref n3018])), (n3000, .inl (cy 1, 1300, .inl (fun _ => 0)))] [] [0, 1] [] rfl rfl (by decide +kernel) (fun pr => va_runV (As := [.int 2]) (rest := [.int 0]) ⟨hx, hb, hml, hown, hts⟩ (k203_X12_count l D cy H.size n3900 2 n3000 n3001 n3002 n3003 n3004 n3005 n3006 n3007 n3008 n3009 n3010 n3011 n3012 n3013 n3014 n3015 n3016 n3017 n3018) (cwV 1 hts gw_X12_count rfl rfl rfl (by decide +kernel) ⟨(by decide +kernel), (by decide +kernel)⟩) ⟨pr.1, va_recv hK hP (ci := 12) (q0 := 0) rfl rfl, pr.2⟩ rfl rfl hl.1 rfl (lv_room (Nat.le_of_ble_eq_true rfl)) dL_law_2450 ⟨(by decide +kernel), (by decide +kernel)⟩) (fun r u H locs hw hP hD hS => ?_)
    rcases hw with ⟨c800095, c800096, c800097, c800098, c800099, c800100, c800101, c800102, c800103, c800104, c800105, rfl, rfl⟩ | ⟨c800106, rfl, rfl⟩ | ⟨c800107, rfl, rfl⟩ | ⟨c800108, rfl, rfl⟩ | ⟨c800109, rfl, rfl⟩ | ⟨c800110, rfl, rfl⟩ | ⟨c800111, rfl, rfl⟩ | ⟨c800112, rfl, rfl⟩ | ⟨c800113, rfl, rfl⟩ | ⟨c800114, rfl, rfl⟩ | ⟨c800115, rfl, rfl⟩ | ⟨c800116, rfl, rfl⟩
    · exact absurd (by decide +kernel) c800097
    · exact absurd c800106 (by decide +kernel)
    · exact absurd c800107 (by decide +kernel)
    · have hP : va_P D vwCl [(n3900, .inr (12, [.ref n3000, .ref n3001, .ref n3002, .ref n3003, .int 0, .ref n3004, .int 0, .int 0, .int 0, .int 0, .int 0, .int 0, .int 0, .int 0, .int 0, .int (-1), .int 0, .ref n3005, .ref n3006, .int 0, .ref n3007, .ref n3008, .int 0, .int 0, .int 0, .int 0, .int 0, .int 0, .int 0, .ref n3009, .ref n3010, .int 0, .int 0, .ref n3011, .ref n3012, .int 0, .int 0, .ref n3013, .ref n3014, .ref n3015, .int 0, .ref n3016, .ref n3017, .ref n3018])), (n3000, .inl (cy 1, 1300, .inl (fun _ => 0)))] H := hP
      have hD : va_D A [(n3900, .inr (12, [.ref n3000, .ref n3001, .ref n3002, .ref n3003, .int 0, .ref n3004, .int 0, .int 0, .int 0, .int 0, .int 0, .int 0, .int 0, .int 0, .int 0, .int (-1), .int 0, .ref n3005, .ref n3006, .int 0, .ref n3007, .ref n3008, .int 0, .int 0, .int 0, .int 0, .int 0, .int 0, .int 0, .ref n3009, .ref n3010, .int 0, .int 0, .ref n3011, .ref n3012, .int 0, .int 0, .ref n3013, .ref n3014, .ref n3015, .int 0, .ref n3016, .ref n3017, .ref n3018])), (n3000, .inl (cy 1, 1300, .inl (fun _ => 0)))] := hD
      refine lv_icmp_eq (tgt := 2458) hx hb dL_law_2453 (by decide +kernel) (fun _ => ?_) (fun h => absurd (by decide +kernel) h)
      refine lv_iinc (v := 6) (lv' := [(4, .int 6), (3, .ref n5000), (2, .ref n3900), (1, .ref n1900), (0, .ref b)]) hx hb dL_law_2458 hl (k := 0) rfl (by decide) (by decide +kernel) rfl (fun ls hl => ?_)
      refine lv_goto (tgt := 23) hx hb dL_law_2461 (by decide +kernel) ?_
      refine lv_iload hx hb dL_law_23 (lv_at hl 0 rfl) ?_
      refine lv_aload_n hx hb dL_law_25 rfl (lv_at hl 4 rfl) ?_
      refine va_slen hx hb hX hbl hbA hS dL_law_26 ?_
      refine top_i (v := 6) rfl ?_
      refine lv_bipush (v := 6) hx hb dL_law_27 (by decide +kernel) ?_
      refine lv_isub hx hb dL_law_29 ?_
      refine top_i (v := 0) (by decide +kernel) ?_
      refine lv_icmp_gt (tgt := 2464) hx hb dL_law_30 (by decide +kernel) (fun _ => ?_) (fun h => absurd (by decide +kernel) h)
      refine lv_iconst (v := 1) hx hb dL_law_2464 (by decide +kernel) ?_
      refine va_forget (fun q hq => hAq _ (hS.2.2 q hq)) ?_
      refine W.widen (k := 600002) (n := 7302232) (by decide +kernel) (by decide +kernel) ?_
      exact lw_ret hx hb hr hlk dL_law_2465
    · exact absurd c800109 (by decide +kernel)
    · exact absurd c800110 (by decide +kernel)
    · exact absurd c800111 (by decide +kernel)
    · exact absurd c800112 (by decide +kernel)
    · exact absurd c800113 (by decide +kernel)
    · exact absurd c800114 (by decide +kernel)
    · exact absurd c800115 (by decide +kernel)
    · exact absurd c800116 (by decide +kernel)
  · have hP := left_P hP
    have hD := left_D hD
    subst c800015
    have hP : va_P D vwCl [(n3900, .inr (12, [.ref n3000, .ref n3001, .ref n3002, .ref n3003, .int 0, .ref n3004, .int 0, .int 0, .int 0, .int 0, .int 0, .int 0, .int 0, .int 0, .int 0, .int (-1), .int 0, .ref n3005, .ref n3006, .int 0, .ref n3007, .ref n3008, .int 0, .int 0, .int 0, .int 0, .int 0, .int 0, .int 0, .ref n3009, .ref n3010, .int 0, .int 0, .ref n3011, .ref n3012, .int 0, .int 0, .ref n3013, .ref n3014, .ref n3015, .int 0, .ref n3016, .ref n3017, .ref n3018])), (n3000, .inl (cy 1, 1300, .inl (fun _ => 0)))] H := hP
    have hD : va_D A [(n3900, .inr (12, [.ref n3000, .ref n3001, .ref n3002, .ref n3003, .int 0, .ref n3004, .int 0, .int 0, .int 0, .int 0, .int 0, .int 0, .int 0, .int 0, .int 0, .int (-1), .int 0, .ref n3005, .ref n3006, .int 0, .ref n3007, .ref n3008, .int 0, .int 0, .int 0, .int 0, .int 0, .int 0, .int 0, .ref n3009, .ref n3010, .int 0, .int 0, .ref n3011, .ref n3012, .int 0, .int 0, .ref n3013, .ref n3014, .ref n3015, .int 0, .ref n3016, .ref n3017, .ref n3018])), (n3000, .inl (cy 1, 1300, .inl (fun _ => 0)))] := hD
    refine lv_aload_n hx hb dL_law_2443 rfl (lv_at hl 2 rfl) ?_
    refine lv_aload_n hx hb dL_law_2444 rfl (lv_at hl 4 rfl) ?_
    refine lv_iload hx hb dL_law_2445 (lv_at hl 0 rfl) ?_
    refine lv_iconst (v := 1) hx hb dL_law_2447 (by decide +kernel) ?_
    refine lv_iadd hx hb dL_law_2448 ?_
    refine top_i (v := 1) (by decide +kernel) ?_
    refine va_sld hx hb hX hbl hbA hS (i := 1) (vin (by decide +kernel)) dL_law_2449 ?_
    refine top_i (v := 3) ez1 ?_
    refine call_i (av := [.ref n3900, .int 3]) F hP hD hS [(n3900, .inr (12, [.ref n3000, .ref n3001, .ref n3002, .ref n3003, .int 0, .ref n3004, .int 0, .int 0, .int 0, .int 0, .int 0, .int 0, .int 0, .int 0, .int 0, .int (-1), .int 0, .ref n3005, .ref n3006, .int 0, .ref n3007, .ref n3008, .int 0, .int 0, .int 0, .int 0, .int 0, .int 0, .int 0, .ref n3009, .ref n3010, .int 0, .int 0, .ref n3011, .ref n3012, .int 0, .int 0, .ref n3013, .ref n3014, .ref n3015, .int 0, .ref n3016, .ref n3017, .ref n3018])), (n3000, .inl (cy 1, 1300, .inl (fun _ => 0)))] [] [0, 1] [] rfl rfl (by decide +kernel) (fun pr => va_runV (As := [.int 3]) (rest := [.int 0]) ⟨hx, hb, hml, hown, hts⟩ (k203_X12_count l D cy H.size n3900 3 n3000 n3001 n3002 n3003 n3004 n3005 n3006 n3007 n3008 n3009 n3010 n3011 n3012 n3013 n3014 n3015 n3016 n3017 n3018) (cwV 1 hts gw_X12_count rfl rfl rfl (by decide +kernel) ⟨(by decide +kernel), (by decide +kernel)⟩) ⟨pr.1, va_recv hK hP (ci := 12) (q0 := 0) rfl rfl, pr.2⟩ rfl rfl hl.1 rfl (lv_room (Nat.le_of_ble_eq_true rfl)) dL_law_2450 ⟨(by decide +kernel), (by decide +kernel)⟩) (fun r u H locs hw hP hD hS => ?_)
    rcases hw with ⟨c800119, c800120, c800121, c800122, c800123, c800124, c800125, c800126, c800127, c800128, c800129, rfl, rfl⟩ | ⟨c800130, rfl, rfl⟩ | ⟨c800131, rfl, rfl⟩ | ⟨c800132, rfl, rfl⟩ | ⟨c800133, rfl, rfl⟩ | ⟨c800134, rfl, rfl⟩ | ⟨c800135, rfl, rfl⟩ | ⟨c800136, rfl, rfl⟩ | ⟨c800137, rfl, rfl⟩ | ⟨c800138, rfl, rfl⟩ | ⟨c800139, rfl, rfl⟩ | ⟨c800140, rfl, rfl⟩
    · exact absurd (by decide +kernel) c800122
    · exact absurd c800130 (by decide +kernel)
    · exact absurd c800131 (by decide +kernel)
    · exact absurd c800132 (by decide +kernel)
    · have hP : va_P D vwCl [(n3900, .inr (12, [.ref n3000, .ref n3001, .ref n3002, .ref n3003, .int 0, .ref n3004, .int 0, .int 0, .int 0, .int 0, .int 0, .int 0, .int 0, .int 0, .int 0, .int (-1), .int 0, .ref n3005, .ref n3006, .int 0, .ref n3007, .ref n3008, .int 0, .int 0, .int 0, .int 0, .int 0, .int 0, .int 0, .ref n3009, .ref n3010, .int 0, .int 0, .ref n3011, .ref n3012, .int 0, .int 0, .ref n3013, .ref n3014, .ref n3015, .int 0, .ref n3016, .ref n3017, .ref n3018])), (n3000, .inl (cy 1, 1300, .inl (fun _ => 0)))] H := hP
      have hD : va_D A [(n3900, .inr (12, [.ref n3000, .ref n3001, .ref n3002, .ref n3003, .int 0, .ref n3004, .int 0, .int 0, .int 0, .int 0, .int 0, .int 0, .int 0, .int 0, .int 0, .int (-1), .int 0, .ref n3005, .ref n3006, .int 0, .ref n3007, .ref n3008, .int 0, .int 0, .int 0, .int 0, .int 0, .int 0, .int 0, .ref n3009, .ref n3010, .int 0, .int 0, .ref n3011, .ref n3012, .int 0, .int 0, .ref n3013, .ref n3014, .ref n3015, .int 0, .ref n3016, .ref n3017, .ref n3018])), (n3000, .inl (cy 1, 1300, .inl (fun _ => 0)))] := hD
      refine lv_icmp_eq (tgt := 2458) hx hb dL_law_2453 (by decide +kernel) (fun _ => ?_) (fun h => absurd (by decide +kernel) h)
      refine lv_iinc (v := 6) (lv' := [(4, .int 6), (3, .ref n5000), (2, .ref n3900), (1, .ref n1900), (0, .ref b)]) hx hb dL_law_2458 hl (k := 0) rfl (by decide) (by decide +kernel) rfl (fun ls hl => ?_)
      refine lv_goto (tgt := 23) hx hb dL_law_2461 (by decide +kernel) ?_
      refine lv_iload hx hb dL_law_23 (lv_at hl 0 rfl) ?_
      refine lv_aload_n hx hb dL_law_25 rfl (lv_at hl 4 rfl) ?_
      refine va_slen hx hb hX hbl hbA hS dL_law_26 ?_
      refine top_i (v := 6) rfl ?_
      refine lv_bipush (v := 6) hx hb dL_law_27 (by decide +kernel) ?_
      refine lv_isub hx hb dL_law_29 ?_
      refine top_i (v := 0) (by decide +kernel) ?_
      refine lv_icmp_gt (tgt := 2464) hx hb dL_law_30 (by decide +kernel) (fun _ => ?_) (fun h => absurd (by decide +kernel) h)
      refine lv_iconst (v := 1) hx hb dL_law_2464 (by decide +kernel) ?_
      refine va_forget (fun q hq => hAq _ (hS.2.2 q hq)) ?_
      refine W.widen (k := 600002) (n := 7302232) (by decide +kernel) (by decide +kernel) ?_
      exact lw_ret hx hb hr hlk dL_law_2465
    · exact absurd c800134 (by decide +kernel)
    · exact absurd c800135 (by decide +kernel)
    · exact absurd c800136 (by decide +kernel)
    · exact absurd c800137 (by decide +kernel)
    · exact absurd c800138 (by decide +kernel)
    · exact absurd c800139 (by decide +kernel)
    · exact absurd c800140 (by decide +kernel)
  · have hP := left_P hP
    have hD := left_D hD
    subst c800016
    have hP : va_P D vwCl [(n3900, .inr (12, [.ref n3000, .ref n3001, .ref n3002, .ref n3003, .int 0, .ref n3004, .int 0, .int 0, .int 0, .int 0, .int 0, .int 0, .int 0, .int 0, .int 0, .int (-1), .int 0, .ref n3005, .ref n3006, .int 0, .ref n3007, .ref n3008, .int 0, .int 0, .int 0, .int 0, .int 0, .int 0, .int 0, .ref n3009, .ref n3010, .int 0, .int 0, .ref n3011, .ref n3012, .int 0, .int 0, .ref n3013, .ref n3014, .ref n3015, .int 0, .ref n3016, .ref n3017, .ref n3018])), (n3000, .inl (cy 1, 1300, .inl (fun _ => 0)))] H := hP
    have hD : va_D A [(n3900, .inr (12, [.ref n3000, .ref n3001, .ref n3002, .ref n3003, .int 0, .ref n3004, .int 0, .int 0, .int 0, .int 0, .int 0, .int 0, .int 0, .int 0, .int 0, .int (-1), .int 0, .ref n3005, .ref n3006, .int 0, .ref n3007, .ref n3008, .int 0, .int 0, .int 0, .int 0, .int 0, .int 0, .int 0, .ref n3009, .ref n3010, .int 0, .int 0, .ref n3011, .ref n3012, .int 0, .int 0, .ref n3013, .ref n3014, .ref n3015, .int 0, .ref n3016, .ref n3017, .ref n3018])), (n3000, .inl (cy 1, 1300, .inl (fun _ => 0)))] := hD
    refine lv_aload_n hx hb dL_law_2443 rfl (lv_at hl 2 rfl) ?_
    refine lv_aload_n hx hb dL_law_2444 rfl (lv_at hl 4 rfl) ?_
    refine lv_iload hx hb dL_law_2445 (lv_at hl 0 rfl) ?_
    refine lv_iconst (v := 1) hx hb dL_law_2447 (by decide +kernel) ?_
    refine lv_iadd hx hb dL_law_2448 ?_
    refine top_i (v := 1) (by decide +kernel) ?_
    refine va_sld hx hb hX hbl hbA hS (i := 1) (vin (by decide +kernel)) dL_law_2449 ?_
    refine top_i (v := 4) ez1 ?_
    refine call_i (av := [.ref n3900, .int 4]) F hP hD hS [(n3900, .inr (12, [.ref n3000, .ref n3001, .ref n3002, .ref n3003, .int 0, .ref n3004, .int 0, .int 0, .int 0, .int 0, .int 0, .int 0, .int 0, .int 0, .int 0, .int (-1), .int 0, .ref n3005, .ref n3006, .int 0, .ref n3007, .ref n3008, .int 0, .int 0, .int 0, .int 0, .int 0, .int 0, .int 0, .ref n3009, .ref n3010, .int 0, .int 0, .ref n3011, .ref n3012, .int 0, .int 0, .ref n3013, .ref n3014, .ref n3015, .int 0, .ref n3016, .ref n3017, .ref n3018])), (n3000, .inl (cy 1, 1300, .inl (fun _ => 0)))] [] [0, 1] [] rfl rfl (by decide +kernel) (fun pr => va_runV (As := [.int 4]) (rest := [.int 0]) ⟨hx, hb, hml, hown, hts⟩ (k203_X12_count l D cy H.size n3900 4 n3000 n3001 n3002 n3003 n3004 n3005 n3006 n3007 n3008 n3009 n3010 n3011 n3012 n3013 n3014 n3015 n3016 n3017 n3018) (cwV 1 hts gw_X12_count rfl rfl rfl (by decide +kernel) ⟨(by decide +kernel), (by decide +kernel)⟩) ⟨pr.1, va_recv hK hP (ci := 12) (q0 := 0) rfl rfl, pr.2⟩ rfl rfl hl.1 rfl (lv_room (Nat.le_of_ble_eq_true rfl)) dL_law_2450 ⟨(by decide +kernel), (by decide +kernel)⟩) (fun r u H locs hw hP hD hS => ?_)
    rcases hw with ⟨c800143, c800144, c800145, c800146, c800147, c800148, c800149, c800150, c800151, c800152, c800153, rfl, rfl⟩ | ⟨c800154, rfl, rfl⟩ | ⟨c800155, rfl, rfl⟩ | ⟨c800156, rfl, rfl⟩ | ⟨c800157, rfl, rfl⟩ | ⟨c800158, rfl, rfl⟩ | ⟨c800159, rfl, rfl⟩ | ⟨c800160, rfl, rfl⟩ | ⟨c800161, rfl, rfl⟩ | ⟨c800162, rfl, rfl⟩ | ⟨c800163, rfl, rfl⟩ | ⟨c800164, rfl, rfl⟩
    · exact absurd (by decide +kernel) c800147
    · exact absurd c800154 (by decide +kernel)
    · exact absurd c800155 (by decide +kernel)
    · exact absurd c800156 (by decide +kernel)
    · exact absurd c800157 (by decide +kernel)
    · have hP : va_P D vwCl [(n3900, .inr (12, [.ref n3000, .ref n3001, .ref n3002, .ref n3003, .int 0, .ref n3004, .int 0, .int 0, .int 0, .int 0, .int 0, .int 0, .int 0, .int 0, .int 0, .int (-1), .int 0, .ref n3005, .ref n3006, .int 0, .ref n3007, .ref n3008, .int 0, .int 0, .int 0, .int 0, .int 0, .int 0, .int 0, .ref n3009, .ref n3010, .int 0, .int 0, .ref n3011, .ref n3012, .int 0, .int 0, .ref n3013, .ref n3014, .ref n3015, .int 0, .ref n3016, .ref n3017, .ref n3018])), (n3000, .inl (cy 1, 1300, .inl (fun _ => 0)))] H := hP
      have hD : va_D A [(n3900, .inr (12, [.ref n3000, .ref n3001, .ref n3002, .ref n3003, .int 0, .ref n3004, .int 0, .int 0, .int 0, .int 0, .int 0, .int 0, .int 0, .int 0, .int 0, .int (-1), .int 0, .ref n3005, .ref n3006, .int 0, .ref n3007, .ref n3008, .int 0, .int 0, .int 0, .int 0, .int 0, .int 0, .int 0, .ref n3009, .ref n3010, .int 0, .int 0, .ref n3011, .ref n3012, .int 0, .int 0, .ref n3013, .ref n3014, .ref n3015, .int 0, .ref n3016, .ref n3017, .ref n3018])), (n3000, .inl (cy 1, 1300, .inl (fun _ => 0)))] := hD
      refine lv_icmp_eq (tgt := 2458) hx hb dL_law_2453 (by decide +kernel) (fun _ => ?_) (fun h => absurd (by decide +kernel) h)
      refine lv_iinc (v := 6) (lv' := [(4, .int 6), (3, .ref n5000), (2, .ref n3900), (1, .ref n1900), (0, .ref b)]) hx hb dL_law_2458 hl (k := 0) rfl (by decide) (by decide +kernel) rfl (fun ls hl => ?_)
      refine lv_goto (tgt := 23) hx hb dL_law_2461 (by decide +kernel) ?_
      refine lv_iload hx hb dL_law_23 (lv_at hl 0 rfl) ?_
      refine lv_aload_n hx hb dL_law_25 rfl (lv_at hl 4 rfl) ?_
      refine va_slen hx hb hX hbl hbA hS dL_law_26 ?_
      refine top_i (v := 6) rfl ?_
      refine lv_bipush (v := 6) hx hb dL_law_27 (by decide +kernel) ?_
      refine lv_isub hx hb dL_law_29 ?_
      refine top_i (v := 0) (by decide +kernel) ?_
      refine lv_icmp_gt (tgt := 2464) hx hb dL_law_30 (by decide +kernel) (fun _ => ?_) (fun h => absurd (by decide +kernel) h)
      refine lv_iconst (v := 1) hx hb dL_law_2464 (by decide +kernel) ?_
      refine va_forget (fun q hq => hAq _ (hS.2.2 q hq)) ?_
      refine W.widen (k := 600002) (n := 7302232) (by decide +kernel) (by decide +kernel) ?_
      exact lw_ret hx hb hr hlk dL_law_2465
    · exact absurd c800159 (by decide +kernel)
    · exact absurd c800160 (by decide +kernel)
    · exact absurd c800161 (by decide +kernel)
    · exact absurd c800162 (by decide +kernel)
    · exact absurd c800163 (by decide +kernel)
    · exact absurd c800164 (by decide +kernel)
  · have hP := left_P hP
    have hD := left_D hD
    subst c800017
    have hP : va_P D vwCl [(n3900, .inr (12, [.ref n3000, .ref n3001, .ref n3002, .ref n3003, .int 0, .ref n3004, .int 0, .int 0, .int 0, .int 0, .int 0, .int 0, .int 0, .int 0, .int 0, .int (-1), .int 0, .ref n3005, .ref n3006, .int 0, .ref n3007, .ref n3008, .int 0, .int 0, .int 0, .int 0, .int 0, .int 0, .int 0, .ref n3009, .ref n3010, .int 0, .int 0, .ref n3011, .ref n3012, .int 0, .int 0, .ref n3013, .ref n3014, .ref n3015, .int 0, .ref n3016, .ref n3017, .ref n3018])), (n3000, .inl (cy 1, 1300, .inl (fun _ => 0)))] H := hP
    have hD : va_D A [(n3900, .inr (12, [.ref n3000, .ref n3001, .ref n3002, .ref n3003, .int 0, .ref n3004, .int 0, .int 0, .int 0, .int 0, .int 0, .int 0, .int 0, .int 0, .int 0, .int (-1), .int 0, .ref n3005, .ref n3006, .int 0, .ref n3007, .ref n3008, .int 0, .int 0, .int 0, .int 0, .int 0, .int 0, .int 0, .ref n3009, .ref n3010, .int 0, .int 0, .ref n3011, .ref n3012, .int 0, .int 0, .ref n3013, .ref n3014, .ref n3015, .int 0, .ref n3016, .ref n3017, .ref n3018])), (n3000, .inl (cy 1, 1300, .inl (fun _ => 0)))] := hD
    refine lv_aload_n hx hb dL_law_2443 rfl (lv_at hl 2 rfl) ?_
    refine lv_aload_n hx hb dL_law_2444 rfl (lv_at hl 4 rfl) ?_
    refine lv_iload hx hb dL_law_2445 (lv_at hl 0 rfl) ?_
    refine lv_iconst (v := 1) hx hb dL_law_2447 (by decide +kernel) ?_
    refine lv_iadd hx hb dL_law_2448 ?_
    refine top_i (v := 1) (by decide +kernel) ?_
    refine va_sld hx hb hX hbl hbA hS (i := 1) (vin (by decide +kernel)) dL_law_2449 ?_
    refine top_i (v := 5) ez1 ?_
    refine call_i (av := [.ref n3900, .int 5]) F hP hD hS [(n3900, .inr (12, [.ref n3000, .ref n3001, .ref n3002, .ref n3003, .int 0, .ref n3004, .int 0, .int 0, .int 0, .int 0, .int 0, .int 0, .int 0, .int 0, .int 0, .int (-1), .int 0, .ref n3005, .ref n3006, .int 0, .ref n3007, .ref n3008, .int 0, .int 0, .int 0, .int 0, .int 0, .int 0, .int 0, .ref n3009, .ref n3010, .int 0, .int 0, .ref n3011, .ref n3012, .int 0, .int 0, .ref n3013, .ref n3014, .ref n3015, .int 0, .ref n3016, .ref n3017, .ref n3018])), (n3000, .inl (cy 1, 1300, .inl (fun _ => 0)))] [] [0, 1] [] rfl rfl (by decide +kernel) (fun pr => va_runV (As := [.int 5]) (rest := [.int 0]) ⟨hx, hb, hml, hown, hts⟩ (k203_X12_count l D cy H.size n3900 5 n3000 n3001 n3002 n3003 n3004 n3005 n3006 n3007 n3008 n3009 n3010 n3011 n3012 n3013 n3014 n3015 n3016 n3017 n3018) (cwV 1 hts gw_X12_count rfl rfl rfl (by decide +kernel) ⟨(by decide +kernel), (by decide +kernel)⟩) ⟨pr.1, va_recv hK hP (ci := 12) (q0 := 0) rfl rfl, pr.2⟩ rfl rfl hl.1 rfl (lv_room (Nat.le_of_ble_eq_true rfl)) dL_law_2450 ⟨(by decide +kernel), (by decide +kernel)⟩) (fun r u H locs hw hP hD hS => ?_)
    rcases hw with ⟨c800167, c800168, c800169, c800170, c800171, c800172, c800173, c800174, c800175, c800176, c800177, rfl, rfl⟩ | ⟨c800178, rfl, rfl⟩ | ⟨c800179, rfl, rfl⟩ | ⟨c800180, rfl, rfl⟩ | ⟨c800181, rfl, rfl⟩ | ⟨c800182, rfl, rfl⟩ | ⟨c800183, rfl, rfl⟩ | ⟨c800184, rfl, rfl⟩ | ⟨c800185, rfl, rfl⟩ | ⟨c800186, rfl, rfl⟩ | ⟨c800187, rfl, rfl⟩ | ⟨c800188, rfl, rfl⟩
    · exact absurd (by decide +kernel) c800172
    · exact absurd c800178 (by decide +kernel)
    · exact absurd c800179 (by decide +kernel)
    · exact absurd c800180 (by decide +kernel)
    · exact absurd c800181 (by decide +kernel)
    · exact absurd c800182 (by decide +kernel)
    · have hP : va_P D vwCl [(n3900, .inr (12, [.ref n3000, .ref n3001, .ref n3002, .ref n3003, .int 0, .ref n3004, .int 0, .int 0, .int 0, .int 0, .int 0, .int 0, .int 0, .int 0, .int 0, .int (-1), .int 0, .ref n3005, .ref n3006, .int 0, .ref n3007, .ref n3008, .int 0, .int 0, .int 0, .int 0, .int 0, .int 0, .int 0, .ref n3009, .ref n3010, .int 0, .int 0, .ref n3011, .ref n3012, .int 0, .int 0, .ref n3013, .ref n3014, .ref n3015, .int 0, .ref n3016, .ref n3017, .ref n3018])), (n3000, .inl (cy 1, 1300, .inl (fun _ => 0)))] H := hP
      have hD : va_D A [(n3900, .inr (12, [.ref n3000, .ref n3001, .ref n3002, .ref n3003, .int 0, .ref n3004, .int 0, .int 0, .int 0, .int 0, .int 0, .int 0, .int 0, .int 0, .int 0, .int (-1), .int 0, .ref n3005, .ref n3006, .int 0, .ref n3007, .ref n3008, .int 0, .int 0, .int 0, .int 0, .int 0, .int 0, .int 0, .ref n3009, .ref n3010, .int 0, .int 0, .ref n3011, .ref n3012, .int 0, .int 0, .ref n3013, .ref n3014, .ref n3015, .int 0, .ref n3016, .ref n3017, .ref n3018])), (n3000, .inl (cy 1, 1300, .inl (fun _ => 0)))] := hD
      refine lv_icmp_eq (tgt := 2458) hx hb dL_law_2453 (by decide +kernel) (fun _ => ?_) (fun h => absurd (by decide +kernel) h)
      refine lv_iinc (v := 6) (lv' := [(4, .int 6), (3, .ref n5000), (2, .ref n3900), (1, .ref n1900), (0, .ref b)]) hx hb dL_law_2458 hl (k := 0) rfl (by decide) (by decide +kernel) rfl (fun ls hl => ?_)
      refine lv_goto (tgt := 23) hx hb dL_law_2461 (by decide +kernel) ?_
      refine lv_iload hx hb dL_law_23 (lv_at hl 0 rfl) ?_
      refine lv_aload_n hx hb dL_law_25 rfl (lv_at hl 4 rfl) ?_
      refine va_slen hx hb hX hbl hbA hS dL_law_26 ?_
      refine top_i (v := 6) rfl ?_
      refine lv_bipush (v := 6) hx hb dL_law_27 (by decide +kernel) ?_
      refine lv_isub hx hb dL_law_29 ?_
      refine top_i (v := 0) (by decide +kernel) ?_
      refine lv_icmp_gt (tgt := 2464) hx hb dL_law_30 (by decide +kernel) (fun _ => ?_) (fun h => absurd (by decide +kernel) h)
      refine lv_iconst (v := 1) hx hb dL_law_2464 (by decide +kernel) ?_
      refine va_forget (fun q hq => hAq _ (hS.2.2 q hq)) ?_
      refine W.widen (k := 600002) (n := 7302232) (by decide +kernel) (by decide +kernel) ?_
      exact lw_ret hx hb hr hlk dL_law_2465
    · exact absurd c800184 (by decide +kernel)
    · exact absurd c800185 (by decide +kernel)
    · exact absurd c800186 (by decide +kernel)
    · exact absurd c800187 (by decide +kernel)
    · exact absurd c800188 (by decide +kernel)
  · have hP := left_P hP
    have hD := left_D hD
    subst c800018
    have hP : va_P D vwCl [(n3900, .inr (12, [.ref n3000, .ref n3001, .ref n3002, .ref n3003, .int 0, .ref n3004, .int 0, .int 0, .int 0, .int 0, .int 0, .int 0, .int 0, .int 0, .int 0, .int (-1), .int 0, .ref n3005, .ref n3006, .int 0, .ref n3007, .ref n3008, .int 0, .int 0, .int 0, .int 0, .int 0, .int 0, .int 0, .ref n3009, .ref n3010, .int 0, .int 0, .ref n3011, .ref n3012, .int 0, .int 0, .ref n3013, .ref n3014, .ref n3015, .int 0, .ref n3016, .ref n3017, .ref n3018])), (n3000, .inl (cy 1, 1300, .inl (fun _ => 0)))] H := hP
    have hD : va_D A [(n3900, .inr (12, [.ref n3000, .ref n3001, .ref n3002, .ref n3003, .int 0, .ref n3004, .int 0, .int 0, .int 0, .int 0, .int 0, .int 0, .int 0, .int 0, .int 0, .int (-1), .int 0, .ref n3005, .ref n3006, .int 0, .ref n3007, .ref n3008, .int 0, .int 0, .int 0, .int 0, .int 0, .int 0, .int 0, .ref n3009, .ref n3010, .int 0, .int 0, .ref n3011, .ref n3012, .int 0, .int 0, .ref n3013, .ref n3014, .ref n3015, .int 0, .ref n3016, .ref n3017, .ref n3018])), (n3000, .inl (cy 1, 1300, .inl (fun _ => 0)))] := hD
    refine lv_aload_n hx hb dL_law_2443 rfl (lv_at hl 2 rfl) ?_
    refine lv_aload_n hx hb dL_law_2444 rfl (lv_at hl 4 rfl) ?_
    refine lv_iload hx hb dL_law_2445 (lv_at hl 0 rfl) ?_
    refine lv_iconst (v := 1) hx hb dL_law_2447 (by decide +kernel) ?_
    refine lv_iadd hx hb dL_law_2448 ?_
    refine top_i (v := 1) (by decide +kernel) ?_
    refine va_sld hx hb hX hbl hbA hS (i := 1) (vin (by decide +kernel)) dL_law_2449 ?_
    refine top_i (v := 6) ez1 ?_
    refine call_i (av := [.ref n3900, .int 6]) F hP hD hS [(n3900, .inr (12, [.ref n3000, .ref n3001, .ref n3002, .ref n3003, .int 0, .ref n3004, .int 0, .int 0, .int 0, .int 0, .int 0, .int 0, .int 0, .int 0, .int 0, .int (-1), .int 0, .ref n3005, .ref n3006, .int 0, .ref n3007, .ref n3008, .int 0, .int 0, .int 0, .int 0, .int 0, .int 0, .int 0, .ref n3009, .ref n3010, .int 0, .int 0, .ref n3011, .ref n3012, .int 0, .int 0, .ref n3013, .ref n3014, .ref n3015, .int 0, .ref n3016, .ref n3017, .ref n3018])), (n3000, .inl (cy 1, 1300, .inl (fun _ => 0)))] [] [0, 1] [] rfl rfl (by decide +kernel) (fun pr => va_runV (As := [.int 6]) (rest := [.int 0]) ⟨hx, hb, hml, hown, hts⟩ (k203_X12_count l D cy H.size n3900 6 n3000 n3001 n3002 n3003 n3004 n3005 n3006 n3007 n3008 n3009 n3010 n3011 n3012 n3013 n3014 n3015 n3016 n3017 n3018) (cwV 1 hts gw_X12_count rfl rfl rfl (by decide +kernel) ⟨(by decide +kernel), (by decide +kernel)⟩) ⟨pr.1, va_recv hK hP (ci := 12) (q0 := 0) rfl rfl, pr.2⟩ rfl rfl hl.1 rfl (lv_room (Nat.le_of_ble_eq_true rfl)) dL_law_2450 ⟨(by decide +kernel), (by decide +kernel)⟩) (fun r u H locs hw hP hD hS => ?_)
    rcases hw with ⟨c800191, c800192, c800193, c800194, c800195, c800196, c800197, c800198, c800199, c800200, c800201, rfl, rfl⟩ | ⟨c800202, rfl, rfl⟩ | ⟨c800203, rfl, rfl⟩ | ⟨c800204, rfl, rfl⟩ | ⟨c800205, rfl, rfl⟩ | ⟨c800206, rfl, rfl⟩ | ⟨c800207, rfl, rfl⟩ | ⟨c800208, rfl, rfl⟩ | ⟨c800209, rfl, rfl⟩ | ⟨c800210, rfl, rfl⟩ | ⟨c800211, rfl, rfl⟩ | ⟨c800212, rfl, rfl⟩
    · exact absurd (by decide +kernel) c800197
    · exact absurd c800202 (by decide +kernel)
    · exact absurd c800203 (by decide +kernel)
    · exact absurd c800204 (by decide +kernel)
    · exact absurd c800205 (by decide +kernel)
    · exact absurd c800206 (by decide +kernel)
    · exact absurd c800207 (by decide +kernel)
    · have hP : va_P D vwCl [(n3900, .inr (12, [.ref n3000, .ref n3001, .ref n3002, .ref n3003, .int 0, .ref n3004, .int 0, .int 0, .int 0, .int 0, .int 0, .int 0, .int 0, .int 0, .int 0, .int (-1), .int 0, .ref n3005, .ref n3006, .int 0, .ref n3007, .ref n3008, .int 0, .int 0, .int 0, .int 0, .int 0, .int 0, .int 0, .ref n3009, .ref n3010, .int 0, .int 0, .ref n3011, .ref n3012, .int 0, .int 0, .ref n3013, .ref n3014, .ref n3015, .int 0, .ref n3016, .ref n3017, .ref n3018])), (n3000, .inl (cy 1, 1300, .inl (fun _ => 0)))] H := hP
      have hD : va_D A [(n3900, .inr (12, [.ref n3000, .ref n3001, .ref n3002, .ref n3003, .int 0, .ref n3004, .int 0, .int 0, .int 0, .int 0, .int 0, .int 0, .int 0, .int 0, .int 0, .int (-1), .int 0, .ref n3005, .ref n3006, .int 0, .ref n3007, .ref n3008, .int 0, .int 0, .int 0, .int 0, .int 0, .int 0, .int 0, .ref n3009, .ref n3010, .int 0, .int 0, .ref n3011, .ref n3012, .int 0, .int 0, .ref n3013, .ref n3014, .ref n3015, .int 0, .ref n3016, .ref n3017, .ref n3018])), (n3000, .inl (cy 1, 1300, .inl (fun _ => 0)))] := hD
      refine lv_icmp_eq (tgt := 2458) hx hb dL_law_2453 (by decide +kernel) (fun _ => ?_) (fun h => absurd (by decide +kernel) h)
      refine lv_iinc (v := 6) (lv' := [(4, .int 6), (3, .ref n5000), (2, .ref n3900), (1, .ref n1900), (0, .ref b)]) hx hb dL_law_2458 hl (k := 0) rfl (by decide) (by decide +kernel) rfl (fun ls hl => ?_)
      refine lv_goto (tgt := 23) hx hb dL_law_2461 (by decide +kernel) ?_
      refine lv_iload hx hb dL_law_23 (lv_at hl 0 rfl) ?_
      refine lv_aload_n hx hb dL_law_25 rfl (lv_at hl 4 rfl) ?_
      refine va_slen hx hb hX hbl hbA hS dL_law_26 ?_
      refine top_i (v := 6) rfl ?_
      refine lv_bipush (v := 6) hx hb dL_law_27 (by decide +kernel) ?_
      refine lv_isub hx hb dL_law_29 ?_
      refine top_i (v := 0) (by decide +kernel) ?_
      refine lv_icmp_gt (tgt := 2464) hx hb dL_law_30 (by decide +kernel) (fun _ => ?_) (fun h => absurd (by decide +kernel) h)
      refine lv_iconst (v := 1) hx hb dL_law_2464 (by decide +kernel) ?_
      refine va_forget (fun q hq => hAq _ (hS.2.2 q hq)) ?_
      refine W.widen (k := 600002) (n := 7302232) (by decide +kernel) (by decide +kernel) ?_
      exact lw_ret hx hb hr hlk dL_law_2465
    · exact absurd c800209 (by decide +kernel)
    · exact absurd c800210 (by decide +kernel)
    · exact absurd c800211 (by decide +kernel)
    · exact absurd c800212 (by decide +kernel)
  · have hP := left_P hP
    have hD := left_D hD
    subst c800019
    have hP : va_P D vwCl [(n3900, .inr (12, [.ref n3000, .ref n3001, .ref n3002, .ref n3003, .int 0, .ref n3004, .int 0, .int 0, .int 0, .int 0, .int 0, .int 0, .int 0, .int 0, .int 0, .int (-1), .int 0, .ref n3005, .ref n3006, .int 0, .ref n3007, .ref n3008, .int 0, .int 0, .int 0, .int 0, .int 0, .int 0, .int 0, .ref n3009, .ref n3010, .int 0, .int 0, .ref n3011, .ref n3012, .int 0, .int 0, .ref n3013, .ref n3014, .ref n3015, .int 0, .ref n3016, .ref n3017, .ref n3018])), (n3000, .inl (cy 1, 1300, .inl (fun _ => 0)))] H := hP
    have hD : va_D A [(n3900, .inr (12, [.ref n3000, .ref n3001, .ref n3002, .ref n3003, .int 0, .ref n3004, .int 0, .int 0, .int 0, .int 0, .int 0, .int 0, .int 0, .int 0, .int 0, .int (-1), .int 0, .ref n3005, .ref n3006, .int 0, .ref n3007, .ref n3008, .int 0, .int 0, .int 0, .int 0, .int 0, .int 0, .int 0, .ref n3009, .ref n3010, .int 0, .int 0, .ref n3011, .ref n3012, .int 0, .int 0, .ref n3013, .ref n3014, .ref n3015, .int 0, .ref n3016, .ref n3017, .ref n3018])), (n3000, .inl (cy 1, 1300, .inl (fun _ => 0)))] := hD
    refine lv_aload_n hx hb dL_law_2443 rfl (lv_at hl 2 rfl) ?_
    refine lv_aload_n hx hb dL_law_2444 rfl (lv_at hl 4 rfl) ?_
    refine lv_iload hx hb dL_law_2445 (lv_at hl 0 rfl) ?_
    refine lv_iconst (v := 1) hx hb dL_law_2447 (by decide +kernel) ?_
    refine lv_iadd hx hb dL_law_2448 ?_
    refine top_i (v := 1) (by decide +kernel) ?_
    refine va_sld hx hb hX hbl hbA hS (i := 1) (vin (by decide +kernel)) dL_law_2449 ?_
    refine top_i (v := 7) ez1 ?_
    refine call_i (av := [.ref n3900, .int 7]) F hP hD hS [(n3900, .inr (12, [.ref n3000, .ref n3001, .ref n3002, .ref n3003, .int 0, .ref n3004, .int 0, .int 0, .int 0, .int 0, .int 0, .int 0, .int 0, .int 0, .int 0, .int (-1), .int 0, .ref n3005, .ref n3006, .int 0, .ref n3007, .ref n3008, .int 0, .int 0, .int 0, .int 0, .int 0, .int 0, .int 0, .ref n3009, .ref n3010, .int 0, .int 0, .ref n3011, .ref n3012, .int 0, .int 0, .ref n3013, .ref n3014, .ref n3015, .int 0, .ref n3016, .ref n3017, .ref n3018])), (n3000, .inl (cy 1, 1300, .inl (fun _ => 0)))] [] [0, 1] [] rfl rfl (by decide +kernel) (fun pr => va_runV (As := [.int 7]) (rest := [.int 0]) ⟨hx, hb, hml, hown, hts⟩ (k203_X12_count l D cy H.size n3900 7 n3000 n3001 n3002 n3003 n3004 n3005 n3006 n3007 n3008 n3009 n3010 n3011 n3012 n3013 n3014 n3015 n3016 n3017 n3018) (cwV 1 hts gw_X12_count rfl rfl rfl (by decide +kernel) ⟨(by decide +kernel), (by decide +kernel)⟩) ⟨pr.1, va_recv hK hP (ci := 12) (q0 := 0) rfl rfl, pr.2⟩ rfl rfl hl.1 rfl (lv_room (Nat.le_of_ble_eq_true rfl)) dL_law_2450 ⟨(by decide +kernel), (by decide +kernel)⟩) (fun r u H locs hw hP hD hS => ?_)
    rcases hw with ⟨c800215, c800216, c800217, c800218, c800219, c800220, c800221, c800222, c800223, c800224, c800225, rfl, rfl⟩ | ⟨c800226, rfl, rfl⟩ | ⟨c800227, rfl, rfl⟩ | ⟨c800228, rfl, rfl⟩ | ⟨c800229, rfl, rfl⟩ | ⟨c800230, rfl, rfl⟩ | ⟨c800231, rfl, rfl⟩ | ⟨c800232, rfl, rfl⟩ | ⟨c800233, rfl, rfl⟩ | ⟨c800234, rfl, rfl⟩ | ⟨c800235, rfl, rfl⟩ | ⟨c800236, rfl, rfl⟩
    · exact absurd (by decide +kernel) c800222
    · exact absurd c800226 (by decide +kernel)
    · exact absurd c800227 (by decide +kernel)
    · exact absurd c800228 (by decide +kernel)
    · exact absurd c800229 (by decide +kernel)
    · exact absurd c800230 (by decide +kernel)
    · exact absurd c800231 (by decide +kernel)
    · exact absurd c800232 (by decide +kernel)
    · have hP : va_P D vwCl [(n3900, .inr (12, [.ref n3000, .ref n3001, .ref n3002, .ref n3003, .int 0, .ref n3004, .int 0, .int 0, .int 0, .int 0, .int 0, .int 0, .int 0, .int 0, .int 0, .int (-1), .int 0, .ref n3005, .ref n3006, .int 0, .ref n3007, .ref n3008, .int 0, .int 0, .int 0, .int 0, .int 0, .int 0, .int 0, .ref n3009, .ref n3010, .int 0, .int 0, .ref n3011, .ref n3012, .int 0, .int 0, .ref n3013, .ref n3014, .ref n3015, .int 0, .ref n3016, .ref n3017, .ref n3018])), (n3000, .inl (cy 1, 1300, .inl (fun _ => 0)))] H := hP
      have hD : va_D A [(n3900, .inr (12, [.ref n3000, .ref n3001, .ref n3002, .ref n3003, .int 0, .ref n3004, .int 0, .int 0, .int 0, .int 0, .int 0, .int 0, .int 0, .int 0, .int 0, .int (-1), .int 0, .ref n3005, .ref n3006, .int 0, .ref n3007, .ref n3008, .int 0, .int 0, .int 0, .int 0, .int 0, .int 0, .int 0, .ref n3009, .ref n3010, .int 0, .int 0, .ref n3011, .ref n3012, .int 0, .int 0, .ref n3013, .ref n3014, .ref n3015, .int 0, .ref n3016, .ref n3017, .ref n3018])), (n3000, .inl (cy 1, 1300, .inl (fun _ => 0)))] := hD
      refine lv_icmp_eq (tgt := 2458) hx hb dL_law_2453 (by decide +kernel) (fun _ => ?_) (fun h => absurd (by decide +kernel) h)
      refine lv_iinc (v := 6) (lv' := [(4, .int 6), (3, .ref n5000), (2, .ref n3900), (1, .ref n1900), (0, .ref b)]) hx hb dL_law_2458 hl (k := 0) rfl (by decide) (by decide +kernel) rfl (fun ls hl => ?_)
      refine lv_goto (tgt := 23) hx hb dL_law_2461 (by decide +kernel) ?_
      refine lv_iload hx hb dL_law_23 (lv_at hl 0 rfl) ?_
      refine lv_aload_n hx hb dL_law_25 rfl (lv_at hl 4 rfl) ?_
      refine va_slen hx hb hX hbl hbA hS dL_law_26 ?_
      refine top_i (v := 6) rfl ?_
      refine lv_bipush (v := 6) hx hb dL_law_27 (by decide +kernel) ?_
      refine lv_isub hx hb dL_law_29 ?_
      refine top_i (v := 0) (by decide +kernel) ?_
      refine lv_icmp_gt (tgt := 2464) hx hb dL_law_30 (by decide +kernel) (fun _ => ?_) (fun h => absurd (by decide +kernel) h)
      refine lv_iconst (v := 1) hx hb dL_law_2464 (by decide +kernel) ?_
      refine va_forget (fun q hq => hAq _ (hS.2.2 q hq)) ?_
      refine W.widen (k := 600002) (n := 7302232) (by decide +kernel) (by decide +kernel) ?_
      exact lw_ret hx hb hr hlk dL_law_2465
    · exact absurd c800234 (by decide +kernel)
    · exact absurd c800235 (by decide +kernel)
    · exact absurd c800236 (by decide +kernel)
  · have hP := left_P hP
    have hD := left_D hD
    subst c800020
    have hP : va_P D vwCl [(n3900, .inr (12, [.ref n3000, .ref n3001, .ref n3002, .ref n3003, .int 0, .ref n3004, .int 0, .int 0, .int 0, .int 0, .int 0, .int 0, .int 0, .int 0, .int 0, .int (-1), .int 0, .ref n3005, .ref n3006, .int 0, .ref n3007, .ref n3008, .int 0, .int 0, .int 0, .int 0, .int 0, .int 0, .int 0, .ref n3009, .ref n3010, .int 0, .int 0, .ref n3011, .ref n3012, .int 0, .int 0, .ref n3013, .ref n3014, .ref n3015, .int 0, .ref n3016, .ref n3017, .ref n3018])), (n3000, .inl (cy 1, 1300, .inl (fun _ => 0)))] H := hP
    have hD : va_D A [(n3900, .inr (12, [.ref n3000, .ref n3001, .ref n3002, .ref n3003, .int 0, .ref n3004, .int 0, .int 0, .int 0, .int 0, .int 0, .int 0, .int 0, .int 0, .int 0, .int (-1), .int 0, .ref n3005, .ref n3006, .int 0, .ref n3007, .ref n3008, .int 0, .int 0, .int 0, .int 0, .int 0, .int 0, .int 0, .ref n3009, .ref n3010, .int 0, .int 0, .ref n3011, .ref n3012, .int 0, .int 0, .ref n3013, .ref n3014, .ref n3015, .int 0, .ref n3016, .ref n3017, .ref n3018])), (n3000, .inl (cy 1, 1300, .inl (fun _ => 0)))] := hD
    refine lv_aload_n hx hb dL_law_2443 rfl (lv_at hl 2 rfl) ?_
    refine lv_aload_n hx hb dL_law_2444 rfl (lv_at hl 4 rfl) ?_
    refine lv_iload hx hb dL_law_2445 (lv_at hl 0 rfl) ?_
    refine lv_iconst (v := 1) hx hb dL_law_2447 (by decide +kernel) ?_
    refine lv_iadd hx hb dL_law_2448 ?_
    refine top_i (v := 1) (by decide +kernel) ?_
    refine va_sld hx hb hX hbl hbA hS (i := 1) (vin (by decide +kernel)) dL_law_2449 ?_
    refine top_i (v := 8) ez1 ?_
    refine call_i (av := [.ref n3900, .int 8]) F hP hD hS [(n3900, .inr (12, [.ref n3000, .ref n3001, .ref n3002, .ref n3003, .int 0, .ref n3004, .int 0, .int 0, .int 0, .int 0, .int 0, .int 0, .int 0, .int 0, .int 0, .int (-1), .int 0, .ref n3005, .ref n3006, .int 0, .ref n3007, .ref n3008, .int 0, .int 0, .int 0, .int 0, .int 0, .int 0, .int 0, .ref n3009, .ref n3010, .int 0, .int 0, .ref n3011, .ref n3012, .int 0, .int 0, .ref n3013, .ref n3014, .ref n3015, .int 0, .ref n3016, .ref n3017, .ref n3018])), (n3000, .inl (cy 1, 1300, .inl (fun _ => 0)))] [] [0, 1] [] rfl rfl (by decide +kernel) (fun pr => va_runV (As := [.int 8]) (rest := [.int 0]) ⟨hx, hb, hml, hown, hts⟩ (k203_X12_count l D cy H.size n3900 8 n3000 n3001 n3002 n3003 n3004 n3005 n3006 n3007 n3008 n3009 n3010 n3011 n3012 n3013 n3014 n3015 n3016 n3017 n3018) (cwV 1 hts gw_X12_count rfl rfl rfl (by decide +kernel) ⟨(by decide +kernel), (by decide +kernel)⟩) ⟨pr.1, va_recv hK hP (ci := 12) (q0 := 0) rfl rfl, pr.2⟩ rfl rfl hl.1 rfl (lv_room (Nat.le_of_ble_eq_true rfl)) dL_law_2450 ⟨(by decide +kernel), (by decide +kernel)⟩) (fun r u H locs hw hP hD hS => ?_)
    rcases hw with ⟨c800239, c800240, c800241, c800242, c800243, c800244, c800245, c800246, c800247, c800248, c800249, rfl, rfl⟩ | ⟨c800250, rfl, rfl⟩ | ⟨c800251, rfl, rfl⟩ | ⟨c800252, rfl, rfl⟩ | ⟨c800253, rfl, rfl⟩ | ⟨c800254, rfl, rfl⟩ | ⟨c800255, rfl, rfl⟩ | ⟨c800256, rfl, rfl⟩ | ⟨c800257, rfl, rfl⟩ | ⟨c800258, rfl, rfl⟩ | ⟨c800259, rfl, rfl⟩ | ⟨c800260, rfl, rfl⟩
    · exact absurd (by decide +kernel) c800247
    · exact absurd c800250 (by decide +kernel)
    · exact absurd c800251 (by decide +kernel)
    · exact absurd c800252 (by decide +kernel)
    · exact absurd c800253 (by decide +kernel)
    · exact absurd c800254 (by decide +kernel)
    · exact absurd c800255 (by decide +kernel)
    · exact absurd c800256 (by decide +kernel)
    · exact absurd c800257 (by decide +kernel)
    · have hP : va_P D vwCl [(n3900, .inr (12, [.ref n3000, .ref n3001, .ref n3002, .ref n3003, .int 0, .ref n3004, .int 0, .int 0, .int 0, .int 0, .int 0, .int 0, .int 0, .int 0, .int 0, .int (-1), .int 0, .ref n3005, .ref n3006, .int 0, .ref n3007, .ref n3008, .int 0, .int 0, .int 0, .int 0, .int 0, .int 0, .int 0, .ref n3009, .ref n3010, .int 0, .int 0, .ref n3011, .ref n3012, .int 0, .int 0, .ref n3013, .ref n3014, .ref n3015, .int 0, .ref n3016, .ref n3017, .ref n3018])), (n3000, .inl (cy 1, 1300, .inl (fun _ => 0)))] H := hP
      have hD : va_D A [(n3900, .inr (12, [.ref n3000, .ref n3001, .ref n3002, .ref n3003, .int 0, .ref n3004, .int 0, .int 0, .int 0, .int 0, .int 0, .int 0, .int 0, .int 0, .int 0, .int (-1), .int 0, .ref n3005, .ref n3006, .int 0, .ref n3007, .ref n3008, .int 0, .int 0, .int 0, .int 0, .int 0, .int 0, .int 0, .ref n3009, .ref n3010, .int 0, .int 0, .ref n3011, .ref n3012, .int 0, .int 0, .ref n3013, .ref n3014, .ref n3015, .int 0, .ref n3016, .ref n3017, .ref n3018])), (n3000, .inl (cy 1, 1300, .inl (fun _ => 0)))] := hD
      refine lv_icmp_eq (tgt := 2458) hx hb dL_law_2453 (by decide +kernel) (fun _ => ?_) (fun h => absurd (by decide +kernel) h)
      refine lv_iinc (v := 6) (lv' := [(4, .int 6), (3, .ref n5000), (2, .ref n3900), (1, .ref n1900), (0, .ref b)]) hx hb dL_law_2458 hl (k := 0) rfl (by decide) (by decide +kernel) rfl (fun ls hl => ?_)
      refine lv_goto (tgt := 23) hx hb dL_law_2461 (by decide +kernel) ?_
      refine lv_iload hx hb dL_law_23 (lv_at hl 0 rfl) ?_
      refine lv_aload_n hx hb dL_law_25 rfl (lv_at hl 4 rfl) ?_
      refine va_slen hx hb hX hbl hbA hS dL_law_26 ?_
      refine top_i (v := 6) rfl ?_
      refine lv_bipush (v := 6) hx hb dL_law_27 (by decide +kernel) ?_
      refine lv_isub hx hb dL_law_29 ?_
      refine top_i (v := 0) (by decide +kernel) ?_
      refine lv_icmp_gt (tgt := 2464) hx hb dL_law_30 (by decide +kernel) (fun _ => ?_) (fun h => absurd (by decide +kernel) h)
      refine lv_iconst (v := 1) hx hb dL_law_2464 (by decide +kernel) ?_
      refine va_forget (fun q hq => hAq _ (hS.2.2 q hq)) ?_
      refine W.widen (k := 600002) (n := 7302232) (by decide +kernel) (by decide +kernel) ?_
      exact lw_ret hx hb hr hlk dL_law_2465
    · exact absurd c800259 (by decide +kernel)
    · exact absurd c800260 (by decide +kernel)
  · have hP := left_P hP
    have hD := left_D hD
    subst c800021
    have hP : va_P D vwCl [(n3900, .inr (12, [.ref n3000, .ref n3001, .ref n3002, .ref n3003, .int 0, .ref n3004, .int 0, .int 0, .int 0, .int 0, .int 0, .int 0, .int 0, .int 0, .int 0, .int (-1), .int 0, .ref n3005, .ref n3006, .int 0, .ref n3007, .ref n3008, .int 0, .int 0, .int 0, .int 0, .int 0, .int 0, .int 0, .ref n3009, .ref n3010, .int 0, .int 0, .ref n3011, .ref n3012, .int 0, .int 0, .ref n3013, .ref n3014, .ref n3015, .int 0, .ref n3016, .ref n3017, .ref n3018])), (n3000, .inl (cy 1, 1300, .inl (fun _ => 0)))] H := hP
    have hD : va_D A [(n3900, .inr (12, [.ref n3000, .ref n3001, .ref n3002, .ref n3003, .int 0, .ref n3004, .int 0, .int 0, .int 0, .int 0, .int 0, .int 0, .int 0, .int 0, .int 0, .int (-1), .int 0, .ref n3005, .ref n3006, .int 0, .ref n3007, .ref n3008, .int 0, .int 0, .int 0, .int 0, .int 0, .int 0, .int 0, .ref n3009, .ref n3010, .int 0, .int 0, .ref n3011, .ref n3012, .int 0, .int 0, .ref n3013, .ref n3014, .ref n3015, .int 0, .ref n3016, .ref n3017, .ref n3018])), (n3000, .inl (cy 1, 1300, .inl (fun _ => 0)))] := hD
    refine lv_aload_n hx hb dL_law_2443 rfl (lv_at hl 2 rfl) ?_
    refine lv_aload_n hx hb dL_law_2444 rfl (lv_at hl 4 rfl) ?_
    refine lv_iload hx hb dL_law_2445 (lv_at hl 0 rfl) ?_
    refine lv_iconst (v := 1) hx hb dL_law_2447 (by decide +kernel) ?_
    refine lv_iadd hx hb dL_law_2448 ?_
    refine top_i (v := 1) (by decide +kernel) ?_
    refine va_sld hx hb hX hbl hbA hS (i := 1) (vin (by decide +kernel)) dL_law_2449 ?_
    refine top_i (v := 9) ez1 ?_
    refine call_i (av := [.ref n3900, .int 9]) F hP hD hS [(n3900, .inr (12, [.ref n3000, .ref n3001, .ref n3002, .ref n3003, .int 0, .ref n3004, .int 0, .int 0, .int 0, .int 0, .int 0, .int 0, .int 0, .int 0, .int 0, .int (-1), .int 0, .ref n3005, .ref n3006, .int 0, .ref n3007, .ref n3008, .int 0, .int 0, .int 0, .int 0, .int 0, .int 0, .int 0, .ref n3009, .ref n3010, .int 0, .int 0, .ref n3011, .ref n3012, .int 0, .int 0, .ref n3013, .ref n3014, .ref n3015, .int 0, .ref n3016, .ref n3017, .ref n3018])), (n3000, .inl (cy 1, 1300, .inl (fun _ => 0)))] [] [0, 1] [] rfl rfl (by decide +kernel) (fun pr => va_runV (As := [.int 9]) (rest := [.int 0]) ⟨hx, hb, hml, hown, hts⟩ (k203_X12_count l D cy H.size n3900 9 n3000 n3001 n3002 n3003 n3004 n3005 n3006 n3007 n3008 n3009 n3010 n3011 n3012 n3013 n3014 n3015 n3016 n3017 n3018) (cwV 1 hts gw_X12_count rfl rfl rfl (by decide +kernel) ⟨(by decide +kernel), (by decide +kernel)⟩) ⟨pr.1, va_recv hK hP (ci := 12) (q0 := 0) rfl rfl, pr.2⟩ rfl rfl hl.1 rfl (lv_room (Nat.le_of_ble_eq_true rfl)) dL_law_2450 ⟨(by decide +kernel), (by decide +kernel)⟩) (fun r u H locs hw hP hD hS => ?_)
    rcases hw with ⟨c800263, c800264, c800265, c800266, c800267, c800268, c800269, c800270, c800271, c800272, c800273, rfl, rfl⟩ | ⟨c800274, rfl, rfl⟩ | ⟨c800275, rfl, rfl⟩ | ⟨c800276, rfl, rfl⟩ | ⟨c800277, rfl, rfl⟩ | ⟨c800278, rfl, rfl⟩ | ⟨c800279, rfl, rfl⟩ | ⟨c800280, rfl, rfl⟩ | ⟨c800281, rfl, rfl⟩ | ⟨c800282, rfl, rfl⟩ | ⟨c800283, rfl, rfl⟩ | ⟨c800284, rfl, rfl⟩
    · exact absurd (by decide +kernel) c800272
    · exact absurd c800274 (by decide +kernel)
    · exact absurd c800275 (by decide +kernel)
    · exact absurd c800276 (by decide +kernel)
    · exact absurd c800277 (by decide +kernel)
    · exact absurd c800278 (by decide +kernel)
    · exact absurd c800279 (by decide +kernel)
    · exact absurd c800280 (by decide +kernel)
    · exact absurd c800281 (by decide +kernel)
    · exact absurd c800282 (by decide +kernel)
    · have hP : va_P D vwCl [(n3900, .inr (12, [.ref n3000, .ref n3001, .ref n3002, .ref n3003, .int 0, .ref n3004, .int 0, .int 0, .int 0, .int 0, .int 0, .int 0, .int 0, .int 0, .int 0, .int (-1), .int 0, .ref n3005, .ref n3006, .int 0, .ref n3007, .ref n3008, .int 0, .int 0, .int 0, .int 0, .int 0, .int 0, .int 0, .ref n3009, .ref n3010, .int 0, .int 0, .ref n3011, .ref n3012, .int 0, .int 0, .ref n3013, .ref n3014, .ref n3015, .int 0, .ref n3016, .ref n3017, .ref n3018])), (n3000, .inl (cy 1, 1300, .inl (fun _ => 0)))] H := hP
      have hD : va_D A [(n3900, .inr (12, [.ref n3000, .ref n3001, .ref n3002, .ref n3003, .int 0, .ref n3004, .int 0, .int 0, .int 0, .int 0, .int 0, .int 0, .int 0, .int 0, .int 0, .int (-1), .int 0, .ref n3005, .ref n3006, .int 0, .ref n3007, .ref n3008, .int 0, .int 0, .int 0, .int 0, .int 0, .int 0, .int 0, .ref n3009, .ref n3010, .int 0, .int 0, .ref n3011, .ref n3012, .int 0, .int 0, .ref n3013, .ref n3014, .ref n3015, .int 0, .ref n3016, .ref n3017, .ref n3018])), (n3000, .inl (cy 1, 1300, .inl (fun _ => 0)))] := hD
      refine lv_icmp_eq (tgt := 2458) hx hb dL_law_2453 (by decide +kernel) (fun _ => ?_) (fun h => absurd (by decide +kernel) h)
      refine lv_iinc (v := 6) (lv' := [(4, .int 6), (3, .ref n5000), (2, .ref n3900), (1, .ref n1900), (0, .ref b)]) hx hb dL_law_2458 hl (k := 0) rfl (by decide) (by decide +kernel) rfl (fun ls hl => ?_)
      refine lv_goto (tgt := 23) hx hb dL_law_2461 (by decide +kernel) ?_
      refine lv_iload hx hb dL_law_23 (lv_at hl 0 rfl) ?_
      refine lv_aload_n hx hb dL_law_25 rfl (lv_at hl 4 rfl) ?_
      refine va_slen hx hb hX hbl hbA hS dL_law_26 ?_
      refine top_i (v := 6) rfl ?_
      refine lv_bipush (v := 6) hx hb dL_law_27 (by decide +kernel) ?_
      refine lv_isub hx hb dL_law_29 ?_
      refine top_i (v := 0) (by decide +kernel) ?_
      refine lv_icmp_gt (tgt := 2464) hx hb dL_law_30 (by decide +kernel) (fun _ => ?_) (fun h => absurd (by decide +kernel) h)
      refine lv_iconst (v := 1) hx hb dL_law_2464 (by decide +kernel) ?_
      refine va_forget (fun q hq => hAq _ (hS.2.2 q hq)) ?_
      refine W.widen (k := 600002) (n := 7302232) (by decide +kernel) (by decide +kernel) ?_
      exact lw_ret hx hb hr hlk dL_law_2465
    · exact absurd c800284 (by decide +kernel)
  · have hP := left_P hP
    have hD := left_D hD
    subst c800022
    have hP : va_P D vwCl [(n3900, .inr (12, [.ref n3000, .ref n3001, .ref n3002, .ref n3003, .int 0, .ref n3004, .int 0, .int 0, .int 0, .int 0, .int 0, .int 0, .int 0, .int 0, .int 0, .int (-1), .int 0, .ref n3005, .ref n3006, .int 0, .ref n3007, .ref n3008, .int 0, .int 0, .int 0, .int 0, .int 0, .int 0, .int 0, .ref n3009, .ref n3010, .int 0, .int 0, .ref n3011, .ref n3012, .int 0, .int 0, .ref n3013, .ref n3014, .ref n3015, .int 0, .ref n3016, .ref n3017, .ref n3018])), (n3000, .inl (cy 1, 1300, .inl (fun _ => 0)))] H := hP
    have hD : va_D A [(n3900, .inr (12, [.ref n3000, .ref n3001, .ref n3002, .ref n3003, .int 0, .ref n3004, .int 0, .int 0, .int 0, .int 0, .int 0, .int 0, .int 0, .int 0, .int 0, .int (-1), .int 0, .ref n3005, .ref n3006, .int 0, .ref n3007, .ref n3008, .int 0, .int 0, .int 0, .int 0, .int 0, .int 0, .int 0, .ref n3009, .ref n3010, .int 0, .int 0, .ref n3011, .ref n3012, .int 0, .int 0, .ref n3013, .ref n3014, .ref n3015, .int 0, .ref n3016, .ref n3017, .ref n3018])), (n3000, .inl (cy 1, 1300, .inl (fun _ => 0)))] := hD
    refine lv_aload_n hx hb dL_law_2443 rfl (lv_at hl 2 rfl) ?_
    refine lv_aload_n hx hb dL_law_2444 rfl (lv_at hl 4 rfl) ?_
    refine lv_iload hx hb dL_law_2445 (lv_at hl 0 rfl) ?_
    refine lv_iconst (v := 1) hx hb dL_law_2447 (by decide +kernel) ?_
    refine lv_iadd hx hb dL_law_2448 ?_
    refine top_i (v := 1) (by decide +kernel) ?_
    refine va_sld hx hb hX hbl hbA hS (i := 1) (vin (by decide +kernel)) dL_law_2449 ?_
    refine top_i (v := 10) ez1 ?_
    refine call_i (av := [.ref n3900, .int 10]) F hP hD hS [(n3900, .inr (12, [.ref n3000, .ref n3001, .ref n3002, .ref n3003, .int 0, .ref n3004, .int 0, .int 0, .int 0, .int 0, .int 0, .int 0, .int 0, .int 0, .int 0, .int (-1), .int 0, .ref n3005, .ref n3006, .int 0, .ref n3007, .ref n3008, .int 0, .int 0, .int 0, .int 0, .int 0, .int 0, .int 0, .ref n3009, .ref n3010, .int 0, .int 0, .ref n3011, .ref n3012, .int 0, .int 0, .ref n3013, .ref n3014, .ref n3015, .int 0, .ref n3016, .ref n3017, .ref n3018])), (n3000, .inl (cy 1, 1300, .inl (fun _ => 0)))] [] [0, 1] [] rfl rfl (by decide +kernel) (fun pr => va_runV (As := [.int 10]) (rest := [.int 0]) ⟨hx, hb, hml, hown, hts⟩ (k203_X12_count l D cy H.size n3900 10 n3000 n3001 n3002 n3003 n3004 n3005 n3006 n3007 n3008 n3009 n3010 n3011 n3012 n3013 n3014 n3015 n3016 n3017 n3018) (cwV 1 hts gw_X12_count rfl rfl rfl (by decide +kernel) ⟨(by decide +kernel), (by decide +kernel)⟩) ⟨pr.1, va_recv hK hP (ci := 12) (q0 := 0) rfl rfl, pr.2⟩ rfl rfl hl.1 rfl (lv_room (Nat.le_of_ble_eq_true rfl)) dL_law_2450 ⟨(by decide +kernel), (by decide +kernel)⟩) (fun r u H locs hw hP hD hS => ?_)
    rcases hw with ⟨c800287, c800288, c800289, c800290, c800291, c800292, c800293, c800294, c800295, c800296, c800297, rfl, rfl⟩ | ⟨c800298, rfl, rfl⟩ | ⟨c800299, rfl, rfl⟩ | ⟨c800300, rfl, rfl⟩ | ⟨c800301, rfl, rfl⟩ | ⟨c800302, rfl, rfl⟩ | ⟨c800303, rfl, rfl⟩ | ⟨c800304, rfl, rfl⟩ | ⟨c800305, rfl, rfl⟩ | ⟨c800306, rfl, rfl⟩ | ⟨c800307, rfl, rfl⟩ | ⟨c800308, rfl, rfl⟩
    · exact absurd (by decide +kernel) c800297
    · exact absurd c800298 (by decide +kernel)
    · exact absurd c800299 (by decide +kernel)
    · exact absurd c800300 (by decide +kernel)
    · exact absurd c800301 (by decide +kernel)
    · exact absurd c800302 (by decide +kernel)
    · exact absurd c800303 (by decide +kernel)
    · exact absurd c800304 (by decide +kernel)
    · exact absurd c800305 (by decide +kernel)
    · exact absurd c800306 (by decide +kernel)
    · exact absurd c800307 (by decide +kernel)
    · have hP : va_P D vwCl [(n3900, .inr (12, [.ref n3000, .ref n3001, .ref n3002, .ref n3003, .int 0, .ref n3004, .int 0, .int 0, .int 0, .int 0, .int 0, .int 0, .int 0, .int 0, .int 0, .int (-1), .int 0, .ref n3005, .ref n3006, .int 0, .ref n3007, .ref n3008, .int 0, .int 0, .int 0, .int 0, .int 0, .int 0, .int 0, .ref n3009, .ref n3010, .int 0, .int 0, .ref n3011, .ref n3012, .int 0, .int 0, .ref n3013, .ref n3014, .ref n3015, .int 0, .ref n3016, .ref n3017, .ref n3018])), (n3000, .inl (cy 1, 1300, .inl (fun _ => 0)))] H := hP
      have hD : va_D A [(n3900, .inr (12, [.ref n3000, .ref n3001, .ref n3002, .ref n3003, .int 0, .ref n3004, .int 0, .int 0, .int 0, .int 0, .int 0, .int 0, .int 0, .int 0, .int 0, .int (-1), .int 0, .ref n3005, .ref n3006, .int 0, .ref n3007, .ref n3008, .int 0, .int 0, .int 0, .int 0, .int 0, .int 0, .int 0, .ref n3009, .ref n3010, .int 0, .int 0, .ref n3011, .ref n3012, .int 0, .int 0, .ref n3013, .ref n3014, .ref n3015, .int 0, .ref n3016, .ref n3017, .ref n3018])), (n3000, .inl (cy 1, 1300, .inl (fun _ => 0)))] := hD
      refine lv_icmp_eq (tgt := 2458) hx hb dL_law_2453 (by decide +kernel) (fun _ => ?_) (fun h => absurd (by decide +kernel) h)
      refine lv_iinc (v := 6) (lv' := [(4, .int 6), (3, .ref n5000), (2, .ref n3900), (1, .ref n1900), (0, .ref b)]) hx hb dL_law_2458 hl (k := 0) rfl (by decide) (by decide +kernel) rfl (fun ls hl => ?_)
      refine lv_goto (tgt := 23) hx hb dL_law_2461 (by decide +kernel) ?_
      refine lv_iload hx hb dL_law_23 (lv_at hl 0 rfl) ?_
      refine lv_aload_n hx hb dL_law_25 rfl (lv_at hl 4 rfl) ?_
      refine va_slen hx hb hX hbl hbA hS dL_law_26 ?_
      refine top_i (v := 6) rfl ?_
      refine lv_bipush (v := 6) hx hb dL_law_27 (by decide +kernel) ?_
      refine lv_isub hx hb dL_law_29 ?_
      refine top_i (v := 0) (by decide +kernel) ?_
      refine lv_icmp_gt (tgt := 2464) hx hb dL_law_30 (by decide +kernel) (fun _ => ?_) (fun h => absurd (by decide +kernel) h)
      refine lv_iconst (v := 1) hx hb dL_law_2464 (by decide +kernel) ?_
      refine va_forget (fun q hq => hAq _ (hS.2.2 q hq)) ?_
      refine W.widen (k := 600002) (n := 7302232) (by decide +kernel) (by decide +kernel) ?_
      exact lw_ret hx hb hr hlk dL_law_2465
