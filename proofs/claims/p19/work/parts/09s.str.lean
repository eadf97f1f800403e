section STRS
variable {D : va_G} {cy : Nat → ClassId} {ad : Nat → Nat} {p : Program} {l : Launch} {e : Env} {R : Room} {s : State} {m : MethodId} {args : Array Value} {below : List Frame} {meth : Method} {c : Code} {cc : ByteArray} {own : String} {A : Nat → Prop} {nL n0 s0 mc : Nat} {Q : State → Prop} {pc : Nat} {ls : List (Nat × Value)} {st rest : List Value} {M : Mem}
variable {y : MethodName} {cb : ByteArray} {mL h h' : Nat} {rt : Option FieldType} {av : (Nat → Nat) → List Value}
theorem sb_len : ∀ i, i < strs.length → (sbyt.getD i []).length ≤ 40 := by decide +kernel
theorem sb_rng : ∀ i, i < strs.length → ∀ j, j < (sbyt.getD i []).length → 0 ≤ ((sbyt.getD i []).getD j 0).toInt ∧ ((sbyt.getD i []).getD j 0).toInt ≤ 127 := by decide +kernel
def sbc (i j : Nat) : Int := ((sbyt.getD i []).getD j 0).toInt
theorem z_sval {i idx : Nat} (F : FxM D cy ad p m c cc nL s args own A) (hi : i < strs.length) (hl : Cond.fieldLink own idx "java/lang/String" "value" "[B" ∈ gtbl) (d : decode cc pc = .ok (.getfield idx, 3)) (k : Z D cy ad p l e R s m args below meth c A nL n0 s0 Q (pc + 3) ls (.ref (ad (2000 + i)) :: rest) M) : Z D cy ad p l e R s m args below meth c A nL n0 s0 Q (pc) ls (.ref (ad (1000 + i)) :: rest) M := fun H locs la hP hD hS hl' => vk_getf F.x F.b (F.2.2.2.2 i hi).2.2.1 hS F.o (F.t hl) (fun _ h => h) d (k H locs la hP hD hS hl')
theorem z_scod {i idx : Nat} (F : FxM D cy ad p m c cc nL s args own A) (hi : i < strs.length) (hl : Cond.fieldLink own idx "java/lang/String" "coder" "B" ∈ gtbl) (d : decode cc pc = .ok (.getfield idx, 3)) (k : Z D cy ad p l e R s m args below meth c A nL n0 s0 Q (pc + 3) ls (ii 0 :: rest) M) : Z D cy ad p l e R s m args below meth c A nL n0 s0 Q (pc) ls (.ref (ad (1000 + i)) :: rest) M := fun H locs la hP hD hS hl' => vk_getf F.x F.b (F.2.2.2.2 i hi).2.1 hS F.o (F.t hl) (fun _ h => h) d (k H locs la hP hD hS hl')
theorem z_comp {idx : Nat} (F : FxM D cy ad p m c cc nL s args own A) (hl : Cond.fieldLink own idx "java/lang/String" "COMPACT_STRINGS" "Z" ∈ gtbl) (d : decode cc pc = .ok (.getstatic idx, 3)) (k : Z D cy ad p l e R s m args below meth c A nL n0 s0 Q (pc + 3) ls (ii 1 :: rest) M) : Z D cy ad p l e R s m args below meth c A nL n0 s0 Q (pc) ls (rest) M := fun H locs la hP hD hS hl' => va_gets F.x F.b F.2.2.1 hS F.o (F.t hl) (fun _ h => h) d (k H locs la hP hD hS hl')
theorem z_fmt {idx : Nat} (F : FxM D cy ad p m c cc nL s args own A) (hl : Cond.fieldLink own idx "jdk/internal/util/Preconditions" "SIOOBE_FORMATTER" "Ljava/util/function/BiFunction;" ∈ gtbl) (d : decode cc pc = .ok (.getstatic idx, 3)) (kN : Z D cy ad p l e R s m args below meth c A nL n0 s0 Q (pc + 3) ls (.null :: rest) M) (kR : ∀ t : Nat, Z D cy ad p l e R s m args below meth c A nL n0 s0 Q (pc + 3) ls (.ref t :: rest) M) : Z D cy ad p l e R s m args below meth c A nL n0 s0 Q (pc) ls (rest) M := fun H locs la hP hD hS hl' => by
  rcases F.2.2.2.1 with q | ⟨t, q⟩
  · exact va_gets F.x F.b q hS F.o (F.t hl) (fun _ h => h) d (kN H locs la hP hD hS hl')
  · exact va_gets F.x F.b q hS F.o (F.t hl) (fun _ h => h) d (kR t H locs la hP hD hS hl')
theorem z_slen {i : Nat} (F : FxM D cy ad p m c cc nL s args own A) (hi : i < strs.length) (d : decode cc pc = .ok (.arraylength, 1)) (k : Z D cy ad p l e R s m args below meth c A nL n0 s0 Q (pc + 1) ls (ii ((sbyt.getD i []).length : Int) :: rest) M) : Z D cy ad p l e R s m args below meth c A nL n0 s0 Q (pc) ls (.ref (ad (2000 + i)) :: rest) M := fun H locs la hP hD hS hl' => va_tlen F.x F.b (F.2.2.2.2 i hi).2.2.2 hS (Int32.ofInt_eq_ofNat).symm d (k H locs la hP hD hS hl')
theorem z_sb {i : Nat} {x : Int} (F : FxM D cy ad p m c cc nL s args own A) (hi : i < strs.length) (h0 : 0 ≤ x) (h1 : x < (sbyt.getD i []).length) (d : decode cc pc = .ok (.baload, 1)) (k : Z D cy ad p l e R s m args below meth c A nL n0 s0 Q (pc + 1) ls (ii (sbc i x.toNat) :: rest) M) : Z D cy ad p l e R s m args below meth c A nL n0 s0 Q (pc) ls (ii x :: .ref (ad (2000 + i)) :: rest) M := fun H locs la hP hD hS hl' => va_tb F.x F.b (F.2.2.2.2 i hi).2.2.2 hS (in_32 h0 h1 (Nat.le_trans (sb_len i hi) (by decide))) (by rw [cl_32 h0 (by have := sb_len i hi; omega)]; show Value.int _ = Value.int (Int32.ofInt (Int32.toInt _)); rw [Int32.ofInt_toInt]) d (k H locs la hP hD hS hl')
theorem s_recv {i : Nat} {H : Heap} {locs : List Loc} (F : FxM D cy ad p m c cc nL s args own A) (hi : i < strs.length) (hS : va_S A s.heap H locs) : ∃ cell : Cell, H[ad (1000 + i)]? = some cell ∧ cell.vm.isStatics = false ∧ s.vm.findClass "java/lang/String" = some cell.cls := by
  obtain ⟨cell, h1, h2, h3, -⟩ := (F.2.2.2.2 i hi).1.kept hS.2.1
  exact ⟨cell, h1, h2, h3⟩
theorem zvs_i {post : Int → Mem → Prop} {index i n : Nat} {As : List Value} (F : FxM D cy ad p m c cc nL s args own A) (hM : CI l y cb mL rt h' av M post) (hg : GoodIn gtbl (wsV own index "java/lang/String" y (Cond.code y cb mL rt :: gtbl)) ∧ y.cls = "java/lang/String" ∧ y.cls ≠ "java/lang/invoke/MethodHandle" ∧ y.cls ≠ "java/lang/invoke/VarHandle" ∧ (parseMethodDescriptor y.desc).map (fun d => d.parameters.length) = some n) (hi : i < strs.length) (hh : h' + 1 ≤ h) (hm : mL ≤ 21) (hav : av ad = .ref (ad (1000 + i)) :: As) (hn : As.length = n) (hst : st = As.reverse ++ .ref (ad (1000 + i)) :: rest) (hw : (rest.map fun v => v.category).sum ≤ 8) (dg : decode cc pc = .ok (.invokevirtual index, 3))
    (kk : ∀ (z : Int) (M' : Mem), In32 z → Iw M' → post z M' → Z D cy ad p l e (RMh h) s m args below meth c A nL 0 0 Q (pc + 3) ls (ii z :: rest) M') : Z D cy ad p l e (RMh h) s m args below meth c A nL 0 0 Q (pc) ls (st) M := by
  refine zk_i (avl := .ref (ad (1000 + i)) :: As) F (fun H locs la hP hD hS hl => ?_) kk
  have hM' := hM D cy ad H.size
  rw [hav] at hM'
  have pr := pre_cm (av := .ref (ad (1000 + i)) :: As) F hP hD hS
  exact va_runV (As := As) (rest := rest) F.1.1 hM' (cwV n (fun w h => F.t h) hg.1 rfl rfl rfl hg.2 (room_ok hh hm)) ⟨pr.1, s_recv F hi hS, pr.2⟩ rfl hn hl.1 hst (lv_room hw) dg ⟨Nat.le_refl 0, Nat.le_refl 0⟩
theorem zws_i {post : Int → Mem → Prop} {index i n : Nat} {As : List Value} (F : FxM D cy ad p m c cc nL s args own A) (hM : CI l y cb mL rt h' av M post) (hg : GoodIn gtbl (wsV own index "java/lang/String" y (Cond.code y cb mL rt :: gtbl)) ∧ y.cls = "java/lang/String" ∧ y.cls ≠ "java/lang/invoke/MethodHandle" ∧ y.cls ≠ "java/lang/invoke/VarHandle" ∧ (parseMethodDescriptor y.desc).map (fun d => d.parameters.length) = some n) (hi : i < strs.length) (hh : h' + 1 ≤ h) (hm : mL ≤ 21) (hn0 : n0 ≤ mc ∧ s0 ≤ 6 * mc) (hav : av ad = .ref (ad (1000 + i)) :: As) (hn : As.length = n) (hst : st = As.reverse ++ .ref (ad (1000 + i)) :: rest) (hw : (rest.map fun v => v.category).sum ≤ 8) (dg : decode cc pc = .ok (.invokevirtual index, 3))
    (kk : ∀ (z : Int) (M' : Mem), In32 z → Iw M' → post z M' → Z D cy ad p l e (RMx h mc) s m args below meth c A nL n0 s0 Q (pc + 3) ls (ii z :: rest) M') : Z D cy ad p l e (RMx h mc) s m args below meth c A nL n0 s0 Q (pc) ls (st) M := by
  refine zk_i (avl := .ref (ad (1000 + i)) :: As) F (fun H locs la hP hD hS hl => ?_) kk
  have hM' := hM D cy ad H.size
  rw [hav] at hM'
  have pr := pre_cm (av := .ref (ad (1000 + i)) :: As) F hP hD hS
  exact va_runV (As := As) (rest := rest) F.1.1 hM' (cwV n (fun w h => F.t h) hg.1 rfl rfl rfl hg.2 (room_okx hh hm)) ⟨pr.1, s_recv F hi hS, pr.2⟩ rfl hn hl.1 hst (lv_room hw) dg ⟨hn0.1, hn0.2⟩
theorem nar_c {z : Int} (h0 : 0 ≤ z) (h1 : z ≤ 65535) : narrow .char (ii z) = ii z := by
  obtain ⟨q, rfl⟩ := Int.eq_ofNat_of_zero_le h0
  show narrow .char (.int (Int32.ofInt (q : Int))) = .int (Int32.ofInt (q : Int))
  rw [Int32.ofInt_eq_ofNat]
  exact (pk_charN (by omega)).1
theorem nar_b {z : Int} (h0 : 0 ≤ z) (h1 : z ≤ 0) : narrow .byte (ii z) = ii z := by
  have : z = 0 := by omega
  subst this; rfl
theorem i2c_r {x z : Int} (h : z = ((Int32.ofInt x).toUInt32 % 65536).toInt32.toInt) : 0 ≤ z ∧ z ≤ 65535 := by
  rw [pk_char] at h
  have hq : (Int32.ofInt x).toBitVec.toNat % 65536 < 65536 := Nat.mod_lt _ (by decide)
  generalize (Int32.ofInt x).toBitVec.toNat % 65536 = q at h hq
  have e : (nI q).toInt = (q : Int) := by
    show (Int32.ofNat q).toInt = (q : Int)
    rw [← Int32.ofInt_eq_ofNat, o32 ⟨by omega, by omega⟩]
  omega
theorem en_c {post : Int → Mem → Prop} (hy : plainName y.cls = true) (hav : ∀ ad, (lg_sl (av ad)).length ≤ mL)
    (body : ∀ (D : va_G) (cy : Nat → ClassId) (ad : Nat → Nat) (A : Nat → Prop) (p : Program) (e : Env) (s : State) (m : MethodId) (args : Array Value) (below : List Frame) (meth : Method) (c : Code) (Q : State → Prop), FxM D cy ad p m c cb mL s args y.cls A →
      (∀ (z : Int) (M : Mem) (pc : Nat) (ls : List (Nat × Value)), (0 ≤ z ∧ z ≤ 65535) → Iw M → post z M → decode cb pc = .ok (.ireturn, 1) → Z D cy ad p l e (RMh h) s m args below meth c A mL 0 0 Q pc ls [ii z] M) →
      Z D cy ad p l e (RMh h) s m args below meth c A mL 0 0 Q 0 (lv_args 0 (av ad)) [] M) : CI l y cb mL (some .char) h av M post := by
  intro D cy ad sz
  refine Met.ofW (cc := cb) (maxL := mL) (ret := some .char) hy rfl ?_
  intro p e s m args below meth c s₁ B hml hv
  obtain ⟨rfl, ⟨hsz, hP, hK, hD0, hG, hZ⟩, hSA⟩ := hv
  rw [lg_entry_eq]
  have hl := lv_entry (av ad) (n := mL) (hav ad)
  generalize (lg_sl (av ad) ++ List.replicate (mL - (lg_sl (av ad)).length) Slot.unset).toArray = la at hl ⊢
  have hts : ∀ w ∈ gtbl, w.before (av ad).toArray s = true := fun w hw => atoms_spec (ws := Cond.code y cb mL (some .char) :: gtbl) B.pre w (List.mem_cons_of_mem _ hw)
  have F : FxM D cy ad p m c cb mL s (av ad).toArray y.cls (va_A (wld ad cy M) sz) := ⟨⟨⟨B.exec, B.bytes, hml, findClass_of_methodNamed B.named, hts⟩, hK, hG, hZ, fun q h => Or.inr (by rw [← hsz]; exact h)⟩, hSA⟩
  refine body D cy ad (va_A (wld ad cy M) sz) p e s m _ below meth c _ F ?_ s.heap [] la hP (hD0.self (sz := sz)) va_S.rf hl
  intro z M pc ls h32 hI hp d H locs la hP hD hS hl
  exact W.zret F.x F.b B.returns (nar_c h32.1 h32.2) (fun t ht _ => ⟨⟨Int32.ofInt z, M, rfl, ⟨z, rfl, ⟨by omega, by omega⟩, hI, hp⟩, by show va_P D vwCl (wld ad cy M) t.heap; rw [ht]; exact hP, hD⟩, hS.F ht⟩) hS.2.2 d B.notSynchronized
theorem en_b {post : Int → Mem → Prop} (hy : plainName y.cls = true) (hav : ∀ ad, (lg_sl (av ad)).length ≤ mL)
    (body : ∀ (D : va_G) (cy : Nat → ClassId) (ad : Nat → Nat) (A : Nat → Prop) (p : Program) (e : Env) (s : State) (m : MethodId) (args : Array Value) (below : List Frame) (meth : Method) (c : Code) (Q : State → Prop), FxM D cy ad p m c cb mL s args y.cls A →
      (∀ (z : Int) (M : Mem) (pc : Nat) (ls : List (Nat × Value)), (0 ≤ z ∧ z ≤ 0) → Iw M → post z M → decode cb pc = .ok (.ireturn, 1) → Z D cy ad p l e (RMh h) s m args below meth c A mL 0 0 Q pc ls [ii z] M) →
      Z D cy ad p l e (RMh h) s m args below meth c A mL 0 0 Q 0 (lv_args 0 (av ad)) [] M) : CI l y cb mL (some .byte) h av M post := by
  intro D cy ad sz
  refine Met.ofW (cc := cb) (maxL := mL) (ret := some .byte) hy rfl ?_
  intro p e s m args below meth c s₁ B hml hv
  obtain ⟨rfl, ⟨hsz, hP, hK, hD0, hG, hZ⟩, hSA⟩ := hv
  rw [lg_entry_eq]
  have hl := lv_entry (av ad) (n := mL) (hav ad)
  generalize (lg_sl (av ad) ++ List.replicate (mL - (lg_sl (av ad)).length) Slot.unset).toArray = la at hl ⊢
  have hts : ∀ w ∈ gtbl, w.before (av ad).toArray s = true := fun w hw => atoms_spec (ws := Cond.code y cb mL (some .byte) :: gtbl) B.pre w (List.mem_cons_of_mem _ hw)
  have F : FxM D cy ad p m c cb mL s (av ad).toArray y.cls (va_A (wld ad cy M) sz) := ⟨⟨⟨B.exec, B.bytes, hml, findClass_of_methodNamed B.named, hts⟩, hK, hG, hZ, fun q h => Or.inr (by rw [← hsz]; exact h)⟩, hSA⟩
  refine body D cy ad (va_A (wld ad cy M) sz) p e s m _ below meth c _ F ?_ s.heap [] la hP (hD0.self (sz := sz)) va_S.rf hl
  intro z M pc ls h32 hI hp d H locs la hP hD hS hl
  exact W.zret F.x F.b B.returns (nar_b h32.1 h32.2) (fun t ht _ => ⟨⟨Int32.ofInt z, M, rfl, ⟨z, rfl, ⟨by omega, by omega⟩, hI, hp⟩, by show va_P D vwCl (wld ad cy M) t.heap; rw [ht]; exact hP, hD⟩, hS.F ht⟩) hS.2.2 d B.notSynchronized
theorem and255 : ∀ q : Nat, q < 128 → (Int32.ofInt (q : Int) &&& Int32.ofInt 255).toInt = (q : Int) := by decide +kernel
theorem i2c127 : ∀ q : Nat, q < 128 → ((Int32.ofInt (q : Int)).toUInt32 % 65536).toInt32.toInt = (q : Int) := by decide +kernel
theorem i2b127 : ∀ q : Nat, q < 128 → ((Int32.ofInt (q : Int)).toInt8.toInt32).toInt = (q : Int) := by decide +kernel
theorem chr_eq {b v w : Int} (hb : 0 ≤ b ∧ b ≤ 127) (e2 : v = (Int32.ofInt b &&& Int32.ofInt 255).toInt) (e3 : w = ((Int32.ofInt v).toUInt32 % 65536).toInt32.toInt) : w = b := by
  obtain ⟨q, rfl⟩ := Int.eq_ofNat_of_zero_le hb.1
  rw [and255 q (by omega)] at e2
  subst e2
  rw [i2c127 q (by omega)] at e3
  exact e3
theorem i2b_s {x v : Int} (h0 : 0 ≤ x) (h1 : x ≤ 127) (e : v = ((Int32.ofInt x).toInt8.toInt32).toInt) : v = x := by
  obtain ⟨q, rfl⟩ := Int.eq_ofNat_of_zero_le h0
  rw [i2b127 q (by omega)] at e
  exact e
end STRS
