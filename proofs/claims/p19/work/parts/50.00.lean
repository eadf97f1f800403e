def R_law : String := "OddTouchLaw"
def lw_P (b : Addr) (xs : List Int32) (args : Array Value) (s : State) : Prop := args = #[.ref b] ∧ s.IntsAt b xs ∧ xs.length ≤ 3072 ∧ (Jvm.Cond.and given_1 narrow_1).before args s = true
def lw_Q (_ : Array Value) (s : State) (o : Outcome) (t : State) : Prop := o = .returned (some (.int 1)) ∧ Framed s o t [] 601024 7293034
def lw_Z (below : List Frame) (a : Array Value) (s : State) : State → Prop := fun t => ∃ o, t.status = .running ∧ Ended t below o ∧ lw_Q a s o t
/-- the law's own end, with 1 on the stack, nothing written that was there before, its room as the claim has it -/
theorem lw_ret {p : Program} {l : Launch} {e : Env} {s : State} {m : MethodId} {below : List Frame} {meth : Method} {c : Code} {b : Nat} (hx : p.tables.exec = Jvm.exec) (hb : c.code = code) (hr : meth.sig.returnType = ret) (hlocks : meth.locks = false) {pc : Nat} {H : Heap} {ls : Array Slot} (hdg : decode code pc = .ok (.ireturn, 1)) : W p l e room_1 s m #[Value.ref b] below meth c H [] 601024 7293034 (lw_Z below #[Value.ref b] s) (F0 m pc ls [.int 1]) := by
  intro T hT X
  obtain ⟨fs, hret, hrun, hended, hW, hframe⟩ := X.leave (v := some (.int 1)) (hlocks := hlocks) (fun h => by rw [hr] at h; cases h)
  have hmeth' : T.vm.method? m = some meth := X.method'
  refine ⟨T.setFrames fs, ?_, .returned (some (.int 1)), hrun, hended, rfl, ⟨_, rfl⟩, hW, hframe⟩
  jvm_step X.here [X.here.top, hx, hb, hdg, hmeth', hr, ret, narrow_b1]
  (try refine ⟨rfl, ?_⟩); (try refine ⟨rfl, ?_⟩)
  first | (intro acts; rw [hret _ acts rfl rfl rfl]) | rw [hret _ _ rfl rfl rfl]
  exact Steps.refl _
/-- what holds at the law's entry: the machine, the code, the tables' words (any of lw_tbl by 'hts w (by decide +kernel)'), the script of L ints xs at the cell b, what the Statement gives of the start (any of its parts by flat_of_before) -/
def lw_At (p : Program) (s : State) (m : MethodId) (meth : Method) (c : Code) (b L : Nat) (xs : Nat → Int32) : Prop :=
  p.tables.exec = Jvm.exec ∧ c.code = code ∧ meth.sig.returnType = ret ∧ c.maxLocals = 8 ∧ s.vm.findClass R_law = some m.cls ∧ (∀ w ∈ lw_tbl, w.before #[Value.ref b] s = true) ∧ va_X b L xs s s.heap ∧ b < s.heap.size ∧ meth.locks = false ∧ (Jvm.Cond.and given_1 narrow_1).before #[Value.ref b] s = true
section LW
variable {D : va_G} {cy : Nat → ClassId} {ad : Nat → Nat} {p : Program} {l : Launch} {e : Env} {R : Room} {s : State} {m : MethodId} {args : Array Value} {below : List Frame} {meth : Method} {c : Code} {cc : ByteArray} {own : String} {A : Nat → Prop} {nL n0 s0 mc : Nat} {Q : State → Prop} {pc : Nat} {ls : List (Nat × Value)} {st rest : List Value} {M : Mem}
variable {y : MethodName} {cb : ByteArray} {mL h h' : Nat} {rt : Option FieldType} {av : (Nat → Nat) → List Value}
theorem zl_i {post : Int → Mem → Prop} {C : String} {T : u_T} {N ci index k n : Nat} {fk : List (Option Nat)} {As : List Value} (F : FxM D cy ad p m c cc nL s args own A) (hM : CI l y cb mL rt h' av M post) (hg : GoodIn gtbl (wsV own index C y (Cond.code y cb mL rt :: gtbl)) ∧ y.cls = C ∧ y.cls ≠ "java/lang/invoke/MethodHandle" ∧ y.cls ≠ "java/lang/invoke/VarHandle" ∧ (parseMethodDescriptor y.desc).map (fun d => d.parameters.length) = some n) (hcl : vwCl[ci]? = some (C, T, N))
    (hG : Gs[k]? = some (.inl (ci, fk))) (hR : (RMh h').frames + 1 ≤ R.frames ∧ 8 + (mL + 11) + (RMh h').locals ≤ R.locals) (hn0 : n0 ≤ R.cells ∧ s0 ≤ R.slots) (hav : av ad = .ref (ad k) :: As) (hn : As.length = n) (hst : st = As.reverse ++ .ref (ad k) :: rest) (hw : (rest.map fun v => v.category).sum ≤ 8) (dg : decode cc pc = .ok (.invokevirtual index, 3))
    (kk : ∀ (z : Int) (M' : Mem), In32 z → Iw M' → post z M' → Z D cy ad p l e R s m args below meth c A nL n0 s0 Q (pc + 3) (ls) (ii z :: rest) M') : Z D cy ad p l e R s m args below meth c A nL n0 s0 Q (pc) (ls) (st) M := by
  refine zk_i (avl := .ref (ad k) :: As) F (fun H locs la hP hD hS hl => ?_) kk
  have hM' := hM D cy ad H.size
  rw [hav] at hM'
  have pr := pre_cm (av := .ref (ad k) :: As) F hP hD hS
  exact va_runV (As := As) (rest := rest) F.1.1 hM' (cwV n (fun w h => F.t h) hg.1 rfl rfl rfl hg.2 hR) ⟨pr.1, va_recv F.K hP hcl (wld_get hG), pr.2⟩ rfl hn hl.1 hst (lv_room hw) dg hn0
theorem zl_l {post : Int → Mem → Prop} {C : String} {T : u_T} {N ci index k n : Nat} {fk : List (Option Nat)} {As : List Value} (F : FxM D cy ad p m c cc nL s args own A) (hM : CL l y cb mL rt h' av M post) (hg : GoodIn gtbl (wsV own index C y (Cond.code y cb mL rt :: gtbl)) ∧ y.cls = C ∧ y.cls ≠ "java/lang/invoke/MethodHandle" ∧ y.cls ≠ "java/lang/invoke/VarHandle" ∧ (parseMethodDescriptor y.desc).map (fun d => d.parameters.length) = some n) (hcl : vwCl[ci]? = some (C, T, N))
    (hG : Gs[k]? = some (.inl (ci, fk))) (hR : (RMh h').frames + 1 ≤ R.frames ∧ 8 + (mL + 11) + (RMh h').locals ≤ R.locals) (hn0 : n0 ≤ R.cells ∧ s0 ≤ R.slots) (hav : av ad = .ref (ad k) :: As) (hn : As.length = n) (hst : st = As.reverse ++ .ref (ad k) :: rest) (hw : (rest.map fun v => v.category).sum ≤ 8) (dg : decode cc pc = .ok (.invokevirtual index, 3))
    (kk : ∀ (z : Int) (M' : Mem), In64 z → Iw M' → post z M' → Z D cy ad p l e R s m args below meth c A nL n0 s0 Q (pc + 3) (ls) (ll z :: rest) M') : Z D cy ad p l e R s m args below meth c A nL n0 s0 Q (pc) (ls) (st) M := by
  refine zk_l (avl := .ref (ad k) :: As) F (fun H locs la hP hD hS hl => ?_) kk
  have hM' := hM D cy ad H.size
  rw [hav] at hM'
  have pr := pre_cm (av := .ref (ad k) :: As) F hP hD hS
  exact va_runV (As := As) (rest := rest) F.1.1 hM' (cwV n (fun w h => F.t h) hg.1 rfl rfl rfl hg.2 hR) ⟨pr.1, va_recv F.K hP hcl (wld_get hG), pr.2⟩ rfl hn hl.1 hst (lv_room hw) dg hn0
theorem zl_v {post : Mem → Prop} {C : String} {T : u_T} {N ci index k n : Nat} {fk : List (Option Nat)} {As : List Value} (F : FxM D cy ad p m c cc nL s args own A) (hM : CV l y cb mL rt h' av M post) (hg : GoodIn gtbl (wsV own index C y (Cond.code y cb mL rt :: gtbl)) ∧ y.cls = C ∧ y.cls ≠ "java/lang/invoke/MethodHandle" ∧ y.cls ≠ "java/lang/invoke/VarHandle" ∧ (parseMethodDescriptor y.desc).map (fun d => d.parameters.length) = some n) (hcl : vwCl[ci]? = some (C, T, N))
    (hG : Gs[k]? = some (.inl (ci, fk))) (hR : (RMh h').frames + 1 ≤ R.frames ∧ 8 + (mL + 11) + (RMh h').locals ≤ R.locals) (hn0 : n0 ≤ R.cells ∧ s0 ≤ R.slots) (hav : av ad = .ref (ad k) :: As) (hn : As.length = n) (hst : st = As.reverse ++ .ref (ad k) :: rest) (hw : (rest.map fun v => v.category).sum ≤ 8) (dg : decode cc pc = .ok (.invokevirtual index, 3))
    (kk : ∀ (M' : Mem), Iw M' → post M' → Z D cy ad p l e R s m args below meth c A nL n0 s0 Q (pc + 3) (ls) (rest) M') : Z D cy ad p l e R s m args below meth c A nL n0 s0 Q (pc) (ls) (st) M := by
  refine zk_v (avl := .ref (ad k) :: As) F (fun H locs la hP hD hS hl => ?_) kk
  have hM' := hM D cy ad H.size
  rw [hav] at hM'
  have pr := pre_cm (av := .ref (ad k) :: As) F hP hD hS
  exact va_runV (As := As) (rest := rest) F.1.1 hM' (cwV n (fun w h => F.t h) hg.1 rfl rfl rfl hg.2 hR) ⟨pr.1, va_recv F.K hP hcl (wld_get hG), pr.2⟩ rfl hn hl.1 hst (lv_room hw) dg hn0
theorem zy_l {post : Int → Mem → Prop} {px : String → Mem → Prop} {C : String} {T : u_T} {N ci index k n mc' : Nat} {fk : List (Option Nat)} {As : List Value} (F : FxM D cy ad p m c cc nL s args own A) (hM : CLX l y cb mL rt h' mc' av M post px) (hg : GoodIn gtbl (wsV own index C y (Cond.code y cb mL rt :: gtbl)) ∧ y.cls = C ∧ y.cls ≠ "java/lang/invoke/MethodHandle" ∧ y.cls ≠ "java/lang/invoke/VarHandle" ∧ (parseMethodDescriptor y.desc).map (fun d => d.parameters.length) = some n) (hcl' : vwCl[ci]? = some (C, T, N))
    (hG : Gs[k]? = some (.inl (ci, fk))) (hh : h' + 1 ≤ h) (hm : mL ≤ 21) (hn0 : n0 + mc' ≤ mc ∧ s0 + 6 * mc' ≤ 6 * mc) (hav : av ad = .ref (ad k) :: As) (hn : As.length = n) (hst : st = As.reverse ++ .ref (ad k) :: rest) (hw : (rest.map fun v => v.category).sum ≤ 8) (dg : decode cc pc = .ok (.invokevirtual index, 3))
    (kx : ∀ (E : String) (M' : Mem), Iw M' → px E M' → ZX D cy ad p l e (RMx h mc) s m args below meth c A nL (n0 + mc') (s0 + 6 * mc') Q pc ls rest E M') (kk : ∀ (z : Int) (M' : Mem), In64 z → Iw M' → post z M' → Z D cy ad p l e (RMx h mc) s m args below meth c A nL (n0 + mc') (s0 + 6 * mc') Q (pc + 3) ls (ll z :: rest) M') : Z D cy ad p l e (RMx h mc) s m args below meth c A nL n0 s0 Q (pc) ls (st) M := by
  intro H locs la hP hD hS hl
  have hM' := hM D cy ad H.size
  rw [hav] at hM'
  have pr := pre_cm (av := .ref (ad k) :: As) F hP hD hS
  refine vx_calll (vx_runV (As := As) (rest := rest) F.1.1 hM' (cwV n (fun w h => F.t h) hg.1 rfl rfl rfl hg.2 (room_xx hh hm)) ⟨pr.1, va_recv F.K hP hcl' (wld_get hG), pr.2⟩ rfl hn hl.1 hst (lv_room hw) dg ⟨hn0.1, hn0.2⟩) hS (fun q _ h => free_cm F hD hS q h) (free_cm F hD hS) (fun q _ h => free_cm F hD hS q h) (fun E ce q9 u t H1 locs1 ht hvm hp hE hz hk hS1 he hv hcl => by
    obtain ⟨rfl, hP1, hD1⟩ := hE
    rw [ht] at hP1
    exact kx u.1 u.2 hp.1 hp.2 H1 locs1 la ce q9 hP1 (hD1.weaken (fun _ _ _ h => free_cm F hD hS _ h)) hS1 hl he hv hcl) (fun r u t H1 locs1 ht hvm hw hB hz hk hS1 => ?_)
  obtain ⟨hP1, hD1⟩ := hB
  rw [ht] at hP1
  obtain ⟨z, rfl, h32, hI, hp⟩ := hw
  exact kk z u h32 hI hp H1 locs1 la hP1 (hD1.weaken (fun _ _ _ h => free_cm F hD hS _ h)) hS1 hl
theorem z_wide {n1 s1 : Nat} (h1 : n0 ≤ n1) (h2 : s0 ≤ s1) (k : Z D cy ad p l e R s m args below meth c A nL n1 s1 Q pc ls st M) : Z D cy ad p l e R s m args below meth c A nL n0 s0 Q pc ls st M := fun H locs la hP hD hS hl => W.widen h1 h2 (k H locs la hP hD hS hl)
theorem z_slenB {b L : Nat} {xs : Nat → Int32} (F : FxM D cy ad p m c cc nL s args own A) (hX : va_X b L xs s s.heap) (hbl : b < s.heap.size) (hbA : ¬ A b) (d : decode cc pc = .ok (.arraylength, 1)) (k : Z D cy ad p l e R s m args below meth c A nL n0 s0 Q (pc + 1) ls (ii (L : Int) :: rest) M) : Z D cy ad p l e R s m args below meth c A nL n0 s0 Q pc ls (.ref b :: rest) M := fun H locs la hP hD hS hl => va_slen F.x F.b hX hbl hbA hS d (by have h9 := k H locs la hP hD hS hl; rw [show Int32.ofNat L = Int32.ofInt (L : Int) from (Int32.ofInt_eq_ofNat).symm]; exact h9)
theorem z_sld {b L : Nat} {xs : Nat → Int32} {i : Int} (F : FxM D cy ad p m c cc nL s args own A) (hX : va_X b L xs s s.heap) (hbl : b < s.heap.size) (hbA : ¬ A b) (hn : L ≤ 3072) (h0 : 0 ≤ i) (h1 : i < (L : Int)) (d : decode cc pc = .ok (.iaload, 1)) (k : ∀ v : Int, v = (xs i.toNat).toInt → In32 v → Z D cy ad p l e R s m args below meth c A nL n0 s0 Q (pc + 1) ls (ii v :: rest) M) : Z D cy ad p l e R s m args below meth c A nL n0 s0 Q pc ls (ii i :: .ref b :: rest) M := fun H locs la hP hD hS hl => va_sld F.x F.b hX hbl hbA hS (in_32 h0 h1 (by omega)) d (by
  rw [cl_32 h0 (by omega)]
  have h9 := k (xs i.toNat).toInt rfl (r32 _) H locs la hP hD hS hl
  rw [show ii (xs i.toNat).toInt = .int (xs i.toNat) from by show Value.int (Int32.ofInt _) = _; rw [Int32.ofInt_toInt]] at h9
  exact h9)
/-- a helper: it has a table of handlers, it doesn't throw -/
def CIW (l : Launch) (y : MethodName) (cb : ByteArray) (mL : Nat) (rt : Option FieldType) (hhs : List (Nat × Nat × Nat × Nat)) (h mc : Nat) (av : (Nat → Nat) → List Value) (M : Mem) (post : Int → Mem → Prop) : Prop :=
  ∀ (D : va_G) (cy : Nat → ClassId) (ad : Nat → Nat) (sz : Nat), Met l y (Cond.codeWith y cb mL rt hhs :: gtbl) (RMx h mc) (va_Pc (av ad) (PreM D cy ad M sz)) (va_Qi (QI post) (PostM D cy ad (va_A (wld ad cy M) sz)) (va_A (wld ad cy M) sz)) mc (6 * mc) (va_A (wld ad cy M) sz)
theorem enh_i {post : Int → Mem → Prop} {hhs : List (Nat × Nat × Nat × Nat)} (hy : plainName y.cls = true) (hav : ∀ ad, (lg_sl (av ad)).length ≤ mL)
    (body : ∀ (D : va_G) (cy : Nat → ClassId) (ad : Nat → Nat) (A : Nat → Prop) (p : Program) (e : Env) (s : State) (m : MethodId) (args : Array Value) (below : List Frame) (meth : Method) (c : Code) (Q : State → Prop), FxM D cy ad p m c cb mL s args y.cls A → c.exceptionTable.toList = tableOf hhs →
      (∀ (z : Int) (M : Mem) (pc n0 s0 : Nat) (ls : List (Nat × Value)), In32 z → Iw M → post z M → n0 ≤ mc ∧ s0 ≤ 6 * mc → decode cb pc = .ok (.ireturn, 1) → Z D cy ad p l e (RMx h mc) s m args below meth c A mL n0 s0 Q pc ls [ii z] M) →
      Z D cy ad p l e (RMx h mc) s m args below meth c A mL 0 0 Q 0 (lv_args 0 (av ad)) [] M) : CIW l y cb mL (some .int) hhs h mc av M post := by
  intro D cy ad sz
  refine MetFree.of_bodyS (code := cb) (maxLocals := mL) (ret := some .int) hy ?_ ?_
  · intro args s m h hn
    obtain ⟨m9, meth, c, hn9, h1, h2, h3, h4, -, h5, h6, -⟩ := Cond.codeWith_spec (atoms_spec (ws := Cond.codeWith y cb mL (some .int) hhs :: gtbl) h _ List.mem_cons_self)
    cases hn.symm.trans hn9
    exact ⟨meth, c, h1, h2, h3, h4, h5, h6⟩
  · intro p e s m args below meth c s₁ B hml hP0 _
    have hh0 : s₁.heap = s.heap := by rw [B.state]; rfl
    have hx := vx_table (x := y) B (atoms_spec (ws := Cond.codeWith y cb mL (some .int) hhs :: gtbl) B.pre _ List.mem_cons_self)
    obtain ⟨rfl, ⟨hsz, hP, hK, hD0, hG, hZ⟩, hSA⟩ := hP0
    have hts : ∀ w ∈ gtbl, w.before (av ad).toArray s = true := fun w hw => atoms_spec (ws := Cond.codeWith y cb mL (some .int) hhs :: gtbl) B.pre w (List.mem_cons_of_mem _ hw)
    have F : FxM D cy ad p m c cb mL s (av ad).toArray y.cls (va_A (wld ad cy M) sz) := ⟨⟨⟨B.exec, B.bytes, hml, findClass_of_methodNamed B.named, hts⟩, hK, hG, hZ, fun q h => Or.inr (by rw [← hsz]; exact h)⟩, hSA⟩
    have K : W p l e (RMx h mc) s m (av ad).toArray below meth c s.heap [] 0 0 (MQ below (va_Qi (QI post) (PostM D cy ad (va_A (wld ad cy M) sz)) (va_A (wld ad cy M) sz)) (av ad).toArray s mc (6 * mc) (va_A (wld ad cy M) sz)) (entryFrame m (av ad).toArray mL) := by
      rw [lg_entry_eq]
      have hl := lv_entry (av ad) (n := mL) (hav ad)
      generalize (lg_sl (av ad) ++ List.replicate (mL - (lg_sl (av ad)).length) Slot.unset).toArray = la at hl ⊢
      refine body D cy ad (va_A (wld ad cy M) sz) p e s m _ below meth c _ F hx ?_ s.heap [] la hP (hD0.self (sz := sz)) va_S.rf hl
      intro z M pc n0 s0 ls h32 hI hp hn0 d H locs la hP hD hS hl
      refine W.widen hn0.1 hn0.2 ?_
      exact W.iret F.x F.b B.returns (fun t ht _ => ⟨⟨Int32.ofInt z, M, rfl, ⟨z, rfl, h32, hI, hp⟩, by show va_P D vwCl (wld ad cy M) t.heap; rw [ht]; exact hP, hD⟩, hS.F ht⟩) hS.2.2 d B.notSynchronized
    obtain ⟨t, a1, o, b1, b2, b3⟩ := K s₁ hh0 (Stand.of_body B)
    exact ⟨t, o, a1, b1, b2, ⟨b3.1, b3.2⟩⟩
theorem zh_i {post : Int → Mem → Prop} {index n mc' : Nat} {hhs : List (Nat × Nat × Nat × Nat)} {As : List Value} (F : FxM D cy ad p m c cc nL s args own A) (hM : CIW l y cb mL rt hhs h' mc' av M post) (hg : GoodIn gtbl (va_wsS own index y (Cond.codeWith y cb mL rt hhs :: gtbl)) ∧ y.cls ≠ "java/lang/invoke/MethodHandle" ∧ y.cls ≠ "java/lang/invoke/VarHandle" ∧ (parseMethodDescriptor y.desc).map (fun d => d.parameters.length) = some n)
    (hR : (RMx h' mc').frames + 1 ≤ R.frames ∧ 8 + (mL + 11) + (RMx h' mc').locals ≤ R.locals) (hn0 : n0 + mc' ≤ R.cells ∧ s0 + 6 * mc' ≤ R.slots) (hav : av ad = As) (hn : As.length = n) (hst : st = As.reverse ++ rest) (hw : (rest.map fun v => v.category).sum ≤ 8) (dg : decode cc pc = .ok (.invokestatic index, 3))
    (kk : ∀ (z : Int) (M' : Mem), In32 z → Iw M' → post z M' → Z D cy ad p l e R s m args below meth c A nL (n0 + mc') (s0 + 6 * mc') Q (pc + 3) ls (ii z :: rest) M') : Z D cy ad p l e R s m args below meth c A nL n0 s0 Q pc ls st M := by
  intro H locs la hP hD hS hl
  have hM' := hM D cy ad H.size
  rw [hav] at hM'
  refine va_calli (vx_runSW (As := As) (rest := rest) F.1.1 hM' (vx_cwSW n (fun w h => F.t h) hg.1 rfl rfl rfl hg.2 hR) (pre_cm F hP hD hS) rfl hn hl.1 hst (lv_room hw) dg hn0) hS (fun q _ h => free_cm F hD hS q h) (free_cm F hD hS) (fun r u t H1 locs1 ht hvm hw hB hz hk hS1 => ?_)
  obtain ⟨hP1, hD1⟩ := hB
  rw [ht] at hP1
  obtain ⟨z, rfl, h32, hI, hp⟩ := hw
  exact kk z u h32 hI hp H1 locs1 la hP1 (hD1.weaken (fun _ _ _ h => free_cm F hD hS _ h)) hS1 hl
theorem z_catch {hhs : List (Nat × Nat × Nat × Nat)} {E : String} (F : FxM D cy ad p m c cc nL s args "OddTouchLaw" A) (hex : c.exceptionTable.toList = tableOf hhs) (pre : List ExceptionTableEntry) (x : ExceptionTableEntry) (suf : List ExceptionTableEntry) (hs : tableOf hhs = pre ++ x :: suf) (hpass : ∀ z ∈ pre, z.catchType ≠ 0 ∧ ∃ nm : String, (z.catchType, nm) ∈ links ∧ nm ∈ excs ∧ E ≠ nm) (hE : E ∈ excs) (hx : covers x pc = true) (h0 : x.catchType ≠ 0) (hlk : (x.catchType, E) ∈ links)
    (kk : ∀ q9 : Nat, Z D cy ad p l e R s m args below meth c A nL n0 s0 Q x.handlerPc ls [.ref q9] M) : ZX D cy ad p l e R s m args below meth c A nL n0 s0 Q pc ls rest E M := by
  intro H locs la ce q9 hP hD hS hl he hv hcl
  refine vx_catch (name := E) F.o pre x suf (hex.trans hs) (fun z hz => Or.inr ⟨(hpass z hz).1, ?_⟩) hx h0 (va_Nw.use rfl (F.g.2.2.2.2.2.2.2 (x.catchType, E) hlk)) (va_Nw.use rfl (F.g.2.2.2.2.1 E hE)) he hv hcl (kk q9 H locs la hP hD hS hl)
  obtain ⟨nm, h1, h2, h3⟩ := (hpass z hz).2
  exact ⟨nm, va_Nw.use rfl (F.g.2.2.2.2.2.2.2 (z.catchType, nm) h1), F.g.2.2.2.2.2.2.1 E hE nm h2 h3⟩
theorem z_lret {b : Nat} (F : FxM D cy ad p m c cL_law 8 s #[Value.ref b] RL A) (hr : meth.sig.returnType = ret) (hlk : meth.locks = false) (hAq : ∀ q, A q → s.heap.size ≤ q) (h1 : n0 ≤ 601024) (h2 : s0 ≤ 7293034) (d : decode cL_law pc = .ok (.ireturn, 1)) : Z D cy ad p l e room_1 s m #[Value.ref b] below meth c A 8 n0 s0 (lw_Z below #[Value.ref b] s) pc ls [ii 1] M := fun H locs la hP hD hS hl => va_forget (fun q hq => hAq _ (hS.2.2 q hq)) (W.widen h1 h2 (by rw [show ii 1 = Value.int 1 from rfl]; exact lw_ret F.x F.b hr hlk d))
end LW
theorem goodSW {own : String} {idx : Nat} {y : MethodName} {cb : ByteArray} {mL : Nat} {rt : Option FieldType} {hhs : List (Nat × Nat × Nat × Nat)} (h1 : Cond.methodLink own idx y ∈ lw_tbl) (h2 : Cond.static y ∈ lw_tbl) (h4 : Cond.initialized y.cls ∈ lw_tbl) (h5 : Cond.codeWith y cb mL rt hhs ∈ lw_tbl) (g5 : goodWord (Cond.codeWith y cb mL rt hhs) = true) (g : ([.methodLink own idx y, .static y, .initialized y.cls] : List Cond).all goodWord = true) : GoodIn gtbl (va_wsS own idx y (Cond.codeWith y cb mL rt hhs :: gtbl)) := by
  intro w hw
  unfold va_wsS at hw
  have hall := List.all_eq_true.mp g
  rcases List.mem_append.mp hw with q | q
  · have hg := hall w q
    refine ⟨gin ?_ hg, good_of_word hg⟩
    rcases List.mem_cons.mp q with rfl | q
    · exact h1
    rcases List.mem_cons.mp q with rfl | q
    · exact h2
    rcases List.mem_cons.mp q with rfl | q
    · exact h4
    cases q
  · rcases List.mem_cons.mp q with rfl | q
    · exact ⟨gin h5 g5, good_of_word g5⟩
    · exact ⟨q, good_of_word (gtbl_good q)⟩

theorem lm_1491 : Cond.methodLink RL 7 yX11_town ∈ lw_tbl := List.mem_append_right _ (tin_4 (List.mem_of_getElem? (i := 29) rfl))
theorem lm_1492 : Cond.instanceMethod yX11_town ∈ lw_tbl := List.mem_append_right _ (tin_4 (List.mem_of_getElem? (i := 30) rfl))
theorem lm_1493 : Cond.selects RX11 yX11_town yX11_town ∈ lw_tbl := List.mem_append_right _ (tin_4 (List.mem_of_getElem? (i := 31) rfl))
theorem lm_1494 : Cond.code yX11_town cX11_town 2 (some .int) ∈ lw_tbl := List.mem_append_right _ (tin_4 (List.mem_of_getElem? (i := 32) rfl))
theorem lm_1495 : Cond.methodLink RL 15 yX11_thing ∈ lw_tbl := List.mem_append_right _ (tin_5 (List.mem_of_getElem? (i := 216) rfl))
theorem lm_1496 : Cond.instanceMethod yX11_thing ∈ lw_tbl := List.mem_append_right _ (tin_5 (List.mem_of_getElem? (i := 217) rfl))
theorem lm_1497 : Cond.selects RX11 yX11_thing yX11_thing ∈ lw_tbl := List.mem_append_right _ (tin_5 (List.mem_of_getElem? (i := 218) rfl))
theorem lm_1498 : Cond.code yX11_thing cX11_thing 3 (some .int) ∈ lw_tbl := List.mem_append_right _ (tin_5 (List.mem_of_getElem? (i := 219) rfl))
theorem lm_1499 : Cond.methodLink RL 21 yX11_place ∈ lw_tbl := List.mem_append_right _ (tin_6 (List.mem_of_getElem? (i := 9) rfl))
theorem lm_1500 : Cond.instanceMethod yX11_place ∈ lw_tbl := List.mem_append_right _ (tin_6 (List.mem_of_getElem? (i := 10) rfl))
theorem lm_1501 : Cond.selects RX11 yX11_place yX11_place ∈ lw_tbl := List.mem_append_right _ (tin_6 (List.mem_of_getElem? (i := 11) rfl))
theorem lm_1502 : Cond.code yX11_place cX11_place 3 (some .int) ∈ lw_tbl := List.mem_append_right _ (tin_6 (List.mem_of_getElem? (i := 12) rfl))
theorem lm_1503 : Cond.methodLink RL 24 yX11_steps ∈ lw_tbl := List.mem_append_right _ (tin_6 (List.mem_of_getElem? (i := 24) rfl))
theorem lm_1504 : Cond.instanceMethod yX11_steps ∈ lw_tbl := List.mem_append_right _ (tin_6 (List.mem_of_getElem? (i := 25) rfl))
theorem lm_1505 : Cond.selects RX11 yX11_steps yX11_steps ∈ lw_tbl := List.mem_append_right _ (tin_6 (List.mem_of_getElem? (i := 26) rfl))
theorem lm_1506 : Cond.code yX11_steps cX11_steps 3 (some .int) ∈ lw_tbl := List.mem_append_right _ (tin_6 (List.mem_of_getElem? (i := 27) rfl))
theorem lm_1507 : Cond.methodLink RL 27 yX11_clash ∈ lw_tbl := List.mem_append_right _ (tin_6 (List.mem_of_getElem? (i := 32) rfl))
theorem lm_1508 : Cond.instanceMethod yX11_clash ∈ lw_tbl := List.mem_append_right _ (tin_6 (List.mem_of_getElem? (i := 33) rfl))
theorem lm_1509 : Cond.selects RX11 yX11_clash yX11_clash ∈ lw_tbl := List.mem_append_right _ (tin_6 (List.mem_of_getElem? (i := 34) rfl))
theorem lm_1510 : Cond.code yX11_clash cX11_clash 4 (some .boolean) ∈ lw_tbl := List.mem_append_right _ (tin_6 (List.mem_of_getElem? (i := 35) rfl))
theorem lm_1511 : Cond.methodLink RL 31 yX11_change ∈ lw_tbl := List.mem_append_right _ (tin_6 (List.mem_of_getElem? (i := 41) rfl))
theorem lm_1512 : Cond.instanceMethod yX11_change ∈ lw_tbl := List.mem_append_right _ (tin_6 (List.mem_of_getElem? (i := 42) rfl))
theorem lm_1513 : Cond.selects RX11 yX11_change yX11_change ∈ lw_tbl := List.mem_append_right _ (tin_6 (List.mem_of_getElem? (i := 43) rfl))
theorem lm_1514 : Cond.code yX11_change cX11_change 3 (some .int) ∈ lw_tbl := List.mem_append_right _ (tin_6 (List.mem_of_getElem? (i := 44) rfl))
theorem lm_1515 : Cond.methodLink RL 34 yX11_days ∈ lw_tbl := List.mem_append_right _ (tin_6 (List.mem_of_getElem? (i := 54) rfl))
theorem lm_1516 : Cond.instanceMethod yX11_days ∈ lw_tbl := List.mem_append_right _ (tin_6 (List.mem_of_getElem? (i := 55) rfl))
theorem lm_1517 : Cond.selects RX11 yX11_days yX11_days ∈ lw_tbl := List.mem_append_right _ (tin_6 (List.mem_of_getElem? (i := 56) rfl))
theorem lm_1518 : Cond.code yX11_days cX11_days 4 (some .int) ∈ lw_tbl := List.mem_append_right _ (tin_6 (List.mem_of_getElem? (i := 57) rfl))
theorem lm_1519 : Cond.methodLink RL 37 yX11_undo ∈ lw_tbl := List.mem_append_right _ (tin_6 (List.mem_of_getElem? (i := 67) rfl))
theorem lm_1520 : Cond.instanceMethod yX11_undo ∈ lw_tbl := List.mem_append_right _ (tin_6 (List.mem_of_getElem? (i := 68) rfl))
theorem lm_1521 : Cond.selects RX11 yX11_undo yX11_undo ∈ lw_tbl := List.mem_append_right _ (tin_6 (List.mem_of_getElem? (i := 69) rfl))
theorem lm_1522 : Cond.code yX11_undo cX11_undo 2 (some .int) ∈ lw_tbl := List.mem_append_right _ (tin_6 (List.mem_of_getElem? (i := 70) rfl))
theorem lm_1523 : Cond.methodLink RL 40 yX11_judge ∈ lw_tbl := List.mem_append_right _ (tin_6 (List.mem_of_getElem? (i := 87) rfl))
theorem lm_1524 : Cond.instanceMethod yX11_judge ∈ lw_tbl := List.mem_append_right _ (tin_6 (List.mem_of_getElem? (i := 88) rfl))
theorem lm_1525 : Cond.selects RX11 yX11_judge yX11_judge ∈ lw_tbl := List.mem_append_right _ (tin_6 (List.mem_of_getElem? (i := 89) rfl))
theorem lm_1526 : Cond.code yX11_judge cX11_judge 8 (some .int) ∈ lw_tbl := List.mem_append_right _ (tin_6 (List.mem_of_getElem? (i := 90) rfl))
theorem lm_1527 : Cond.methodLink RL 45 yX11_perform ∈ lw_tbl := List.mem_append_right _ (tin_6 (List.mem_of_getElem? (i := 148) rfl))
theorem lm_1528 : Cond.instanceMethod yX11_perform ∈ lw_tbl := List.mem_append_right _ (tin_6 (List.mem_of_getElem? (i := 149) rfl))
theorem lm_1529 : Cond.selects RX11 yX11_perform yX11_perform ∈ lw_tbl := List.mem_append_right _ (tin_6 (List.mem_of_getElem? (i := 150) rfl))
theorem lm_1530 : Cond.code yX11_perform cX11_perform 2 (some .int) ∈ lw_tbl := List.mem_append_right _ (tin_6 (List.mem_of_getElem? (i := 151) rfl))
theorem lm_1531 : Cond.methodLink RL 48 yX11_season ∈ lw_tbl := List.mem_append_right _ (tin_6 (List.mem_of_getElem? (i := 155) rfl))
theorem lm_1532 : Cond.instanceMethod yX11_season ∈ lw_tbl := List.mem_append_right _ (tin_6 (List.mem_of_getElem? (i := 156) rfl))
theorem lm_1533 : Cond.selects RX11 yX11_season yX11_season ∈ lw_tbl := List.mem_append_right _ (tin_6 (List.mem_of_getElem? (i := 157) rfl))
theorem lm_1534 : Cond.code yX11_season cX11_season 5 (some .int) ∈ lw_tbl := List.mem_append_right _ (tin_6 (List.mem_of_getElem? (i := 158) rfl))
theorem lm_1535 : Cond.methodLink RL 51 yX11_oddRing ∈ lw_tbl := List.mem_append_right _ (tin_6 (List.mem_of_getElem? (i := 173) rfl))
theorem lm_1536 : Cond.instanceMethod yX11_oddRing ∈ lw_tbl := List.mem_append_right _ (tin_6 (List.mem_of_getElem? (i := 174) rfl))
theorem lm_1537 : Cond.selects RX11 yX11_oddRing yX11_oddRing ∈ lw_tbl := List.mem_append_right _ (tin_6 (List.mem_of_getElem? (i := 175) rfl))
theorem lm_1538 : Cond.code yX11_oddRing cX11_oddRing 3 (some .int) ∈ lw_tbl := List.mem_append_right _ (tin_6 (List.mem_of_getElem? (i := 176) rfl))
theorem lm_1539 : Cond.methodLink RL 54 yX11_placing ∈ lw_tbl := List.mem_append_right _ (tin_6 (List.mem_of_getElem? (i := 190) rfl))
theorem lm_1540 : Cond.instanceMethod yX11_placing ∈ lw_tbl := List.mem_append_right _ (tin_6 (List.mem_of_getElem? (i := 191) rfl))
theorem lm_1541 : Cond.selects RX11 yX11_placing yX11_placing ∈ lw_tbl := List.mem_append_right _ (tin_6 (List.mem_of_getElem? (i := 192) rfl))
theorem lm_1542 : Cond.code yX11_placing cX11_placing 3 (some .int) ∈ lw_tbl := List.mem_append_right _ (tin_6 (List.mem_of_getElem? (i := 193) rfl))
theorem lm_1543 : Cond.methodLink RL 57 yX11_mending ∈ lw_tbl := List.mem_append_right _ (tin_6 (List.mem_of_getElem? (i := 202) rfl))
theorem lm_1544 : Cond.instanceMethod yX11_mending ∈ lw_tbl := List.mem_append_right _ (tin_6 (List.mem_of_getElem? (i := 203) rfl))
theorem lm_1545 : Cond.selects RX11 yX11_mending yX11_mending ∈ lw_tbl := List.mem_append_right _ (tin_6 (List.mem_of_getElem? (i := 204) rfl))
theorem lm_1546 : Cond.code yX11_mending cX11_mending 2 (some .int) ∈ lw_tbl := List.mem_append_right _ (tin_6 (List.mem_of_getElem? (i := 205) rfl))
theorem lm_1547 : Cond.methodLink RL 60 yX11_mend ∈ lw_tbl := List.mem_append_right _ (tin_6 (List.mem_of_getElem? (i := 228) rfl))
theorem lm_1548 : Cond.instanceMethod yX11_mend ∈ lw_tbl := List.mem_append_right _ (tin_6 (List.mem_of_getElem? (i := 229) rfl))
theorem lm_1549 : Cond.selects RX11 yX11_mend yX11_mend ∈ lw_tbl := List.mem_append_right _ (tin_6 (List.mem_of_getElem? (i := 230) rfl))
theorem lm_1550 : Cond.code yX11_mend cX11_mend 1 (some .int) ∈ lw_tbl := List.mem_append_right _ (tin_6 (List.mem_of_getElem? (i := 231) rfl))
theorem lm_1551 : Cond.methodLink RL 64 yX11_flips ∈ lw_tbl := List.mem_append_right _ (tin_7 (List.mem_of_getElem? (i := 0) rfl))
theorem lm_1552 : Cond.instanceMethod yX11_flips ∈ lw_tbl := List.mem_append_right _ (tin_7 (List.mem_of_getElem? (i := 1) rfl))
theorem lm_1553 : Cond.selects RX11 yX11_flips yX11_flips ∈ lw_tbl := List.mem_append_right _ (tin_7 (List.mem_of_getElem? (i := 2) rfl))
theorem lm_1554 : Cond.code yX11_flips cX11_flips 3 (some .int) ∈ lw_tbl := List.mem_append_right _ (tin_7 (List.mem_of_getElem? (i := 3) rfl))
theorem lm_1555 : Cond.methodLink RL 67 yX11_wave ∈ lw_tbl := List.mem_append_right _ (tin_7 (List.mem_of_getElem? (i := 41) rfl))
theorem lm_1556 : Cond.instanceMethod yX11_wave ∈ lw_tbl := List.mem_append_right _ (tin_7 (List.mem_of_getElem? (i := 42) rfl))
theorem lm_1557 : Cond.selects RX11 yX11_wave yX11_wave ∈ lw_tbl := List.mem_append_right _ (tin_7 (List.mem_of_getElem? (i := 43) rfl))
theorem lm_1558 : Cond.code yX11_wave cX11_wave 6 (some .int) ∈ lw_tbl := List.mem_append_right _ (tin_7 (List.mem_of_getElem? (i := 44) rfl))
theorem lm_1559 : Cond.methodLink RL 70 yX11_calm ∈ lw_tbl := List.mem_append_right _ (tin_7 (List.mem_of_getElem? (i := 48) rfl))
theorem lm_1560 : Cond.instanceMethod yX11_calm ∈ lw_tbl := List.mem_append_right _ (tin_7 (List.mem_of_getElem? (i := 49) rfl))
theorem lm_1561 : Cond.selects RX11 yX11_calm yX11_calm ∈ lw_tbl := List.mem_append_right _ (tin_7 (List.mem_of_getElem? (i := 50) rfl))
theorem lm_1562 : Cond.code yX11_calm cX11_calm 2 (some .int) ∈ lw_tbl := List.mem_append_right _ (tin_7 (List.mem_of_getElem? (i := 51) rfl))
theorem lm_1563 : Cond.methodLink RL 73 yX11_event ∈ lw_tbl := List.mem_append_right _ (tin_7 (List.mem_of_getElem? (i := 73) rfl))
theorem lm_1564 : Cond.instanceMethod yX11_event ∈ lw_tbl := List.mem_append_right _ (tin_7 (List.mem_of_getElem? (i := 74) rfl))
theorem lm_1565 : Cond.selects RX11 yX11_event yX11_event ∈ lw_tbl := List.mem_append_right _ (tin_7 (List.mem_of_getElem? (i := 75) rfl))
theorem lm_1566 : Cond.code yX11_event cX11_event 3 (some .int) ∈ lw_tbl := List.mem_append_right _ (tin_7 (List.mem_of_getElem? (i := 76) rfl))
theorem lm_1567 : Cond.methodLink RL 76 yX11_goats ∈ lw_tbl := List.mem_append_right _ (tin_7 (List.mem_of_getElem? (i := 82) rfl))
theorem lm_1568 : Cond.instanceMethod yX11_goats ∈ lw_tbl := List.mem_append_right _ (tin_7 (List.mem_of_getElem? (i := 83) rfl))
theorem lm_1569 : Cond.selects RX11 yX11_goats yX11_goats ∈ lw_tbl := List.mem_append_right _ (tin_7 (List.mem_of_getElem? (i := 84) rfl))
theorem lm_1570 : Cond.code yX11_goats cX11_goats 3 (some .int) ∈ lw_tbl := List.mem_append_right _ (tin_7 (List.mem_of_getElem? (i := 85) rfl))
theorem lm_1571 : Cond.methodLink RL 80 yX11_bestRow ∈ lw_tbl := List.mem_append_right _ (tin_7 (List.mem_of_getElem? (i := 109) rfl))
theorem lm_1572 : Cond.instanceMethod yX11_bestRow ∈ lw_tbl := List.mem_append_right _ (tin_7 (List.mem_of_getElem? (i := 110) rfl))
theorem lm_1573 : Cond.selects RX11 yX11_bestRow yX11_bestRow ∈ lw_tbl := List.mem_append_right _ (tin_7 (List.mem_of_getElem? (i := 111) rfl))
theorem lm_1574 : Cond.code yX11_bestRow cX11_bestRow 4 (some .int) ∈ lw_tbl := List.mem_append_right _ (tin_7 (List.mem_of_getElem? (i := 112) rfl))
theorem lm_1575 : Cond.methodLink RL 84 yX11_seats ∈ lw_tbl := List.mem_append_right _ (tin_7 (List.mem_of_getElem? (i := 135) rfl))
theorem lm_1576 : Cond.instanceMethod yX11_seats ∈ lw_tbl := List.mem_append_right _ (tin_7 (List.mem_of_getElem? (i := 136) rfl))
theorem lm_1577 : Cond.selects RX11 yX11_seats yX11_seats ∈ lw_tbl := List.mem_append_right _ (tin_7 (List.mem_of_getElem? (i := 137) rfl))
theorem lm_1578 : Cond.code yX11_seats cX11_seats 5 (some .int) ∈ lw_tbl := List.mem_append_right _ (tin_7 (List.mem_of_getElem? (i := 138) rfl))
theorem lm_1579 : Cond.methodLink RL 88 yX11_pleasure ∈ lw_tbl := List.mem_append_right _ (tin_7 (List.mem_of_getElem? (i := 155) rfl))
theorem lm_1580 : Cond.instanceMethod yX11_pleasure ∈ lw_tbl := List.mem_append_right _ (tin_7 (List.mem_of_getElem? (i := 156) rfl))
theorem lm_1581 : Cond.selects RX11 yX11_pleasure yX11_pleasure ∈ lw_tbl := List.mem_append_right _ (tin_7 (List.mem_of_getElem? (i := 157) rfl))
theorem lm_1582 : Cond.code yX11_pleasure cX11_pleasure 4 (some .int) ∈ lw_tbl := List.mem_append_right _ (tin_7 (List.mem_of_getElem? (i := 158) rfl))
theorem lm_1583 : Cond.methodLink RL 91 yX11_seen ∈ lw_tbl := List.mem_append_right _ (tin_7 (List.mem_of_getElem? (i := 164) rfl))
theorem lm_1584 : Cond.instanceMethod yX11_seen ∈ lw_tbl := List.mem_append_right _ (tin_7 (List.mem_of_getElem? (i := 165) rfl))
theorem lm_1585 : Cond.selects RX11 yX11_seen yX11_seen ∈ lw_tbl := List.mem_append_right _ (tin_7 (List.mem_of_getElem? (i := 166) rfl))
theorem lm_1586 : Cond.code yX11_seen cX11_seen 2 (some .int) ∈ lw_tbl := List.mem_append_right _ (tin_7 (List.mem_of_getElem? (i := 167) rfl))
theorem lm_1587 : Cond.methodLink RL 94 yX11_sure ∈ lw_tbl := List.mem_append_right _ (tin_7 (List.mem_of_getElem? (i := 198) rfl))
theorem lm_1588 : Cond.instanceMethod yX11_sure ∈ lw_tbl := List.mem_append_right _ (tin_7 (List.mem_of_getElem? (i := 199) rfl))
theorem lm_1589 : Cond.selects RX11 yX11_sure yX11_sure ∈ lw_tbl := List.mem_append_right _ (tin_7 (List.mem_of_getElem? (i := 200) rfl))
theorem lm_1590 : Cond.code yX11_sure cX11_sure 4 (some .int) ∈ lw_tbl := List.mem_append_right _ (tin_7 (List.mem_of_getElem? (i := 201) rfl))
theorem lm_1591 : Cond.methodLink RL 97 yX11_tray ∈ lw_tbl := List.mem_append_right _ (tin_7 (List.mem_of_getElem? (i := 206) rfl))
theorem lm_1592 : Cond.instanceMethod yX11_tray ∈ lw_tbl := List.mem_append_right _ (tin_7 (List.mem_of_getElem? (i := 207) rfl))
theorem lm_1593 : Cond.selects RX11 yX11_tray yX11_tray ∈ lw_tbl := List.mem_append_right _ (tin_7 (List.mem_of_getElem? (i := 208) rfl))
theorem lm_1594 : Cond.code yX11_tray cX11_tray 4 none ∈ lw_tbl := List.mem_append_right _ (tin_7 (List.mem_of_getElem? (i := 209) rfl))
theorem lm_1595 : Cond.methodLink RL 101 yX11_write ∈ lw_tbl := List.mem_append_right _ (tin_7 (List.mem_of_getElem? (i := 221) rfl))
theorem lm_1596 : Cond.instanceMethod yX11_write ∈ lw_tbl := List.mem_append_right _ (tin_7 (List.mem_of_getElem? (i := 222) rfl))
theorem lm_1597 : Cond.selects RX11 yX11_write yX11_write ∈ lw_tbl := List.mem_append_right _ (tin_7 (List.mem_of_getElem? (i := 223) rfl))
theorem lm_1598 : Cond.code yX11_write cX11_write 6 (some .long) ∈ lw_tbl := List.mem_append_right _ (tin_7 (List.mem_of_getElem? (i := 224) rfl))
theorem lm_1599 : Cond.methodLink RL 107 yX11_pour ∈ lw_tbl := List.mem_append_right _ (tin_8 (List.mem_of_getElem? (i := 12) rfl))
theorem lm_1600 : Cond.instanceMethod yX11_pour ∈ lw_tbl := List.mem_append_right _ (tin_8 (List.mem_of_getElem? (i := 13) rfl))
theorem lm_1601 : Cond.selects RX11 yX11_pour yX11_pour ∈ lw_tbl := List.mem_append_right _ (tin_8 (List.mem_of_getElem? (i := 14) rfl))
theorem lm_1602 : Cond.code yX11_pour cX11_pour 5 (some .int) ∈ lw_tbl := List.mem_append_right _ (tin_8 (List.mem_of_getElem? (i := 15) rfl))
theorem lm_1603 : Cond.methodLink RL 110 yX11_image ∈ lw_tbl := List.mem_append_right _ (tin_8 (List.mem_of_getElem? (i := 19) rfl))
theorem lm_1604 : Cond.instanceMethod yX11_image ∈ lw_tbl := List.mem_append_right _ (tin_8 (List.mem_of_getElem? (i := 20) rfl))
theorem lm_1605 : Cond.selects RX11 yX11_image yX11_image ∈ lw_tbl := List.mem_append_right _ (tin_8 (List.mem_of_getElem? (i := 21) rfl))
theorem lm_1606 : Cond.code yX11_image cX11_image 2 none ∈ lw_tbl := List.mem_append_right _ (tin_8 (List.mem_of_getElem? (i := 22) rfl))
theorem lm_1607 : Cond.methodLink RL 114 yX11_restore ∈ lw_tbl := List.mem_append_right _ (tin_8 (List.mem_of_getElem? (i := 42) rfl))
theorem lm_1608 : Cond.instanceMethod yX11_restore ∈ lw_tbl := List.mem_append_right _ (tin_8 (List.mem_of_getElem? (i := 43) rfl))
theorem lm_1609 : Cond.selects RX11 yX11_restore yX11_restore ∈ lw_tbl := List.mem_append_right _ (tin_8 (List.mem_of_getElem? (i := 44) rfl))
theorem lm_1610 : Cond.code yX11_restore cX11_restore 2 none ∈ lw_tbl := List.mem_append_right _ (tin_8 (List.mem_of_getElem? (i := 45) rfl))
theorem lm_1611 : Cond.methodLink RL 121 yX11_feed ∈ lw_tbl := List.mem_append_right _ (tin_3 (List.mem_of_getElem? (i := 22) rfl))
theorem lm_1612 : Cond.instanceMethod yX11_feed ∈ lw_tbl := List.mem_append_right _ (tin_3 (List.mem_of_getElem? (i := 23) rfl))
theorem lm_1613 : Cond.selects RX11 yX11_feed yX11_feed ∈ lw_tbl := List.mem_append_right _ (tin_3 (List.mem_of_getElem? (i := 24) rfl))
theorem lm_1614 : Cond.code yX11_feed cX11_feed 6 (some .int) ∈ lw_tbl := List.mem_append_right _ (tin_3 (List.mem_of_getElem? (i := 25) rfl))
theorem lm_1615 : Cond.methodLink RL 125 yX12_feed ∈ lw_tbl := List.mem_append_right _ (tin_8 (List.mem_of_getElem? (i := 196) rfl))
theorem lm_1616 : Cond.instanceMethod yX12_feed ∈ lw_tbl := List.mem_append_right _ (tin_8 (List.mem_of_getElem? (i := 197) rfl))
theorem lm_1617 : Cond.selects RX12 yX12_feed yX12_feed ∈ lw_tbl := List.mem_append_right _ (tin_8 (List.mem_of_getElem? (i := 198) rfl))
theorem lm_1618 : Cond.code yX12_feed cX12_feed 8 (some .int) ∈ lw_tbl := List.mem_append_right _ (tin_8 (List.mem_of_getElem? (i := 199) rfl))
theorem lm_1619 : Cond.methodLink RL 126 yL_town ∈ lw_tbl := List.mem_append_right _ (tin_4 (List.mem_of_getElem? (i := 25) rfl))
theorem lm_1620 : Cond.static yL_town ∈ lw_tbl := List.mem_append_right _ (tin_4 (List.mem_of_getElem? (i := 26) rfl))
theorem lm_1621 : Cond.initialized RL ∈ lw_tbl := List.mem_append_right _ (tin_1 (List.mem_of_getElem? (i := 0) rfl))
theorem lm_1622 : Cond.codeWith yL_town cL_town 4 (some .int) [(0, 9, 12, 13)] ∈ lw_tbl := List.mem_append_right _ (tin_4 (List.mem_of_getElem? (i := 27) rfl))
theorem lm_1623 : Cond.methodLink RL 131 yX12_town ∈ lw_tbl := List.mem_append_right _ (tin_8 (List.mem_of_getElem? (i := 200) rfl))
theorem lm_1624 : Cond.instanceMethod yX12_town ∈ lw_tbl := List.mem_append_right _ (tin_8 (List.mem_of_getElem? (i := 201) rfl))
theorem lm_1625 : Cond.selects RX12 yX12_town yX12_town ∈ lw_tbl := List.mem_append_right _ (tin_8 (List.mem_of_getElem? (i := 202) rfl))
theorem lm_1626 : Cond.code yX12_town cX12_town 3 (some .int) ∈ lw_tbl := List.mem_append_right _ (tin_8 (List.mem_of_getElem? (i := 203) rfl))
theorem lm_1627 : Cond.methodLink RL 132 yX11_fault ∈ lw_tbl := List.mem_append_right _ (tin_3 (List.mem_of_getElem? (i := 30) rfl))
theorem lm_1628 : Cond.instanceMethod yX11_fault ∈ lw_tbl := List.mem_append_right _ (tin_3 (List.mem_of_getElem? (i := 31) rfl))
theorem lm_1629 : Cond.selects RX11 yX11_fault yX11_fault ∈ lw_tbl := List.mem_append_right _ (tin_3 (List.mem_of_getElem? (i := 32) rfl))
theorem lm_1630 : Cond.code yX11_fault cX11_fault 2 (some .int) ∈ lw_tbl := List.mem_append_right _ (tin_3 (List.mem_of_getElem? (i := 33) rfl))
theorem lm_1631 : Cond.methodLink RL 135 yX12_fault ∈ lw_tbl := List.mem_append_right _ (tin_9 (List.mem_of_getElem? (i := 113) rfl))
theorem lm_1632 : Cond.instanceMethod yX12_fault ∈ lw_tbl := List.mem_append_right _ (tin_9 (List.mem_of_getElem? (i := 114) rfl))
theorem lm_1633 : Cond.selects RX12 yX12_fault yX12_fault ∈ lw_tbl := List.mem_append_right _ (tin_9 (List.mem_of_getElem? (i := 115) rfl))
theorem lm_1634 : Cond.code yX12_fault cX12_fault 2 (some .int) ∈ lw_tbl := List.mem_append_right _ (tin_9 (List.mem_of_getElem? (i := 116) rfl))
theorem lm_1635 : Cond.methodLink RL 136 yL_thing ∈ lw_tbl := List.mem_append_right _ (tin_5 (List.mem_of_getElem? (i := 212) rfl))
theorem lm_1636 : Cond.static yL_thing ∈ lw_tbl := List.mem_append_right _ (tin_5 (List.mem_of_getElem? (i := 213) rfl))
theorem lm_1637 : Cond.codeWith yL_thing cL_thing 5 (some .int) [(0, 10, 13, 19), (0, 10, 17, 13)] ∈ lw_tbl := List.mem_append_right _ (tin_5 (List.mem_of_getElem? (i := 214) rfl))
theorem lm_1638 : Cond.methodLink RL 139 yX12_thing ∈ lw_tbl := List.mem_append_right _ (tin_9 (List.mem_of_getElem? (i := 117) rfl))
theorem lm_1639 : Cond.instanceMethod yX12_thing ∈ lw_tbl := List.mem_append_right _ (tin_9 (List.mem_of_getElem? (i := 118) rfl))
theorem lm_1640 : Cond.selects RX12 yX12_thing yX12_thing ∈ lw_tbl := List.mem_append_right _ (tin_9 (List.mem_of_getElem? (i := 119) rfl))
theorem lm_1641 : Cond.code yX12_thing cX12_thing 3 (some .int) ∈ lw_tbl := List.mem_append_right _ (tin_9 (List.mem_of_getElem? (i := 120) rfl))
theorem lm_1642 : Cond.methodLink RL 140 yL_place ∈ lw_tbl := List.mem_append_right _ (tin_6 (List.mem_of_getElem? (i := 6) rfl))
theorem lm_1643 : Cond.static yL_place ∈ lw_tbl := List.mem_append_right _ (tin_6 (List.mem_of_getElem? (i := 7) rfl))
theorem lm_1644 : Cond.codeWith yL_place cL_place 5 (some .int) [(0, 10, 13, 19), (0, 10, 17, 13)] ∈ lw_tbl := List.mem_append_right _ (tin_6 (List.mem_of_getElem? (i := 8) rfl))
theorem lm_1645 : Cond.methodLink RL 142 yX12_place ∈ lw_tbl := List.mem_append_right _ (tin_9 (List.mem_of_getElem? (i := 178) rfl))
theorem lm_1646 : Cond.instanceMethod yX12_place ∈ lw_tbl := List.mem_append_right _ (tin_9 (List.mem_of_getElem? (i := 179) rfl))
theorem lm_1647 : Cond.selects RX12 yX12_place yX12_place ∈ lw_tbl := List.mem_append_right _ (tin_9 (List.mem_of_getElem? (i := 180) rfl))
theorem lm_1648 : Cond.code yX12_place cX12_place 5 (some .int) ∈ lw_tbl := List.mem_append_right _ (tin_9 (List.mem_of_getElem? (i := 181) rfl))
theorem lm_1649 : Cond.methodLink RL 143 yL_steps ∈ lw_tbl := List.mem_append_right _ (tin_6 (List.mem_of_getElem? (i := 21) rfl))
theorem lm_1650 : Cond.static yL_steps ∈ lw_tbl := List.mem_append_right _ (tin_6 (List.mem_of_getElem? (i := 22) rfl))
theorem lm_1651 : Cond.codeWith yL_steps cL_steps 5 (some .int) [(0, 10, 13, 19)] ∈ lw_tbl := List.mem_append_right _ (tin_6 (List.mem_of_getElem? (i := 23) rfl))
theorem lm_1652 : Cond.methodLink RL 145 yX12_steps ∈ lw_tbl := List.mem_append_right _ (tin_9 (List.mem_of_getElem? (i := 191) rfl))
theorem lm_1653 : Cond.instanceMethod yX12_steps ∈ lw_tbl := List.mem_append_right _ (tin_9 (List.mem_of_getElem? (i := 192) rfl))
theorem lm_1654 : Cond.selects RX12 yX12_steps yX12_steps ∈ lw_tbl := List.mem_append_right _ (tin_9 (List.mem_of_getElem? (i := 193) rfl))
theorem lm_1655 : Cond.code yX12_steps cX12_steps 3 (some .int) ∈ lw_tbl := List.mem_append_right _ (tin_9 (List.mem_of_getElem? (i := 194) rfl))
theorem lm_1656 : Cond.methodLink RL 146 yL_clash ∈ lw_tbl := List.mem_append_right _ (tin_6 (List.mem_of_getElem? (i := 29) rfl))
theorem lm_1657 : Cond.static yL_clash ∈ lw_tbl := List.mem_append_right _ (tin_6 (List.mem_of_getElem? (i := 30) rfl))
theorem lm_1658 : Cond.codeWith yL_clash cL_clash 6 (some .int) [(0, 19, 22, 19), (0, 19, 26, 13)] ∈ lw_tbl := List.mem_append_right _ (tin_6 (List.mem_of_getElem? (i := 31) rfl))
theorem lm_1659 : Cond.methodLink RL 149 yX12_clash ∈ lw_tbl := List.mem_append_right _ (tin_9 (List.mem_of_getElem? (i := 202) rfl))
theorem lm_1660 : Cond.instanceMethod yX12_clash ∈ lw_tbl := List.mem_append_right _ (tin_9 (List.mem_of_getElem? (i := 203) rfl))
theorem lm_1661 : Cond.selects RX12 yX12_clash yX12_clash ∈ lw_tbl := List.mem_append_right _ (tin_9 (List.mem_of_getElem? (i := 204) rfl))
theorem lm_1662 : Cond.code yX12_clash cX12_clash 4 (some .boolean) ∈ lw_tbl := List.mem_append_right _ (tin_9 (List.mem_of_getElem? (i := 205) rfl))
theorem lm_1663 : Cond.methodLink RL 150 yX11_clashes ∈ lw_tbl := List.mem_append_right _ (tin_3 (List.mem_of_getElem? (i := 34) rfl))
theorem lm_1664 : Cond.instanceMethod yX11_clashes ∈ lw_tbl := List.mem_append_right _ (tin_3 (List.mem_of_getElem? (i := 35) rfl))
theorem lm_1665 : Cond.selects RX11 yX11_clashes yX11_clashes ∈ lw_tbl := List.mem_append_right _ (tin_3 (List.mem_of_getElem? (i := 36) rfl))
theorem lm_1666 : Cond.code yX11_clashes cX11_clashes 1 (some .int) ∈ lw_tbl := List.mem_append_right _ (tin_3 (List.mem_of_getElem? (i := 37) rfl))
theorem lm_1667 : Cond.methodLink RL 153 yX12_clashes ∈ lw_tbl := List.mem_append_right _ (tin_9 (List.mem_of_getElem? (i := 206) rfl))
theorem lm_1668 : Cond.instanceMethod yX12_clashes ∈ lw_tbl := List.mem_append_right _ (tin_9 (List.mem_of_getElem? (i := 207) rfl))
theorem lm_1669 : Cond.selects RX12 yX12_clashes yX12_clashes ∈ lw_tbl := List.mem_append_right _ (tin_9 (List.mem_of_getElem? (i := 208) rfl))
theorem lm_1670 : Cond.code yX12_clashes cX12_clashes 1 (some .int) ∈ lw_tbl := List.mem_append_right _ (tin_9 (List.mem_of_getElem? (i := 209) rfl))
theorem lm_1671 : Cond.methodLink RL 154 yX11_firstClash ∈ lw_tbl := List.mem_append_right _ (tin_3 (List.mem_of_getElem? (i := 55) rfl))
theorem lm_1672 : Cond.instanceMethod yX11_firstClash ∈ lw_tbl := List.mem_append_right _ (tin_3 (List.mem_of_getElem? (i := 56) rfl))
theorem lm_1673 : Cond.selects RX11 yX11_firstClash yX11_firstClash ∈ lw_tbl := List.mem_append_right _ (tin_3 (List.mem_of_getElem? (i := 57) rfl))
theorem lm_1674 : Cond.code yX11_firstClash cX11_firstClash 1 (some .int) ∈ lw_tbl := List.mem_append_right _ (tin_3 (List.mem_of_getElem? (i := 58) rfl))
theorem lm_1675 : Cond.methodLink RL 157 yX12_firstClash ∈ lw_tbl := List.mem_append_right _ (tin_9 (List.mem_of_getElem? (i := 217) rfl))
theorem lm_1676 : Cond.instanceMethod yX12_firstClash ∈ lw_tbl := List.mem_append_right _ (tin_9 (List.mem_of_getElem? (i := 218) rfl))
theorem lm_1677 : Cond.selects RX12 yX12_firstClash yX12_firstClash ∈ lw_tbl := List.mem_append_right _ (tin_9 (List.mem_of_getElem? (i := 219) rfl))
theorem lm_1678 : Cond.code yX12_firstClash cX12_firstClash 1 (some .int) ∈ lw_tbl := List.mem_append_right _ (tin_9 (List.mem_of_getElem? (i := 220) rfl))
theorem lm_1679 : Cond.methodLink RL 158 yL_change ∈ lw_tbl := List.mem_append_right _ (tin_6 (List.mem_of_getElem? (i := 38) rfl))
theorem lm_1680 : Cond.static yL_change ∈ lw_tbl := List.mem_append_right _ (tin_6 (List.mem_of_getElem? (i := 39) rfl))
theorem lm_1681 : Cond.codeWith yL_change cL_change 5 (some .int) [(0, 10, 13, 19), (0, 10, 17, 13)] ∈ lw_tbl := List.mem_append_right _ (tin_6 (List.mem_of_getElem? (i := 40) rfl))
theorem lm_1682 : Cond.methodLink RL 160 yX12_change ∈ lw_tbl := List.mem_append_right _ (tin_9 (List.mem_of_getElem? (i := 225) rfl))
theorem lm_1683 : Cond.instanceMethod yX12_change ∈ lw_tbl := List.mem_append_right _ (tin_9 (List.mem_of_getElem? (i := 226) rfl))
theorem lm_1684 : Cond.selects RX12 yX12_change yX12_change ∈ lw_tbl := List.mem_append_right _ (tin_9 (List.mem_of_getElem? (i := 227) rfl))
theorem lm_1685 : Cond.code yX12_change cX12_change 3 (some .int) ∈ lw_tbl := List.mem_append_right _ (tin_9 (List.mem_of_getElem? (i := 228) rfl))
theorem lm_1686 : Cond.methodLink RL 161 yX11_why ∈ lw_tbl := List.mem_append_right _ (tin_3 (List.mem_of_getElem? (i := 67) rfl))
theorem lm_1687 : Cond.instanceMethod yX11_why ∈ lw_tbl := List.mem_append_right _ (tin_3 (List.mem_of_getElem? (i := 68) rfl))
theorem lm_1688 : Cond.selects RX11 yX11_why yX11_why ∈ lw_tbl := List.mem_append_right _ (tin_3 (List.mem_of_getElem? (i := 69) rfl))
theorem lm_1689 : Cond.code yX11_why cX11_why 3 (some .int) ∈ lw_tbl := List.mem_append_right _ (tin_3 (List.mem_of_getElem? (i := 70) rfl))
theorem lm_1690 : Cond.methodLink RL 164 yX12_why ∈ lw_tbl := List.mem_append_right _ (tin_9 (List.mem_of_getElem? (i := 239) rfl))
theorem lm_1691 : Cond.instanceMethod yX12_why ∈ lw_tbl := List.mem_append_right _ (tin_10 (List.mem_of_getElem? (i := 0) rfl))
theorem lm_1692 : Cond.selects RX12 yX12_why yX12_why ∈ lw_tbl := List.mem_append_right _ (tin_10 (List.mem_of_getElem? (i := 1) rfl))
theorem lm_1693 : Cond.code yX12_why cX12_why 3 (some .int) ∈ lw_tbl := List.mem_append_right _ (tin_10 (List.mem_of_getElem? (i := 2) rfl))
theorem lm_1694 : Cond.methodLink RL 165 yX11_move ∈ lw_tbl := List.mem_append_right _ (tin_3 (List.mem_of_getElem? (i := 96) rfl))
theorem lm_1695 : Cond.instanceMethod yX11_move ∈ lw_tbl := List.mem_append_right _ (tin_3 (List.mem_of_getElem? (i := 97) rfl))
theorem lm_1696 : Cond.selects RX11 yX11_move yX11_move ∈ lw_tbl := List.mem_append_right _ (tin_3 (List.mem_of_getElem? (i := 98) rfl))
theorem lm_1697 : Cond.code yX11_move cX11_move 4 (some .int) ∈ lw_tbl := List.mem_append_right _ (tin_3 (List.mem_of_getElem? (i := 99) rfl))
theorem lm_1698 : Cond.methodLink RL 168 yX12_move ∈ lw_tbl := List.mem_append_right _ (tin_10 (List.mem_of_getElem? (i := 7) rfl))
theorem lm_1699 : Cond.instanceMethod yX12_move ∈ lw_tbl := List.mem_append_right _ (tin_10 (List.mem_of_getElem? (i := 8) rfl))
theorem lm_1700 : Cond.selects RX12 yX12_move yX12_move ∈ lw_tbl := List.mem_append_right _ (tin_10 (List.mem_of_getElem? (i := 9) rfl))
theorem lm_1701 : Cond.code yX12_move cX12_move 4 (some .int) ∈ lw_tbl := List.mem_append_right _ (tin_10 (List.mem_of_getElem? (i := 10) rfl))
theorem lm_1702 : Cond.methodLink RL 169 yL_days ∈ lw_tbl := List.mem_append_right _ (tin_6 (List.mem_of_getElem? (i := 51) rfl))
theorem lm_1703 : Cond.static yL_days ∈ lw_tbl := List.mem_append_right _ (tin_6 (List.mem_of_getElem? (i := 52) rfl))
theorem lm_1704 : Cond.codeWith yL_days cL_days 4 (some .int) [(0, 9, 12, 13)] ∈ lw_tbl := List.mem_append_right _ (tin_6 (List.mem_of_getElem? (i := 53) rfl))
theorem lm_1705 : Cond.methodLink RL 171 yX12_days ∈ lw_tbl := List.mem_append_right _ (tin_10 (List.mem_of_getElem? (i := 23) rfl))
theorem lm_1706 : Cond.instanceMethod yX12_days ∈ lw_tbl := List.mem_append_right _ (tin_10 (List.mem_of_getElem? (i := 24) rfl))
theorem lm_1707 : Cond.selects RX12 yX12_days yX12_days ∈ lw_tbl := List.mem_append_right _ (tin_10 (List.mem_of_getElem? (i := 25) rfl))
theorem lm_1708 : Cond.code yX12_days cX12_days 4 (some .int) ∈ lw_tbl := List.mem_append_right _ (tin_10 (List.mem_of_getElem? (i := 26) rfl))
theorem lm_1709 : Cond.methodLink RL 172 yL_undo ∈ lw_tbl := List.mem_append_right _ (tin_6 (List.mem_of_getElem? (i := 64) rfl))
theorem lm_1710 : Cond.static yL_undo ∈ lw_tbl := List.mem_append_right _ (tin_6 (List.mem_of_getElem? (i := 65) rfl))
theorem lm_1711 : Cond.codeWith yL_undo cL_undo 4 (some .int) [(0, 9, 12, 13)] ∈ lw_tbl := List.mem_append_right _ (tin_6 (List.mem_of_getElem? (i := 66) rfl))
theorem lm_1712 : Cond.methodLink RL 174 yX12_undo ∈ lw_tbl := List.mem_append_right _ (tin_10 (List.mem_of_getElem? (i := 35) rfl))
theorem lm_1713 : Cond.instanceMethod yX12_undo ∈ lw_tbl := List.mem_append_right _ (tin_10 (List.mem_of_getElem? (i := 36) rfl))
theorem lm_1714 : Cond.selects RX12 yX12_undo yX12_undo ∈ lw_tbl := List.mem_append_right _ (tin_10 (List.mem_of_getElem? (i := 37) rfl))
theorem lm_1715 : Cond.code yX12_undo cX12_undo 3 (some .int) ∈ lw_tbl := List.mem_append_right _ (tin_10 (List.mem_of_getElem? (i := 38) rfl))
theorem lm_1716 : Cond.methodLink RL 175 yL_judge ∈ lw_tbl := List.mem_append_right _ (tin_6 (List.mem_of_getElem? (i := 83) rfl))
theorem lm_1717 : Cond.static yL_judge ∈ lw_tbl := List.mem_append_right _ (tin_6 (List.mem_of_getElem? (i := 84) rfl))
theorem lm_1718 : Cond.codeWith yL_judge cL_judge 5 (some .int) [(0, 10, 13, 19), (0, 10, 17, 43), (0, 10, 21, 13)] ∈ lw_tbl := List.mem_append_right _ (tin_6 (List.mem_of_getElem? (i := 85) rfl))
theorem lm_1719 : Cond.methodLink RL 177 yX12_judge ∈ lw_tbl := List.mem_append_right _ (tin_10 (List.mem_of_getElem? (i := 40) rfl))
theorem lm_1720 : Cond.instanceMethod yX12_judge ∈ lw_tbl := List.mem_append_right _ (tin_10 (List.mem_of_getElem? (i := 41) rfl))
theorem lm_1721 : Cond.selects RX12 yX12_judge yX12_judge ∈ lw_tbl := List.mem_append_right _ (tin_10 (List.mem_of_getElem? (i := 42) rfl))
theorem lm_1722 : Cond.code yX12_judge cX12_judge 7 (some .int) ∈ lw_tbl := List.mem_append_right _ (tin_10 (List.mem_of_getElem? (i := 43) rfl))
theorem lm_1723 : Cond.methodLink RL 178 yL_perform ∈ lw_tbl := List.mem_append_right _ (tin_6 (List.mem_of_getElem? (i := 145) rfl))
theorem lm_1724 : Cond.static yL_perform ∈ lw_tbl := List.mem_append_right _ (tin_6 (List.mem_of_getElem? (i := 146) rfl))
theorem lm_1725 : Cond.codeWith yL_perform cL_perform 4 (some .int) [(0, 9, 12, 19), (0, 9, 15, 43)] ∈ lw_tbl := List.mem_append_right _ (tin_6 (List.mem_of_getElem? (i := 147) rfl))
theorem lm_1726 : Cond.methodLink RL 180 yX12_perform ∈ lw_tbl := List.mem_append_right _ (tin_10 (List.mem_of_getElem? (i := 72) rfl))
theorem lm_1727 : Cond.instanceMethod yX12_perform ∈ lw_tbl := List.mem_append_right _ (tin_10 (List.mem_of_getElem? (i := 73) rfl))
theorem lm_1728 : Cond.selects RX12 yX12_perform yX12_perform ∈ lw_tbl := List.mem_append_right _ (tin_10 (List.mem_of_getElem? (i := 74) rfl))
theorem lm_1729 : Cond.code yX12_perform cX12_perform 3 (some .int) ∈ lw_tbl := List.mem_append_right _ (tin_10 (List.mem_of_getElem? (i := 75) rfl))
theorem lm_1730 : Cond.methodLink RL 181 yL_season ∈ lw_tbl := List.mem_append_right _ (tin_6 (List.mem_of_getElem? (i := 152) rfl))
theorem lm_1731 : Cond.static yL_season ∈ lw_tbl := List.mem_append_right _ (tin_6 (List.mem_of_getElem? (i := 153) rfl))
theorem lm_1732 : Cond.codeWith yL_season cL_season 5 (some .int) [(0, 10, 13, 13), (0, 10, 17, 43)] ∈ lw_tbl := List.mem_append_right _ (tin_6 (List.mem_of_getElem? (i := 154) rfl))
theorem lm_1733 : Cond.methodLink RL 183 yX12_season ∈ lw_tbl := List.mem_append_right _ (tin_10 (List.mem_of_getElem? (i := 76) rfl))
theorem lm_1734 : Cond.instanceMethod yX12_season ∈ lw_tbl := List.mem_append_right _ (tin_10 (List.mem_of_getElem? (i := 77) rfl))
theorem lm_1735 : Cond.selects RX12 yX12_season yX12_season ∈ lw_tbl := List.mem_append_right _ (tin_10 (List.mem_of_getElem? (i := 78) rfl))
theorem lm_1736 : Cond.code yX12_season cX12_season 8 (some .int) ∈ lw_tbl := List.mem_append_right _ (tin_10 (List.mem_of_getElem? (i := 79) rfl))
theorem lm_1737 : Cond.methodLink RL 184 yL_oddRing ∈ lw_tbl := List.mem_append_right _ (tin_6 (List.mem_of_getElem? (i := 170) rfl))
theorem lm_1738 : Cond.static yL_oddRing ∈ lw_tbl := List.mem_append_right _ (tin_6 (List.mem_of_getElem? (i := 171) rfl))
theorem lm_1739 : Cond.codeWith yL_oddRing cL_oddRing 4 (some .int) [(0, 9, 12, 13)] ∈ lw_tbl := List.mem_append_right _ (tin_6 (List.mem_of_getElem? (i := 172) rfl))
theorem lm_1740 : Cond.methodLink RL 186 yX12_oddRing ∈ lw_tbl := List.mem_append_right _ (tin_10 (List.mem_of_getElem? (i := 86) rfl))
theorem lm_1741 : Cond.instanceMethod yX12_oddRing ∈ lw_tbl := List.mem_append_right _ (tin_10 (List.mem_of_getElem? (i := 87) rfl))
theorem lm_1742 : Cond.selects RX12 yX12_oddRing yX12_oddRing ∈ lw_tbl := List.mem_append_right _ (tin_10 (List.mem_of_getElem? (i := 88) rfl))
theorem lm_1743 : Cond.code yX12_oddRing cX12_oddRing 3 (some .int) ∈ lw_tbl := List.mem_append_right _ (tin_10 (List.mem_of_getElem? (i := 89) rfl))
theorem lm_1744 : Cond.methodLink RL 187 yX12_thrown ∈ lw_tbl := List.mem_append_right _ (tin_8 (List.mem_of_getElem? (i := 192) rfl))
theorem lm_1745 : Cond.instanceMethod yX12_thrown ∈ lw_tbl := List.mem_append_right _ (tin_8 (List.mem_of_getElem? (i := 193) rfl))
theorem lm_1746 : Cond.selects RX12 yX12_thrown yX12_thrown ∈ lw_tbl := List.mem_append_right _ (tin_8 (List.mem_of_getElem? (i := 194) rfl))
theorem lm_1747 : Cond.code yX12_thrown cX12_thrown 1 (some .int) ∈ lw_tbl := List.mem_append_right _ (tin_8 (List.mem_of_getElem? (i := 195) rfl))
theorem lm_1748 : Cond.methodLink RL 190 yX11_sides ∈ lw_tbl := List.mem_append_right _ (tin_3 (List.mem_of_getElem? (i := 132) rfl))
theorem lm_1749 : Cond.instanceMethod yX11_sides ∈ lw_tbl := List.mem_append_right _ (tin_3 (List.mem_of_getElem? (i := 133) rfl))
theorem lm_1750 : Cond.selects RX11 yX11_sides yX11_sides ∈ lw_tbl := List.mem_append_right _ (tin_3 (List.mem_of_getElem? (i := 134) rfl))
theorem lm_1751 : Cond.code yX11_sides cX11_sides 1 (some .int) ∈ lw_tbl := List.mem_append_right _ (tin_3 (List.mem_of_getElem? (i := 135) rfl))
theorem lm_1752 : Cond.methodLink RL 193 yX12_sides ∈ lw_tbl := List.mem_append_right _ (tin_10 (List.mem_of_getElem? (i := 98) rfl))
theorem lm_1753 : Cond.instanceMethod yX12_sides ∈ lw_tbl := List.mem_append_right _ (tin_10 (List.mem_of_getElem? (i := 99) rfl))
theorem lm_1754 : Cond.selects RX12 yX12_sides yX12_sides ∈ lw_tbl := List.mem_append_right _ (tin_10 (List.mem_of_getElem? (i := 100) rfl))
theorem lm_1755 : Cond.code yX12_sides cX12_sides 7 (some .int) ∈ lw_tbl := List.mem_append_right _ (tin_10 (List.mem_of_getElem? (i := 101) rfl))
theorem lm_1756 : Cond.methodLink RL 194 yX11_placings ∈ lw_tbl := List.mem_append_right _ (tin_3 (List.mem_of_getElem? (i := 144) rfl))
theorem lm_1757 : Cond.instanceMethod yX11_placings ∈ lw_tbl := List.mem_append_right _ (tin_3 (List.mem_of_getElem? (i := 145) rfl))
theorem lm_1758 : Cond.selects RX11 yX11_placings yX11_placings ∈ lw_tbl := List.mem_append_right _ (tin_3 (List.mem_of_getElem? (i := 146) rfl))
theorem lm_1759 : Cond.code yX11_placings cX11_placings 1 (some .int) ∈ lw_tbl := List.mem_append_right _ (tin_3 (List.mem_of_getElem? (i := 147) rfl))
theorem lm_1760 : Cond.methodLink RL 197 yX12_placings ∈ lw_tbl := List.mem_append_right _ (tin_10 (List.mem_of_getElem? (i := 102) rfl))
theorem lm_1761 : Cond.instanceMethod yX12_placings ∈ lw_tbl := List.mem_append_right _ (tin_10 (List.mem_of_getElem? (i := 103) rfl))
theorem lm_1762 : Cond.selects RX12 yX12_placings yX12_placings ∈ lw_tbl := List.mem_append_right _ (tin_10 (List.mem_of_getElem? (i := 104) rfl))
theorem lm_1763 : Cond.code yX12_placings cX12_placings 1 (some .int) ∈ lw_tbl := List.mem_append_right _ (tin_10 (List.mem_of_getElem? (i := 105) rfl))
theorem lm_1764 : Cond.methodLink RL 198 yL_placing ∈ lw_tbl := List.mem_append_right _ (tin_6 (List.mem_of_getElem? (i := 187) rfl))
theorem lm_1765 : Cond.static yL_placing ∈ lw_tbl := List.mem_append_right _ (tin_6 (List.mem_of_getElem? (i := 188) rfl))
theorem lm_1766 : Cond.codeWith yL_placing cL_placing 5 (some .int) [(0, 10, 13, 19), (0, 10, 17, 13)] ∈ lw_tbl := List.mem_append_right _ (tin_6 (List.mem_of_getElem? (i := 189) rfl))
theorem lm_1767 : Cond.methodLink RL 200 yX12_placing ∈ lw_tbl := List.mem_append_right _ (tin_10 (List.mem_of_getElem? (i := 118) rfl))
theorem lm_1768 : Cond.instanceMethod yX12_placing ∈ lw_tbl := List.mem_append_right _ (tin_10 (List.mem_of_getElem? (i := 119) rfl))
theorem lm_1769 : Cond.selects RX12 yX12_placing yX12_placing ∈ lw_tbl := List.mem_append_right _ (tin_10 (List.mem_of_getElem? (i := 120) rfl))
theorem lm_1770 : Cond.code yX12_placing cX12_placing 3 (some .int) ∈ lw_tbl := List.mem_append_right _ (tin_10 (List.mem_of_getElem? (i := 121) rfl))
theorem lm_1771 : Cond.methodLink RL 201 yL_mending ∈ lw_tbl := List.mem_append_right _ (tin_6 (List.mem_of_getElem? (i := 199) rfl))
theorem lm_1772 : Cond.static yL_mending ∈ lw_tbl := List.mem_append_right _ (tin_6 (List.mem_of_getElem? (i := 200) rfl))
theorem lm_1773 : Cond.codeWith yL_mending cL_mending 4 (some .int) [(0, 9, 12, 13)] ∈ lw_tbl := List.mem_append_right _ (tin_6 (List.mem_of_getElem? (i := 201) rfl))
theorem lm_1774 : Cond.methodLink RL 203 yX12_mending ∈ lw_tbl := List.mem_append_right _ (tin_10 (List.mem_of_getElem? (i := 122) rfl))
theorem lm_1775 : Cond.instanceMethod yX12_mending ∈ lw_tbl := List.mem_append_right _ (tin_10 (List.mem_of_getElem? (i := 123) rfl))
theorem lm_1776 : Cond.selects RX12 yX12_mending yX12_mending ∈ lw_tbl := List.mem_append_right _ (tin_10 (List.mem_of_getElem? (i := 124) rfl))
theorem lm_1777 : Cond.code yX12_mending cX12_mending 2 (some .int) ∈ lw_tbl := List.mem_append_right _ (tin_10 (List.mem_of_getElem? (i := 125) rfl))
theorem lm_1778 : Cond.methodLink RL 204 yL_mend ∈ lw_tbl := List.mem_append_right _ (tin_6 (List.mem_of_getElem? (i := 225) rfl))
theorem lm_1779 : Cond.static yL_mend ∈ lw_tbl := List.mem_append_right _ (tin_6 (List.mem_of_getElem? (i := 226) rfl))
theorem lm_1780 : Cond.codeWith yL_mend cL_mend 3 (some .int) [(0, 8, 11, 43)] ∈ lw_tbl := List.mem_append_right _ (tin_6 (List.mem_of_getElem? (i := 227) rfl))
theorem lm_1781 : Cond.methodLink RL 207 yX12_mend ∈ lw_tbl := List.mem_append_right _ (tin_10 (List.mem_of_getElem? (i := 126) rfl))
theorem lm_1782 : Cond.instanceMethod yX12_mend ∈ lw_tbl := List.mem_append_right _ (tin_10 (List.mem_of_getElem? (i := 127) rfl))
theorem lm_1783 : Cond.selects RX12 yX12_mend yX12_mend ∈ lw_tbl := List.mem_append_right _ (tin_10 (List.mem_of_getElem? (i := 128) rfl))
theorem lm_1784 : Cond.code yX12_mend cX12_mend 2 (some .int) ∈ lw_tbl := List.mem_append_right _ (tin_10 (List.mem_of_getElem? (i := 129) rfl))
theorem lm_1785 : Cond.methodLink RL 208 yL_flips ∈ lw_tbl := List.mem_append_right _ (tin_6 (List.mem_of_getElem? (i := 237) rfl))
theorem lm_1786 : Cond.static yL_flips ∈ lw_tbl := List.mem_append_right _ (tin_6 (List.mem_of_getElem? (i := 238) rfl))
theorem lm_1787 : Cond.codeWith yL_flips cL_flips 4 (some .int) [(0, 9, 12, 13)] ∈ lw_tbl := List.mem_append_right _ (tin_6 (List.mem_of_getElem? (i := 239) rfl))
theorem lm_1788 : Cond.methodLink RL 210 yX12_flips ∈ lw_tbl := List.mem_append_right _ (tin_10 (List.mem_of_getElem? (i := 130) rfl))
theorem lm_1789 : Cond.instanceMethod yX12_flips ∈ lw_tbl := List.mem_append_right _ (tin_10 (List.mem_of_getElem? (i := 131) rfl))
theorem lm_1790 : Cond.selects RX12 yX12_flips yX12_flips ∈ lw_tbl := List.mem_append_right _ (tin_10 (List.mem_of_getElem? (i := 132) rfl))
theorem lm_1791 : Cond.code yX12_flips cX12_flips 3 (some .int) ∈ lw_tbl := List.mem_append_right _ (tin_10 (List.mem_of_getElem? (i := 133) rfl))
theorem lm_1792 : Cond.methodLink RL 211 yL_wave ∈ lw_tbl := List.mem_append_right _ (tin_7 (List.mem_of_getElem? (i := 38) rfl))
theorem lm_1793 : Cond.static yL_wave ∈ lw_tbl := List.mem_append_right _ (tin_7 (List.mem_of_getElem? (i := 39) rfl))
theorem lm_1794 : Cond.codeWith yL_wave cL_wave 4 (some .int) [(0, 9, 12, 13)] ∈ lw_tbl := List.mem_append_right _ (tin_7 (List.mem_of_getElem? (i := 40) rfl))
theorem lm_1795 : Cond.methodLink RL 213 yX12_wave ∈ lw_tbl := List.mem_append_right _ (tin_10 (List.mem_of_getElem? (i := 142) rfl))
theorem lm_1796 : Cond.instanceMethod yX12_wave ∈ lw_tbl := List.mem_append_right _ (tin_10 (List.mem_of_getElem? (i := 143) rfl))
theorem lm_1797 : Cond.selects RX12 yX12_wave yX12_wave ∈ lw_tbl := List.mem_append_right _ (tin_10 (List.mem_of_getElem? (i := 144) rfl))
theorem lm_1798 : Cond.code yX12_wave cX12_wave 4 (some .int) ∈ lw_tbl := List.mem_append_right _ (tin_10 (List.mem_of_getElem? (i := 145) rfl))
theorem lm_1799 : Cond.methodLink RL 214 yX11_goWave ∈ lw_tbl := List.mem_append_right _ (tin_3 (List.mem_of_getElem? (i := 199) rfl))
theorem lm_1800 : Cond.instanceMethod yX11_goWave ∈ lw_tbl := List.mem_append_right _ (tin_3 (List.mem_of_getElem? (i := 200) rfl))
theorem lm_1801 : Cond.selects RX11 yX11_goWave yX11_goWave ∈ lw_tbl := List.mem_append_right _ (tin_3 (List.mem_of_getElem? (i := 201) rfl))
theorem lm_1802 : Cond.code yX11_goWave cX11_goWave 1 (some .int) ∈ lw_tbl := List.mem_append_right _ (tin_3 (List.mem_of_getElem? (i := 202) rfl))
theorem lm_1803 : Cond.methodLink RL 217 yX12_goWave ∈ lw_tbl := List.mem_append_right _ (tin_10 (List.mem_of_getElem? (i := 158) rfl))
theorem lm_1804 : Cond.instanceMethod yX12_goWave ∈ lw_tbl := List.mem_append_right _ (tin_10 (List.mem_of_getElem? (i := 159) rfl))
theorem lm_1805 : Cond.selects RX12 yX12_goWave yX12_goWave ∈ lw_tbl := List.mem_append_right _ (tin_10 (List.mem_of_getElem? (i := 160) rfl))
theorem lm_1806 : Cond.code yX12_goWave cX12_goWave 1 (some .int) ∈ lw_tbl := List.mem_append_right _ (tin_10 (List.mem_of_getElem? (i := 161) rfl))
theorem lm_1807 : Cond.methodLink RL 218 yL_calm ∈ lw_tbl := List.mem_append_right _ (tin_7 (List.mem_of_getElem? (i := 45) rfl))
theorem lm_1808 : Cond.static yL_calm ∈ lw_tbl := List.mem_append_right _ (tin_7 (List.mem_of_getElem? (i := 46) rfl))
theorem lm_1809 : Cond.codeWith yL_calm cL_calm 4 (some .int) [(0, 9, 12, 13)] ∈ lw_tbl := List.mem_append_right _ (tin_7 (List.mem_of_getElem? (i := 47) rfl))
theorem lm_1810 : Cond.methodLink RL 220 yX12_calm ∈ lw_tbl := List.mem_append_right _ (tin_10 (List.mem_of_getElem? (i := 162) rfl))
theorem lm_1811 : Cond.instanceMethod yX12_calm ∈ lw_tbl := List.mem_append_right _ (tin_10 (List.mem_of_getElem? (i := 163) rfl))
theorem lm_1812 : Cond.selects RX12 yX12_calm yX12_calm ∈ lw_tbl := List.mem_append_right _ (tin_10 (List.mem_of_getElem? (i := 164) rfl))
theorem lm_1813 : Cond.code yX12_calm cX12_calm 2 (some .int) ∈ lw_tbl := List.mem_append_right _ (tin_10 (List.mem_of_getElem? (i := 165) rfl))
theorem lm_1814 : Cond.methodLink RL 221 yL_event ∈ lw_tbl := List.mem_append_right _ (tin_7 (List.mem_of_getElem? (i := 70) rfl))
theorem lm_1815 : Cond.static yL_event ∈ lw_tbl := List.mem_append_right _ (tin_7 (List.mem_of_getElem? (i := 71) rfl))
theorem lm_1816 : Cond.codeWith yL_event cL_event 5 (some .int) [(0, 10, 13, 19), (0, 10, 17, 13)] ∈ lw_tbl := List.mem_append_right _ (tin_7 (List.mem_of_getElem? (i := 72) rfl))
theorem lm_1817 : Cond.methodLink RL 223 yX12_event ∈ lw_tbl := List.mem_append_right _ (tin_10 (List.mem_of_getElem? (i := 171) rfl))
theorem lm_1818 : Cond.instanceMethod yX12_event ∈ lw_tbl := List.mem_append_right _ (tin_10 (List.mem_of_getElem? (i := 172) rfl))
theorem lm_1819 : Cond.selects RX12 yX12_event yX12_event ∈ lw_tbl := List.mem_append_right _ (tin_10 (List.mem_of_getElem? (i := 173) rfl))
theorem lm_1820 : Cond.code yX12_event cX12_event 3 (some .int) ∈ lw_tbl := List.mem_append_right _ (tin_10 (List.mem_of_getElem? (i := 174) rfl))
theorem lm_1821 : Cond.methodLink RL 224 yL_goats ∈ lw_tbl := List.mem_append_right _ (tin_7 (List.mem_of_getElem? (i := 79) rfl))
theorem lm_1822 : Cond.static yL_goats ∈ lw_tbl := List.mem_append_right _ (tin_7 (List.mem_of_getElem? (i := 80) rfl))
theorem lm_1823 : Cond.codeWith yL_goats cL_goats 5 (some .int) [(0, 10, 13, 19), (0, 10, 17, 43), (0, 10, 21, 13)] ∈ lw_tbl := List.mem_append_right _ (tin_7 (List.mem_of_getElem? (i := 81) rfl))
theorem lm_1824 : Cond.methodLink RL 227 yX12_goats ∈ lw_tbl := List.mem_append_right _ (tin_10 (List.mem_of_getElem? (i := 175) rfl))
theorem lm_1825 : Cond.instanceMethod yX12_goats ∈ lw_tbl := List.mem_append_right _ (tin_10 (List.mem_of_getElem? (i := 176) rfl))
theorem lm_1826 : Cond.selects RX12 yX12_goats yX12_goats ∈ lw_tbl := List.mem_append_right _ (tin_10 (List.mem_of_getElem? (i := 177) rfl))
theorem lm_1827 : Cond.code yX12_goats cX12_goats 6 (some .int) ∈ lw_tbl := List.mem_append_right _ (tin_10 (List.mem_of_getElem? (i := 178) rfl))
theorem lm_1828 : Cond.methodLink RL 228 yL_bestRow ∈ lw_tbl := List.mem_append_right _ (tin_7 (List.mem_of_getElem? (i := 106) rfl))
theorem lm_1829 : Cond.static yL_bestRow ∈ lw_tbl := List.mem_append_right _ (tin_7 (List.mem_of_getElem? (i := 107) rfl))
theorem lm_1830 : Cond.codeWith yL_bestRow cL_bestRow 6 (some .int) [(0, 12, 15, 13)] ∈ lw_tbl := List.mem_append_right _ (tin_7 (List.mem_of_getElem? (i := 108) rfl))
theorem lm_1831 : Cond.methodLink RL 231 yX12_bestRow ∈ lw_tbl := List.mem_append_right _ (tin_10 (List.mem_of_getElem? (i := 187) rfl))
theorem lm_1832 : Cond.instanceMethod yX12_bestRow ∈ lw_tbl := List.mem_append_right _ (tin_10 (List.mem_of_getElem? (i := 188) rfl))
theorem lm_1833 : Cond.selects RX12 yX12_bestRow yX12_bestRow ∈ lw_tbl := List.mem_append_right _ (tin_10 (List.mem_of_getElem? (i := 189) rfl))
theorem lm_1834 : Cond.code yX12_bestRow cX12_bestRow 4 (some .int) ∈ lw_tbl := List.mem_append_right _ (tin_10 (List.mem_of_getElem? (i := 190) rfl))
theorem lm_1835 : Cond.methodLink RL 232 yL_seats ∈ lw_tbl := List.mem_append_right _ (tin_7 (List.mem_of_getElem? (i := 132) rfl))
theorem lm_1836 : Cond.static yL_seats ∈ lw_tbl := List.mem_append_right _ (tin_7 (List.mem_of_getElem? (i := 133) rfl))
theorem lm_1837 : Cond.codeWith yL_seats cL_seats 6 (some .int) [(0, 12, 15, 19), (0, 12, 19, 43), (0, 12, 23, 13)] ∈ lw_tbl := List.mem_append_right _ (tin_7 (List.mem_of_getElem? (i := 134) rfl))
theorem lm_1838 : Cond.methodLink RL 235 yX12_seats ∈ lw_tbl := List.mem_append_right _ (tin_10 (List.mem_of_getElem? (i := 196) rfl))
theorem lm_1839 : Cond.instanceMethod yX12_seats ∈ lw_tbl := List.mem_append_right _ (tin_10 (List.mem_of_getElem? (i := 197) rfl))
theorem lm_1840 : Cond.selects RX12 yX12_seats yX12_seats ∈ lw_tbl := List.mem_append_right _ (tin_10 (List.mem_of_getElem? (i := 198) rfl))
theorem lm_1841 : Cond.code yX12_seats cX12_seats 9 (some .int) ∈ lw_tbl := List.mem_append_right _ (tin_10 (List.mem_of_getElem? (i := 199) rfl))
theorem lm_1842 : Cond.methodLink RL 236 yL_pleasure ∈ lw_tbl := List.mem_append_right _ (tin_7 (List.mem_of_getElem? (i := 152) rfl))
theorem lm_1843 : Cond.static yL_pleasure ∈ lw_tbl := List.mem_append_right _ (tin_7 (List.mem_of_getElem? (i := 153) rfl))
theorem lm_1844 : Cond.codeWith yL_pleasure cL_pleasure 5 (some .int) [(0, 10, 13, 19), (0, 10, 17, 43)] ∈ lw_tbl := List.mem_append_right _ (tin_7 (List.mem_of_getElem? (i := 154) rfl))
theorem lm_1845 : Cond.methodLink RL 238 yX12_pleasure ∈ lw_tbl := List.mem_append_right _ (tin_10 (List.mem_of_getElem? (i := 205) rfl))
theorem lm_1846 : Cond.instanceMethod yX12_pleasure ∈ lw_tbl := List.mem_append_right _ (tin_10 (List.mem_of_getElem? (i := 206) rfl))
theorem lm_1847 : Cond.selects RX12 yX12_pleasure yX12_pleasure ∈ lw_tbl := List.mem_append_right _ (tin_10 (List.mem_of_getElem? (i := 207) rfl))
theorem lm_1848 : Cond.code yX12_pleasure cX12_pleasure 3 (some .int) ∈ lw_tbl := List.mem_append_right _ (tin_10 (List.mem_of_getElem? (i := 208) rfl))
theorem lm_1849 : Cond.methodLink RL 239 yX11_atRest ∈ lw_tbl := List.mem_append_right _ (tin_3 (List.mem_of_getElem? (i := 228) rfl))
theorem lm_1850 : Cond.instanceMethod yX11_atRest ∈ lw_tbl := List.mem_append_right _ (tin_3 (List.mem_of_getElem? (i := 229) rfl))
theorem lm_1851 : Cond.selects RX11 yX11_atRest yX11_atRest ∈ lw_tbl := List.mem_append_right _ (tin_3 (List.mem_of_getElem? (i := 230) rfl))
theorem lm_1852 : Cond.code yX11_atRest cX11_atRest 1 (some .boolean) ∈ lw_tbl := List.mem_append_right _ (tin_3 (List.mem_of_getElem? (i := 231) rfl))
theorem lm_1853 : Cond.methodLink RL 243 yX12_atRest ∈ lw_tbl := List.mem_append_right _ (tin_10 (List.mem_of_getElem? (i := 213) rfl))
theorem lm_1854 : Cond.instanceMethod yX12_atRest ∈ lw_tbl := List.mem_append_right _ (tin_10 (List.mem_of_getElem? (i := 214) rfl))
theorem lm_1855 : Cond.selects RX12 yX12_atRest yX12_atRest ∈ lw_tbl := List.mem_append_right _ (tin_10 (List.mem_of_getElem? (i := 215) rfl))
theorem lm_1856 : Cond.code yX12_atRest cX12_atRest 2 (some .boolean) ∈ lw_tbl := List.mem_append_right _ (tin_10 (List.mem_of_getElem? (i := 216) rfl))
theorem lm_1857 : Cond.methodLink RL 244 yX11_drift ∈ lw_tbl := List.mem_append_right _ (tin_4 (List.mem_of_getElem? (i := 9) rfl))
theorem lm_1858 : Cond.instanceMethod yX11_drift ∈ lw_tbl := List.mem_append_right _ (tin_4 (List.mem_of_getElem? (i := 10) rfl))
theorem lm_1859 : Cond.selects RX11 yX11_drift yX11_drift ∈ lw_tbl := List.mem_append_right _ (tin_4 (List.mem_of_getElem? (i := 11) rfl))
theorem lm_1860 : Cond.code yX11_drift cX11_drift 1 (some .int) ∈ lw_tbl := List.mem_append_right _ (tin_4 (List.mem_of_getElem? (i := 12) rfl))
theorem lm_1861 : Cond.methodLink RL 247 yX12_drift ∈ lw_tbl := List.mem_append_right _ (tin_10 (List.mem_of_getElem? (i := 221) rfl))
theorem lm_1862 : Cond.instanceMethod yX12_drift ∈ lw_tbl := List.mem_append_right _ (tin_10 (List.mem_of_getElem? (i := 222) rfl))
theorem lm_1863 : Cond.selects RX12 yX12_drift yX12_drift ∈ lw_tbl := List.mem_append_right _ (tin_10 (List.mem_of_getElem? (i := 223) rfl))
theorem lm_1864 : Cond.code yX12_drift cX12_drift 6 (some .int) ∈ lw_tbl := List.mem_append_right _ (tin_10 (List.mem_of_getElem? (i := 224) rfl))
theorem lm_1865 : Cond.methodLink RL 248 yL_seen ∈ lw_tbl := List.mem_append_right _ (tin_7 (List.mem_of_getElem? (i := 161) rfl))
theorem lm_1866 : Cond.static yL_seen ∈ lw_tbl := List.mem_append_right _ (tin_7 (List.mem_of_getElem? (i := 162) rfl))
theorem lm_1867 : Cond.codeWith yL_seen cL_seen 4 (some .int) [(0, 9, 12, 19), (0, 9, 15, 43), (0, 9, 18, 13)] ∈ lw_tbl := List.mem_append_right _ (tin_7 (List.mem_of_getElem? (i := 163) rfl))
theorem lm_1868 : Cond.methodLink RL 250 yX12_seen ∈ lw_tbl := List.mem_append_right _ (tin_10 (List.mem_of_getElem? (i := 225) rfl))
theorem lm_1869 : Cond.instanceMethod yX12_seen ∈ lw_tbl := List.mem_append_right _ (tin_10 (List.mem_of_getElem? (i := 226) rfl))
theorem lm_1870 : Cond.selects RX12 yX12_seen yX12_seen ∈ lw_tbl := List.mem_append_right _ (tin_10 (List.mem_of_getElem? (i := 227) rfl))
theorem lm_1871 : Cond.code yX12_seen cX12_seen 2 (some .int) ∈ lw_tbl := List.mem_append_right _ (tin_10 (List.mem_of_getElem? (i := 228) rfl))
theorem lm_1872 : Cond.methodLink RL 251 yL_sure ∈ lw_tbl := List.mem_append_right _ (tin_7 (List.mem_of_getElem? (i := 195) rfl))
theorem lm_1873 : Cond.static yL_sure ∈ lw_tbl := List.mem_append_right _ (tin_7 (List.mem_of_getElem? (i := 196) rfl))
theorem lm_1874 : Cond.codeWith yL_sure cL_sure 5 (some .int) [(0, 10, 13, 19), (0, 10, 17, 43), (0, 10, 21, 13)] ∈ lw_tbl := List.mem_append_right _ (tin_7 (List.mem_of_getElem? (i := 197) rfl))
theorem lm_1875 : Cond.methodLink RL 253 yX12_sure ∈ lw_tbl := List.mem_append_right _ (tin_11 (List.mem_of_getElem? (i := 2) rfl))
theorem lm_1876 : Cond.instanceMethod yX12_sure ∈ lw_tbl := List.mem_append_right _ (tin_11 (List.mem_of_getElem? (i := 3) rfl))
theorem lm_1877 : Cond.selects RX12 yX12_sure yX12_sure ∈ lw_tbl := List.mem_append_right _ (tin_11 (List.mem_of_getElem? (i := 4) rfl))
theorem lm_1878 : Cond.code yX12_sure cX12_sure 4 (some .int) ∈ lw_tbl := List.mem_append_right _ (tin_11 (List.mem_of_getElem? (i := 5) rfl))
theorem lm_1879 : Cond.methodLink RL 254 yL_tray ∈ lw_tbl := List.mem_append_right _ (tin_7 (List.mem_of_getElem? (i := 203) rfl))
theorem lm_1880 : Cond.static yL_tray ∈ lw_tbl := List.mem_append_right _ (tin_7 (List.mem_of_getElem? (i := 204) rfl))
theorem lm_1881 : Cond.codeWith yL_tray cL_tray 5 (some .int) [(0, 7, 10, 19), (0, 7, 14, 13)] ∈ lw_tbl := List.mem_append_right _ (tin_7 (List.mem_of_getElem? (i := 205) rfl))
theorem lm_1882 : Cond.methodLink RL 257 yX12_tray ∈ lw_tbl := List.mem_append_right _ (tin_11 (List.mem_of_getElem? (i := 6) rfl))
theorem lm_1883 : Cond.instanceMethod yX12_tray ∈ lw_tbl := List.mem_append_right _ (tin_11 (List.mem_of_getElem? (i := 7) rfl))
theorem lm_1884 : Cond.selects RX12 yX12_tray yX12_tray ∈ lw_tbl := List.mem_append_right _ (tin_11 (List.mem_of_getElem? (i := 8) rfl))
theorem lm_1885 : Cond.code yX12_tray cX12_tray 5 none ∈ lw_tbl := List.mem_append_right _ (tin_11 (List.mem_of_getElem? (i := 9) rfl))
theorem lm_1886 : Cond.constantLong RL 258 4294967295 ∈ lw_tbl := List.mem_append_right _ (tin_11 (List.mem_of_getElem? (i := 34) rfl))
theorem lm_1887 : Cond.methodLink RL 260 yL_write ∈ lw_tbl := List.mem_append_right _ (tin_7 (List.mem_of_getElem? (i := 217) rfl))
theorem lm_1888 : Cond.static yL_write ∈ lw_tbl := List.mem_append_right _ (tin_7 (List.mem_of_getElem? (i := 218) rfl))
theorem lm_1889 : Cond.codeWith yL_write cL_write 7 (some .int) [(0, 11, 14, 19), (0, 11, 18, 43), (0, 11, 22, 105)] ∈ lw_tbl := List.mem_append_right _ (tin_7 (List.mem_of_getElem? (i := 219) rfl))
theorem lm_1890 : Cond.methodLink RL 263 yX12_write ∈ lw_tbl := List.mem_append_right _ (tin_11 (List.mem_of_getElem? (i := 10) rfl))
theorem lm_1891 : Cond.instanceMethod yX12_write ∈ lw_tbl := List.mem_append_right _ (tin_11 (List.mem_of_getElem? (i := 11) rfl))
theorem lm_1892 : Cond.selects RX12 yX12_write yX12_write ∈ lw_tbl := List.mem_append_right _ (tin_11 (List.mem_of_getElem? (i := 12) rfl))
theorem lm_1893 : Cond.code yX12_write cX12_write 5 (some .long) ∈ lw_tbl := List.mem_append_right _ (tin_11 (List.mem_of_getElem? (i := 13) rfl))
theorem lm_1894 : Cond.methodLink RL 264 yL_pour ∈ lw_tbl := List.mem_append_right _ (tin_8 (List.mem_of_getElem? (i := 9) rfl))
theorem lm_1895 : Cond.static yL_pour ∈ lw_tbl := List.mem_append_right _ (tin_8 (List.mem_of_getElem? (i := 10) rfl))
theorem lm_1896 : Cond.codeWith yL_pour cL_pour 4 (some .int) [(0, 9, 12, 19), (0, 9, 15, 43)] ∈ lw_tbl := List.mem_append_right _ (tin_8 (List.mem_of_getElem? (i := 11) rfl))
theorem lm_1897 : Cond.methodLink RL 266 yX12_pour ∈ lw_tbl := List.mem_append_right _ (tin_11 (List.mem_of_getElem? (i := 18) rfl))
theorem lm_1898 : Cond.instanceMethod yX12_pour ∈ lw_tbl := List.mem_append_right _ (tin_11 (List.mem_of_getElem? (i := 19) rfl))
theorem lm_1899 : Cond.selects RX12 yX12_pour yX12_pour ∈ lw_tbl := List.mem_append_right _ (tin_11 (List.mem_of_getElem? (i := 20) rfl))
theorem lm_1900 : Cond.code yX12_pour cX12_pour 4 (some .int) ∈ lw_tbl := List.mem_append_right _ (tin_11 (List.mem_of_getElem? (i := 21) rfl))
theorem lm_1901 : Cond.methodLink RL 267 yL_image ∈ lw_tbl := List.mem_append_right _ (tin_8 (List.mem_of_getElem? (i := 16) rfl))
theorem lm_1902 : Cond.static yL_image ∈ lw_tbl := List.mem_append_right _ (tin_8 (List.mem_of_getElem? (i := 17) rfl))
theorem lm_1903 : Cond.codeWith yL_image cL_image 3 (some .int) [(0, 5, 8, 19)] ∈ lw_tbl := List.mem_append_right _ (tin_8 (List.mem_of_getElem? (i := 18) rfl))
theorem lm_1904 : Cond.methodLink RL 270 yX12_image ∈ lw_tbl := List.mem_append_right _ (tin_11 (List.mem_of_getElem? (i := 22) rfl))
theorem lm_1905 : Cond.instanceMethod yX12_image ∈ lw_tbl := List.mem_append_right _ (tin_11 (List.mem_of_getElem? (i := 23) rfl))
theorem lm_1906 : Cond.selects RX12 yX12_image yX12_image ∈ lw_tbl := List.mem_append_right _ (tin_11 (List.mem_of_getElem? (i := 24) rfl))
theorem lm_1907 : Cond.code yX12_image cX12_image 3 none ∈ lw_tbl := List.mem_append_right _ (tin_11 (List.mem_of_getElem? (i := 25) rfl))
theorem lm_1908 : Cond.methodLink RL 271 yL_restore ∈ lw_tbl := List.mem_append_right _ (tin_8 (List.mem_of_getElem? (i := 39) rfl))
theorem lm_1909 : Cond.static yL_restore ∈ lw_tbl := List.mem_append_right _ (tin_8 (List.mem_of_getElem? (i := 40) rfl))
theorem lm_1910 : Cond.codeWith yL_restore cL_restore 3 (some .int) [(0, 5, 8, 19), (0, 5, 11, 43)] ∈ lw_tbl := List.mem_append_right _ (tin_8 (List.mem_of_getElem? (i := 41) rfl))
theorem lm_1911 : Cond.methodLink RL 273 yX12_restore ∈ lw_tbl := List.mem_append_right _ (tin_11 (List.mem_of_getElem? (i := 26) rfl))
theorem lm_1912 : Cond.instanceMethod yX12_restore ∈ lw_tbl := List.mem_append_right _ (tin_11 (List.mem_of_getElem? (i := 27) rfl))
theorem lm_1913 : Cond.selects RX12 yX12_restore yX12_restore ∈ lw_tbl := List.mem_append_right _ (tin_11 (List.mem_of_getElem? (i := 28) rfl))
theorem lm_1914 : Cond.code yX12_restore cX12_restore 3 none ∈ lw_tbl := List.mem_append_right _ (tin_11 (List.mem_of_getElem? (i := 29) rfl))
theorem lm_1915 : Cond.methodLink RL 274 yX11_count ∈ lw_tbl := List.mem_append_right _ (tin_4 (List.mem_of_getElem? (i := 17) rfl))
theorem lm_1916 : Cond.instanceMethod yX11_count ∈ lw_tbl := List.mem_append_right _ (tin_4 (List.mem_of_getElem? (i := 18) rfl))
theorem lm_1917 : Cond.selects RX11 yX11_count yX11_count ∈ lw_tbl := List.mem_append_right _ (tin_4 (List.mem_of_getElem? (i := 19) rfl))
theorem lm_1918 : Cond.code yX11_count cX11_count 2 (some .int) ∈ lw_tbl := List.mem_append_right _ (tin_4 (List.mem_of_getElem? (i := 20) rfl))
theorem lm_1919 : Cond.methodLink RL 277 yX12_count ∈ lw_tbl := List.mem_append_right _ (tin_11 (List.mem_of_getElem? (i := 30) rfl))
theorem lm_1920 : Cond.instanceMethod yX12_count ∈ lw_tbl := List.mem_append_right _ (tin_11 (List.mem_of_getElem? (i := 31) rfl))
theorem lm_1921 : Cond.selects RX12 yX12_count yX12_count ∈ lw_tbl := List.mem_append_right _ (tin_11 (List.mem_of_getElem? (i := 32) rfl))
theorem lm_1922 : Cond.code yX12_count cX12_count 2 (some .int) ∈ lw_tbl := List.mem_append_right _ (tin_11 (List.mem_of_getElem? (i := 33) rfl))
theorem cs_L_7 : GoodIn gtbl (wsV RL 7 RX11 yX11_town (Cond.code yX11_town cX11_town 2 (some .int) :: gtbl)) ∧ yX11_town.cls = RX11 ∧ yX11_town.cls ≠ "java/lang/invoke/MethodHandle" ∧ yX11_town.cls ≠ "java/lang/invoke/VarHandle" ∧ (parseMethodDescriptor yX11_town.desc).map (fun d => d.parameters.length) = some 1 := ⟨goodV lm_1491 lm_1492 lm_1493 lm_307 lm_1494 rfl rfl, by decide +kernel⟩
theorem cs_L_15 : GoodIn gtbl (wsV RL 15 RX11 yX11_thing (Cond.code yX11_thing cX11_thing 3 (some .int) :: gtbl)) ∧ yX11_thing.cls = RX11 ∧ yX11_thing.cls ≠ "java/lang/invoke/MethodHandle" ∧ yX11_thing.cls ≠ "java/lang/invoke/VarHandle" ∧ (parseMethodDescriptor yX11_thing.desc).map (fun d => d.parameters.length) = some 2 := ⟨goodV lm_1495 lm_1496 lm_1497 lm_307 lm_1498 rfl rfl, by decide +kernel⟩
theorem cs_L_21 : GoodIn gtbl (wsV RL 21 RX11 yX11_place (Cond.code yX11_place cX11_place 3 (some .int) :: gtbl)) ∧ yX11_place.cls = RX11 ∧ yX11_place.cls ≠ "java/lang/invoke/MethodHandle" ∧ yX11_place.cls ≠ "java/lang/invoke/VarHandle" ∧ (parseMethodDescriptor yX11_place.desc).map (fun d => d.parameters.length) = some 2 := ⟨goodV lm_1499 lm_1500 lm_1501 lm_307 lm_1502 rfl rfl, by decide +kernel⟩
theorem cs_L_24 : GoodIn gtbl (wsV RL 24 RX11 yX11_steps (Cond.code yX11_steps cX11_steps 3 (some .int) :: gtbl)) ∧ yX11_steps.cls = RX11 ∧ yX11_steps.cls ≠ "java/lang/invoke/MethodHandle" ∧ yX11_steps.cls ≠ "java/lang/invoke/VarHandle" ∧ (parseMethodDescriptor yX11_steps.desc).map (fun d => d.parameters.length) = some 2 := ⟨goodV lm_1503 lm_1504 lm_1505 lm_307 lm_1506 rfl rfl, by decide +kernel⟩
theorem cs_L_27 : GoodIn gtbl (wsV RL 27 RX11 yX11_clash (Cond.code yX11_clash cX11_clash 4 (some .boolean) :: gtbl)) ∧ yX11_clash.cls = RX11 ∧ yX11_clash.cls ≠ "java/lang/invoke/MethodHandle" ∧ yX11_clash.cls ≠ "java/lang/invoke/VarHandle" ∧ (parseMethodDescriptor yX11_clash.desc).map (fun d => d.parameters.length) = some 3 := ⟨goodV lm_1507 lm_1508 lm_1509 lm_307 lm_1510 rfl rfl, by decide +kernel⟩
theorem cs_L_31 : GoodIn gtbl (wsV RL 31 RX11 yX11_change (Cond.code yX11_change cX11_change 3 (some .int) :: gtbl)) ∧ yX11_change.cls = RX11 ∧ yX11_change.cls ≠ "java/lang/invoke/MethodHandle" ∧ yX11_change.cls ≠ "java/lang/invoke/VarHandle" ∧ (parseMethodDescriptor yX11_change.desc).map (fun d => d.parameters.length) = some 2 := ⟨goodV lm_1511 lm_1512 lm_1513 lm_307 lm_1514 rfl rfl, by decide +kernel⟩
theorem cs_L_34 : GoodIn gtbl (wsV RL 34 RX11 yX11_days (Cond.code yX11_days cX11_days 4 (some .int) :: gtbl)) ∧ yX11_days.cls = RX11 ∧ yX11_days.cls ≠ "java/lang/invoke/MethodHandle" ∧ yX11_days.cls ≠ "java/lang/invoke/VarHandle" ∧ (parseMethodDescriptor yX11_days.desc).map (fun d => d.parameters.length) = some 1 := ⟨goodV lm_1515 lm_1516 lm_1517 lm_307 lm_1518 rfl rfl, by decide +kernel⟩
theorem cs_L_37 : GoodIn gtbl (wsV RL 37 RX11 yX11_undo (Cond.code yX11_undo cX11_undo 2 (some .int) :: gtbl)) ∧ yX11_undo.cls = RX11 ∧ yX11_undo.cls ≠ "java/lang/invoke/MethodHandle" ∧ yX11_undo.cls ≠ "java/lang/invoke/VarHandle" ∧ (parseMethodDescriptor yX11_undo.desc).map (fun d => d.parameters.length) = some 1 := ⟨goodV lm_1519 lm_1520 lm_1521 lm_307 lm_1522 rfl rfl, by decide +kernel⟩
theorem cs_L_40 : GoodIn gtbl (wsV RL 40 RX11 yX11_judge (Cond.code yX11_judge cX11_judge 8 (some .int) :: gtbl)) ∧ yX11_judge.cls = RX11 ∧ yX11_judge.cls ≠ "java/lang/invoke/MethodHandle" ∧ yX11_judge.cls ≠ "java/lang/invoke/VarHandle" ∧ (parseMethodDescriptor yX11_judge.desc).map (fun d => d.parameters.length) = some 2 := ⟨goodV lm_1523 lm_1524 lm_1525 lm_307 lm_1526 rfl rfl, by decide +kernel⟩
theorem cs_L_45 : GoodIn gtbl (wsV RL 45 RX11 yX11_perform (Cond.code yX11_perform cX11_perform 2 (some .int) :: gtbl)) ∧ yX11_perform.cls = RX11 ∧ yX11_perform.cls ≠ "java/lang/invoke/MethodHandle" ∧ yX11_perform.cls ≠ "java/lang/invoke/VarHandle" ∧ (parseMethodDescriptor yX11_perform.desc).map (fun d => d.parameters.length) = some 1 := ⟨goodV lm_1527 lm_1528 lm_1529 lm_307 lm_1530 rfl rfl, by decide +kernel⟩
theorem cs_L_48 : GoodIn gtbl (wsV RL 48 RX11 yX11_season (Cond.code yX11_season cX11_season 5 (some .int) :: gtbl)) ∧ yX11_season.cls = RX11 ∧ yX11_season.cls ≠ "java/lang/invoke/MethodHandle" ∧ yX11_season.cls ≠ "java/lang/invoke/VarHandle" ∧ (parseMethodDescriptor yX11_season.desc).map (fun d => d.parameters.length) = some 2 := ⟨goodV lm_1531 lm_1532 lm_1533 lm_307 lm_1534 rfl rfl, by decide +kernel⟩
theorem cs_L_51 : GoodIn gtbl (wsV RL 51 RX11 yX11_oddRing (Cond.code yX11_oddRing cX11_oddRing 3 (some .int) :: gtbl)) ∧ yX11_oddRing.cls = RX11 ∧ yX11_oddRing.cls ≠ "java/lang/invoke/MethodHandle" ∧ yX11_oddRing.cls ≠ "java/lang/invoke/VarHandle" ∧ (parseMethodDescriptor yX11_oddRing.desc).map (fun d => d.parameters.length) = some 1 := ⟨goodV lm_1535 lm_1536 lm_1537 lm_307 lm_1538 rfl rfl, by decide +kernel⟩
theorem cs_L_54 : GoodIn gtbl (wsV RL 54 RX11 yX11_placing (Cond.code yX11_placing cX11_placing 3 (some .int) :: gtbl)) ∧ yX11_placing.cls = RX11 ∧ yX11_placing.cls ≠ "java/lang/invoke/MethodHandle" ∧ yX11_placing.cls ≠ "java/lang/invoke/VarHandle" ∧ (parseMethodDescriptor yX11_placing.desc).map (fun d => d.parameters.length) = some 2 := ⟨goodV lm_1539 lm_1540 lm_1541 lm_307 lm_1542 rfl rfl, by decide +kernel⟩
theorem cs_L_57 : GoodIn gtbl (wsV RL 57 RX11 yX11_mending (Cond.code yX11_mending cX11_mending 2 (some .int) :: gtbl)) ∧ yX11_mending.cls = RX11 ∧ yX11_mending.cls ≠ "java/lang/invoke/MethodHandle" ∧ yX11_mending.cls ≠ "java/lang/invoke/VarHandle" ∧ (parseMethodDescriptor yX11_mending.desc).map (fun d => d.parameters.length) = some 1 := ⟨goodV lm_1543 lm_1544 lm_1545 lm_307 lm_1546 rfl rfl, by decide +kernel⟩
theorem cs_L_60 : GoodIn gtbl (wsV RL 60 RX11 yX11_mend (Cond.code yX11_mend cX11_mend 1 (some .int) :: gtbl)) ∧ yX11_mend.cls = RX11 ∧ yX11_mend.cls ≠ "java/lang/invoke/MethodHandle" ∧ yX11_mend.cls ≠ "java/lang/invoke/VarHandle" ∧ (parseMethodDescriptor yX11_mend.desc).map (fun d => d.parameters.length) = some 0 := ⟨goodV lm_1547 lm_1548 lm_1549 lm_307 lm_1550 rfl rfl, by decide +kernel⟩
theorem cs_L_64 : GoodIn gtbl (wsV RL 64 RX11 yX11_flips (Cond.code yX11_flips cX11_flips 3 (some .int) :: gtbl)) ∧ yX11_flips.cls = RX11 ∧ yX11_flips.cls ≠ "java/lang/invoke/MethodHandle" ∧ yX11_flips.cls ≠ "java/lang/invoke/VarHandle" ∧ (parseMethodDescriptor yX11_flips.desc).map (fun d => d.parameters.length) = some 1 := ⟨goodV lm_1551 lm_1552 lm_1553 lm_307 lm_1554 rfl rfl, by decide +kernel⟩
theorem cs_L_67 : GoodIn gtbl (wsV RL 67 RX11 yX11_wave (Cond.code yX11_wave cX11_wave 6 (some .int) :: gtbl)) ∧ yX11_wave.cls = RX11 ∧ yX11_wave.cls ≠ "java/lang/invoke/MethodHandle" ∧ yX11_wave.cls ≠ "java/lang/invoke/VarHandle" ∧ (parseMethodDescriptor yX11_wave.desc).map (fun d => d.parameters.length) = some 1 := ⟨goodV lm_1555 lm_1556 lm_1557 lm_307 lm_1558 rfl rfl, by decide +kernel⟩
theorem cs_L_70 : GoodIn gtbl (wsV RL 70 RX11 yX11_calm (Cond.code yX11_calm cX11_calm 2 (some .int) :: gtbl)) ∧ yX11_calm.cls = RX11 ∧ yX11_calm.cls ≠ "java/lang/invoke/MethodHandle" ∧ yX11_calm.cls ≠ "java/lang/invoke/VarHandle" ∧ (parseMethodDescriptor yX11_calm.desc).map (fun d => d.parameters.length) = some 1 := ⟨goodV lm_1559 lm_1560 lm_1561 lm_307 lm_1562 rfl rfl, by decide +kernel⟩
theorem cs_L_73 : GoodIn gtbl (wsV RL 73 RX11 yX11_event (Cond.code yX11_event cX11_event 3 (some .int) :: gtbl)) ∧ yX11_event.cls = RX11 ∧ yX11_event.cls ≠ "java/lang/invoke/MethodHandle" ∧ yX11_event.cls ≠ "java/lang/invoke/VarHandle" ∧ (parseMethodDescriptor yX11_event.desc).map (fun d => d.parameters.length) = some 2 := ⟨goodV lm_1563 lm_1564 lm_1565 lm_307 lm_1566 rfl rfl, by decide +kernel⟩
theorem cs_L_76 : GoodIn gtbl (wsV RL 76 RX11 yX11_goats (Cond.code yX11_goats cX11_goats 3 (some .int) :: gtbl)) ∧ yX11_goats.cls = RX11 ∧ yX11_goats.cls ≠ "java/lang/invoke/MethodHandle" ∧ yX11_goats.cls ≠ "java/lang/invoke/VarHandle" ∧ (parseMethodDescriptor yX11_goats.desc).map (fun d => d.parameters.length) = some 2 := ⟨goodV lm_1567 lm_1568 lm_1569 lm_307 lm_1570 rfl rfl, by decide +kernel⟩
theorem cs_L_80 : GoodIn gtbl (wsV RL 80 RX11 yX11_bestRow (Cond.code yX11_bestRow cX11_bestRow 4 (some .int) :: gtbl)) ∧ yX11_bestRow.cls = RX11 ∧ yX11_bestRow.cls ≠ "java/lang/invoke/MethodHandle" ∧ yX11_bestRow.cls ≠ "java/lang/invoke/VarHandle" ∧ (parseMethodDescriptor yX11_bestRow.desc).map (fun d => d.parameters.length) = some 3 := ⟨goodV lm_1571 lm_1572 lm_1573 lm_307 lm_1574 rfl rfl, by decide +kernel⟩
theorem cs_L_84 : GoodIn gtbl (wsV RL 84 RX11 yX11_seats (Cond.code yX11_seats cX11_seats 5 (some .int) :: gtbl)) ∧ yX11_seats.cls = RX11 ∧ yX11_seats.cls ≠ "java/lang/invoke/MethodHandle" ∧ yX11_seats.cls ≠ "java/lang/invoke/VarHandle" ∧ (parseMethodDescriptor yX11_seats.desc).map (fun d => d.parameters.length) = some 3 := ⟨goodV lm_1575 lm_1576 lm_1577 lm_307 lm_1578 rfl rfl, by decide +kernel⟩
theorem cs_L_88 : GoodIn gtbl (wsV RL 88 RX11 yX11_pleasure (Cond.code yX11_pleasure cX11_pleasure 4 (some .int) :: gtbl)) ∧ yX11_pleasure.cls = RX11 ∧ yX11_pleasure.cls ≠ "java/lang/invoke/MethodHandle" ∧ yX11_pleasure.cls ≠ "java/lang/invoke/VarHandle" ∧ (parseMethodDescriptor yX11_pleasure.desc).map (fun d => d.parameters.length) = some 2 := ⟨goodV lm_1579 lm_1580 lm_1581 lm_307 lm_1582 rfl rfl, by decide +kernel⟩
theorem cs_L_91 : GoodIn gtbl (wsV RL 91 RX11 yX11_seen (Cond.code yX11_seen cX11_seen 2 (some .int) :: gtbl)) ∧ yX11_seen.cls = RX11 ∧ yX11_seen.cls ≠ "java/lang/invoke/MethodHandle" ∧ yX11_seen.cls ≠ "java/lang/invoke/VarHandle" ∧ (parseMethodDescriptor yX11_seen.desc).map (fun d => d.parameters.length) = some 1 := ⟨goodV lm_1583 lm_1584 lm_1585 lm_307 lm_1586 rfl rfl, by decide +kernel⟩
theorem cs_L_94 : GoodIn gtbl (wsV RL 94 RX11 yX11_sure (Cond.code yX11_sure cX11_sure 4 (some .int) :: gtbl)) ∧ yX11_sure.cls = RX11 ∧ yX11_sure.cls ≠ "java/lang/invoke/MethodHandle" ∧ yX11_sure.cls ≠ "java/lang/invoke/VarHandle" ∧ (parseMethodDescriptor yX11_sure.desc).map (fun d => d.parameters.length) = some 2 := ⟨goodV lm_1587 lm_1588 lm_1589 lm_307 lm_1590 rfl rfl, by decide +kernel⟩
theorem cs_L_97 : GoodIn gtbl (wsV RL 97 RX11 yX11_tray (Cond.code yX11_tray cX11_tray 4 none :: gtbl)) ∧ yX11_tray.cls = RX11 ∧ yX11_tray.cls ≠ "java/lang/invoke/MethodHandle" ∧ yX11_tray.cls ≠ "java/lang/invoke/VarHandle" ∧ (parseMethodDescriptor yX11_tray.desc).map (fun d => d.parameters.length) = some 3 := ⟨goodV lm_1591 lm_1592 lm_1593 lm_307 lm_1594 rfl rfl, by decide +kernel⟩
theorem cs_L_101 : GoodIn gtbl (wsV RL 101 RX11 yX11_write (Cond.code yX11_write cX11_write 6 (some .long) :: gtbl)) ∧ yX11_write.cls = RX11 ∧ yX11_write.cls ≠ "java/lang/invoke/MethodHandle" ∧ yX11_write.cls ≠ "java/lang/invoke/VarHandle" ∧ (parseMethodDescriptor yX11_write.desc).map (fun d => d.parameters.length) = some 3 := ⟨goodV lm_1595 lm_1596 lm_1597 lm_307 lm_1598 rfl rfl, by decide +kernel⟩
theorem cs_L_107 : GoodIn gtbl (wsV RL 107 RX11 yX11_pour (Cond.code yX11_pour cX11_pour 5 (some .int) :: gtbl)) ∧ yX11_pour.cls = RX11 ∧ yX11_pour.cls ≠ "java/lang/invoke/MethodHandle" ∧ yX11_pour.cls ≠ "java/lang/invoke/VarHandle" ∧ (parseMethodDescriptor yX11_pour.desc).map (fun d => d.parameters.length) = some 1 := ⟨goodV lm_1599 lm_1600 lm_1601 lm_307 lm_1602 rfl rfl, by decide +kernel⟩
theorem cs_L_110 : GoodIn gtbl (wsV RL 110 RX11 yX11_image (Cond.code yX11_image cX11_image 2 none :: gtbl)) ∧ yX11_image.cls = RX11 ∧ yX11_image.cls ≠ "java/lang/invoke/MethodHandle" ∧ yX11_image.cls ≠ "java/lang/invoke/VarHandle" ∧ (parseMethodDescriptor yX11_image.desc).map (fun d => d.parameters.length) = some 1 := ⟨goodV lm_1603 lm_1604 lm_1605 lm_307 lm_1606 rfl rfl, by decide +kernel⟩
theorem cs_L_114 : GoodIn gtbl (wsV RL 114 RX11 yX11_restore (Cond.code yX11_restore cX11_restore 2 none :: gtbl)) ∧ yX11_restore.cls = RX11 ∧ yX11_restore.cls ≠ "java/lang/invoke/MethodHandle" ∧ yX11_restore.cls ≠ "java/lang/invoke/VarHandle" ∧ (parseMethodDescriptor yX11_restore.desc).map (fun d => d.parameters.length) = some 1 := ⟨goodV lm_1607 lm_1608 lm_1609 lm_307 lm_1610 rfl rfl, by decide +kernel⟩
theorem cs_L_121 : GoodIn gtbl (wsV RL 121 RX11 yX11_feed (Cond.code yX11_feed cX11_feed 6 (some .int) :: gtbl)) ∧ yX11_feed.cls = RX11 ∧ yX11_feed.cls ≠ "java/lang/invoke/MethodHandle" ∧ yX11_feed.cls ≠ "java/lang/invoke/VarHandle" ∧ (parseMethodDescriptor yX11_feed.desc).map (fun d => d.parameters.length) = some 5 := ⟨goodV lm_1611 lm_1612 lm_1613 lm_307 lm_1614 rfl rfl, by decide +kernel⟩
theorem cs_L_125 : GoodIn gtbl (wsV RL 125 RX12 yX12_feed (Cond.code yX12_feed cX12_feed 8 (some .int) :: gtbl)) ∧ yX12_feed.cls = RX12 ∧ yX12_feed.cls ≠ "java/lang/invoke/MethodHandle" ∧ yX12_feed.cls ≠ "java/lang/invoke/VarHandle" ∧ (parseMethodDescriptor yX12_feed.desc).map (fun d => d.parameters.length) = some 5 := ⟨goodV lm_1615 lm_1616 lm_1617 lm_14 lm_1618 rfl rfl, by decide +kernel⟩
theorem cs_L_126 : GoodIn gtbl (va_wsS RL 126 yL_town (Cond.codeWith yL_town cL_town 4 (some .int) [(0, 9, 12, 13)] :: gtbl)) ∧ yL_town.cls ≠ "java/lang/invoke/MethodHandle" ∧ yL_town.cls ≠ "java/lang/invoke/VarHandle" ∧ (parseMethodDescriptor yL_town.desc).map (fun d => d.parameters.length) = some 3 := ⟨goodSW lm_1619 lm_1620 lm_1621 lm_1622 rfl rfl, by decide +kernel⟩
theorem cs_L_131 : GoodIn gtbl (wsV RL 131 RX12 yX12_town (Cond.code yX12_town cX12_town 3 (some .int) :: gtbl)) ∧ yX12_town.cls = RX12 ∧ yX12_town.cls ≠ "java/lang/invoke/MethodHandle" ∧ yX12_town.cls ≠ "java/lang/invoke/VarHandle" ∧ (parseMethodDescriptor yX12_town.desc).map (fun d => d.parameters.length) = some 1 := ⟨goodV lm_1623 lm_1624 lm_1625 lm_14 lm_1626 rfl rfl, by decide +kernel⟩
theorem cs_L_132 : GoodIn gtbl (wsV RL 132 RX11 yX11_fault (Cond.code yX11_fault cX11_fault 2 (some .int) :: gtbl)) ∧ yX11_fault.cls = RX11 ∧ yX11_fault.cls ≠ "java/lang/invoke/MethodHandle" ∧ yX11_fault.cls ≠ "java/lang/invoke/VarHandle" ∧ (parseMethodDescriptor yX11_fault.desc).map (fun d => d.parameters.length) = some 1 := ⟨goodV lm_1627 lm_1628 lm_1629 lm_307 lm_1630 rfl rfl, by decide +kernel⟩
theorem cs_L_135 : GoodIn gtbl (wsV RL 135 RX12 yX12_fault (Cond.code yX12_fault cX12_fault 2 (some .int) :: gtbl)) ∧ yX12_fault.cls = RX12 ∧ yX12_fault.cls ≠ "java/lang/invoke/MethodHandle" ∧ yX12_fault.cls ≠ "java/lang/invoke/VarHandle" ∧ (parseMethodDescriptor yX12_fault.desc).map (fun d => d.parameters.length) = some 1 := ⟨goodV lm_1631 lm_1632 lm_1633 lm_14 lm_1634 rfl rfl, by decide +kernel⟩
theorem cs_L_136 : GoodIn gtbl (va_wsS RL 136 yL_thing (Cond.codeWith yL_thing cL_thing 5 (some .int) [(0, 10, 13, 19), (0, 10, 17, 13)] :: gtbl)) ∧ yL_thing.cls ≠ "java/lang/invoke/MethodHandle" ∧ yL_thing.cls ≠ "java/lang/invoke/VarHandle" ∧ (parseMethodDescriptor yL_thing.desc).map (fun d => d.parameters.length) = some 4 := ⟨goodSW lm_1635 lm_1636 lm_1621 lm_1637 rfl rfl, by decide +kernel⟩
theorem cs_L_139 : GoodIn gtbl (wsV RL 139 RX12 yX12_thing (Cond.code yX12_thing cX12_thing 3 (some .int) :: gtbl)) ∧ yX12_thing.cls = RX12 ∧ yX12_thing.cls ≠ "java/lang/invoke/MethodHandle" ∧ yX12_thing.cls ≠ "java/lang/invoke/VarHandle" ∧ (parseMethodDescriptor yX12_thing.desc).map (fun d => d.parameters.length) = some 2 := ⟨goodV lm_1638 lm_1639 lm_1640 lm_14 lm_1641 rfl rfl, by decide +kernel⟩
theorem cs_L_140 : GoodIn gtbl (va_wsS RL 140 yL_place (Cond.codeWith yL_place cL_place 5 (some .int) [(0, 10, 13, 19), (0, 10, 17, 13)] :: gtbl)) ∧ yL_place.cls ≠ "java/lang/invoke/MethodHandle" ∧ yL_place.cls ≠ "java/lang/invoke/VarHandle" ∧ (parseMethodDescriptor yL_place.desc).map (fun d => d.parameters.length) = some 4 := ⟨goodSW lm_1642 lm_1643 lm_1621 lm_1644 rfl rfl, by decide +kernel⟩
theorem cs_L_142 : GoodIn gtbl (wsV RL 142 RX12 yX12_place (Cond.code yX12_place cX12_place 5 (some .int) :: gtbl)) ∧ yX12_place.cls = RX12 ∧ yX12_place.cls ≠ "java/lang/invoke/MethodHandle" ∧ yX12_place.cls ≠ "java/lang/invoke/VarHandle" ∧ (parseMethodDescriptor yX12_place.desc).map (fun d => d.parameters.length) = some 2 := ⟨goodV lm_1645 lm_1646 lm_1647 lm_14 lm_1648 rfl rfl, by decide +kernel⟩
theorem cs_L_143 : GoodIn gtbl (va_wsS RL 143 yL_steps (Cond.codeWith yL_steps cL_steps 5 (some .int) [(0, 10, 13, 19)] :: gtbl)) ∧ yL_steps.cls ≠ "java/lang/invoke/MethodHandle" ∧ yL_steps.cls ≠ "java/lang/invoke/VarHandle" ∧ (parseMethodDescriptor yL_steps.desc).map (fun d => d.parameters.length) = some 4 := ⟨goodSW lm_1649 lm_1650 lm_1621 lm_1651 rfl rfl, by decide +kernel⟩
theorem cs_L_145 : GoodIn gtbl (wsV RL 145 RX12 yX12_steps (Cond.code yX12_steps cX12_steps 3 (some .int) :: gtbl)) ∧ yX12_steps.cls = RX12 ∧ yX12_steps.cls ≠ "java/lang/invoke/MethodHandle" ∧ yX12_steps.cls ≠ "java/lang/invoke/VarHandle" ∧ (parseMethodDescriptor yX12_steps.desc).map (fun d => d.parameters.length) = some 2 := ⟨goodV lm_1652 lm_1653 lm_1654 lm_14 lm_1655 rfl rfl, by decide +kernel⟩
theorem cs_L_146 : GoodIn gtbl (va_wsS RL 146 yL_clash (Cond.codeWith yL_clash cL_clash 6 (some .int) [(0, 19, 22, 19), (0, 19, 26, 13)] :: gtbl)) ∧ yL_clash.cls ≠ "java/lang/invoke/MethodHandle" ∧ yL_clash.cls ≠ "java/lang/invoke/VarHandle" ∧ (parseMethodDescriptor yL_clash.desc).map (fun d => d.parameters.length) = some 5 := ⟨goodSW lm_1656 lm_1657 lm_1621 lm_1658 rfl rfl, by decide +kernel⟩
theorem cs_L_149 : GoodIn gtbl (wsV RL 149 RX12 yX12_clash (Cond.code yX12_clash cX12_clash 4 (some .boolean) :: gtbl)) ∧ yX12_clash.cls = RX12 ∧ yX12_clash.cls ≠ "java/lang/invoke/MethodHandle" ∧ yX12_clash.cls ≠ "java/lang/invoke/VarHandle" ∧ (parseMethodDescriptor yX12_clash.desc).map (fun d => d.parameters.length) = some 3 := ⟨goodV lm_1659 lm_1660 lm_1661 lm_14 lm_1662 rfl rfl, by decide +kernel⟩
theorem cs_L_150 : GoodIn gtbl (wsV RL 150 RX11 yX11_clashes (Cond.code yX11_clashes cX11_clashes 1 (some .int) :: gtbl)) ∧ yX11_clashes.cls = RX11 ∧ yX11_clashes.cls ≠ "java/lang/invoke/MethodHandle" ∧ yX11_clashes.cls ≠ "java/lang/invoke/VarHandle" ∧ (parseMethodDescriptor yX11_clashes.desc).map (fun d => d.parameters.length) = some 0 := ⟨goodV lm_1663 lm_1664 lm_1665 lm_307 lm_1666 rfl rfl, by decide +kernel⟩
theorem cs_L_153 : GoodIn gtbl (wsV RL 153 RX12 yX12_clashes (Cond.code yX12_clashes cX12_clashes 1 (some .int) :: gtbl)) ∧ yX12_clashes.cls = RX12 ∧ yX12_clashes.cls ≠ "java/lang/invoke/MethodHandle" ∧ yX12_clashes.cls ≠ "java/lang/invoke/VarHandle" ∧ (parseMethodDescriptor yX12_clashes.desc).map (fun d => d.parameters.length) = some 0 := ⟨goodV lm_1667 lm_1668 lm_1669 lm_14 lm_1670 rfl rfl, by decide +kernel⟩
theorem cs_L_154 : GoodIn gtbl (wsV RL 154 RX11 yX11_firstClash (Cond.code yX11_firstClash cX11_firstClash 1 (some .int) :: gtbl)) ∧ yX11_firstClash.cls = RX11 ∧ yX11_firstClash.cls ≠ "java/lang/invoke/MethodHandle" ∧ yX11_firstClash.cls ≠ "java/lang/invoke/VarHandle" ∧ (parseMethodDescriptor yX11_firstClash.desc).map (fun d => d.parameters.length) = some 0 := ⟨goodV lm_1671 lm_1672 lm_1673 lm_307 lm_1674 rfl rfl, by decide +kernel⟩
theorem cs_L_157 : GoodIn gtbl (wsV RL 157 RX12 yX12_firstClash (Cond.code yX12_firstClash cX12_firstClash 1 (some .int) :: gtbl)) ∧ yX12_firstClash.cls = RX12 ∧ yX12_firstClash.cls ≠ "java/lang/invoke/MethodHandle" ∧ yX12_firstClash.cls ≠ "java/lang/invoke/VarHandle" ∧ (parseMethodDescriptor yX12_firstClash.desc).map (fun d => d.parameters.length) = some 0 := ⟨goodV lm_1675 lm_1676 lm_1677 lm_14 lm_1678 rfl rfl, by decide +kernel⟩
theorem cs_L_158 : GoodIn gtbl (va_wsS RL 158 yL_change (Cond.codeWith yL_change cL_change 5 (some .int) [(0, 10, 13, 19), (0, 10, 17, 13)] :: gtbl)) ∧ yL_change.cls ≠ "java/lang/invoke/MethodHandle" ∧ yL_change.cls ≠ "java/lang/invoke/VarHandle" ∧ (parseMethodDescriptor yL_change.desc).map (fun d => d.parameters.length) = some 4 := ⟨goodSW lm_1679 lm_1680 lm_1621 lm_1681 rfl rfl, by decide +kernel⟩
theorem cs_L_160 : GoodIn gtbl (wsV RL 160 RX12 yX12_change (Cond.code yX12_change cX12_change 3 (some .int) :: gtbl)) ∧ yX12_change.cls = RX12 ∧ yX12_change.cls ≠ "java/lang/invoke/MethodHandle" ∧ yX12_change.cls ≠ "java/lang/invoke/VarHandle" ∧ (parseMethodDescriptor yX12_change.desc).map (fun d => d.parameters.length) = some 2 := ⟨goodV lm_1682 lm_1683 lm_1684 lm_14 lm_1685 rfl rfl, by decide +kernel⟩
theorem cs_L_161 : GoodIn gtbl (wsV RL 161 RX11 yX11_why (Cond.code yX11_why cX11_why 3 (some .int) :: gtbl)) ∧ yX11_why.cls = RX11 ∧ yX11_why.cls ≠ "java/lang/invoke/MethodHandle" ∧ yX11_why.cls ≠ "java/lang/invoke/VarHandle" ∧ (parseMethodDescriptor yX11_why.desc).map (fun d => d.parameters.length) = some 2 := ⟨goodV lm_1686 lm_1687 lm_1688 lm_307 lm_1689 rfl rfl, by decide +kernel⟩
theorem cs_L_164 : GoodIn gtbl (wsV RL 164 RX12 yX12_why (Cond.code yX12_why cX12_why 3 (some .int) :: gtbl)) ∧ yX12_why.cls = RX12 ∧ yX12_why.cls ≠ "java/lang/invoke/MethodHandle" ∧ yX12_why.cls ≠ "java/lang/invoke/VarHandle" ∧ (parseMethodDescriptor yX12_why.desc).map (fun d => d.parameters.length) = some 2 := ⟨goodV lm_1690 lm_1691 lm_1692 lm_14 lm_1693 rfl rfl, by decide +kernel⟩
theorem cs_L_165 : GoodIn gtbl (wsV RL 165 RX11 yX11_move (Cond.code yX11_move cX11_move 4 (some .int) :: gtbl)) ∧ yX11_move.cls = RX11 ∧ yX11_move.cls ≠ "java/lang/invoke/MethodHandle" ∧ yX11_move.cls ≠ "java/lang/invoke/VarHandle" ∧ (parseMethodDescriptor yX11_move.desc).map (fun d => d.parameters.length) = some 2 := ⟨goodV lm_1694 lm_1695 lm_1696 lm_307 lm_1697 rfl rfl, by decide +kernel⟩
theorem cs_L_168 : GoodIn gtbl (wsV RL 168 RX12 yX12_move (Cond.code yX12_move cX12_move 4 (some .int) :: gtbl)) ∧ yX12_move.cls = RX12 ∧ yX12_move.cls ≠ "java/lang/invoke/MethodHandle" ∧ yX12_move.cls ≠ "java/lang/invoke/VarHandle" ∧ (parseMethodDescriptor yX12_move.desc).map (fun d => d.parameters.length) = some 2 := ⟨goodV lm_1698 lm_1699 lm_1700 lm_14 lm_1701 rfl rfl, by decide +kernel⟩
theorem cs_L_169 : GoodIn gtbl (va_wsS RL 169 yL_days (Cond.codeWith yL_days cL_days 4 (some .int) [(0, 9, 12, 13)] :: gtbl)) ∧ yL_days.cls ≠ "java/lang/invoke/MethodHandle" ∧ yL_days.cls ≠ "java/lang/invoke/VarHandle" ∧ (parseMethodDescriptor yL_days.desc).map (fun d => d.parameters.length) = some 3 := ⟨goodSW lm_1702 lm_1703 lm_1621 lm_1704 rfl rfl, by decide +kernel⟩
theorem cs_L_171 : GoodIn gtbl (wsV RL 171 RX12 yX12_days (Cond.code yX12_days cX12_days 4 (some .int) :: gtbl)) ∧ yX12_days.cls = RX12 ∧ yX12_days.cls ≠ "java/lang/invoke/MethodHandle" ∧ yX12_days.cls ≠ "java/lang/invoke/VarHandle" ∧ (parseMethodDescriptor yX12_days.desc).map (fun d => d.parameters.length) = some 1 := ⟨goodV lm_1705 lm_1706 lm_1707 lm_14 lm_1708 rfl rfl, by decide +kernel⟩
theorem cs_L_172 : GoodIn gtbl (va_wsS RL 172 yL_undo (Cond.codeWith yL_undo cL_undo 4 (some .int) [(0, 9, 12, 13)] :: gtbl)) ∧ yL_undo.cls ≠ "java/lang/invoke/MethodHandle" ∧ yL_undo.cls ≠ "java/lang/invoke/VarHandle" ∧ (parseMethodDescriptor yL_undo.desc).map (fun d => d.parameters.length) = some 3 := ⟨goodSW lm_1709 lm_1710 lm_1621 lm_1711 rfl rfl, by decide +kernel⟩
theorem cs_L_174 : GoodIn gtbl (wsV RL 174 RX12 yX12_undo (Cond.code yX12_undo cX12_undo 3 (some .int) :: gtbl)) ∧ yX12_undo.cls = RX12 ∧ yX12_undo.cls ≠ "java/lang/invoke/MethodHandle" ∧ yX12_undo.cls ≠ "java/lang/invoke/VarHandle" ∧ (parseMethodDescriptor yX12_undo.desc).map (fun d => d.parameters.length) = some 1 := ⟨goodV lm_1712 lm_1713 lm_1714 lm_14 lm_1715 rfl rfl, by decide +kernel⟩
theorem cs_L_175 : GoodIn gtbl (va_wsS RL 175 yL_judge (Cond.codeWith yL_judge cL_judge 5 (some .int) [(0, 10, 13, 19), (0, 10, 17, 43), (0, 10, 21, 13)] :: gtbl)) ∧ yL_judge.cls ≠ "java/lang/invoke/MethodHandle" ∧ yL_judge.cls ≠ "java/lang/invoke/VarHandle" ∧ (parseMethodDescriptor yL_judge.desc).map (fun d => d.parameters.length) = some 4 := ⟨goodSW lm_1716 lm_1717 lm_1621 lm_1718 rfl rfl, by decide +kernel⟩
theorem cs_L_177 : GoodIn gtbl (wsV RL 177 RX12 yX12_judge (Cond.code yX12_judge cX12_judge 7 (some .int) :: gtbl)) ∧ yX12_judge.cls = RX12 ∧ yX12_judge.cls ≠ "java/lang/invoke/MethodHandle" ∧ yX12_judge.cls ≠ "java/lang/invoke/VarHandle" ∧ (parseMethodDescriptor yX12_judge.desc).map (fun d => d.parameters.length) = some 2 := ⟨goodV lm_1719 lm_1720 lm_1721 lm_14 lm_1722 rfl rfl, by decide +kernel⟩
theorem cs_L_178 : GoodIn gtbl (va_wsS RL 178 yL_perform (Cond.codeWith yL_perform cL_perform 4 (some .int) [(0, 9, 12, 19), (0, 9, 15, 43)] :: gtbl)) ∧ yL_perform.cls ≠ "java/lang/invoke/MethodHandle" ∧ yL_perform.cls ≠ "java/lang/invoke/VarHandle" ∧ (parseMethodDescriptor yL_perform.desc).map (fun d => d.parameters.length) = some 3 := ⟨goodSW lm_1723 lm_1724 lm_1621 lm_1725 rfl rfl, by decide +kernel⟩
theorem cs_L_180 : GoodIn gtbl (wsV RL 180 RX12 yX12_perform (Cond.code yX12_perform cX12_perform 3 (some .int) :: gtbl)) ∧ yX12_perform.cls = RX12 ∧ yX12_perform.cls ≠ "java/lang/invoke/MethodHandle" ∧ yX12_perform.cls ≠ "java/lang/invoke/VarHandle" ∧ (parseMethodDescriptor yX12_perform.desc).map (fun d => d.parameters.length) = some 1 := ⟨goodV lm_1726 lm_1727 lm_1728 lm_14 lm_1729 rfl rfl, by decide +kernel⟩
theorem cs_L_181 : GoodIn gtbl (va_wsS RL 181 yL_season (Cond.codeWith yL_season cL_season 5 (some .int) [(0, 10, 13, 13), (0, 10, 17, 43)] :: gtbl)) ∧ yL_season.cls ≠ "java/lang/invoke/MethodHandle" ∧ yL_season.cls ≠ "java/lang/invoke/VarHandle" ∧ (parseMethodDescriptor yL_season.desc).map (fun d => d.parameters.length) = some 4 := ⟨goodSW lm_1730 lm_1731 lm_1621 lm_1732 rfl rfl, by decide +kernel⟩
theorem cs_L_183 : GoodIn gtbl (wsV RL 183 RX12 yX12_season (Cond.code yX12_season cX12_season 8 (some .int) :: gtbl)) ∧ yX12_season.cls = RX12 ∧ yX12_season.cls ≠ "java/lang/invoke/MethodHandle" ∧ yX12_season.cls ≠ "java/lang/invoke/VarHandle" ∧ (parseMethodDescriptor yX12_season.desc).map (fun d => d.parameters.length) = some 2 := ⟨goodV lm_1733 lm_1734 lm_1735 lm_14 lm_1736 rfl rfl, by decide +kernel⟩
theorem cs_L_184 : GoodIn gtbl (va_wsS RL 184 yL_oddRing (Cond.codeWith yL_oddRing cL_oddRing 4 (some .int) [(0, 9, 12, 13)] :: gtbl)) ∧ yL_oddRing.cls ≠ "java/lang/invoke/MethodHandle" ∧ yL_oddRing.cls ≠ "java/lang/invoke/VarHandle" ∧ (parseMethodDescriptor yL_oddRing.desc).map (fun d => d.parameters.length) = some 3 := ⟨goodSW lm_1737 lm_1738 lm_1621 lm_1739 rfl rfl, by decide +kernel⟩
theorem cs_L_186 : GoodIn gtbl (wsV RL 186 RX12 yX12_oddRing (Cond.code yX12_oddRing cX12_oddRing 3 (some .int) :: gtbl)) ∧ yX12_oddRing.cls = RX12 ∧ yX12_oddRing.cls ≠ "java/lang/invoke/MethodHandle" ∧ yX12_oddRing.cls ≠ "java/lang/invoke/VarHandle" ∧ (parseMethodDescriptor yX12_oddRing.desc).map (fun d => d.parameters.length) = some 1 := ⟨goodV lm_1740 lm_1741 lm_1742 lm_14 lm_1743 rfl rfl, by decide +kernel⟩
theorem cs_L_187 : GoodIn gtbl (wsV RL 187 RX12 yX12_thrown (Cond.code yX12_thrown cX12_thrown 1 (some .int) :: gtbl)) ∧ yX12_thrown.cls = RX12 ∧ yX12_thrown.cls ≠ "java/lang/invoke/MethodHandle" ∧ yX12_thrown.cls ≠ "java/lang/invoke/VarHandle" ∧ (parseMethodDescriptor yX12_thrown.desc).map (fun d => d.parameters.length) = some 0 := ⟨goodV lm_1744 lm_1745 lm_1746 lm_14 lm_1747 rfl rfl, by decide +kernel⟩
theorem cs_L_190 : GoodIn gtbl (wsV RL 190 RX11 yX11_sides (Cond.code yX11_sides cX11_sides 1 (some .int) :: gtbl)) ∧ yX11_sides.cls = RX11 ∧ yX11_sides.cls ≠ "java/lang/invoke/MethodHandle" ∧ yX11_sides.cls ≠ "java/lang/invoke/VarHandle" ∧ (parseMethodDescriptor yX11_sides.desc).map (fun d => d.parameters.length) = some 0 := ⟨goodV lm_1748 lm_1749 lm_1750 lm_307 lm_1751 rfl rfl, by decide +kernel⟩
theorem cs_L_193 : GoodIn gtbl (wsV RL 193 RX12 yX12_sides (Cond.code yX12_sides cX12_sides 7 (some .int) :: gtbl)) ∧ yX12_sides.cls = RX12 ∧ yX12_sides.cls ≠ "java/lang/invoke/MethodHandle" ∧ yX12_sides.cls ≠ "java/lang/invoke/VarHandle" ∧ (parseMethodDescriptor yX12_sides.desc).map (fun d => d.parameters.length) = some 0 := ⟨goodV lm_1752 lm_1753 lm_1754 lm_14 lm_1755 rfl rfl, by decide +kernel⟩
theorem cs_L_194 : GoodIn gtbl (wsV RL 194 RX11 yX11_placings (Cond.code yX11_placings cX11_placings 1 (some .int) :: gtbl)) ∧ yX11_placings.cls = RX11 ∧ yX11_placings.cls ≠ "java/lang/invoke/MethodHandle" ∧ yX11_placings.cls ≠ "java/lang/invoke/VarHandle" ∧ (parseMethodDescriptor yX11_placings.desc).map (fun d => d.parameters.length) = some 0 := ⟨goodV lm_1756 lm_1757 lm_1758 lm_307 lm_1759 rfl rfl, by decide +kernel⟩
theorem cs_L_197 : GoodIn gtbl (wsV RL 197 RX12 yX12_placings (Cond.code yX12_placings cX12_placings 1 (some .int) :: gtbl)) ∧ yX12_placings.cls = RX12 ∧ yX12_placings.cls ≠ "java/lang/invoke/MethodHandle" ∧ yX12_placings.cls ≠ "java/lang/invoke/VarHandle" ∧ (parseMethodDescriptor yX12_placings.desc).map (fun d => d.parameters.length) = some 0 := ⟨goodV lm_1760 lm_1761 lm_1762 lm_14 lm_1763 rfl rfl, by decide +kernel⟩
theorem cs_L_198 : GoodIn gtbl (va_wsS RL 198 yL_placing (Cond.codeWith yL_placing cL_placing 5 (some .int) [(0, 10, 13, 19), (0, 10, 17, 13)] :: gtbl)) ∧ yL_placing.cls ≠ "java/lang/invoke/MethodHandle" ∧ yL_placing.cls ≠ "java/lang/invoke/VarHandle" ∧ (parseMethodDescriptor yL_placing.desc).map (fun d => d.parameters.length) = some 4 := ⟨goodSW lm_1764 lm_1765 lm_1621 lm_1766 rfl rfl, by decide +kernel⟩
theorem cs_L_200 : GoodIn gtbl (wsV RL 200 RX12 yX12_placing (Cond.code yX12_placing cX12_placing 3 (some .int) :: gtbl)) ∧ yX12_placing.cls = RX12 ∧ yX12_placing.cls ≠ "java/lang/invoke/MethodHandle" ∧ yX12_placing.cls ≠ "java/lang/invoke/VarHandle" ∧ (parseMethodDescriptor yX12_placing.desc).map (fun d => d.parameters.length) = some 2 := ⟨goodV lm_1767 lm_1768 lm_1769 lm_14 lm_1770 rfl rfl, by decide +kernel⟩
theorem cs_L_201 : GoodIn gtbl (va_wsS RL 201 yL_mending (Cond.codeWith yL_mending cL_mending 4 (some .int) [(0, 9, 12, 13)] :: gtbl)) ∧ yL_mending.cls ≠ "java/lang/invoke/MethodHandle" ∧ yL_mending.cls ≠ "java/lang/invoke/VarHandle" ∧ (parseMethodDescriptor yL_mending.desc).map (fun d => d.parameters.length) = some 3 := ⟨goodSW lm_1771 lm_1772 lm_1621 lm_1773 rfl rfl, by decide +kernel⟩
theorem cs_L_203 : GoodIn gtbl (wsV RL 203 RX12 yX12_mending (Cond.code yX12_mending cX12_mending 2 (some .int) :: gtbl)) ∧ yX12_mending.cls = RX12 ∧ yX12_mending.cls ≠ "java/lang/invoke/MethodHandle" ∧ yX12_mending.cls ≠ "java/lang/invoke/VarHandle" ∧ (parseMethodDescriptor yX12_mending.desc).map (fun d => d.parameters.length) = some 1 := ⟨goodV lm_1774 lm_1775 lm_1776 lm_14 lm_1777 rfl rfl, by decide +kernel⟩
theorem cs_L_204 : GoodIn gtbl (va_wsS RL 204 yL_mend (Cond.codeWith yL_mend cL_mend 3 (some .int) [(0, 8, 11, 43)] :: gtbl)) ∧ yL_mend.cls ≠ "java/lang/invoke/MethodHandle" ∧ yL_mend.cls ≠ "java/lang/invoke/VarHandle" ∧ (parseMethodDescriptor yL_mend.desc).map (fun d => d.parameters.length) = some 2 := ⟨goodSW lm_1778 lm_1779 lm_1621 lm_1780 rfl rfl, by decide +kernel⟩
theorem cs_L_207 : GoodIn gtbl (wsV RL 207 RX12 yX12_mend (Cond.code yX12_mend cX12_mend 2 (some .int) :: gtbl)) ∧ yX12_mend.cls = RX12 ∧ yX12_mend.cls ≠ "java/lang/invoke/MethodHandle" ∧ yX12_mend.cls ≠ "java/lang/invoke/VarHandle" ∧ (parseMethodDescriptor yX12_mend.desc).map (fun d => d.parameters.length) = some 0 := ⟨goodV lm_1781 lm_1782 lm_1783 lm_14 lm_1784 rfl rfl, by decide +kernel⟩
theorem cs_L_208 : GoodIn gtbl (va_wsS RL 208 yL_flips (Cond.codeWith yL_flips cL_flips 4 (some .int) [(0, 9, 12, 13)] :: gtbl)) ∧ yL_flips.cls ≠ "java/lang/invoke/MethodHandle" ∧ yL_flips.cls ≠ "java/lang/invoke/VarHandle" ∧ (parseMethodDescriptor yL_flips.desc).map (fun d => d.parameters.length) = some 3 := ⟨goodSW lm_1785 lm_1786 lm_1621 lm_1787 rfl rfl, by decide +kernel⟩
theorem cs_L_210 : GoodIn gtbl (wsV RL 210 RX12 yX12_flips (Cond.code yX12_flips cX12_flips 3 (some .int) :: gtbl)) ∧ yX12_flips.cls = RX12 ∧ yX12_flips.cls ≠ "java/lang/invoke/MethodHandle" ∧ yX12_flips.cls ≠ "java/lang/invoke/VarHandle" ∧ (parseMethodDescriptor yX12_flips.desc).map (fun d => d.parameters.length) = some 1 := ⟨goodV lm_1788 lm_1789 lm_1790 lm_14 lm_1791 rfl rfl, by decide +kernel⟩
theorem cs_L_211 : GoodIn gtbl (va_wsS RL 211 yL_wave (Cond.codeWith yL_wave cL_wave 4 (some .int) [(0, 9, 12, 13)] :: gtbl)) ∧ yL_wave.cls ≠ "java/lang/invoke/MethodHandle" ∧ yL_wave.cls ≠ "java/lang/invoke/VarHandle" ∧ (parseMethodDescriptor yL_wave.desc).map (fun d => d.parameters.length) = some 3 := ⟨goodSW lm_1792 lm_1793 lm_1621 lm_1794 rfl rfl, by decide +kernel⟩
theorem cs_L_213 : GoodIn gtbl (wsV RL 213 RX12 yX12_wave (Cond.code yX12_wave cX12_wave 4 (some .int) :: gtbl)) ∧ yX12_wave.cls = RX12 ∧ yX12_wave.cls ≠ "java/lang/invoke/MethodHandle" ∧ yX12_wave.cls ≠ "java/lang/invoke/VarHandle" ∧ (parseMethodDescriptor yX12_wave.desc).map (fun d => d.parameters.length) = some 1 := ⟨goodV lm_1795 lm_1796 lm_1797 lm_14 lm_1798 rfl rfl, by decide +kernel⟩
theorem cs_L_214 : GoodIn gtbl (wsV RL 214 RX11 yX11_goWave (Cond.code yX11_goWave cX11_goWave 1 (some .int) :: gtbl)) ∧ yX11_goWave.cls = RX11 ∧ yX11_goWave.cls ≠ "java/lang/invoke/MethodHandle" ∧ yX11_goWave.cls ≠ "java/lang/invoke/VarHandle" ∧ (parseMethodDescriptor yX11_goWave.desc).map (fun d => d.parameters.length) = some 0 := ⟨goodV lm_1799 lm_1800 lm_1801 lm_307 lm_1802 rfl rfl, by decide +kernel⟩
theorem cs_L_217 : GoodIn gtbl (wsV RL 217 RX12 yX12_goWave (Cond.code yX12_goWave cX12_goWave 1 (some .int) :: gtbl)) ∧ yX12_goWave.cls = RX12 ∧ yX12_goWave.cls ≠ "java/lang/invoke/MethodHandle" ∧ yX12_goWave.cls ≠ "java/lang/invoke/VarHandle" ∧ (parseMethodDescriptor yX12_goWave.desc).map (fun d => d.parameters.length) = some 0 := ⟨goodV lm_1803 lm_1804 lm_1805 lm_14 lm_1806 rfl rfl, by decide +kernel⟩
theorem cs_L_218 : GoodIn gtbl (va_wsS RL 218 yL_calm (Cond.codeWith yL_calm cL_calm 4 (some .int) [(0, 9, 12, 13)] :: gtbl)) ∧ yL_calm.cls ≠ "java/lang/invoke/MethodHandle" ∧ yL_calm.cls ≠ "java/lang/invoke/VarHandle" ∧ (parseMethodDescriptor yL_calm.desc).map (fun d => d.parameters.length) = some 3 := ⟨goodSW lm_1807 lm_1808 lm_1621 lm_1809 rfl rfl, by decide +kernel⟩
theorem cs_L_220 : GoodIn gtbl (wsV RL 220 RX12 yX12_calm (Cond.code yX12_calm cX12_calm 2 (some .int) :: gtbl)) ∧ yX12_calm.cls = RX12 ∧ yX12_calm.cls ≠ "java/lang/invoke/MethodHandle" ∧ yX12_calm.cls ≠ "java/lang/invoke/VarHandle" ∧ (parseMethodDescriptor yX12_calm.desc).map (fun d => d.parameters.length) = some 1 := ⟨goodV lm_1810 lm_1811 lm_1812 lm_14 lm_1813 rfl rfl, by decide +kernel⟩
theorem cs_L_221 : GoodIn gtbl (va_wsS RL 221 yL_event (Cond.codeWith yL_event cL_event 5 (some .int) [(0, 10, 13, 19), (0, 10, 17, 13)] :: gtbl)) ∧ yL_event.cls ≠ "java/lang/invoke/MethodHandle" ∧ yL_event.cls ≠ "java/lang/invoke/VarHandle" ∧ (parseMethodDescriptor yL_event.desc).map (fun d => d.parameters.length) = some 4 := ⟨goodSW lm_1814 lm_1815 lm_1621 lm_1816 rfl rfl, by decide +kernel⟩
theorem cs_L_223 : GoodIn gtbl (wsV RL 223 RX12 yX12_event (Cond.code yX12_event cX12_event 3 (some .int) :: gtbl)) ∧ yX12_event.cls = RX12 ∧ yX12_event.cls ≠ "java/lang/invoke/MethodHandle" ∧ yX12_event.cls ≠ "java/lang/invoke/VarHandle" ∧ (parseMethodDescriptor yX12_event.desc).map (fun d => d.parameters.length) = some 2 := ⟨goodV lm_1817 lm_1818 lm_1819 lm_14 lm_1820 rfl rfl, by decide +kernel⟩
theorem cs_L_224 : GoodIn gtbl (va_wsS RL 224 yL_goats (Cond.codeWith yL_goats cL_goats 5 (some .int) [(0, 10, 13, 19), (0, 10, 17, 43), (0, 10, 21, 13)] :: gtbl)) ∧ yL_goats.cls ≠ "java/lang/invoke/MethodHandle" ∧ yL_goats.cls ≠ "java/lang/invoke/VarHandle" ∧ (parseMethodDescriptor yL_goats.desc).map (fun d => d.parameters.length) = some 4 := ⟨goodSW lm_1821 lm_1822 lm_1621 lm_1823 rfl rfl, by decide +kernel⟩
theorem cs_L_227 : GoodIn gtbl (wsV RL 227 RX12 yX12_goats (Cond.code yX12_goats cX12_goats 6 (some .int) :: gtbl)) ∧ yX12_goats.cls = RX12 ∧ yX12_goats.cls ≠ "java/lang/invoke/MethodHandle" ∧ yX12_goats.cls ≠ "java/lang/invoke/VarHandle" ∧ (parseMethodDescriptor yX12_goats.desc).map (fun d => d.parameters.length) = some 2 := ⟨goodV lm_1824 lm_1825 lm_1826 lm_14 lm_1827 rfl rfl, by decide +kernel⟩
theorem cs_L_228 : GoodIn gtbl (va_wsS RL 228 yL_bestRow (Cond.codeWith yL_bestRow cL_bestRow 6 (some .int) [(0, 12, 15, 13)] :: gtbl)) ∧ yL_bestRow.cls ≠ "java/lang/invoke/MethodHandle" ∧ yL_bestRow.cls ≠ "java/lang/invoke/VarHandle" ∧ (parseMethodDescriptor yL_bestRow.desc).map (fun d => d.parameters.length) = some 5 := ⟨goodSW lm_1828 lm_1829 lm_1621 lm_1830 rfl rfl, by decide +kernel⟩
theorem cs_L_231 : GoodIn gtbl (wsV RL 231 RX12 yX12_bestRow (Cond.code yX12_bestRow cX12_bestRow 4 (some .int) :: gtbl)) ∧ yX12_bestRow.cls = RX12 ∧ yX12_bestRow.cls ≠ "java/lang/invoke/MethodHandle" ∧ yX12_bestRow.cls ≠ "java/lang/invoke/VarHandle" ∧ (parseMethodDescriptor yX12_bestRow.desc).map (fun d => d.parameters.length) = some 3 := ⟨goodV lm_1831 lm_1832 lm_1833 lm_14 lm_1834 rfl rfl, by decide +kernel⟩
theorem cs_L_232 : GoodIn gtbl (va_wsS RL 232 yL_seats (Cond.codeWith yL_seats cL_seats 6 (some .int) [(0, 12, 15, 19), (0, 12, 19, 43), (0, 12, 23, 13)] :: gtbl)) ∧ yL_seats.cls ≠ "java/lang/invoke/MethodHandle" ∧ yL_seats.cls ≠ "java/lang/invoke/VarHandle" ∧ (parseMethodDescriptor yL_seats.desc).map (fun d => d.parameters.length) = some 5 := ⟨goodSW lm_1835 lm_1836 lm_1621 lm_1837 rfl rfl, by decide +kernel⟩
theorem cs_L_235 : GoodIn gtbl (wsV RL 235 RX12 yX12_seats (Cond.code yX12_seats cX12_seats 9 (some .int) :: gtbl)) ∧ yX12_seats.cls = RX12 ∧ yX12_seats.cls ≠ "java/lang/invoke/MethodHandle" ∧ yX12_seats.cls ≠ "java/lang/invoke/VarHandle" ∧ (parseMethodDescriptor yX12_seats.desc).map (fun d => d.parameters.length) = some 3 := ⟨goodV lm_1838 lm_1839 lm_1840 lm_14 lm_1841 rfl rfl, by decide +kernel⟩
theorem cs_L_236 : GoodIn gtbl (va_wsS RL 236 yL_pleasure (Cond.codeWith yL_pleasure cL_pleasure 5 (some .int) [(0, 10, 13, 19), (0, 10, 17, 43)] :: gtbl)) ∧ yL_pleasure.cls ≠ "java/lang/invoke/MethodHandle" ∧ yL_pleasure.cls ≠ "java/lang/invoke/VarHandle" ∧ (parseMethodDescriptor yL_pleasure.desc).map (fun d => d.parameters.length) = some 4 := ⟨goodSW lm_1842 lm_1843 lm_1621 lm_1844 rfl rfl, by decide +kernel⟩
theorem cs_L_238 : GoodIn gtbl (wsV RL 238 RX12 yX12_pleasure (Cond.code yX12_pleasure cX12_pleasure 3 (some .int) :: gtbl)) ∧ yX12_pleasure.cls = RX12 ∧ yX12_pleasure.cls ≠ "java/lang/invoke/MethodHandle" ∧ yX12_pleasure.cls ≠ "java/lang/invoke/VarHandle" ∧ (parseMethodDescriptor yX12_pleasure.desc).map (fun d => d.parameters.length) = some 2 := ⟨goodV lm_1845 lm_1846 lm_1847 lm_14 lm_1848 rfl rfl, by decide +kernel⟩
theorem cs_L_239 : GoodIn gtbl (wsV RL 239 RX11 yX11_atRest (Cond.code yX11_atRest cX11_atRest 1 (some .boolean) :: gtbl)) ∧ yX11_atRest.cls = RX11 ∧ yX11_atRest.cls ≠ "java/lang/invoke/MethodHandle" ∧ yX11_atRest.cls ≠ "java/lang/invoke/VarHandle" ∧ (parseMethodDescriptor yX11_atRest.desc).map (fun d => d.parameters.length) = some 0 := ⟨goodV lm_1849 lm_1850 lm_1851 lm_307 lm_1852 rfl rfl, by decide +kernel⟩
theorem cs_L_243 : GoodIn gtbl (wsV RL 243 RX12 yX12_atRest (Cond.code yX12_atRest cX12_atRest 2 (some .boolean) :: gtbl)) ∧ yX12_atRest.cls = RX12 ∧ yX12_atRest.cls ≠ "java/lang/invoke/MethodHandle" ∧ yX12_atRest.cls ≠ "java/lang/invoke/VarHandle" ∧ (parseMethodDescriptor yX12_atRest.desc).map (fun d => d.parameters.length) = some 0 := ⟨goodV lm_1853 lm_1854 lm_1855 lm_14 lm_1856 rfl rfl, by decide +kernel⟩
theorem cs_L_244 : GoodIn gtbl (wsV RL 244 RX11 yX11_drift (Cond.code yX11_drift cX11_drift 1 (some .int) :: gtbl)) ∧ yX11_drift.cls = RX11 ∧ yX11_drift.cls ≠ "java/lang/invoke/MethodHandle" ∧ yX11_drift.cls ≠ "java/lang/invoke/VarHandle" ∧ (parseMethodDescriptor yX11_drift.desc).map (fun d => d.parameters.length) = some 0 := ⟨goodV lm_1857 lm_1858 lm_1859 lm_307 lm_1860 rfl rfl, by decide +kernel⟩
theorem cs_L_247 : GoodIn gtbl (wsV RL 247 RX12 yX12_drift (Cond.code yX12_drift cX12_drift 6 (some .int) :: gtbl)) ∧ yX12_drift.cls = RX12 ∧ yX12_drift.cls ≠ "java/lang/invoke/MethodHandle" ∧ yX12_drift.cls ≠ "java/lang/invoke/VarHandle" ∧ (parseMethodDescriptor yX12_drift.desc).map (fun d => d.parameters.length) = some 0 := ⟨goodV lm_1861 lm_1862 lm_1863 lm_14 lm_1864 rfl rfl, by decide +kernel⟩
theorem cs_L_248 : GoodIn gtbl (va_wsS RL 248 yL_seen (Cond.codeWith yL_seen cL_seen 4 (some .int) [(0, 9, 12, 19), (0, 9, 15, 43), (0, 9, 18, 13)] :: gtbl)) ∧ yL_seen.cls ≠ "java/lang/invoke/MethodHandle" ∧ yL_seen.cls ≠ "java/lang/invoke/VarHandle" ∧ (parseMethodDescriptor yL_seen.desc).map (fun d => d.parameters.length) = some 3 := ⟨goodSW lm_1865 lm_1866 lm_1621 lm_1867 rfl rfl, by decide +kernel⟩
theorem cs_L_250 : GoodIn gtbl (wsV RL 250 RX12 yX12_seen (Cond.code yX12_seen cX12_seen 2 (some .int) :: gtbl)) ∧ yX12_seen.cls = RX12 ∧ yX12_seen.cls ≠ "java/lang/invoke/MethodHandle" ∧ yX12_seen.cls ≠ "java/lang/invoke/VarHandle" ∧ (parseMethodDescriptor yX12_seen.desc).map (fun d => d.parameters.length) = some 1 := ⟨goodV lm_1868 lm_1869 lm_1870 lm_14 lm_1871 rfl rfl, by decide +kernel⟩
theorem cs_L_251 : GoodIn gtbl (va_wsS RL 251 yL_sure (Cond.codeWith yL_sure cL_sure 5 (some .int) [(0, 10, 13, 19), (0, 10, 17, 43), (0, 10, 21, 13)] :: gtbl)) ∧ yL_sure.cls ≠ "java/lang/invoke/MethodHandle" ∧ yL_sure.cls ≠ "java/lang/invoke/VarHandle" ∧ (parseMethodDescriptor yL_sure.desc).map (fun d => d.parameters.length) = some 4 := ⟨goodSW lm_1872 lm_1873 lm_1621 lm_1874 rfl rfl, by decide +kernel⟩
theorem cs_L_253 : GoodIn gtbl (wsV RL 253 RX12 yX12_sure (Cond.code yX12_sure cX12_sure 4 (some .int) :: gtbl)) ∧ yX12_sure.cls = RX12 ∧ yX12_sure.cls ≠ "java/lang/invoke/MethodHandle" ∧ yX12_sure.cls ≠ "java/lang/invoke/VarHandle" ∧ (parseMethodDescriptor yX12_sure.desc).map (fun d => d.parameters.length) = some 2 := ⟨goodV lm_1875 lm_1876 lm_1877 lm_14 lm_1878 rfl rfl, by decide +kernel⟩
theorem cs_L_254 : GoodIn gtbl (va_wsS RL 254 yL_tray (Cond.codeWith yL_tray cL_tray 5 (some .int) [(0, 7, 10, 19), (0, 7, 14, 13)] :: gtbl)) ∧ yL_tray.cls ≠ "java/lang/invoke/MethodHandle" ∧ yL_tray.cls ≠ "java/lang/invoke/VarHandle" ∧ (parseMethodDescriptor yL_tray.desc).map (fun d => d.parameters.length) = some 4 := ⟨goodSW lm_1879 lm_1880 lm_1621 lm_1881 rfl rfl, by decide +kernel⟩
theorem cs_L_257 : GoodIn gtbl (wsV RL 257 RX12 yX12_tray (Cond.code yX12_tray cX12_tray 5 none :: gtbl)) ∧ yX12_tray.cls = RX12 ∧ yX12_tray.cls ≠ "java/lang/invoke/MethodHandle" ∧ yX12_tray.cls ≠ "java/lang/invoke/VarHandle" ∧ (parseMethodDescriptor yX12_tray.desc).map (fun d => d.parameters.length) = some 3 := ⟨goodV lm_1882 lm_1883 lm_1884 lm_14 lm_1885 rfl rfl, by decide +kernel⟩
theorem cs_L_260 : GoodIn gtbl (va_wsS RL 260 yL_write (Cond.codeWith yL_write cL_write 7 (some .int) [(0, 11, 14, 19), (0, 11, 18, 43), (0, 11, 22, 105)] :: gtbl)) ∧ yL_write.cls ≠ "java/lang/invoke/MethodHandle" ∧ yL_write.cls ≠ "java/lang/invoke/VarHandle" ∧ (parseMethodDescriptor yL_write.desc).map (fun d => d.parameters.length) = some 5 := ⟨goodSW lm_1887 lm_1888 lm_1621 lm_1889 rfl rfl, by decide +kernel⟩
theorem cs_L_263 : GoodIn gtbl (wsV RL 263 RX12 yX12_write (Cond.code yX12_write cX12_write 5 (some .long) :: gtbl)) ∧ yX12_write.cls = RX12 ∧ yX12_write.cls ≠ "java/lang/invoke/MethodHandle" ∧ yX12_write.cls ≠ "java/lang/invoke/VarHandle" ∧ (parseMethodDescriptor yX12_write.desc).map (fun d => d.parameters.length) = some 3 := ⟨goodV lm_1890 lm_1891 lm_1892 lm_14 lm_1893 rfl rfl, by decide +kernel⟩
theorem cs_L_264 : GoodIn gtbl (va_wsS RL 264 yL_pour (Cond.codeWith yL_pour cL_pour 4 (some .int) [(0, 9, 12, 19), (0, 9, 15, 43)] :: gtbl)) ∧ yL_pour.cls ≠ "java/lang/invoke/MethodHandle" ∧ yL_pour.cls ≠ "java/lang/invoke/VarHandle" ∧ (parseMethodDescriptor yL_pour.desc).map (fun d => d.parameters.length) = some 3 := ⟨goodSW lm_1894 lm_1895 lm_1621 lm_1896 rfl rfl, by decide +kernel⟩
theorem cs_L_266 : GoodIn gtbl (wsV RL 266 RX12 yX12_pour (Cond.code yX12_pour cX12_pour 4 (some .int) :: gtbl)) ∧ yX12_pour.cls = RX12 ∧ yX12_pour.cls ≠ "java/lang/invoke/MethodHandle" ∧ yX12_pour.cls ≠ "java/lang/invoke/VarHandle" ∧ (parseMethodDescriptor yX12_pour.desc).map (fun d => d.parameters.length) = some 1 := ⟨goodV lm_1897 lm_1898 lm_1899 lm_14 lm_1900 rfl rfl, by decide +kernel⟩
theorem cs_L_267 : GoodIn gtbl (va_wsS RL 267 yL_image (Cond.codeWith yL_image cL_image 3 (some .int) [(0, 5, 8, 19)] :: gtbl)) ∧ yL_image.cls ≠ "java/lang/invoke/MethodHandle" ∧ yL_image.cls ≠ "java/lang/invoke/VarHandle" ∧ (parseMethodDescriptor yL_image.desc).map (fun d => d.parameters.length) = some 2 := ⟨goodSW lm_1901 lm_1902 lm_1621 lm_1903 rfl rfl, by decide +kernel⟩
theorem cs_L_270 : GoodIn gtbl (wsV RL 270 RX12 yX12_image (Cond.code yX12_image cX12_image 3 none :: gtbl)) ∧ yX12_image.cls = RX12 ∧ yX12_image.cls ≠ "java/lang/invoke/MethodHandle" ∧ yX12_image.cls ≠ "java/lang/invoke/VarHandle" ∧ (parseMethodDescriptor yX12_image.desc).map (fun d => d.parameters.length) = some 1 := ⟨goodV lm_1904 lm_1905 lm_1906 lm_14 lm_1907 rfl rfl, by decide +kernel⟩
theorem cs_L_271 : GoodIn gtbl (va_wsS RL 271 yL_restore (Cond.codeWith yL_restore cL_restore 3 (some .int) [(0, 5, 8, 19), (0, 5, 11, 43)] :: gtbl)) ∧ yL_restore.cls ≠ "java/lang/invoke/MethodHandle" ∧ yL_restore.cls ≠ "java/lang/invoke/VarHandle" ∧ (parseMethodDescriptor yL_restore.desc).map (fun d => d.parameters.length) = some 2 := ⟨goodSW lm_1908 lm_1909 lm_1621 lm_1910 rfl rfl, by decide +kernel⟩
theorem cs_L_273 : GoodIn gtbl (wsV RL 273 RX12 yX12_restore (Cond.code yX12_restore cX12_restore 3 none :: gtbl)) ∧ yX12_restore.cls = RX12 ∧ yX12_restore.cls ≠ "java/lang/invoke/MethodHandle" ∧ yX12_restore.cls ≠ "java/lang/invoke/VarHandle" ∧ (parseMethodDescriptor yX12_restore.desc).map (fun d => d.parameters.length) = some 1 := ⟨goodV lm_1911 lm_1912 lm_1913 lm_14 lm_1914 rfl rfl, by decide +kernel⟩
theorem cs_L_274 : GoodIn gtbl (wsV RL 274 RX11 yX11_count (Cond.code yX11_count cX11_count 2 (some .int) :: gtbl)) ∧ yX11_count.cls = RX11 ∧ yX11_count.cls ≠ "java/lang/invoke/MethodHandle" ∧ yX11_count.cls ≠ "java/lang/invoke/VarHandle" ∧ (parseMethodDescriptor yX11_count.desc).map (fun d => d.parameters.length) = some 1 := ⟨goodV lm_1915 lm_1916 lm_1917 lm_307 lm_1918 rfl rfl, by decide +kernel⟩
theorem cs_L_277 : GoodIn gtbl (wsV RL 277 RX12 yX12_count (Cond.code yX12_count cX12_count 2 (some .int) :: gtbl)) ∧ yX12_count.cls = RX12 ∧ yX12_count.cls ≠ "java/lang/invoke/MethodHandle" ∧ yX12_count.cls ≠ "java/lang/invoke/VarHandle" ∧ (parseMethodDescriptor yX12_count.desc).map (fun d => d.parameters.length) = some 1 := ⟨goodV lm_1919 lm_1920 lm_1921 lm_14 lm_1922 rfl rfl, by decide +kernel⟩
