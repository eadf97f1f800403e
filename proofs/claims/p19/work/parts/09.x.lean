/-! ===== methods that may throw ===== -/
section SX
def RMx (h mc : Nat) : Room := RM (8 + h) (120 + 40 * h) mc (6 * mc)
def XM (D : va_G) (cy : Nat → ClassId) (ad : Nat → Nat) (A : Nat → Prop) (px : String → Mem → Prop) : String → State → State → Prop := vx_X (fun u : String × Mem => Iw u.2 ∧ px u.1 u.2) (fun E u t => E = u.1 ∧ PostM D cy ad A u.2 t) A
/-- an exception on its way: E's object at q9, the world as M tells -/
def ZX (D : va_G) (cy : Nat → ClassId) (ad : Nat → Nat) (p : Program) (l : Launch) (e : Env) (R : Room) (s : State) (m : MethodId) (args : Array Value) (below : List Frame) (meth : Method) (c : Code) (A : Nat → Prop) (nL n0 s0 : Nat) (Q : State → Prop) (pc : Nat) (ls : List (Nat × Value)) (st : List Value) (E : String) (M : Mem) : Prop :=
  ∀ (H : Heap) (locs : List Loc) (la : Array Slot) (ce : Cell) (q9 : Addr), va_P D vwCl (wld ad cy M) H → va_D A (wld ad cy M) → va_S A s.heap H locs → lv_has la nL ls → H[q9]? = some ce → ce.vm = .none → s.vm.findClass E = some ce.cls → vx_W p l e R s m args below meth c H locs n0 s0 Q (F0 m pc la st) q9
theorem room_okx {h h' mc mL : Nat} (hh : h' + 1 ≤ h) (hm : mL ≤ 21) : (RMh h').frames + 1 ≤ (RMx h mc).frames ∧ 8 + (mL + 11) + (RMh h').locals ≤ (RMx h mc).locals := by
  show 8 + h' + 1 ≤ 8 + h ∧ 8 + (mL + 11) + (120 + 40 * h') ≤ 120 + 40 * h
  omega
theorem room_xx {h h' mc mc' mL : Nat} (hh : h' + 1 ≤ h) (hm : mL ≤ 21) : (RMx h' mc').frames + 1 ≤ (RMx h mc).frames ∧ 8 + (mL + 11) + (RMx h' mc').locals ≤ (RMx h mc).locals := by
  show 8 + h' + 1 ≤ 8 + h ∧ 8 + (mL + 11) + (120 + 40 * h') ≤ 120 + 40 * h
  omega
def CIX (l : Launch) (y : MethodName) (cb : ByteArray) (mL : Nat) (rt : Option FieldType) (h mc : Nat) (av : (Nat → Nat) → List Value) (M : Mem) (post : Int → Mem → Prop) (px : String → Mem → Prop) : Prop :=
  ∀ (D : va_G) (cy : Nat → ClassId) (ad : Nat → Nat) (sz : Nat), vx_Met l y (Cond.code y cb mL rt :: gtbl) (RMx h mc) (va_Pc (av ad) (PreM D cy ad M sz)) (va_Qi (QI post) (PostM D cy ad (va_A (wld ad cy M) sz)) (va_A (wld ad cy M) sz)) (XM D cy ad (va_A (wld ad cy M) sz) px) mc (6 * mc) (va_A (wld ad cy M) sz)
def CLX (l : Launch) (y : MethodName) (cb : ByteArray) (mL : Nat) (rt : Option FieldType) (h mc : Nat) (av : (Nat → Nat) → List Value) (M : Mem) (post : Int → Mem → Prop) (px : String → Mem → Prop) : Prop :=
  ∀ (D : va_G) (cy : Nat → ClassId) (ad : Nat → Nat) (sz : Nat), vx_Met l y (Cond.code y cb mL rt :: gtbl) (RMx h mc) (va_Pc (av ad) (PreM D cy ad M sz)) (va_Ql (QL post) (PostM D cy ad (va_A (wld ad cy M) sz)) (va_A (wld ad cy M) sz)) (XM D cy ad (va_A (wld ad cy M) sz) px) mc (6 * mc) (va_A (wld ad cy M) sz)
def CVX (l : Launch) (y : MethodName) (cb : ByteArray) (mL : Nat) (rt : Option FieldType) (h mc : Nat) (av : (Nat → Nat) → List Value) (M : Mem) (post : Mem → Prop) (px : String → Mem → Prop) : Prop :=
  ∀ (D : va_G) (cy : Nat → ClassId) (ad : Nat → Nat) (sz : Nat), vx_Met l y (Cond.code y cb mL rt :: gtbl) (RMx h mc) (va_Pc (av ad) (PreM D cy ad M sz)) (va_Qv (QV post) (PostM D cy ad (va_A (wld ad cy M) sz)) (va_A (wld ad cy M) sz)) (XM D cy ad (va_A (wld ad cy M) sz) px) mc (6 * mc) (va_A (wld ad cy M) sz)
def CRX (l : Launch) (y : MethodName) (cb : ByteArray) (mL : Nat) (rt : Option FieldType) (h mc : Nat) (av : (Nat → Nat) → List Value) (M : Mem) (k : Nat) (post : Mem → Prop) (px : String → Mem → Prop) : Prop :=
  ∀ (D : va_G) (cy : Nat → ClassId) (ad : Nat → Nat) (sz : Nat), vx_Met l y (Cond.code y cb mL rt :: gtbl) (RMx h mc) (va_Pc (av ad) (PreM D cy ad M sz)) (va_Qr (QV post) (fun M' a t => a = ad k ∧ PostM D cy ad (va_A (wld ad cy M) sz) M' t) (va_A (wld ad cy M) sz)) (XM D cy ad (va_A (wld ad cy M) sz) px) mc (6 * mc) (va_A (wld ad cy M) sz)
section ROWSX
variable {D : va_G} {cy : Nat → ClassId} {ad : Nat → Nat} {p : Program} {l : Launch} {e : Env} {s : State} {m : MethodId} {args : Array Value} {below : List Frame} {meth : Method} {c : Code} {cc : ByteArray} {own : String} {A : Nat → Prop} {nL n0 s0 mc : Nat} {Q : State → Prop} {pc : Nat} {ls : List (Nat × Value)} {st rest : List Value} {M : Mem}
variable {y : MethodName} {cb : ByteArray} {mL h h' : Nat} {rt : Option FieldType} {av : (Nat → Nat) → List Value}
theorem zw_i {post : Int → Mem → Prop} {C : String} {T : u_T} {N ci index k n : Nat} {fk : List (Option Nat)} {As : List Value} (F : FxM D cy ad p m c cc nL s args own A) (hM : CI l y cb mL rt h' av M post) (hg : GoodIn gtbl (wsV own index C y (Cond.code y cb mL rt :: gtbl)) ∧ y.cls = C ∧ y.cls ≠ "java/lang/invoke/MethodHandle" ∧ y.cls ≠ "java/lang/invoke/VarHandle" ∧ (parseMethodDescriptor y.desc).map (fun d => d.parameters.length) = some n) (hcl : vwCl[ci]? = some (C, T, N))
    (hG : Gs[k]? = some (.inl (ci, fk))) (hh : h' + 1 ≤ h) (hm : mL ≤ 21) (hn0 : n0 ≤ mc ∧ s0 ≤ 6 * mc) (hav : av ad = .ref (ad k) :: As) (hn : As.length = n) (hst : st = As.reverse ++ .ref (ad k) :: rest) (hw : (rest.map fun v => v.category).sum ≤ 8) (dg : decode cc pc = .ok (.invokevirtual index, 3))
    (kk : ∀ (z : Int) (M' : Mem), In32 z → Iw M' → post z M' → Z D cy ad p l e (RMx h mc) s m args below meth c A nL n0 s0 Q (pc + 3) ls (ii z :: rest) M') : Z D cy ad p l e (RMx h mc) s m args below meth c A nL n0 s0 Q (pc) ls (st) M := by
  refine zk_i (avl := .ref (ad k) :: As) F (fun H locs la hP hD hS hl => ?_) kk
  have hM' := hM D cy ad H.size
  rw [hav] at hM'
  have pr := pre_cm (av := .ref (ad k) :: As) F hP hD hS
  exact va_runV (As := As) (rest := rest) F.1.1 hM' (cwV n (fun w h => F.t h) hg.1 rfl rfl rfl hg.2 (room_okx hh hm)) ⟨pr.1, va_recv F.K hP hcl (wld_get hG), pr.2⟩ rfl hn hl.1 hst (lv_room hw) dg ⟨hn0.1, hn0.2⟩
theorem zt_i {post : Int → Mem → Prop} {index n : Nat} {As : List Value} (F : FxM D cy ad p m c cc nL s args own A) (hM : CI l y cb mL rt h' av M post) (hg : GoodIn gtbl (va_wsS own index y (Cond.code y cb mL rt :: gtbl)) ∧ y.cls ≠ "java/lang/invoke/MethodHandle" ∧ y.cls ≠ "java/lang/invoke/VarHandle" ∧ (parseMethodDescriptor y.desc).map (fun d => d.parameters.length) = some n)
    (hh : h' + 1 ≤ h) (hm : mL ≤ 21) (hn0 : n0 ≤ mc ∧ s0 ≤ 6 * mc) (hav : av ad = As) (hn : As.length = n) (hst : st = As.reverse ++ rest) (hw : (rest.map fun v => v.category).sum ≤ 8) (dg : decode cc pc = .ok (.invokestatic index, 3))
    (kk : ∀ (z : Int) (M' : Mem), In32 z → Iw M' → post z M' → Z D cy ad p l e (RMx h mc) s m args below meth c A nL n0 s0 Q (pc + 3) ls (ii z :: rest) M') : Z D cy ad p l e (RMx h mc) s m args below meth c A nL n0 s0 Q (pc) ls (st) M := by
  refine zk_i (avl := As) F (fun H locs la hP hD hS hl => ?_) kk
  have hM' := hM D cy ad H.size
  rw [hav] at hM'
  exact va_runS (As := As) (rest := rest) F.1.1 hM' (va_cwS n (fun w h => F.t h) hg.1 rfl rfl rfl hg.2 (room_okx hh hm)) (pre_cm F hP hD hS) rfl hn hl.1 hst (lv_room hw) dg ⟨hn0.1, hn0.2⟩
theorem zy_i {post : Int → Mem → Prop} {px : String → Mem → Prop} {C : String} {T : u_T} {N ci index k n mc' : Nat} {fk : List (Option Nat)} {As : List Value} (F : FxM D cy ad p m c cc nL s args own A) (hM : CIX l y cb mL rt h' mc' av M post px) (hg : GoodIn gtbl (wsV own index C y (Cond.code y cb mL rt :: gtbl)) ∧ y.cls = C ∧ y.cls ≠ "java/lang/invoke/MethodHandle" ∧ y.cls ≠ "java/lang/invoke/VarHandle" ∧ (parseMethodDescriptor y.desc).map (fun d => d.parameters.length) = some n) (hcl' : vwCl[ci]? = some (C, T, N))
    (hG : Gs[k]? = some (.inl (ci, fk))) (hh : h' + 1 ≤ h) (hm : mL ≤ 21) (hn0 : n0 + mc' ≤ mc ∧ s0 + 6 * mc' ≤ 6 * mc) (hav : av ad = .ref (ad k) :: As) (hn : As.length = n) (hst : st = As.reverse ++ .ref (ad k) :: rest) (hw : (rest.map fun v => v.category).sum ≤ 8) (dg : decode cc pc = .ok (.invokevirtual index, 3))
    (kx : ∀ (E : String) (M' : Mem), Iw M' → px E M' → ZX D cy ad p l e (RMx h mc) s m args below meth c A nL (n0 + mc') (s0 + 6 * mc') Q pc ls rest E M') (kk : ∀ (z : Int) (M' : Mem), In32 z → Iw M' → post z M' → Z D cy ad p l e (RMx h mc) s m args below meth c A nL (n0 + mc') (s0 + 6 * mc') Q (pc + 3) ls (ii z :: rest) M') : Z D cy ad p l e (RMx h mc) s m args below meth c A nL n0 s0 Q (pc) ls (st) M := by
  intro H locs la hP hD hS hl
  have hM' := hM D cy ad H.size
  rw [hav] at hM'
  have pr := pre_cm (av := .ref (ad k) :: As) F hP hD hS
  refine vx_calli (vx_runV (As := As) (rest := rest) F.1.1 hM' (cwV n (fun w h => F.t h) hg.1 rfl rfl rfl hg.2 (room_xx hh hm)) ⟨pr.1, va_recv F.K hP hcl' (wld_get hG), pr.2⟩ rfl hn hl.1 hst (lv_room hw) dg ⟨hn0.1, hn0.2⟩) hS (fun q _ h => free_cm F hD hS q h) (free_cm F hD hS) (fun q _ h => free_cm F hD hS q h) (fun E ce q9 u t H1 locs1 ht hvm hp hE hz hk hS1 he hv hcl => by
    obtain ⟨rfl, hP1, hD1⟩ := hE
    rw [ht] at hP1
    exact kx u.1 u.2 hp.1 hp.2 H1 locs1 la ce q9 hP1 (hD1.weaken (fun _ _ _ h => free_cm F hD hS _ h)) hS1 hl he hv hcl) (fun r u t H1 locs1 ht hvm hw hB hz hk hS1 => ?_)
  obtain ⟨hP1, hD1⟩ := hB
  rw [ht] at hP1
  obtain ⟨z, rfl, h32, hI, hp⟩ := hw
  exact kk z u h32 hI hp H1 locs1 la hP1 (hD1.weaken (fun _ _ _ h => free_cm F hD hS _ h)) hS1 hl
theorem zz_i {post : Int → Mem → Prop} {px : String → Mem → Prop} {index n mc' : Nat} {As : List Value} (F : FxM D cy ad p m c cc nL s args own A) (hM : CIX l y cb mL rt h' mc' av M post px) (hg : GoodIn gtbl (va_wsS own index y (Cond.code y cb mL rt :: gtbl)) ∧ y.cls ≠ "java/lang/invoke/MethodHandle" ∧ y.cls ≠ "java/lang/invoke/VarHandle" ∧ (parseMethodDescriptor y.desc).map (fun d => d.parameters.length) = some n)
    (hh : h' + 1 ≤ h) (hm : mL ≤ 21) (hn0 : n0 + mc' ≤ mc ∧ s0 + 6 * mc' ≤ 6 * mc) (hav : av ad = As) (hn : As.length = n) (hst : st = As.reverse ++ rest) (hw : (rest.map fun v => v.category).sum ≤ 8) (dg : decode cc pc = .ok (.invokestatic index, 3))
    (kx : ∀ (E : String) (M' : Mem), Iw M' → px E M' → ZX D cy ad p l e (RMx h mc) s m args below meth c A nL (n0 + mc') (s0 + 6 * mc') Q pc ls rest E M') (kk : ∀ (z : Int) (M' : Mem), In32 z → Iw M' → post z M' → Z D cy ad p l e (RMx h mc) s m args below meth c A nL (n0 + mc') (s0 + 6 * mc') Q (pc + 3) ls (ii z :: rest) M') : Z D cy ad p l e (RMx h mc) s m args below meth c A nL n0 s0 Q (pc) ls (st) M := by
  intro H locs la hP hD hS hl
  have hM' := hM D cy ad H.size
  rw [hav] at hM'
  refine vx_calli (vx_runS (As := As) (rest := rest) F.1.1 hM' (va_cwS n (fun w h => F.t h) hg.1 rfl rfl rfl hg.2 (room_xx hh hm)) (pre_cm F hP hD hS) rfl hn hl.1 hst (lv_room hw) dg ⟨hn0.1, hn0.2⟩) hS (fun q _ h => free_cm F hD hS q h) (free_cm F hD hS) (fun q _ h => free_cm F hD hS q h) (fun E ce q9 u t H1 locs1 ht hvm hp hE hz hk hS1 he hv hcl => by
    obtain ⟨rfl, hP1, hD1⟩ := hE
    rw [ht] at hP1
    exact kx u.1 u.2 hp.1 hp.2 H1 locs1 la ce q9 hP1 (hD1.weaken (fun _ _ _ h => free_cm F hD hS _ h)) hS1 hl he hv hcl) (fun r u t H1 locs1 ht hvm hw hB hz hk hS1 => ?_)
  obtain ⟨hP1, hD1⟩ := hB
  rw [ht] at hP1
  obtain ⟨z, rfl, h32, hI, hp⟩ := hw
  exact kk z u h32 hI hp H1 locs1 la hP1 (hD1.weaken (fun _ _ _ h => free_cm F hD hS _ h)) hS1 hl
theorem zw_l {post : Int → Mem → Prop} {C : String} {T : u_T} {N ci index k n : Nat} {fk : List (Option Nat)} {As : List Value} (F : FxM D cy ad p m c cc nL s args own A) (hM : CL l y cb mL rt h' av M post) (hg : GoodIn gtbl (wsV own index C y (Cond.code y cb mL rt :: gtbl)) ∧ y.cls = C ∧ y.cls ≠ "java/lang/invoke/MethodHandle" ∧ y.cls ≠ "java/lang/invoke/VarHandle" ∧ (parseMethodDescriptor y.desc).map (fun d => d.parameters.length) = some n) (hcl : vwCl[ci]? = some (C, T, N))
    (hG : Gs[k]? = some (.inl (ci, fk))) (hh : h' + 1 ≤ h) (hm : mL ≤ 21) (hn0 : n0 ≤ mc ∧ s0 ≤ 6 * mc) (hav : av ad = .ref (ad k) :: As) (hn : As.length = n) (hst : st = As.reverse ++ .ref (ad k) :: rest) (hw : (rest.map fun v => v.category).sum ≤ 8) (dg : decode cc pc = .ok (.invokevirtual index, 3))
    (kk : ∀ (z : Int) (M' : Mem), In64 z → Iw M' → post z M' → Z D cy ad p l e (RMx h mc) s m args below meth c A nL n0 s0 Q (pc + 3) ls (ll z :: rest) M') : Z D cy ad p l e (RMx h mc) s m args below meth c A nL n0 s0 Q (pc) ls (st) M := by
  refine zk_l (avl := .ref (ad k) :: As) F (fun H locs la hP hD hS hl => ?_) kk
  have hM' := hM D cy ad H.size
  rw [hav] at hM'
  have pr := pre_cm (av := .ref (ad k) :: As) F hP hD hS
  exact va_runV (As := As) (rest := rest) F.1.1 hM' (cwV n (fun w h => F.t h) hg.1 rfl rfl rfl hg.2 (room_okx hh hm)) ⟨pr.1, va_recv F.K hP hcl (wld_get hG), pr.2⟩ rfl hn hl.1 hst (lv_room hw) dg ⟨hn0.1, hn0.2⟩
theorem zt_l {post : Int → Mem → Prop} {index n : Nat} {As : List Value} (F : FxM D cy ad p m c cc nL s args own A) (hM : CL l y cb mL rt h' av M post) (hg : GoodIn gtbl (va_wsS own index y (Cond.code y cb mL rt :: gtbl)) ∧ y.cls ≠ "java/lang/invoke/MethodHandle" ∧ y.cls ≠ "java/lang/invoke/VarHandle" ∧ (parseMethodDescriptor y.desc).map (fun d => d.parameters.length) = some n)
    (hh : h' + 1 ≤ h) (hm : mL ≤ 21) (hn0 : n0 ≤ mc ∧ s0 ≤ 6 * mc) (hav : av ad = As) (hn : As.length = n) (hst : st = As.reverse ++ rest) (hw : (rest.map fun v => v.category).sum ≤ 8) (dg : decode cc pc = .ok (.invokestatic index, 3))
    (kk : ∀ (z : Int) (M' : Mem), In64 z → Iw M' → post z M' → Z D cy ad p l e (RMx h mc) s m args below meth c A nL n0 s0 Q (pc + 3) ls (ll z :: rest) M') : Z D cy ad p l e (RMx h mc) s m args below meth c A nL n0 s0 Q (pc) ls (st) M := by
  refine zk_l (avl := As) F (fun H locs la hP hD hS hl => ?_) kk
  have hM' := hM D cy ad H.size
  rw [hav] at hM'
  exact va_runS (As := As) (rest := rest) F.1.1 hM' (va_cwS n (fun w h => F.t h) hg.1 rfl rfl rfl hg.2 (room_okx hh hm)) (pre_cm F hP hD hS) rfl hn hl.1 hst (lv_room hw) dg ⟨hn0.1, hn0.2⟩
theorem zw_v {post : Mem → Prop} {C : String} {T : u_T} {N ci index k n : Nat} {fk : List (Option Nat)} {As : List Value} (F : FxM D cy ad p m c cc nL s args own A) (hM : CV l y cb mL rt h' av M post) (hg : GoodIn gtbl (wsV own index C y (Cond.code y cb mL rt :: gtbl)) ∧ y.cls = C ∧ y.cls ≠ "java/lang/invoke/MethodHandle" ∧ y.cls ≠ "java/lang/invoke/VarHandle" ∧ (parseMethodDescriptor y.desc).map (fun d => d.parameters.length) = some n) (hcl : vwCl[ci]? = some (C, T, N))
    (hG : Gs[k]? = some (.inl (ci, fk))) (hh : h' + 1 ≤ h) (hm : mL ≤ 21) (hn0 : n0 ≤ mc ∧ s0 ≤ 6 * mc) (hav : av ad = .ref (ad k) :: As) (hn : As.length = n) (hst : st = As.reverse ++ .ref (ad k) :: rest) (hw : (rest.map fun v => v.category).sum ≤ 8) (dg : decode cc pc = .ok (.invokevirtual index, 3))
    (kk : ∀ (M' : Mem), Iw M' → post M' → Z D cy ad p l e (RMx h mc) s m args below meth c A nL n0 s0 Q (pc + 3) ls (rest) M') : Z D cy ad p l e (RMx h mc) s m args below meth c A nL n0 s0 Q (pc) ls (st) M := by
  refine zk_v (avl := .ref (ad k) :: As) F (fun H locs la hP hD hS hl => ?_) kk
  have hM' := hM D cy ad H.size
  rw [hav] at hM'
  have pr := pre_cm (av := .ref (ad k) :: As) F hP hD hS
  exact va_runV (As := As) (rest := rest) F.1.1 hM' (cwV n (fun w h => F.t h) hg.1 rfl rfl rfl hg.2 (room_okx hh hm)) ⟨pr.1, va_recv F.K hP hcl (wld_get hG), pr.2⟩ rfl hn hl.1 hst (lv_room hw) dg ⟨hn0.1, hn0.2⟩
theorem zt_v {post : Mem → Prop} {index n : Nat} {As : List Value} (F : FxM D cy ad p m c cc nL s args own A) (hM : CV l y cb mL rt h' av M post) (hg : GoodIn gtbl (va_wsS own index y (Cond.code y cb mL rt :: gtbl)) ∧ y.cls ≠ "java/lang/invoke/MethodHandle" ∧ y.cls ≠ "java/lang/invoke/VarHandle" ∧ (parseMethodDescriptor y.desc).map (fun d => d.parameters.length) = some n)
    (hh : h' + 1 ≤ h) (hm : mL ≤ 21) (hn0 : n0 ≤ mc ∧ s0 ≤ 6 * mc) (hav : av ad = As) (hn : As.length = n) (hst : st = As.reverse ++ rest) (hw : (rest.map fun v => v.category).sum ≤ 8) (dg : decode cc pc = .ok (.invokestatic index, 3))
    (kk : ∀ (M' : Mem), Iw M' → post M' → Z D cy ad p l e (RMx h mc) s m args below meth c A nL n0 s0 Q (pc + 3) ls (rest) M') : Z D cy ad p l e (RMx h mc) s m args below meth c A nL n0 s0 Q (pc) ls (st) M := by
  refine zk_v (avl := As) F (fun H locs la hP hD hS hl => ?_) kk
  have hM' := hM D cy ad H.size
  rw [hav] at hM'
  exact va_runS (As := As) (rest := rest) F.1.1 hM' (va_cwS n (fun w h => F.t h) hg.1 rfl rfl rfl hg.2 (room_okx hh hm)) (pre_cm F hP hD hS) rfl hn hl.1 hst (lv_room hw) dg ⟨hn0.1, hn0.2⟩
theorem zy_v {post : Mem → Prop} {px : String → Mem → Prop} {C : String} {T : u_T} {N ci index k n mc' : Nat} {fk : List (Option Nat)} {As : List Value} (F : FxM D cy ad p m c cc nL s args own A) (hM : CVX l y cb mL rt h' mc' av M post px) (hg : GoodIn gtbl (wsV own index C y (Cond.code y cb mL rt :: gtbl)) ∧ y.cls = C ∧ y.cls ≠ "java/lang/invoke/MethodHandle" ∧ y.cls ≠ "java/lang/invoke/VarHandle" ∧ (parseMethodDescriptor y.desc).map (fun d => d.parameters.length) = some n) (hcl' : vwCl[ci]? = some (C, T, N))
    (hG : Gs[k]? = some (.inl (ci, fk))) (hh : h' + 1 ≤ h) (hm : mL ≤ 21) (hn0 : n0 + mc' ≤ mc ∧ s0 + 6 * mc' ≤ 6 * mc) (hav : av ad = .ref (ad k) :: As) (hn : As.length = n) (hst : st = As.reverse ++ .ref (ad k) :: rest) (hw : (rest.map fun v => v.category).sum ≤ 8) (dg : decode cc pc = .ok (.invokevirtual index, 3))
    (kx : ∀ (E : String) (M' : Mem), Iw M' → px E M' → ZX D cy ad p l e (RMx h mc) s m args below meth c A nL (n0 + mc') (s0 + 6 * mc') Q pc ls rest E M') (kk : ∀ (M' : Mem), Iw M' → post M' → Z D cy ad p l e (RMx h mc) s m args below meth c A nL (n0 + mc') (s0 + 6 * mc') Q (pc + 3) ls (rest) M') : Z D cy ad p l e (RMx h mc) s m args below meth c A nL n0 s0 Q (pc) ls (st) M := by
  intro H locs la hP hD hS hl
  have hM' := hM D cy ad H.size
  rw [hav] at hM'
  have pr := pre_cm (av := .ref (ad k) :: As) F hP hD hS
  refine vx_callv (vx_runV (As := As) (rest := rest) F.1.1 hM' (cwV n (fun w h => F.t h) hg.1 rfl rfl rfl hg.2 (room_xx hh hm)) ⟨pr.1, va_recv F.K hP hcl' (wld_get hG), pr.2⟩ rfl hn hl.1 hst (lv_room hw) dg ⟨hn0.1, hn0.2⟩) hS (fun q _ h => free_cm F hD hS q h) (free_cm F hD hS) (fun q _ h => free_cm F hD hS q h) (fun E ce q9 u t H1 locs1 ht hvm hp hE hz hk hS1 he hv hcl => by
    obtain ⟨rfl, hP1, hD1⟩ := hE
    rw [ht] at hP1
    exact kx u.1 u.2 hp.1 hp.2 H1 locs1 la ce q9 hP1 (hD1.weaken (fun _ _ _ h => free_cm F hD hS _ h)) hS1 hl he hv hcl) (fun u t H1 locs1 ht hvm hw hB hz hk hS1 => ?_)
  obtain ⟨hP1, hD1⟩ := hB
  rw [ht] at hP1
  exact kk u hw.1 hw.2 H1 locs1 la hP1 (hD1.weaken (fun _ _ _ h => free_cm F hD hS _ h)) hS1 hl
theorem zz_v {post : Mem → Prop} {px : String → Mem → Prop} {index n mc' : Nat} {As : List Value} (F : FxM D cy ad p m c cc nL s args own A) (hM : CVX l y cb mL rt h' mc' av M post px) (hg : GoodIn gtbl (va_wsS own index y (Cond.code y cb mL rt :: gtbl)) ∧ y.cls ≠ "java/lang/invoke/MethodHandle" ∧ y.cls ≠ "java/lang/invoke/VarHandle" ∧ (parseMethodDescriptor y.desc).map (fun d => d.parameters.length) = some n)
    (hh : h' + 1 ≤ h) (hm : mL ≤ 21) (hn0 : n0 + mc' ≤ mc ∧ s0 + 6 * mc' ≤ 6 * mc) (hav : av ad = As) (hn : As.length = n) (hst : st = As.reverse ++ rest) (hw : (rest.map fun v => v.category).sum ≤ 8) (dg : decode cc pc = .ok (.invokestatic index, 3))
    (kx : ∀ (E : String) (M' : Mem), Iw M' → px E M' → ZX D cy ad p l e (RMx h mc) s m args below meth c A nL (n0 + mc') (s0 + 6 * mc') Q pc ls rest E M') (kk : ∀ (M' : Mem), Iw M' → post M' → Z D cy ad p l e (RMx h mc) s m args below meth c A nL (n0 + mc') (s0 + 6 * mc') Q (pc + 3) ls (rest) M') : Z D cy ad p l e (RMx h mc) s m args below meth c A nL n0 s0 Q (pc) ls (st) M := by
  intro H locs la hP hD hS hl
  have hM' := hM D cy ad H.size
  rw [hav] at hM'
  refine vx_callv (vx_runS (As := As) (rest := rest) F.1.1 hM' (va_cwS n (fun w h => F.t h) hg.1 rfl rfl rfl hg.2 (room_xx hh hm)) (pre_cm F hP hD hS) rfl hn hl.1 hst (lv_room hw) dg ⟨hn0.1, hn0.2⟩) hS (fun q _ h => free_cm F hD hS q h) (free_cm F hD hS) (fun q _ h => free_cm F hD hS q h) (fun E ce q9 u t H1 locs1 ht hvm hp hE hz hk hS1 he hv hcl => by
    obtain ⟨rfl, hP1, hD1⟩ := hE
    rw [ht] at hP1
    exact kx u.1 u.2 hp.1 hp.2 H1 locs1 la ce q9 hP1 (hD1.weaken (fun _ _ _ h => free_cm F hD hS _ h)) hS1 hl he hv hcl) (fun u t H1 locs1 ht hvm hw hB hz hk hS1 => ?_)
  obtain ⟨hP1, hD1⟩ := hB
  rw [ht] at hP1
  exact kk u hw.1 hw.2 H1 locs1 la hP1 (hD1.weaken (fun _ _ _ h => free_cm F hD hS _ h)) hS1 hl
theorem zxr_i {post : Int → Mem → Prop} {px : String → Mem → Prop} {R : Room} {z : Int} (F : FxM D cy ad p m c cc nL s args own A) (hQ : Q = vx_MQ below (va_Qi (QI post) (PostM D cy ad A) A) (XM D cy ad A px) args s mc (6 * mc) A) (hr : meth.sig.returnType = some .int) (hlk : meth.locks = false) (d : decode cc pc = .ok (.ireturn, 1)) (hn0 : n0 ≤ mc ∧ s0 ≤ 6 * mc) (h32 : In32 z) (hI : Iw M) (hp : post z M) : Z D cy ad p l e R s m args below meth c A nL n0 s0 Q pc ls [ii z] M := by
  intro H locs la hP hD hS hl
  rw [hQ]
  refine vx_ret ?_
  refine W.widen hn0.1 hn0.2 ?_
  exact W.iret F.x F.b hr (fun t ht _ => ⟨⟨Int32.ofInt z, M, rfl, ⟨z, rfl, h32, hI, hp⟩, by show va_P D vwCl (wld ad cy M) t.heap; rw [ht]; exact hP, hD⟩, hS.F ht⟩) hS.2.2 d hlk
theorem enx_i {post : Int → Mem → Prop} {px : String → Mem → Prop} (hy : plainName y.cls = true) (hav : ∀ ad, (lg_sl (av ad)).length ≤ mL)
    (body : ∀ (D : va_G) (cy : Nat → ClassId) (ad : Nat → Nat) (A : Nat → Prop) (p : Program) (e : Env) (s : State) (m : MethodId) (args : Array Value) (below : List Frame) (meth : Method) (c : Code) (Q : State → Prop), FxM D cy ad p m c cb mL s args y.cls A → Q = vx_MQ below (va_Qi (QI post) (PostM D cy ad A) A) (XM D cy ad A px) args s mc (6 * mc) A → meth.sig.returnType = some .int → meth.locks = false → (∀ x ∈ c.exceptionTable.toList, False) →
      Z D cy ad p l e (RMx h mc) s m args below meth c A mL 0 0 Q 0 (lv_args 0 (av ad)) [] M) : CIX l y cb mL (some .int) h mc av M post px := by
  intro D cy ad sz
  refine vx_ofW (cc := cb) (maxL := mL) (ret := some .int) hy rfl ?_
  intro p e s m args below meth c s₁ B hml hex hv
  obtain ⟨rfl, ⟨hsz, hP, hK, hD0, hG, hZ⟩, hSA⟩ := hv
  rw [lg_entry_eq]
  have hl := lv_entry (av ad) (n := mL) (hav ad)
  generalize (lg_sl (av ad) ++ List.replicate (mL - (lg_sl (av ad)).length) Slot.unset).toArray = la at hl ⊢
  have hts : ∀ w ∈ gtbl, w.before (av ad).toArray s = true := fun w hw => atoms_spec (ws := Cond.code y cb mL (some .int) :: gtbl) B.pre w (List.mem_cons_of_mem _ hw)
  have F : FxM D cy ad p m c cb mL s (av ad).toArray y.cls (va_A (wld ad cy M) sz) := ⟨⟨⟨B.exec, B.bytes, hml, findClass_of_methodNamed B.named, hts⟩, hK, hG, hZ, fun q h => Or.inr (by rw [← hsz]; exact h)⟩, hSA⟩
  exact body D cy ad (va_A (wld ad cy M) sz) p e s m _ below meth c _ F rfl B.returns B.notSynchronized hex s.heap [] la hP (hD0.self (sz := sz)) va_S.rf hl
theorem zxr_z {post : Int → Mem → Prop} {px : String → Mem → Prop} {R : Room} {z : Int} (F : FxM D cy ad p m c cc nL s args own A) (hQ : Q = vx_MQ below (va_Qi (QI post) (PostM D cy ad A) A) (XM D cy ad A px) args s mc (6 * mc) A) (hr : meth.sig.returnType = some .boolean) (hlk : meth.locks = false) (d : decode cc pc = .ok (.ireturn, 1)) (hn0 : n0 ≤ mc ∧ s0 ≤ 6 * mc) (h32 : 0 ≤ z ∧ z ≤ 1) (hI : Iw M) (hp : post z M) : Z D cy ad p l e R s m args below meth c A nL n0 s0 Q pc ls [ii z] M := by
  intro H locs la hP hD hS hl
  rw [hQ]
  refine vx_ret ?_
  refine W.widen hn0.1 hn0.2 ?_
  exact W.zret F.x F.b hr (nar_z h32.1 h32.2) (fun t ht _ => ⟨⟨Int32.ofInt z, M, rfl, ⟨z, rfl, ⟨by omega, by omega⟩, hI, hp⟩, by show va_P D vwCl (wld ad cy M) t.heap; rw [ht]; exact hP, hD⟩, hS.F ht⟩) hS.2.2 d hlk
theorem enx_z {post : Int → Mem → Prop} {px : String → Mem → Prop} (hy : plainName y.cls = true) (hav : ∀ ad, (lg_sl (av ad)).length ≤ mL)
    (body : ∀ (D : va_G) (cy : Nat → ClassId) (ad : Nat → Nat) (A : Nat → Prop) (p : Program) (e : Env) (s : State) (m : MethodId) (args : Array Value) (below : List Frame) (meth : Method) (c : Code) (Q : State → Prop), FxM D cy ad p m c cb mL s args y.cls A → Q = vx_MQ below (va_Qi (QI post) (PostM D cy ad A) A) (XM D cy ad A px) args s mc (6 * mc) A → meth.sig.returnType = some .boolean → meth.locks = false → (∀ x ∈ c.exceptionTable.toList, False) →
      Z D cy ad p l e (RMx h mc) s m args below meth c A mL 0 0 Q 0 (lv_args 0 (av ad)) [] M) : CIX l y cb mL (some .boolean) h mc av M post px := by
  intro D cy ad sz
  refine vx_ofW (cc := cb) (maxL := mL) (ret := some .boolean) hy rfl ?_
  intro p e s m args below meth c s₁ B hml hex hv
  obtain ⟨rfl, ⟨hsz, hP, hK, hD0, hG, hZ⟩, hSA⟩ := hv
  rw [lg_entry_eq]
  have hl := lv_entry (av ad) (n := mL) (hav ad)
  generalize (lg_sl (av ad) ++ List.replicate (mL - (lg_sl (av ad)).length) Slot.unset).toArray = la at hl ⊢
  have hts : ∀ w ∈ gtbl, w.before (av ad).toArray s = true := fun w hw => atoms_spec (ws := Cond.code y cb mL (some .boolean) :: gtbl) B.pre w (List.mem_cons_of_mem _ hw)
  have F : FxM D cy ad p m c cb mL s (av ad).toArray y.cls (va_A (wld ad cy M) sz) := ⟨⟨⟨B.exec, B.bytes, hml, findClass_of_methodNamed B.named, hts⟩, hK, hG, hZ, fun q h => Or.inr (by rw [← hsz]; exact h)⟩, hSA⟩
  exact body D cy ad (va_A (wld ad cy M) sz) p e s m _ below meth c _ F rfl B.returns B.notSynchronized hex s.heap [] la hP (hD0.self (sz := sz)) va_S.rf hl
theorem zxr_l {post : Int → Mem → Prop} {px : String → Mem → Prop} {R : Room} {z : Int} (F : FxM D cy ad p m c cc nL s args own A) (hQ : Q = vx_MQ below (va_Ql (QL post) (PostM D cy ad A) A) (XM D cy ad A px) args s mc (6 * mc) A) (hr : meth.sig.returnType = some .long) (hlk : meth.locks = false) (d : decode cc pc = .ok (.lreturn, 1)) (hn0 : n0 ≤ mc ∧ s0 ≤ 6 * mc) (h32 : In64 z) (hI : Iw M) (hp : post z M) : Z D cy ad p l e R s m args below meth c A nL n0 s0 Q pc ls [ll z] M := by
  intro H locs la hP hD hS hl
  rw [hQ]
  refine vx_ret ?_
  refine W.widen hn0.1 hn0.2 ?_
  exact W.lret F.x F.b hr (fun t ht _ => ⟨⟨Int64.ofInt z, M, rfl, ⟨z, rfl, h32, hI, hp⟩, by show va_P D vwCl (wld ad cy M) t.heap; rw [ht]; exact hP, hD⟩, hS.F ht⟩) hS.2.2 d hlk
theorem enx_l {post : Int → Mem → Prop} {px : String → Mem → Prop} (hy : plainName y.cls = true) (hav : ∀ ad, (lg_sl (av ad)).length ≤ mL)
    (body : ∀ (D : va_G) (cy : Nat → ClassId) (ad : Nat → Nat) (A : Nat → Prop) (p : Program) (e : Env) (s : State) (m : MethodId) (args : Array Value) (below : List Frame) (meth : Method) (c : Code) (Q : State → Prop), FxM D cy ad p m c cb mL s args y.cls A → Q = vx_MQ below (va_Ql (QL post) (PostM D cy ad A) A) (XM D cy ad A px) args s mc (6 * mc) A → meth.sig.returnType = some .long → meth.locks = false → (∀ x ∈ c.exceptionTable.toList, False) →
      Z D cy ad p l e (RMx h mc) s m args below meth c A mL 0 0 Q 0 (lv_args 0 (av ad)) [] M) : CLX l y cb mL (some .long) h mc av M post px := by
  intro D cy ad sz
  refine vx_ofW (cc := cb) (maxL := mL) (ret := some .long) hy rfl ?_
  intro p e s m args below meth c s₁ B hml hex hv
  obtain ⟨rfl, ⟨hsz, hP, hK, hD0, hG, hZ⟩, hSA⟩ := hv
  rw [lg_entry_eq]
  have hl := lv_entry (av ad) (n := mL) (hav ad)
  generalize (lg_sl (av ad) ++ List.replicate (mL - (lg_sl (av ad)).length) Slot.unset).toArray = la at hl ⊢
  have hts : ∀ w ∈ gtbl, w.before (av ad).toArray s = true := fun w hw => atoms_spec (ws := Cond.code y cb mL (some .long) :: gtbl) B.pre w (List.mem_cons_of_mem _ hw)
  have F : FxM D cy ad p m c cb mL s (av ad).toArray y.cls (va_A (wld ad cy M) sz) := ⟨⟨⟨B.exec, B.bytes, hml, findClass_of_methodNamed B.named, hts⟩, hK, hG, hZ, fun q h => Or.inr (by rw [← hsz]; exact h)⟩, hSA⟩
  exact body D cy ad (va_A (wld ad cy M) sz) p e s m _ below meth c _ F rfl B.returns B.notSynchronized hex s.heap [] la hP (hD0.self (sz := sz)) va_S.rf hl
theorem zxr_v {post : Mem → Prop} {px : String → Mem → Prop} {R : Room} (F : FxM D cy ad p m c cc nL s args own A) (hQ : Q = vx_MQ below (va_Qv (QV post) (PostM D cy ad A) A) (XM D cy ad A px) args s mc (6 * mc) A) (hr : meth.sig.returnType = none) (hlk : meth.locks = false) (d : decode cc pc = .ok (.return_, 1)) (hn0 : n0 ≤ mc ∧ s0 ≤ 6 * mc) (hI : Iw M) (hp : post M) : Z D cy ad p l e R s m args below meth c A nL n0 s0 Q pc ls [] M := by
  intro H locs la hP hD hS hl
  rw [hQ]
  refine vx_ret ?_
  refine W.widen hn0.1 hn0.2 ?_
  exact W.vret F.x F.b hr (fun t ht _ => ⟨⟨M, rfl, ⟨hI, hp⟩, by show va_P D vwCl (wld ad cy M) t.heap; rw [ht]; exact hP, hD⟩, hS.F ht⟩) hS.2.2 d hlk
theorem enx_v {post : Mem → Prop} {px : String → Mem → Prop} (hy : plainName y.cls = true) (hav : ∀ ad, (lg_sl (av ad)).length ≤ mL)
    (body : ∀ (D : va_G) (cy : Nat → ClassId) (ad : Nat → Nat) (A : Nat → Prop) (p : Program) (e : Env) (s : State) (m : MethodId) (args : Array Value) (below : List Frame) (meth : Method) (c : Code) (Q : State → Prop), FxM D cy ad p m c cb mL s args y.cls A → Q = vx_MQ below (va_Qv (QV post) (PostM D cy ad A) A) (XM D cy ad A px) args s mc (6 * mc) A → meth.sig.returnType = none → meth.locks = false → (∀ x ∈ c.exceptionTable.toList, False) →
      Z D cy ad p l e (RMx h mc) s m args below meth c A mL 0 0 Q 0 (lv_args 0 (av ad)) [] M) : CVX l y cb mL (none) h mc av M post px := by
  intro D cy ad sz
  refine vx_ofW (cc := cb) (maxL := mL) (ret := none) hy rfl ?_
  intro p e s m args below meth c s₁ B hml hex hv
  obtain ⟨rfl, ⟨hsz, hP, hK, hD0, hG, hZ⟩, hSA⟩ := hv
  rw [lg_entry_eq]
  have hl := lv_entry (av ad) (n := mL) (hav ad)
  generalize (lg_sl (av ad) ++ List.replicate (mL - (lg_sl (av ad)).length) Slot.unset).toArray = la at hl ⊢
  have hts : ∀ w ∈ gtbl, w.before (av ad).toArray s = true := fun w hw => atoms_spec (ws := Cond.code y cb mL (none) :: gtbl) B.pre w (List.mem_cons_of_mem _ hw)
  have F : FxM D cy ad p m c cb mL s (av ad).toArray y.cls (va_A (wld ad cy M) sz) := ⟨⟨⟨B.exec, B.bytes, hml, findClass_of_methodNamed B.named, hts⟩, hK, hG, hZ, fun q h => Or.inr (by rw [← hsz]; exact h)⟩, hSA⟩
  exact body D cy ad (va_A (wld ad cy M) sz) p e s m _ below meth c _ F rfl B.returns B.notSynchronized hex s.heap [] la hP (hD0.self (sz := sz)) va_S.rf hl
theorem vx_callr {R : Room} {H : Heap} {H0 : Heap} {A0 A1 : Nat → Prop} {locs : List Loc} {cells slots mc ms : Nat} {a : Array Value} {free : Addr → Prop} {la : Array Slot} {st0 : List Value} {S SX : Type} {post : S → Prop} {px : SX → Prop} {B : S → Nat → State → Prop} {BX : String → SX → State → Prop} {AX : Nat → Prop} (hr : vx_Run p l e R s m args below meth c H locs cells slots mc ms (F0 m pc la st0) rest (va_Qr post B A1 a) (vx_X px BX AX) free) (hS : va_S A0 H0 H locs) (hA : ∀ q, q < H.size → A1 q → A0 q) (hf : ∀ q, free q → A0 q) (hAX : ∀ q, q < H.size → AX q → A0 q)
    (kx : ∀ (E : String) (ce : Cell) (q9 : Addr) (u : SX) (t : State) (H1 : Heap) (locs1 : List Loc), t.heap = H1 → s.vm.Alike t.vm → px u → BX E u t → H.size ≤ H1.size → (∀ q : Nat, q < H.size → ¬ AX q → H1[q]? = H[q]?) → va_S A0 H0 H1 locs1 → H1[q9]? = some ce → ce.vm = .none → s.vm.findClass E = some ce.cls → vx_W p l e R s m args below meth c H1 locs1 (cells + mc) (slots + ms) Q (F0 m pc la rest) q9)
    (kk : ∀ (u : S) (r : Nat) (t : State) (H1 : Heap) (locs1 : List Loc), t.heap = H1 → s.vm.Alike t.vm → post u → B u r t → H.size ≤ H1.size → (∀ q : Nat, q < H.size → ¬ A1 q → H1[q]? = H[q]?) → va_S A0 H0 H1 locs1 → W p l e R s m args below meth c H1 locs1 (cells + mc) (slots + ms) Q (F0 m (pc + 3) la (.ref r :: rest))) : W p l e R s m args below meth c H locs cells slots Q (F0 m pc la st0) := by
  intro T hT X
  rcases hr T hT X with ⟨v, st₀, t, T', L, h0, X', hL, e1, e2, ⟨⟨u, r, hv, hp, hb⟩, hF⟩, st⟩ | ⟨q, st₀, t, T', L, E, ce, h0, X', hL, e1, e2, ⟨u, hp, hb, hF⟩, hce, hcv, hcl, st⟩
  · cases hv
    obtain ⟨k1, k2, k3⟩ := vx_keep h0 e1 hS hA hf hL hF
    obtain ⟨t2, a1, b1⟩ := kk u r t T'.heap (locs ++ L) e1.symm (by rw [← e2]; exact X'.warmed.alike) hp hb k1 k2 k3 T' rfl X'
    exact ⟨t2, st t2 a1, b1⟩
  · obtain ⟨k1, k2, k3⟩ := vx_keep h0 e1 hS hAX hf hL hF
    obtain ⟨t2, a1, b1⟩ := kx E ce q u t T'.heap (locs ++ L) e1.symm (by rw [← e2]; exact X'.warmed.alike) hp hb k1 k2 k3 (by rw [e1]; exact hce) hcv hcl T' rfl X'
    exact ⟨t2, st.trans a1, b1⟩
theorem zy_r {post : Mem → Prop} {px : String → Mem → Prop} {C : String} {T : u_T} {N ci index k k2 n mc' : Nat} {fk : List (Option Nat)} {As : List Value} (F : FxM D cy ad p m c cc nL s args own A) (hM : CRX l y cb mL rt h' mc' av M k2 post px) (hg : GoodIn gtbl (wsV own index C y (Cond.code y cb mL rt :: gtbl)) ∧ y.cls = C ∧ y.cls ≠ "java/lang/invoke/MethodHandle" ∧ y.cls ≠ "java/lang/invoke/VarHandle" ∧ (parseMethodDescriptor y.desc).map (fun d => d.parameters.length) = some n) (hcl' : vwCl[ci]? = some (C, T, N))
    (hG : Gs[k]? = some (.inl (ci, fk))) (hh : h' + 1 ≤ h) (hm : mL ≤ 21) (hn0 : n0 + mc' ≤ mc ∧ s0 + 6 * mc' ≤ 6 * mc) (hav : av ad = .ref (ad k) :: As) (hn : As.length = n) (hst : st = As.reverse ++ .ref (ad k) :: rest) (hw : (rest.map fun v => v.category).sum ≤ 8) (dg : decode cc pc = .ok (.invokevirtual index, 3))
    (kx : ∀ (E : String) (M' : Mem), Iw M' → px E M' → ZX D cy ad p l e (RMx h mc) s m args below meth c A nL (n0 + mc') (s0 + 6 * mc') Q pc ls rest E M') (kk : ∀ (M' : Mem), Iw M' → post M' → Z D cy ad p l e (RMx h mc) s m args below meth c A nL (n0 + mc') (s0 + 6 * mc') Q (pc + 3) ls (.ref (ad k2) :: rest) M') : Z D cy ad p l e (RMx h mc) s m args below meth c A nL n0 s0 Q (pc) (ls) (st) (M) := by
  intro H locs la hP hD hS hl
  have hM' := hM D cy ad H.size
  rw [hav] at hM'
  have pr := pre_cm (av := .ref (ad k) :: As) F hP hD hS
  refine vx_callr (vx_runV (As := As) (rest := rest) F.1.1 hM' (cwV n (fun w h => F.t h) hg.1 rfl rfl rfl hg.2 (room_xx hh hm)) ⟨pr.1, va_recv F.K hP hcl' (wld_get hG), pr.2⟩ rfl hn hl.1 hst (lv_room hw) dg ⟨hn0.1, hn0.2⟩) hS (fun q _ h => free_cm F hD hS q h) (free_cm F hD hS) (fun q _ h => free_cm F hD hS q h) (fun E ce q9 u t H1 locs1 ht hvm hp hE hz hk hS1 he hv hcl => by
    obtain ⟨rfl, hP1, hD1⟩ := hE
    rw [ht] at hP1
    exact kx u.1 u.2 hp.1 hp.2 H1 locs1 la ce q9 hP1 (hD1.weaken (fun _ _ _ h => free_cm F hD hS _ h)) hS1 hl he hv hcl) (fun u r t H1 locs1 ht hvm hw hB hz hk hS1 => ?_)
  obtain ⟨rfl, hP1, hD1⟩ := hB
  rw [ht] at hP1
  exact kk u hw.1 hw.2 H1 locs1 la hP1 (hD1.weaken (fun _ _ _ h => free_cm F hD hS _ h)) hS1 hl
theorem zxr_r {post : Mem → Prop} {px : String → Mem → Prop} {R : Room} {k : Nat} {ty : FieldType} (F : FxM D cy ad p m c cc nL s args own A) (hQ : Q = vx_MQ below (va_Qr (QV post) (fun M' a t => a = ad k ∧ PostM D cy ad A M' t) A) (XM D cy ad A px) args s mc (6 * mc) A) (hr : meth.sig.returnType = some ty) (hrk : (∃ n, ty = .object n) ∨ ∃ t, ty = .array t) (hlk : meth.locks = false) (d : decode cc pc = .ok (.areturn, 1)) (hn0 : n0 ≤ mc ∧ s0 ≤ 6 * mc) (hI : Iw M) (hp : post M) : Z D cy ad p l e R s m args below meth c A nL n0 s0 Q pc ls [.ref (ad k)] M := by
  intro H locs la hP hD hS hl
  rw [hQ]
  refine vx_ret ?_
  refine W.widen hn0.1 hn0.2 ?_
  exact W.aret F.x F.b hr hrk (Or.inr ⟨_, rfl⟩) (fun t ht _ => ⟨⟨M, ad k, rfl, ⟨hI, hp⟩, rfl, by show va_P D vwCl (wld ad cy M) t.heap; rw [ht]; exact hP, hD⟩, hS.F ht⟩) hS.2.2 d hlk
theorem enx_r {post : Mem → Prop} {px : String → Mem → Prop} {k : Nat} {ty : FieldType} (hy : plainName y.cls = true) (hav : ∀ ad, (lg_sl (av ad)).length ≤ mL)
    (body : ∀ (D : va_G) (cy : Nat → ClassId) (ad : Nat → Nat) (A : Nat → Prop) (p : Program) (e : Env) (s : State) (m : MethodId) (args : Array Value) (below : List Frame) (meth : Method) (c : Code) (Q : State → Prop), FxM D cy ad p m c cb mL s args y.cls A → Q = vx_MQ below (va_Qr (QV post) (fun M' a t => a = ad k ∧ PostM D cy ad A M' t) A) (XM D cy ad A px) args s mc (6 * mc) A → meth.sig.returnType = some ty → meth.locks = false → (∀ x ∈ c.exceptionTable.toList, False) →
      Z D cy ad p l e (RMx h mc) s m args below meth c A mL 0 0 Q 0 (lv_args 0 (av ad)) [] M) : CRX l y cb mL (some ty) h mc av M k post px := by
  intro D cy ad sz
  refine vx_ofW (cc := cb) (maxL := mL) (ret := some ty) hy rfl ?_
  intro p e s m args below meth c s₁ B hml hex hv
  obtain ⟨rfl, ⟨hsz, hP, hK, hD0, hG, hZ⟩, hSA⟩ := hv
  rw [lg_entry_eq]
  have hl := lv_entry (av ad) (n := mL) (hav ad)
  generalize (lg_sl (av ad) ++ List.replicate (mL - (lg_sl (av ad)).length) Slot.unset).toArray = la at hl ⊢
  have hts : ∀ w ∈ gtbl, w.before (av ad).toArray s = true := fun w hw => atoms_spec (ws := Cond.code y cb mL (some ty) :: gtbl) B.pre w (List.mem_cons_of_mem _ hw)
  have F : FxM D cy ad p m c cb mL s (av ad).toArray y.cls (va_A (wld ad cy M) sz) := ⟨⟨⟨B.exec, B.bytes, hml, findClass_of_methodNamed B.named, hts⟩, hK, hG, hZ, fun q h => Or.inr (by rw [← hsz]; exact h)⟩, hSA⟩
  exact body D cy ad (va_A (wld ad cy M) sz) p e s m _ below meth c _ F rfl B.returns B.notSynchronized hex s.heap [] la hP (hD0.self (sz := sz)) va_S.rf hl
theorem z_maxX {x y : Int} {index : Nat} (F : FxM D cy ad p m c cc nL s args own A) (hg : Cond.methodLink own index Lib.Math.max.name ∈ gtbl ∧ Cond.static Lib.Math.max.name ∈ gtbl ∧ Cond.initialized "java/lang/Math" ∈ gtbl ∧ Cond.code Lib.Math.max.name Lib.Math.max.code 2 (some .int) ∈ gtbl) (hw : (rest.map fun v => v.category).sum ≤ 8) (dg : decode cc pc = .ok (.invokestatic index, 3)) (hn0 : n0 ≤ mc ∧ s0 ≤ 6 * mc) (hx : In32 x) (hy : In32 y)
    (kk : ∀ z : Int, (z = y ∧ x < y) ∨ (z = x ∧ y ≤ x) → Z D cy ad p l e (RMx h mc) s m args below meth c A nL n0 s0 Q (pc + 3) (ls) (ii z :: rest) (M)) : Z D cy ad p l e (RMx h mc) s m args below meth c A nL n0 s0 Q (pc) (ls) (ii y :: ii x :: rest) (M) := by
  intro H locs la hP hD hS hl
  refine va_mmax F.x F.b (F.ml.trans hl.1.symm) F.o (F.t hg.1) (F.t hg.2.1) (F.t hg.2.2.1) (F.t hg.2.2.2) (by show 1 ≤ 8 + h; omega) (by show _ + 13 ≤ 120 + 40 * h; omega) hn0.1 hn0.2 dg ?_
  by_cases q : x < y
  · rw [if_pos ((lt32 hx hy).mpr q)]; exact kk y (Or.inl ⟨rfl, q⟩) H locs la hP hD hS hl
  · rw [if_neg (fun r => q ((lt32 hx hy).mp r))]; exact kk x (Or.inr ⟨rfl, Int.not_lt.mp q⟩) H locs la hP hD hS hl
theorem z_minX {x y : Int} {index : Nat} (F : FxM D cy ad p m c cc nL s args own A) (hg : Cond.methodLink own index Lib.Math.min.name ∈ gtbl ∧ Cond.static Lib.Math.min.name ∈ gtbl ∧ Cond.initialized "java/lang/Math" ∈ gtbl ∧ Cond.code Lib.Math.min.name Lib.Math.min.code 2 (some .int) ∈ gtbl) (hw : (rest.map fun v => v.category).sum ≤ 8) (dg : decode cc pc = .ok (.invokestatic index, 3)) (hn0 : n0 ≤ mc ∧ s0 ≤ 6 * mc) (hx : In32 x) (hy : In32 y)
    (kk : ∀ z : Int, (z = y ∧ y < x) ∨ (z = x ∧ x ≤ y) → Z D cy ad p l e (RMx h mc) s m args below meth c A nL n0 s0 Q (pc + 3) (ls) (ii z :: rest) (M)) : Z D cy ad p l e (RMx h mc) s m args below meth c A nL n0 s0 Q (pc) (ls) (ii y :: ii x :: rest) (M) := by
  intro H locs la hP hD hS hl
  refine va_mmin F.x F.b (F.ml.trans hl.1.symm) F.o (F.t hg.1) (F.t hg.2.1) (F.t hg.2.2.1) (F.t hg.2.2.2) (by show 1 ≤ 8 + h; omega) (by show _ + 13 ≤ 120 + 40 * h; omega) hn0.1 hn0.2 dg ?_
  by_cases q : y < x
  · rw [if_pos ((lt32 hy hx).mpr q)]; exact kk y (Or.inl ⟨rfl, q⟩) H locs la hP hD hS hl
  · rw [if_neg (fun r => q ((lt32 hy hx).mp r))]; exact kk x (Or.inr ⟨rfl, Int.not_lt.mp q⟩) H locs la hP hD hS hl
/-- it goes on to the caller -/
theorem zx_out {Qc : Array Value → State → Outcome → State → Prop} {px : String → Mem → Prop} {R : Room} {E : String} (hQ : Q = vx_MQ below Qc (XM D cy ad A px) args s mc (6 * mc) A) (hlk : meth.locks = false) (hex : ∀ x ∈ c.exceptionTable.toList, False) (hn0 : n0 ≤ mc ∧ s0 ≤ 6 * mc) (hI : Iw M) (hp : px E M) : ZX D cy ad p l e R s m args below meth c A nL n0 s0 Q pc ls st E M := by
  intro H locs la ce q9 hP hD hS hl he hv hcl
  rw [hQ]
  exact vx_out (fun x hx => (hex x hx).elim) hlk he hv hcl (fun t ht _ => ⟨(E, M), ⟨hI, hp⟩, ⟨rfl, by show va_P D vwCl (wld ad cy M) t.heap; rw [ht]; exact hP, hD⟩, hS.F ht⟩) hS.2.2 hn0.1 hn0.2
theorem xm_of {px : String → Mem → Prop} {E : String} {H : Heap} {locs : List Loc} (hI : Iw M) (hp : px E M) (hP : va_P D vwCl (wld ad cy M) H) (hD : va_D A (wld ad cy M)) (hS : va_S A s.heap H locs) : ∀ t : State, s.vm.Alike t.vm → H.size ≤ t.heap.size → (∀ q : Nat, q < H.size → t.heap[q]? = H[q]?) → XM D cy ad A px E s t := fun t hvm hz hk =>
  ⟨(E, M), ⟨hI, hp⟩, ⟨rfl, hP.kept (fun k x hx => hk x.1 ((hP k x hx).lt)), hD⟩, ⟨Nat.le_trans hS.1 hz, fun q h1 h2 => (hk q (Nat.lt_of_lt_of_le h1 hS.1)).trans (hS.2.1 q h1 h2)⟩⟩
theorem z_thrS {Qc : Array Value → State → Outcome → State → Prop} {px : String → Mem → Prop} {cls : String} {names : List String} {ik is ic j : Nat} {q : String × Nat × String} (F : FxM D cy ad p m c cc nL s args own A) (hlT : l.stackTraces = false) (hQ : Q = vx_MQ below Qc (XM D cy ad A px) args s mc (6 * mc) A) (hlk : meth.locks = false) (hex : ∀ x ∈ c.exceptionTable.toList, False) (hcls : Bundle.fit cls = true) (hnames : ∀ n ∈ names, Bundle.fit n = true) (hnl : names.length ≤ 2) 
    (hk : Cond.classLink own ik cls ∈ gtbl) (hini : Cond.initialized cls ∈ gtbl) (hat : ∀ w ∈ (vx_atS own ic cls names).filter goodWord, w ∈ gtbl) (hbad : ∀ w ∈ (vx_atS own ic cls names).filter (fun w => !goodWord w), w ∈ ([.castable cls cls, .declares (Bundle.initS "java/lang/RuntimeException"), .declares (Bundle.initS "java/lang/Exception"), .declares (Bundle.initS "java/lang/Throwable")] : List Cond)) (hE : cls ∈ excs) (hot : ∀ w ∈ Cond.classLink own ik cls :: Cond.initialized cls :: vx_atS own ic cls names, vx_ot w = true)
    (hq : strs[j]? = some q) (hq1 : q.1 = own) (hq2 : q.2.1 = is) (d0 : decode cc pc = .ok (.new ik, 3)) (d3 : decode cc (pc + 3) = .ok (.dup, 1)) (d4 : decode cc (pc + 4) = .ok (.ldc is, 2)) (d6 : decode cc (pc + 6) = .ok (.invokespecial ic, 3)) (d9 : decode cc (pc + 9) = .ok (.athrow, 1)) (hn0 : n0 + 1 ≤ mc ∧ s0 + 6 ≤ 6 * mc) (hw : (rest.map fun v => v.category).sum ≤ 8) (hI : Iw M) (hp : px cls M) : Z D cy ad p l e (RMx h mc) s m args below meth c A nL n0 s0 Q (pc) (ls) (rest) (M) := by
  intro H locs la hP hD hS hl
  have hstr := F.2.1 j q hq
  rw [hq1, hq2] at hstr
  have hG := F.g
  have hZ := F.1.2.2.2.1
  rw [hQ]
  exact vx_throwS (A := A) F.x F.b hlT F.o hcls hnames (F.t hk) (F.t hini) hstr (vx_hat (fun w h => F.t (hat w h)) hbad (vx_c (va_Nw.use rfl (hG.2.2.2.2.1 _ hE)) (vx_c (va_Nw.use rfl (hG.2.2.2.2.2.1 _ (by decide +kernel))) (vx_c (va_Nw.use rfl (hG.2.2.2.2.2.1 _ (by decide +kernel))) (vx_c (va_Nw.use rfl (hG.2.2.2.2.2.1 _ (by decide +kernel))) vx_n))))) hot hZ.1 hZ.2 hS (hl.1.trans F.ml.symm) d0 d3 d4 d6 d9 (fun x hx => (hex x hx).elim) (by show names.length + 3 < 8 + h; omega) (by show _ + (13 * (names.length + 1) + 43) ≤ 120 + 40 * h; omega) hn0.1 hn0.2 hlk (xm_of hI hp hP hD hS) hS.2.2 hn0.1 hn0.2
theorem z_thrSW {Qc : Array Value → State → Outcome → State → Prop} {px : String → Mem → Prop} {cls : String} {names : List String} {ik is ic j : Nat} {q : String × Nat × String} (F : FxM D cy ad p m c cc nL s args own A) (hlT : l.stackTraces = false) (hQ : Q = vx_MQ below Qc (XM D cy ad A px) args s mc (6 * mc) A) (hlk : meth.locks = false) (hex : ∀ x ∈ c.exceptionTable.toList, False) (hcls : Bundle.fit cls = true) (hnames : ∀ n ∈ names, Bundle.fit n = true) (hnl : names.length ≤ 2) 
    (hk : Cond.classLink own ik cls ∈ gtbl) (hini : Cond.initialized cls ∈ gtbl) (hat : ∀ w ∈ (vx_atS own ic cls names).filter goodWord, w ∈ gtbl) (hbad : ∀ w ∈ (vx_atS own ic cls names).filter (fun w => !goodWord w), w ∈ ([.castable cls cls, .declares (Bundle.initS "java/lang/RuntimeException"), .declares (Bundle.initS "java/lang/Exception"), .declares (Bundle.initS "java/lang/Throwable")] : List Cond)) (hE : cls ∈ excs) (hot : ∀ w ∈ Cond.classLink own ik cls :: Cond.initialized cls :: vx_atS own ic cls names, vx_ot w = true)
    (hq : strs[j]? = some q) (hq1 : q.1 = own) (hq2 : q.2.1 = is) (d0 : decode cc pc = .ok (.new ik, 3)) (d3 : decode cc (pc + 3) = .ok (.dup, 1)) (d4 : decode cc (pc + 4) = .ok (.ldc_w is, 3)) (d6 : decode cc (pc + 7) = .ok (.invokespecial ic, 3)) (d9 : decode cc (pc + 10) = .ok (.athrow, 1)) (hn0 : n0 + 1 ≤ mc ∧ s0 + 6 ≤ 6 * mc) (hw : (rest.map fun v => v.category).sum ≤ 8) (hI : Iw M) (hp : px cls M) : Z D cy ad p l e (RMx h mc) s m args below meth c A nL n0 s0 Q (pc) (ls) (rest) (M) := by
  intro H locs la hP hD hS hl
  have hstr := F.2.1 j q hq
  rw [hq1, hq2] at hstr
  have hG := F.g
  have hZ := F.1.2.2.2.1
  rw [hQ]
  exact vx_throwSW (A := A) F.x F.b hlT F.o hcls hnames (F.t hk) (F.t hini) hstr (vx_hat (fun w h => F.t (hat w h)) hbad (vx_c (va_Nw.use rfl (hG.2.2.2.2.1 _ hE)) (vx_c (va_Nw.use rfl (hG.2.2.2.2.2.1 _ (by decide +kernel))) (vx_c (va_Nw.use rfl (hG.2.2.2.2.2.1 _ (by decide +kernel))) (vx_c (va_Nw.use rfl (hG.2.2.2.2.2.1 _ (by decide +kernel))) vx_n))))) hot hZ.1 hZ.2 hS (hl.1.trans F.ml.symm) d0 d3 d4 d6 d9 (fun x hx => (hex x hx).elim) (by show names.length + 3 < 8 + h; omega) (by show _ + (13 * (names.length + 1) + 43) ≤ 120 + 40 * h; omega) hn0.1 hn0.2 hlk (xm_of hI hp hP hD hS) hS.2.2 hn0.1 hn0.2
theorem z_thrN {Qc : Array Value → State → Outcome → State → Prop} {px : String → Mem → Prop} {ik is ic j : Nat} {q : String × Nat × String} (F : FxM D cy ad p m c cc nL s args own A) (hlT : l.stackTraces = false) (hQ : Q = vx_MQ below Qc (XM D cy ad A px) args s mc (6 * mc) A) (hlk : meth.locks = false) (hex : ∀ x ∈ c.exceptionTable.toList, False) 
    (hk : Cond.classLink own ik nsX ∈ gtbl) (hini : Cond.initialized nsX ∈ gtbl) (hat : ∀ w ∈ (vx_atN own ic).filter goodWord, w ∈ gtbl) (hbad : ∀ w ∈ (vx_atN own ic).filter (fun w => !goodWord w), w ∈ ([.castable nsX nsX, .declares (Bundle.initS "java/lang/RuntimeException"), .declares (Bundle.initS "java/lang/Exception"), .declares (Bundle.initS "java/lang/Throwable")] : List Cond)) (hE : nsX ∈ excs) (hot : ∀ w ∈ Cond.classLink own ik nsX :: Cond.initialized nsX :: vx_atN own ic, vx_ot w = true)
    (hq : strs[j]? = some q) (hq1 : q.1 = own) (hq2 : q.2.1 = is) (d0 : decode cc pc = .ok (.new ik, 3)) (d3 : decode cc (pc + 3) = .ok (.dup, 1)) (d4 : decode cc (pc + 4) = .ok (.ldc is, 2)) (d6 : decode cc (pc + 6) = .ok (.invokespecial ic, 3)) (d9 : decode cc (pc + 9) = .ok (.athrow, 1)) (hn0 : n0 + 1 ≤ mc ∧ s0 + 6 ≤ 6 * mc) (hw : (rest.map fun v => v.category).sum ≤ 8) (hI : Iw M) (hp : px nsX M) : Z D cy ad p l e (RMx h mc) s m args below meth c A nL n0 s0 Q (pc) (ls) (rest) (M) := by
  intro H locs la hP hD hS hl
  have hstr := F.2.1 j q hq
  rw [hq1, hq2] at hstr
  have hG := F.g
  have hZ := F.1.2.2.2.1
  rw [hQ]
  exact vx_throwN (A := A) F.x F.b hlT F.o (F.t hk) (F.t hini) hstr (vx_hat (fun w h => F.t (hat w h)) hbad (vx_c (va_Nw.use rfl (hG.2.2.2.2.1 _ hE)) (vx_c (va_Nw.use rfl (hG.2.2.2.2.2.1 _ (by decide +kernel))) (vx_c (va_Nw.use rfl (hG.2.2.2.2.2.1 _ (by decide +kernel))) (vx_c (va_Nw.use rfl (hG.2.2.2.2.2.1 _ (by decide +kernel))) vx_n))))) hot hZ.1 hZ.2 hS (hl.1.trans F.ml.symm) d0 d3 d4 d6 d9 (fun x hx => (hex x hx).elim) (by show 5 < 8 + h; omega) (by show _ + 82 ≤ 120 + 40 * h; omega) hn0.1 hn0.2 hlk (xm_of hI hp hP hD hS) hS.2.2 hn0.1 hn0.2
theorem z_thrNW {Qc : Array Value → State → Outcome → State → Prop} {px : String → Mem → Prop} {ik is ic j : Nat} {q : String × Nat × String} (F : FxM D cy ad p m c cc nL s args own A) (hlT : l.stackTraces = false) (hQ : Q = vx_MQ below Qc (XM D cy ad A px) args s mc (6 * mc) A) (hlk : meth.locks = false) (hex : ∀ x ∈ c.exceptionTable.toList, False) 
    (hk : Cond.classLink own ik nsX ∈ gtbl) (hini : Cond.initialized nsX ∈ gtbl) (hat : ∀ w ∈ (vx_atN own ic).filter goodWord, w ∈ gtbl) (hbad : ∀ w ∈ (vx_atN own ic).filter (fun w => !goodWord w), w ∈ ([.castable nsX nsX, .declares (Bundle.initS "java/lang/RuntimeException"), .declares (Bundle.initS "java/lang/Exception"), .declares (Bundle.initS "java/lang/Throwable")] : List Cond)) (hE : nsX ∈ excs) (hot : ∀ w ∈ Cond.classLink own ik nsX :: Cond.initialized nsX :: vx_atN own ic, vx_ot w = true)
    (hq : strs[j]? = some q) (hq1 : q.1 = own) (hq2 : q.2.1 = is) (d0 : decode cc pc = .ok (.new ik, 3)) (d3 : decode cc (pc + 3) = .ok (.dup, 1)) (d4 : decode cc (pc + 4) = .ok (.ldc_w is, 3)) (d6 : decode cc (pc + 7) = .ok (.invokespecial ic, 3)) (d9 : decode cc (pc + 10) = .ok (.athrow, 1)) (hn0 : n0 + 1 ≤ mc ∧ s0 + 6 ≤ 6 * mc) (hw : (rest.map fun v => v.category).sum ≤ 8) (hI : Iw M) (hp : px nsX M) : Z D cy ad p l e (RMx h mc) s m args below meth c A nL n0 s0 Q (pc) (ls) (rest) (M) := by
  intro H locs la hP hD hS hl
  have hstr := F.2.1 j q hq
  rw [hq1, hq2] at hstr
  have hG := F.g
  have hZ := F.1.2.2.2.1
  rw [hQ]
  exact vx_throwNW (A := A) F.x F.b hlT F.o (F.t hk) (F.t hini) hstr (vx_hat (fun w h => F.t (hat w h)) hbad (vx_c (va_Nw.use rfl (hG.2.2.2.2.1 _ hE)) (vx_c (va_Nw.use rfl (hG.2.2.2.2.2.1 _ (by decide +kernel))) (vx_c (va_Nw.use rfl (hG.2.2.2.2.2.1 _ (by decide +kernel))) (vx_c (va_Nw.use rfl (hG.2.2.2.2.2.1 _ (by decide +kernel))) vx_n))))) hot hZ.1 hZ.2 hS (hl.1.trans F.ml.symm) d0 d3 d4 d6 d9 (fun x hx => (hex x hx).elim) (by show 5 < 8 + h; omega) (by show _ + 82 ≤ 120 + 40 * h; omega) hn0.1 hn0.2 hlk (xm_of hI hp hP hD hS) hS.2.2 hn0.1 hn0.2
end ROWSX
theorem Met_ofWF {l : Launch} {y : MethodName} {ws ws' : List Cond} {rm : Room} {Pc : Array Value → State → Prop} {Qc : Array Value → State → Outcome → State → Prop} {mc ms : Nat} {free : Addr → Prop} {cc : ByteArray} {maxL : Nat} {ret : Option FieldType}
    (hy : plainFor y = true) (hw : ws = Cond.code y cc maxL ret :: ws')
    (body : ∀ p e s m args below meth c s₁, BodyLoose p l y (headSpec ws rm) cc maxL ret e s m args below meth c s₁ → c.maxLocals = maxL → Pc args s →
      W p l e (headSpec ws rm).room s m args below meth c s.heap [] 0 0 (MQ below Qc args s mc ms free) (entryFrame m args maxL)) : Met l y ws rm Pc Qc mc ms free := by
  refine MetFree.of_bodySF (code := cc) (maxLocals := maxL) (ret := ret) hy ?_ ?_
  · intro args s m h hn
    obtain ⟨meth, c, h1, h2, h3, h4, h5, h6, -, -⟩ := Cond.code_spec hn (atoms_spec (ws := ws) h _ (by rw [hw]; exact List.mem_cons_self))
    exact ⟨meth, c, h1, h2, h3, h4, h5, h6⟩
  · intro p e s m args below meth c s₁ B hml hP _
    have hh0 : s₁.heap = s.heap := by rw [B.state]; rfl
    obtain ⟨t, a1, o, b1, b2, b3⟩ := body p e s m args below meth c s₁ B hml hP s₁ hh0 (Stand.of_body B)
    exact ⟨t, o, a1, b1, b2, ⟨b3.1, b3.2⟩⟩
theorem en_iF {l : Launch} {y : MethodName} {cb : ByteArray} {mL h : Nat} {av : (Nat → Nat) → List Value} {M : Mem} {post : Int → Mem → Prop} (hy : plainFor y = true) (hav : ∀ ad, (lg_sl (av ad)).length ≤ mL)
    (body : ∀ (D : va_G) (cy : Nat → ClassId) (ad : Nat → Nat) (A : Nat → Prop) (p : Program) (e : Env) (s : State) (m : MethodId) (args : Array Value) (below : List Frame) (meth : Method) (c : Code) (Q : State → Prop), FxM D cy ad p m c cb mL s args y.cls A →
      (∀ (z : Int) (M : Mem) (pc : Nat) (ls : List (Nat × Value)), In32 z → Iw M → post z M → decode cb pc = .ok (.ireturn, 1) → Z D cy ad p l e (RMh h) s m args below meth c A mL 0 0 Q pc ls [ii z] M) →
      Z D cy ad p l e (RMh h) s m args below meth c A mL 0 0 Q 0 (lv_args 0 (av ad)) [] M) : CI l y cb mL (some .int) h av M post := by
  intro D cy ad sz
  refine Met_ofWF (cc := cb) (maxL := mL) (ret := some .int) hy rfl ?_
  intro p e s m args below meth c s₁ B hml hv
  obtain ⟨rfl, ⟨hsz, hP, hK, hD0, hG, hZ⟩, hSA⟩ := hv
  rw [lg_entry_eq]
  have hl := lv_entry (av ad) (n := mL) (hav ad)
  generalize (lg_sl (av ad) ++ List.replicate (mL - (lg_sl (av ad)).length) Slot.unset).toArray = la at hl ⊢
  have hts : ∀ w ∈ gtbl, w.before (av ad).toArray s = true := fun w hw => atoms_spec (ws := Cond.code y cb mL (some .int) :: gtbl) B.pre w (List.mem_cons_of_mem _ hw)
  have F : FxM D cy ad p m c cb mL s (av ad).toArray y.cls (va_A (wld ad cy M) sz) := ⟨⟨⟨B.exec, B.bytes, hml, findClass_of_methodNamed B.named, hts⟩, hK, hG, hZ, fun q h => Or.inr (by rw [← hsz]; exact h)⟩, hSA⟩
  refine body D cy ad (va_A (wld ad cy M) sz) p e s m _ below meth c _ F ?_ s.heap [] la hP (hD0.self (sz := sz)) va_S.rf hl
  intro z M pc ls h32 hI hp d H locs la hP hD hS hl
  exact W.iret F.x F.b B.returns (fun t ht _ => ⟨⟨Int32.ofInt z, M, rfl, ⟨z, rfl, h32, hI, hp⟩, by show va_P D vwCl (wld ad cy M) t.heap; rw [ht]; exact hP, hD⟩, hS.F ht⟩) hS.2.2 d B.notSynchronized
theorem nar_zz {v : Int} (h0 : 0 ≤ v) (h1 : v ≤ 1) : vp_nar .boolean (Int32.ofInt v) = Int32.ofInt v := by
  have : v = 0 ∨ v = 1 := by omega
  rcases this with rfl | rfl <;> rfl
end SX
