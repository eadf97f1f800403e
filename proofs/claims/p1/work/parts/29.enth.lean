section XL
variable {p : Program} {l : Launch} {e : Env} {R : Room} {s : State} {m : MethodId} {args : Array Value} {below : List Frame} {meth : Method} {c : Code} {H : Heap} {locs : List Loc} {cells slots : Nat} {Q : State → Prop}
variable {D : va_G} {cy : Nat → ClassId} {cc : ByteArray} {nL : Nat} {Ts : List Cond} {own : String} {A : Nat → Prop} {W0 wc wr : va_W} {pc : Nat} {ls : Array Slot} {st rest : List Value} {mc ms : Nat}
theorem callx_l {av : List Value} {post : Int64 → va_W → Prop} {px : String → Prop} (F : Fx D cy p m c cc nL s args Ts own A) (hP : va_P D vwCl W0 H) (hD : va_D A W0) (hS : va_S A s.heap H locs) (wc wr : va_W) (isC isR : List Nat) (hC : isC.map (fun i => W0[i]?) = wc.map some) (hR : isR.map (fun i => W0[i]?) = wr.map some) (hn : va_nd (isC ++ isR) = true)
    (hr : PreS s H (va_Pc av (Pre D cy wc H.size)) av → vx_Run p l e R s m args below meth c H locs cells slots mc ms (F0 m pc ls st) rest (va_Ql post (Post D (va_A wc H.size)) (va_A wc H.size) av.toArray) (XP px (va_A wc H.size)) (va_A wc H.size))
    (kx : ∀ (E : String) (ce : Cell) (q9 : Addr) (H1 : Heap) (locs1 : List Loc), px E → va_P D vwCl wr H1 → va_D A wr → va_S A s.heap H1 locs1 → H1[q9]? = some ce → ce.vm = .none → s.vm.findClass E = some ce.cls → vx_W p l e R s m args below meth c H1 locs1 (cells + mc) (slots + ms) Q (F0 m pc ls rest) q9)
    (kk : ∀ (r : Int64) (u : va_W) (H1 : Heap) (locs1 : List Loc), post r u → va_P D vwCl (wr ++ u) H1 → va_D A (wr ++ u) → va_S A s.heap H1 locs1 → W p l e R s m args below meth c H1 locs1 (cells + mc) (slots + ms) Q (F0 m (pc + 3) ls (.long r :: rest))) : W p l e R s m args below meth c H locs cells slots Q (F0 m pc ls st) := by
  have hFc := va_free hD hS F.2.2.2.2 isC hC
  obtain ⟨h1, h2⟩ := nd_right hn
  refine vx_calll (hr (pre_call F hP hD hS isC (nd_left hn) hC)) hS (fun q _ h => hFc q h) hFc (fun q _ h => hFc q h) (fun E ce q9 u t H1 locs1 ht hvm hp hE hz hk hS1 he hv hcl => ?_) (fun r u t H1 locs1 ht hvm hw hB hz hk hS1 => ?_)
  · subst hE
    obtain ⟨g1, g2⟩ := va_join (w1 := []) hP hD isC isR hC hR h1 h2 hk hFc (fun k q hk => (by cases hk)) ⟨fun i j a b ha => (by cases ha), fun k q hk => (by cases hk)⟩
    rw [List.append_nil] at g1 g2
    exact kx _ ce q9 H1 locs1 hp g1 g2 hS1 he hv hcl
  · obtain ⟨hP1, hD1⟩ := hB
    rw [ht] at hP1
    obtain ⟨g1, g2⟩ := va_join hP hD isC isR hC hR h1 h2 hk hFc hP1 hD1
    exact kk r u H1 locs1 hw g1 g2 hS1
end XL
/-- a body with a table of handlers -/
theorem entH {l : Launch} {y : MethodName} {wy wy' : List Cond} {f n mc ms : Nat} {D : va_G} {cy : Nat → ClassId} {av : List Value} {ws : va_W} {sz : Nat} {Qc : (Nat → Prop) → Array Value → State → Outcome → State → Prop} {cc : ByteArray} {maxL : Nat} {ret : Option FieldType} {hh : List (Nat × Nat × Nat × Nat)}
    (hy : plainName y.cls = true) (hw : wy = Cond.codeWith y cc maxL ret hh :: wy') (hav : (lg_sl av).length ≤ maxL)
    (body : ∀ (A : Nat → Prop) (p : Program) (e : Env) (s : State) (m : MethodId) (below : List Frame) (meth : Method) (c : Code) (ls : Array Slot), Fx D cy p m c cc maxL s av.toArray wy y.cls A → meth.sig.returnType = ret → meth.locks = false → c.exceptionTable.toList = tableOf hh → va_P D vwCl ws s.heap → va_D A ws → lv_has ls maxL (lv_args 0 av) →
      W p l e (RM f n mc ms) s m av.toArray below meth c s.heap [] 0 0 (MQ below (Qc A) av.toArray s mc ms A) (F0 m 0 ls [])) : Met l y wy (RM f n mc ms) (va_Pc av (Pre D cy ws sz)) (Qc (va_A ws sz)) mc ms (va_A ws sz) := by
  refine MetFree.of_bodyS (code := cc) (maxLocals := maxL) (ret := ret) hy ?_ ?_
  · intro args s m h hn
    obtain ⟨m9, meth, c, hn9, h1, h2, h3, h4, -, h5, h6, -⟩ := Cond.codeWith_spec (atoms_spec (ws := wy) h _ (by rw [hw]; exact List.mem_cons_self))
    cases hn.symm.trans hn9
    exact ⟨meth, c, h1, h2, h3, h4, h5, h6⟩
  · intro p e s m args below meth c s₁ B hml hP0 _
    have hh0 : s₁.heap = s.heap := by rw [B.state]; rfl
    have hx := vx_table (x := y) B (atoms_spec (ws := wy) B.pre _ (by rw [hw]; exact List.mem_cons_self))
    obtain ⟨rfl, hsz, hP, hK, hD0, hG, hZ⟩ := hP0
    have hl := lv_entry av (n := maxL) hav
    have K : W p l e (RM f n mc ms) s m av.toArray below meth c s.heap [] 0 0 (MQ below (Qc (va_A ws sz)) av.toArray s mc ms (va_A ws sz)) (entryFrame m av.toArray maxL) := by
      rw [lg_entry_eq]
      exact body (va_A ws sz) p e s m below meth c _ ⟨⟨B.exec, B.bytes, hml, findClass_of_methodNamed B.named, atoms_spec (ws := wy) B.pre⟩, hK, hG, hZ, fun q h => Or.inr (by rw [← hsz]; exact h)⟩ B.returns B.notSynchronized hx hP (hD0.self (sz := sz)) hl
    obtain ⟨t, a1, o, b1, b2, b3⟩ := K s₁ hh0 (Stand.of_body B)
    exact ⟨t, o, a1, b1, b2, ⟨b3.1, b3.2⟩⟩
