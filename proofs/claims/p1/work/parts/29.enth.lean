/-- a body with a table of handlers -/
theorem entH {l : Launch} {y : MethodName} {wy wy' : List Cond} {f n mc ms : Nat} {D : va_G} {cy : Nat → ClassId} {av : List Value} {ws : va_W} {sz : Nat} {Qc : (Nat → Prop) → Array Value → State → Outcome → State → Prop} {cc : ByteArray} {maxL : Nat} {ret : Option FieldType} {hh : List (Nat × Nat × Nat × Nat)}
    (hy : plainName y.cls = true) (hw : wy = Cond.codeWith y cc maxL ret hh :: wy') (hav : (lg_sl av).length ≤ maxL)
    (body : ∀ (A : Nat → Prop) (p : Program) (e : Env) (s : State) (m : MethodId) (below : List Frame) (meth : Method) (c : Code) (ls : Array Slot), Fx D cy p m c cc maxL s av.toArray wy y.cls A → meth.sig.returnType = ret → meth.locks = false → c.exceptionTable.toList = tableOf hh → va_P D vwCl ws s.heap → va_D A ws → lv_has ls maxL (lv_args 0 av) →
      W p l e (RM f n mc ms) s m av.toArray below meth c s.heap [] 0 0 (MQ below (Qc A) av.toArray s mc ms A) (F0 m 0 ls [])) : Met l y wy (RM f n mc ms) (va_Pc av (Pre D cy ws sz)) (Qc (va_A ws sz)) mc ms (va_A ws sz) := by
  refine MetFree.of_bodyS (code := cc) (maxLocals := maxL) (ret := ret) hy ?_ ?_
  · intro args s m h hn
    obtain ⟨m9, meth, c, hn9, h1, h2, h3, h4, -, h5, h6, -⟩ := Cond.codeWith_spec (atoms_spec (ws := wy) h _ (by rw [hw]; exact List.mem_cons_self))
    cases hn.symm.trans hn9
    exact ⟨meth, c, h1, h2, h3, h4, h5, h6⟩
  · intro p e s m args below meth c s₁ B hml hP0 _
    have hh0 : s₁.heap = s.heap := by rw [B.state]; rfl
    have hx := vx_table (x := y) B (atoms_spec (ws := wy) B.pre _ (by rw [hw]; exact List.mem_cons_self))
    obtain ⟨rfl, hsz, hP, hK, hD0, hG, hZ⟩ := hP0
    have hl := lv_entry av (n := maxL) hav
    have K : W p l e (RM f n mc ms) s m av.toArray below meth c s.heap [] 0 0 (MQ below (Qc (va_A ws sz)) av.toArray s mc ms (va_A ws sz)) (entryFrame m av.toArray maxL) := by
      rw [lg_entry_eq]
      exact body (va_A ws sz) p e s m below meth c _ ⟨⟨B.exec, B.bytes, hml, findClass_of_methodNamed B.named, atoms_spec (ws := wy) B.pre⟩, hK, hG, hZ, fun q h => Or.inr (by rw [← hsz]; exact h)⟩ B.returns B.notSynchronized hx hP (hD0.self (sz := sz)) hl
    obtain ⟨t, a1, o, b1, b2, b3⟩ := K s₁ hh0 (Stand.of_body B)
    exact ⟨t, o, a1, b1, b2, ⟨b3.1, b3.2⟩⟩
