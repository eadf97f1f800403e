/-! ===== our own kit: one world, one shape of contract ===== -/
section KIT
/-- the array classes that are used, in fixed places -/
abbrev TY (cy : Nat → ClassId) : List (ClassId × FieldType) := [(cy 0, .byte), (cy 1, .int), (cy 2, .long), (cy 3, .boolean), (cy 4, .object "OddTouch$Image"), (cy 5, .object "OddTouch$Tray")]
def isNest : Cond → Bool
  | .methodLinkNest .. => true
  | _ => false
def nests : List Cond := [.methodLinkNest "OddTouch" 15 ⟨"OddTouch$Town", "<init>", "()V"⟩ "OddTouch", .methodLinkNest "OddTouch$Town" 47 ⟨"OddTouch$Law", "<init>", "()V"⟩ "OddTouch", .methodLinkNest "OddTouch$Reader" 11 ⟨"OddTouch$Town", "<init>", "()V"⟩ "OddTouch", .methodLinkNest "OddTouch" 40 ⟨"OddTouch$Past", "<init>", "()V"⟩ "OddTouch", .methodLinkNest "OddTouch" 91 ⟨"OddTouch$Image", "<init>", "()V"⟩ "OddTouch", .methodLinkNest "OddTouch$Image" 9 ⟨"OddTouch$Town", "<init>", "()V"⟩ "OddTouch", .methodLinkNest "OddTouch$Image" 24 ⟨"OddTouch$Past", "<init>", "()V"⟩ "OddTouch", .methodLinkNest "OddTouch" 92 ⟨"OddTouch$Tray", "<init>", "()V"⟩ "OddTouch", .methodLinkNest "OddTouch$Scene" 82 ⟨"OddTouch", "isIn", "(II)Z"⟩ "OddTouch", .methodLinkNest "OddTouch$Town" 97 ⟨"OddTouch", "isIn", "(II)Z"⟩ "OddTouch", .methodLinkNest "OddTouch$Placer" 46 ⟨"OddTouch", "isIn", "(II)Z"⟩ "OddTouch", .methodLinkNest "OddTouch$Reader" 26 ⟨"OddTouch", "keptWithin", "(III)I"⟩ "OddTouch", .methodLinkNest "OddTouch$Reader" 100 ⟨"OddTouch", "isIn", "(II)Z"⟩ "OddTouch", .methodLinkNest "OddTouch$Town" 101 ⟨"OddTouch", "keptWithin", "(III)I"⟩ "OddTouch", .methodLinkNest "OddTouch$Law" 55 ⟨"OddTouch", "keptWithin", "(III)I"⟩ "OddTouch", .methodLinkNest "OddTouch$Scene" 134 ⟨"OddTouch", "keptWithin", "(III)I"⟩ "OddTouch", .methodLinkNest "OddTouch$Changer" 52 ⟨"OddTouch", "isIn", "(II)Z"⟩ "OddTouch", .methodLinkNest "OddTouch$Changer" 171 ⟨"OddTouch", "keptWithin", "(III)I"⟩ "OddTouch", .methodLinkNest "OddTouch$Table" 47 ⟨"OddTouch", "isIn", "(II)Z"⟩ "OddTouch", .methodLinkNest "OddTouch$Tray" 22 ⟨"OddTouch", "keptWithin", "(III)I"⟩ "OddTouch"]
theorem nests_ok : nests.all isNest = true := rfl
def strs : List (String × Nat × String) := [("OddTouch", 103, "the tape has not so many bytes"), ("OddTouch$Reader", 67, ";+-*()[]=<>"), ("OddTouch$Reader", 104, "places"), ("OddTouch$Reader", 127, "touch"), ("OddTouch$Reader", 175, "wall"), ("OddTouch$Reader", 132, "thing"), ("OddTouch$Reader", 187, "count"), ("OddTouch$Reader", 189, "kind"), ("OddTouch$Reader", 191, "slow"), ("OddTouch$Reader", 193, "stays"), ("OddTouch$Reader", 137, "event"), ("OddTouch$Reader", 211, "less"), ("OddTouch$Reader", 213, "more"), ("OddTouch$Reader", 142, "zero"), ("OddTouch$Reader", 223, "even"), ("OddTouch$Reader", 228, "odd"), ("OddTouch$Reader", 230, "both"), ("OddTouch$Reader", 232, "neither"), ("OddTouch$Reader", 150, "law"), ("OddTouch$Reader", 247, "not"), ("OddTouch$Reader", 271, "a"), ("OddTouch$Reader", 273, "b"), ("OddTouch$Reader", 275, "odda"), ("OddTouch$Reader", 277, "oddb"), ("OddTouch$Reader", 279, "evena"), ("OddTouch$Reader", 281, "evenb"), ("OddTouch$Reader", 283, "alike"), ("OddTouch$Reader", 245, "and"), ("OddTouch$Reader", 237, "or"), ("OddTouch", 205, "no such thing"), ("OddTouch", 167, "a thing has no such what"), ("OddTouch", 211, "no such place"), ("OddTouch", 182, "a place has no such what"), ("OddTouch", 187, "both are one"), ("OddTouch", 215, "by too much"), ("OddTouch", 231, "not so many days"), ("OddTouch", 242, "not so many deeds"), ("OddTouch", 470, "no such tray"), ("OddTouch", 472, "the tray is missing"), ("OddTouch", 213, "no such what"), ("OddTouch", 284, "not so many times"), ("OddTouch", 291, "no things"), ("OddTouch", 322, "no such placing"), ("OddTouch", 345, "no placing"), ("OddTouch", 369, "no such event"), ("OddTouch", 380, "an event has no such what"), ("OddTouch", 417, "numbers that are no row of things"), ("OddTouch", 390, "a set with others than things"), ("OddTouch", 405, "no table has so many seats"), ("OddTouch", 419, "another thing lies there"), ("OddTouch", 444, "numbers that nobody sees"), ("OddTouch", 436, "no such step"), ("OddTouch", 449, "no such sort"), ("OddTouch", 451, "not so many"), ("OddTouch", 458, "no such place in the tray"), ("OddTouch", 490, "no such image"), ("OddTouch", 485, "no image was made"), ("OddTouchModel", 265, "places"), ("OddTouchModel", 239, "touch"), ("OddTouchModel", 194, "wall"), ("OddTouchModel", 225, "thing"), ("OddTouchModel", 213, "count"), ("OddTouchModel", 219, "kind"), ("OddTouchModel", 221, "slow"), ("OddTouchModel", 223, "stays"), ("OddTouchModel", 247, "event"), ("OddTouchModel", 227, "less"), ("OddTouchModel", 229, "more"), ("OddTouchModel", 252, "zero"), ("OddTouchModel", 231, "even"), ("OddTouchModel", 233, "odd"), ("OddTouchModel", 235, "both"), ("OddTouchModel", 237, "neither"), ("OddTouchModel", 257, "law"), ("OddTouchModel", 157, "not"), ("OddTouchModel", 180, "a"), ("OddTouchModel", 182, "b"), ("OddTouchModel", 184, "odda"), ("OddTouchModel", 186, "oddb"), ("OddTouchModel", 188, "evena"), ("OddTouchModel", 190, "evenb"), ("OddTouchModel", 192, "alike"), ("OddTouchModel", 155, "and"), ("OddTouchModel", 147, "or")]
def sbyt : List (List Int32) := [[116, 104, 101, 32, 116, 97, 112, 101, 32, 104, 97, 115, 32, 110, 111, 116, 32, 115, 111, 32, 109, 97, 110, 121, 32, 98, 121, 116, 101, 115], [59, 43, 45, 42, 40, 41, 91, 93, 61, 60, 62], [112, 108, 97, 99, 101, 115], [116, 111, 117, 99, 104], [119, 97, 108, 108], [116, 104, 105, 110, 103], [99, 111, 117, 110, 116], [107, 105, 110, 100], [115, 108, 111, 119], [115, 116, 97, 121, 115], [101, 118, 101, 110, 116], [108, 101, 115, 115], [109, 111, 114, 101], [122, 101, 114, 111], [101, 118, 101, 110], [111, 100, 100], [98, 111, 116, 104], [110, 101, 105, 116, 104, 101, 114], [108, 97, 119], [110, 111, 116], [97], [98], [111, 100, 100, 97], [111, 100, 100, 98], [101, 118, 101, 110, 97], [101, 118, 101, 110, 98], [97, 108, 105, 107, 101], [97, 110, 100], [111, 114], [110, 111, 32, 115, 117, 99, 104, 32, 116, 104, 105, 110, 103], [97, 32, 116, 104, 105, 110, 103, 32, 104, 97, 115, 32, 110, 111, 32, 115, 117, 99, 104, 32, 119, 104, 97, 116], [110, 111, 32, 115, 117, 99, 104, 32, 112, 108, 97, 99, 101], [97, 32, 112, 108, 97, 99, 101, 32, 104, 97, 115, 32, 110, 111, 32, 115, 117, 99, 104, 32, 119, 104, 97, 116], [98, 111, 116, 104, 32, 97, 114, 101, 32, 111, 110, 101], [98, 121, 32, 116, 111, 111, 32, 109, 117, 99, 104], [110, 111, 116, 32, 115, 111, 32, 109, 97, 110, 121, 32, 100, 97, 121, 115], [110, 111, 116, 32, 115, 111, 32, 109, 97, 110, 121, 32, 100, 101, 101, 100, 115], [110, 111, 32, 115, 117, 99, 104, 32, 116, 114, 97, 121], [116, 104, 101, 32, 116, 114, 97, 121, 32, 105, 115, 32, 109, 105, 115, 115, 105, 110, 103], [110, 111, 32, 115, 117, 99, 104, 32, 119, 104, 97, 116], [110, 111, 116, 32, 115, 111, 32, 109, 97, 110, 121, 32, 116, 105, 109, 101, 115], [110, 111, 32, 116, 104, 105, 110, 103, 115], [110, 111, 32, 115, 117, 99, 104, 32, 112, 108, 97, 99, 105, 110, 103], [110, 111, 32, 112, 108, 97, 99, 105, 110, 103], [110, 111, 32, 115, 117, 99, 104, 32, 101, 118, 101, 110, 116], [97, 110, 32, 101, 118, 101, 110, 116, 32, 104, 97, 115, 32, 110, 111, 32, 115, 117, 99, 104, 32, 119, 104, 97, 116], [110, 117, 109, 98, 101, 114, 115, 32, 116, 104, 97, 116, 32, 97, 114, 101, 32, 110, 111, 32, 114, 111, 119, 32, 111, 102, 32, 116, 104, 105, 110, 103, 115], [97, 32, 115, 101, 116, 32, 119, 105, 116, 104, 32, 111, 116, 104, 101, 114, 115, 32, 116, 104, 97, 110, 32, 116, 104, 105, 110, 103, 115], [110, 111, 32, 116, 97, 98, 108, 101, 32, 104, 97, 115, 32, 115, 111, 32, 109, 97, 110, 121, 32, 115, 101, 97, 116, 115], [97, 110, 111, 116, 104, 101, 114, 32, 116, 104, 105, 110, 103, 32, 108, 105, 101, 115, 32, 116, 104, 101, 114, 101], [110, 117, 109, 98, 101, 114, 115, 32, 116, 104, 97, 116, 32, 110, 111, 98, 111, 100, 121, 32, 115, 101, 101, 115], [110, 111, 32, 115, 117, 99, 104, 32, 115, 116, 101, 112], [110, 111, 32, 115, 117, 99, 104, 32, 115, 111, 114, 116], [110, 111, 116, 32, 115, 111, 32, 109, 97, 110, 121], [110, 111, 32, 115, 117, 99, 104, 32, 112, 108, 97, 99, 101, 32, 105, 110, 32, 116, 104, 101, 32, 116, 114, 97, 121], [110, 111, 32, 115, 117, 99, 104, 32, 105, 109, 97, 103, 101], [110, 111, 32, 105, 109, 97, 103, 101, 32, 119, 97, 115, 32, 109, 97, 100, 101], [112, 108, 97, 99, 101, 115], [116, 111, 117, 99, 104], [119, 97, 108, 108], [116, 104, 105, 110, 103], [99, 111, 117, 110, 116], [107, 105, 110, 100], [115, 108, 111, 119], [115, 116, 97, 121, 115], [101, 118, 101, 110, 116], [108, 101, 115, 115], [109, 111, 114, 101], [122, 101, 114, 111], [101, 118, 101, 110], [111, 100, 100], [98, 111, 116, 104], [110, 101, 105, 116, 104, 101, 114], [108, 97, 119], [110, 111, 116], [97], [98], [111, 100, 100, 97], [111, 100, 100, 98], [101, 118, 101, 110, 97], [101, 118, 101, 110, 98], [97, 108, 105, 107, 101], [97, 110, 100], [111, 114]]
/-- what the tables say beside the word lists: nest mates, texts, arrays of references -/
def excs : List String := ["java/lang/IllegalArgumentException", "java/util/NoSuchElementException", "java/lang/IllegalStateException", "java/lang/IndexOutOfBoundsException"]
def ups : List String := ["java/lang/RuntimeException", "java/lang/Exception", "java/lang/Throwable"]
def links : List (Nat × String) := [(13, "java/lang/IllegalArgumentException"), (19, "java/util/NoSuchElementException"), (43, "java/lang/IllegalStateException"), (105, "java/lang/IndexOutOfBoundsException")]
def GW (U : State) : Prop := (∀ w ∈ nests, va_Nw w U) ∧ (∀ q ∈ strs, ∃ a, vk_R q.1 q.2.1 q.2.2 a U) ∧ va_AO "OddTouch$Image" U ∧ va_AO "OddTouch$Tray" U ∧ (∀ E ∈ excs, va_Nw (.castable E E) U) ∧ (∀ Y ∈ ups, va_Nw (.declares (Bundle.initS Y)) U) ∧ (∀ E ∈ excs, ∀ G ∈ excs, E ≠ G → va_Nc E G U) ∧ ∀ q ∈ links, va_Nw (.classLink "OddTouchLaw" q.1 q.2) U
theorem nest_warm {w : Cond} {s U : State} (hn : isNest w = true) (hW : s.WarmedH U.vm) (h : va_Nw w s) : va_Nw w U := by
  cases w <;> first | (exact va_Nw.warmM hW h) | (cases hn)
theorem GW.warm {s U : State} (hW : s.WarmedH U.vm) (h : GW s) : GW U :=
  ⟨fun w hw => nest_warm (List.all_eq_true.mp nests_ok w hw) hW (h.1 w hw), fun q hq => (h.2.1 q hq).imp (fun _ ha => vk_R.warm hW ha), va_AO.moved hW.alike h.2.2.1, va_AO.moved hW.alike h.2.2.2.1, fun E hE => va_Nw.warmC hW (h.2.2.2.2.1 E hE), fun Y hY => va_Nw.warmD hW (h.2.2.2.2.2.1 Y hY), fun E hE G hG n => va_Nc.moved hW.alike (h.2.2.2.2.2.2.1 E hE G hG n), fun q hq => word_at hW (Or.inl rfl) (h.2.2.2.2.2.2.2 q hq)⟩
theorem GW.calling {U : State} {g : JFrame} {mk : MethodId} {a : Array Value} (h : GW U) : GW (U.calling g mk a) := GW.warm (State.WarmedH.refl U) h
def ZQ (A : Nat → Prop) (U : State) (H : Heap) : Prop := vx_Zq Bundle.tN "UNASSIGNED_STACK" Bundle.steD A U H ∧ vx_Zq Bundle.tN "SUPPRESSED_SENTINEL" Bundle.listD A U H
def Pre (D : va_G) (cy : Nat → ClassId) (ws : va_W) (sz : Nat) (U : State) : Prop := U.heap.size = sz ∧ va_P D vwCl ws U.heap ∧ va_K D vwCl (TY cy) U ∧ va_D (fun _ => True) ws ∧ GW U ∧ ZQ (va_A ws sz) U U.heap
def Post (D : va_G) (A : Nat → Prop) (u : va_W) (t : State) : Prop := va_P D vwCl u t.heap ∧ va_D A u
/-- what is thrown, by its class's name -/
def XP (px : String → Prop) (A : Nat → Prop) : String → State → State → Prop := vx_X px (fun E u _ => E = u) A
abbrev RM (f n mc ms : Nat) : Room := { frames := f, cells := mc, slots := ms, locals := n }
abbrev MI (l : Launch) (y : MethodName) (wy : List Cond) (f n mc ms : Nat) (D : va_G) (cy : Nat → ClassId) (av : List Value) (ws : va_W) (sz : Nat) (post : Int32 → va_W → Prop) : Prop := Met l y wy (RM f n mc ms) (va_Pc av (Pre D cy ws sz)) (va_Qi post (Post D (va_A ws sz)) (va_A ws sz)) mc ms (va_A ws sz)
abbrev MV (l : Launch) (y : MethodName) (wy : List Cond) (f n mc ms : Nat) (D : va_G) (cy : Nat → ClassId) (av : List Value) (ws : va_W) (sz : Nat) (post : va_W → Prop) : Prop := Met l y wy (RM f n mc ms) (va_Pc av (Pre D cy ws sz)) (va_Qv post (Post D (va_A ws sz)) (va_A ws sz)) mc ms (va_A ws sz)
abbrev ML (l : Launch) (y : MethodName) (wy : List Cond) (f n mc ms : Nat) (D : va_G) (cy : Nat → ClassId) (av : List Value) (ws : va_W) (sz : Nat) (post : Int64 → va_W → Prop) : Prop := Met l y wy (RM f n mc ms) (va_Pc av (Pre D cy ws sz)) (va_Ql post (Post D (va_A ws sz)) (va_A ws sz)) mc ms (va_A ws sz)
abbrev MIX (l : Launch) (y : MethodName) (wy : List Cond) (f n mc ms : Nat) (D : va_G) (cy : Nat → ClassId) (av : List Value) (ws : va_W) (sz : Nat) (post : Int32 → va_W → Prop) (px : String → Prop) : Prop := vx_Met l y wy (RM f n mc ms) (va_Pc av (Pre D cy ws sz)) (va_Qi post (Post D (va_A ws sz)) (va_A ws sz)) (XP px (va_A ws sz)) mc ms (va_A ws sz)
abbrev MVX (l : Launch) (y : MethodName) (wy : List Cond) (f n mc ms : Nat) (D : va_G) (cy : Nat → ClassId) (av : List Value) (ws : va_W) (sz : Nat) (post : va_W → Prop) (px : String → Prop) : Prop := vx_Met l y wy (RM f n mc ms) (va_Pc av (Pre D cy ws sz)) (va_Qv post (Post D (va_A ws sz)) (va_A ws sz)) (XP px (va_A ws sz)) mc ms (va_A ws sz)
abbrev MLX (l : Launch) (y : MethodName) (wy : List Cond) (f n mc ms : Nat) (D : va_G) (cy : Nat → ClassId) (av : List Value) (ws : va_W) (sz : Nat) (post : Int64 → va_W → Prop) (px : String → Prop) : Prop := vx_Met l y wy (RM f n mc ms) (va_Pc av (Pre D cy ws sz)) (va_Ql post (Post D (va_A ws sz)) (va_A ws sz)) (XP px (va_A ws sz)) mc ms (va_A ws sz)
/-- what holds in a frame from its entry to its end -/
def Fx (D : va_G) (cy : Nat → ClassId) (p : Program) (m : MethodId) (c : Code) (cc : ByteArray) (nL : Nat) (s : State) (args : Array Value) (Ts : List Cond) (own : String) (A : Nat → Prop) : Prop :=
  CallFix p m c cc nL s args Ts own ∧ va_K D vwCl (TY cy) s ∧ GW s ∧ ZQ A s s.heap ∧ ∀ q, s.heap.size ≤ q → A q
theorem pre_blind {D : va_G} {cy : Nat → ClassId} {av : List Value} {ws : va_W} {sz : Nat} : FrameBlind (va_Pc av (Pre D cy ws sz)) := fun a U g mk h =>
  ⟨h.1, h.2.1, h.2.2.1, va_K.moved (u := U) (U := U.calling g mk a) (Vm.Alike.refl U.vm) h.2.2.2.1, h.2.2.2.2.1, GW.calling h.2.2.2.2.2.1, vx_Zq.moved (u := U) (U := U.calling g mk a) (Vm.Alike.refl U.vm) h.2.2.2.2.2.2.1, vx_Zq.moved (u := U) (U := U.calling g mk a) (Vm.Alike.refl U.vm) h.2.2.2.2.2.2.2⟩
section Rows
variable {p : Program} {l : Launch} {e : Env} {R : Room} {s : State} {m : MethodId} {args : Array Value} {below : List Frame} {meth : Method} {c : Code} {H : Heap} {locs : List Loc} {cells slots : Nat} {Q : State → Prop}
variable {D : va_G} {cy : Nat → ClassId} {cc : ByteArray} {nL : Nat} {Ts : List Cond} {own : String} {A : Nat → Prop} {W0 wc wr : va_W} {pc : Nat} {ls : Array Slot} {st rest : List Value} {mc ms : Nat}
theorem pre_call {av : List Value} (F : Fx D cy p m c cc nL s args Ts own A) (hP : va_P D vwCl W0 H) (hD : va_D A W0) (hS : va_S A s.heap H locs) (isC : List Nat) (hn : va_nd isC = true) (hC : isC.map (fun i => W0[i]?) = wc.map some) : PreS s H (va_Pc av (Pre D cy wc H.size)) av := by
  obtain ⟨-, hK, hG, hZ, hA⟩ := F
  have hFc := va_free hD hS hA isC hC
  have hPc : va_P D vwCl wc H := by
    intro k q hk
    have h1 : (isC.map (fun i => W0[i]?))[k]? = some (some q) := by rw [hC, List.getElem?_map, hk]; rfl
    rw [List.getElem?_map] at h1
    cases hi : isC[k]? with
    | none => rw [hi] at h1; cases h1
    | some i => rw [hi] at h1; exact hP i q (Option.some.inj h1)
  have hDc := hD.sub isC hn hC
  refine ⟨pre_blind, fun U hU hW => ⟨rfl, by rw [hU], by rw [hU]; exact hPc, va_K.moved hW.alike hK, hDc.weaken (fun _ _ _ _ => trivial), GW.warm hW hG, ?_, ?_⟩⟩
  · rw [hU]; exact ((hZ.1.kept hS.2.1).moved hW.alike).narrow hFc
  · rw [hU]; exact ((hZ.2.kept hS.2.1).moved hW.alike).narrow hFc
theorem nd_left : ∀ {a b : List Nat}, va_nd (a ++ b) = true → va_nd a = true
  | [], _, _ => rfl
  | x :: a, b, h => by
    have h1 : (decide (x ∉ a ++ b) && va_nd (a ++ b)) = true := h
    rw [Bool.and_eq_true, decide_eq_true_eq] at h1
    show (decide (x ∉ a) && va_nd a) = true
    rw [Bool.and_eq_true, decide_eq_true_eq]
    exact ⟨fun q => h1.1 (List.mem_append_left _ q), nd_left h1.2⟩
theorem nd_right : ∀ {a b : List Nat}, va_nd (a ++ b) = true → va_nd b = true ∧ ∀ i ∈ b, i ∉ a
  | [], _, h => ⟨h, fun _ _ q => by cases q⟩
  | x :: a, b, h => by
    have h1 : (decide (x ∉ a ++ b) && va_nd (a ++ b)) = true := h
    rw [Bool.and_eq_true, decide_eq_true_eq] at h1
    obtain ⟨h2, h3⟩ := nd_right h1.2
    exact ⟨h2, fun i hi q => (List.mem_cons.mp q).elim (fun e => h1.1 (List.mem_append_right _ (e ▸ hi))) (h3 i hi)⟩
theorem call_i {av : List Value} {post : Int32 → va_W → Prop} (F : Fx D cy p m c cc nL s args Ts own A) (hP : va_P D vwCl W0 H) (hD : va_D A W0) (hS : va_S A s.heap H locs) (wc wr : va_W) (isC isR : List Nat) (hC : isC.map (fun i => W0[i]?) = wc.map some) (hR : isR.map (fun i => W0[i]?) = wr.map some) (hn : va_nd (isC ++ isR) = true)
    (hr : PreS s H (va_Pc av (Pre D cy wc H.size)) av → va_Run p l e R s m args below meth c H locs cells slots mc ms (F0 m pc ls st) rest (va_Qi post (Post D (va_A wc H.size)) (va_A wc H.size) av.toArray) (va_A wc H.size))
    (kk : ∀ (r : Int32) (u : va_W) (H1 : Heap) (locs1 : List Loc), post r u → va_P D vwCl (wr ++ u) H1 → va_D A (wr ++ u) → va_S A s.heap H1 locs1 → W p l e R s m args below meth c H1 locs1 (cells + mc) (slots + ms) Q (F0 m (pc + 3) ls (.int r :: rest))) : W p l e R s m args below meth c H locs cells slots Q (F0 m pc ls st) := by
  have hFc := va_free hD hS F.2.2.2.2 isC hC
  refine va_calli (hr (pre_call F hP hD hS isC (nd_left hn) hC)) hS (fun q _ h => hFc q h) hFc (fun r u t H1 locs1 ht hvm hw hB hz hk hS1 => ?_)
  obtain ⟨h1, h2⟩ := nd_right hn
  obtain ⟨hP1, hD1⟩ := hB
  rw [ht] at hP1
  obtain ⟨g1, g2⟩ := va_join hP hD isC isR hC hR h1 h2 hk hFc hP1 hD1
  exact kk r u H1 locs1 hw g1 g2 hS1
theorem call_l {av : List Value} {post : Int64 → va_W → Prop} (F : Fx D cy p m c cc nL s args Ts own A) (hP : va_P D vwCl W0 H) (hD : va_D A W0) (hS : va_S A s.heap H locs) (wc wr : va_W) (isC isR : List Nat) (hC : isC.map (fun i => W0[i]?) = wc.map some) (hR : isR.map (fun i => W0[i]?) = wr.map some) (hn : va_nd (isC ++ isR) = true)
    (hr : PreS s H (va_Pc av (Pre D cy wc H.size)) av → va_Run p l e R s m args below meth c H locs cells slots mc ms (F0 m pc ls st) rest (va_Ql post (Post D (va_A wc H.size)) (va_A wc H.size) av.toArray) (va_A wc H.size))
    (kk : ∀ (r : Int64) (u : va_W) (H1 : Heap) (locs1 : List Loc), post r u → va_P D vwCl (wr ++ u) H1 → va_D A (wr ++ u) → va_S A s.heap H1 locs1 → W p l e R s m args below meth c H1 locs1 (cells + mc) (slots + ms) Q (F0 m (pc + 3) ls (.long r :: rest))) : W p l e R s m args below meth c H locs cells slots Q (F0 m pc ls st) := by
  have hFc := va_free hD hS F.2.2.2.2 isC hC
  refine va_calll (hr (pre_call F hP hD hS isC (nd_left hn) hC)) hS (fun q _ h => hFc q h) hFc (fun r u t H1 locs1 ht hvm hw hB hz hk hS1 => ?_)
  obtain ⟨h1, h2⟩ := nd_right hn
  obtain ⟨hP1, hD1⟩ := hB
  rw [ht] at hP1
  obtain ⟨g1, g2⟩ := va_join hP hD isC isR hC hR h1 h2 hk hFc hP1 hD1
  exact kk r u H1 locs1 hw g1 g2 hS1
theorem call_v {av : List Value} {post : va_W → Prop} (F : Fx D cy p m c cc nL s args Ts own A) (hP : va_P D vwCl W0 H) (hD : va_D A W0) (hS : va_S A s.heap H locs) (wc wr : va_W) (isC isR : List Nat) (hC : isC.map (fun i => W0[i]?) = wc.map some) (hR : isR.map (fun i => W0[i]?) = wr.map some) (hn : va_nd (isC ++ isR) = true)
    (hr : PreS s H (va_Pc av (Pre D cy wc H.size)) av → va_Run p l e R s m args below meth c H locs cells slots mc ms (F0 m pc ls st) rest (va_Qv post (Post D (va_A wc H.size)) (va_A wc H.size) av.toArray) (va_A wc H.size))
    (kk : ∀ (u : va_W) (H1 : Heap) (locs1 : List Loc), post u → va_P D vwCl (wr ++ u) H1 → va_D A (wr ++ u) → va_S A s.heap H1 locs1 → W p l e R s m args below meth c H1 locs1 (cells + mc) (slots + ms) Q (F0 m (pc + 3) ls rest)) : W p l e R s m args below meth c H locs cells slots Q (F0 m pc ls st) := by
  have hFc := va_free hD hS F.2.2.2.2 isC hC
  refine va_callv (hr (pre_call F hP hD hS isC (nd_left hn) hC)) hS (fun q _ h => hFc q h) hFc (fun u t H1 locs1 ht hvm hw hB hz hk hS1 => ?_)
  obtain ⟨h1, h2⟩ := nd_right hn
  obtain ⟨hP1, hD1⟩ := hB
  rw [ht] at hP1
  obtain ⟨g1, g2⟩ := va_join hP hD isC isR hC hR h1 h2 hk hFc hP1 hD1
  exact kk u H1 locs1 hw g1 g2 hS1
/-- a call that returns or throws; behind a throw the rest's cells stand -/
theorem callx_i {av : List Value} {post : Int32 → va_W → Prop} {px : String → Prop} (F : Fx D cy p m c cc nL s args Ts own A) (hP : va_P D vwCl W0 H) (hD : va_D A W0) (hS : va_S A s.heap H locs) (wc wr : va_W) (isC isR : List Nat) (hC : isC.map (fun i => W0[i]?) = wc.map some) (hR : isR.map (fun i => W0[i]?) = wr.map some) (hn : va_nd (isC ++ isR) = true)
    (hr : PreS s H (va_Pc av (Pre D cy wc H.size)) av → vx_Run p l e R s m args below meth c H locs cells slots mc ms (F0 m pc ls st) rest (va_Qi post (Post D (va_A wc H.size)) (va_A wc H.size) av.toArray) (XP px (va_A wc H.size)) (va_A wc H.size))
    (kx : ∀ (E : String) (ce : Cell) (q9 : Addr) (H1 : Heap) (locs1 : List Loc), px E → va_P D vwCl wr H1 → va_D A wr → va_S A s.heap H1 locs1 → H1[q9]? = some ce → ce.vm = .none → s.vm.findClass E = some ce.cls → vx_W p l e R s m args below meth c H1 locs1 (cells + mc) (slots + ms) Q (F0 m pc ls rest) q9)
    (kk : ∀ (r : Int32) (u : va_W) (H1 : Heap) (locs1 : List Loc), post r u → va_P D vwCl (wr ++ u) H1 → va_D A (wr ++ u) → va_S A s.heap H1 locs1 → W p l e R s m args below meth c H1 locs1 (cells + mc) (slots + ms) Q (F0 m (pc + 3) ls (.int r :: rest))) : W p l e R s m args below meth c H locs cells slots Q (F0 m pc ls st) := by
  have hFc := va_free hD hS F.2.2.2.2 isC hC
  obtain ⟨h1, h2⟩ := nd_right hn
  refine vx_calli (hr (pre_call F hP hD hS isC (nd_left hn) hC)) hS (fun q _ h => hFc q h) hFc (fun q _ h => hFc q h) (fun E ce q9 u t H1 locs1 ht hvm hp hE hz hk hS1 he hv hcl => ?_) (fun r u t H1 locs1 ht hvm hw hB hz hk hS1 => ?_)
  · subst hE
    obtain ⟨g1, g2⟩ := va_join (w1 := []) hP hD isC isR hC hR h1 h2 hk hFc (fun k q hk => (by cases hk)) ⟨fun i j a b ha => (by cases ha), fun k q hk => (by cases hk)⟩
    rw [List.append_nil] at g1 g2
    exact kx _ ce q9 H1 locs1 hp g1 g2 hS1 he hv hcl
  · obtain ⟨hP1, hD1⟩ := hB
    rw [ht] at hP1
    obtain ⟨g1, g2⟩ := va_join hP hD isC isR hC hR h1 h2 hk hFc hP1 hD1
    exact kk r u H1 locs1 hw g1 g2 hS1
theorem callx_v {av : List Value} {post : va_W → Prop} {px : String → Prop} (F : Fx D cy p m c cc nL s args Ts own A) (hP : va_P D vwCl W0 H) (hD : va_D A W0) (hS : va_S A s.heap H locs) (wc wr : va_W) (isC isR : List Nat) (hC : isC.map (fun i => W0[i]?) = wc.map some) (hR : isR.map (fun i => W0[i]?) = wr.map some) (hn : va_nd (isC ++ isR) = true)
    (hr : PreS s H (va_Pc av (Pre D cy wc H.size)) av → vx_Run p l e R s m args below meth c H locs cells slots mc ms (F0 m pc ls st) rest (va_Qv post (Post D (va_A wc H.size)) (va_A wc H.size) av.toArray) (XP px (va_A wc H.size)) (va_A wc H.size))
    (kx : ∀ (E : String) (ce : Cell) (q9 : Addr) (H1 : Heap) (locs1 : List Loc), px E → va_P D vwCl wr H1 → va_D A wr → va_S A s.heap H1 locs1 → H1[q9]? = some ce → ce.vm = .none → s.vm.findClass E = some ce.cls → vx_W p l e R s m args below meth c H1 locs1 (cells + mc) (slots + ms) Q (F0 m pc ls rest) q9)
    (kk : ∀ (u : va_W) (H1 : Heap) (locs1 : List Loc), post u → va_P D vwCl (wr ++ u) H1 → va_D A (wr ++ u) → va_S A s.heap H1 locs1 → W p l e R s m args below meth c H1 locs1 (cells + mc) (slots + ms) Q (F0 m (pc + 3) ls rest)) : W p l e R s m args below meth c H locs cells slots Q (F0 m pc ls st) := by
  have hFc := va_free hD hS F.2.2.2.2 isC hC
  obtain ⟨h1, h2⟩ := nd_right hn
  refine vx_callv (hr (pre_call F hP hD hS isC (nd_left hn) hC)) hS (fun q _ h => hFc q h) hFc (fun q _ h => hFc q h) (fun E ce q9 u t H1 locs1 ht hvm hp hE hz hk hS1 he hv hcl => ?_) (fun u t H1 locs1 ht hvm hw hB hz hk hS1 => ?_)
  · subst hE
    obtain ⟨g1, g2⟩ := va_join (w1 := []) hP hD isC isR hC hR h1 h2 hk hFc (fun k q hk => (by cases hk)) ⟨fun i j a b ha => (by cases ha), fun k q hk => (by cases hk)⟩
    rw [List.append_nil] at g1 g2
    exact kx _ ce q9 H1 locs1 hp g1 g2 hS1 he hv hcl
  · obtain ⟨hP1, hD1⟩ := hB
    rw [ht] at hP1
    obtain ⟨g1, g2⟩ := va_join hP hD isC isR hC hR h1 h2 hk hFc hP1 hD1
    exact kk u H1 locs1 hw g1 g2 hS1
/-- the frame's cells in a list of our choice -/
theorem recast {ws' : va_W} (hP : va_P D vwCl W0 H) (hD : va_D A W0) (is : List Nat) (hn : va_nd is = true) (hs : is.map (fun i => W0[i]?) = ws'.map some) : va_P D vwCl ws' H ∧ va_D A ws' := by
  refine ⟨?_, hD.sub is hn hs⟩
  intro k q hk
  have h1 : (is.map (fun i => W0[i]?))[k]? = some (some q) := by rw [hs, List.getElem?_map, hk]; rfl
  rw [List.getElem?_map] at h1
  cases hi : is[k]? with
  | none => rw [hi] at h1; cases h1
  | some i => rw [hi] at h1; exact hP i q (Option.some.inj h1)
theorem ret_i {post : Int32 → va_W → Prop} {v : Int32} (F : Fx D cy p m c cc nL s args Ts own A) (hr : meth.sig.returnType = some .int) (hlk : meth.locks = false) (hP : va_P D vwCl W0 H) (hD : va_D A W0) (hS : va_S A s.heap H locs) (dg : decode cc pc = .ok (.ireturn, 1)) (hc : cells ≤ mc) (hs : slots ≤ ms) (hp : post v W0) :
    W p l e R s m args below meth c H locs cells slots (MQ below (va_Qi post (Post D A) A) args s mc ms A) (F0 m pc ls [.int v]) := by
  refine W.widen hc hs ?_
  exact W.iret (v := v) F.1.1 F.1.2.1 hr (fun t ht _ => ⟨⟨v, W0, rfl, hp, by show va_P D vwCl W0 t.heap; rw [ht]; exact hP, hD⟩, hS.F ht⟩) hS.2.2 dg hlk
theorem ret_z {post : Int32 → va_W → Prop} {v : Int32} (F : Fx D cy p m c cc nL s args Ts own A) (hr : meth.sig.returnType = some .boolean) (hlk : meth.locks = false) (hP : va_P D vwCl W0 H) (hD : va_D A W0) (hS : va_S A s.heap H locs) (dg : decode cc pc = .ok (.ireturn, 1)) (hc : cells ≤ mc) (hs : slots ≤ ms) (hv : narrow .boolean (.int v) = .int v) (hp : post v W0) :
    W p l e R s m args below meth c H locs cells slots (MQ below (va_Qi post (Post D A) A) args s mc ms A) (F0 m pc ls [.int v]) := by
  refine W.widen hc hs ?_
  exact W.zret (v := v) F.1.1 F.1.2.1 hr hv (fun t ht _ => ⟨⟨v, W0, rfl, hp, by show va_P D vwCl W0 t.heap; rw [ht]; exact hP, hD⟩, hS.F ht⟩) hS.2.2 dg hlk
theorem ret_l {post : Int64 → va_W → Prop} {v : Int64} (F : Fx D cy p m c cc nL s args Ts own A) (hr : meth.sig.returnType = some .long) (hlk : meth.locks = false) (hP : va_P D vwCl W0 H) (hD : va_D A W0) (hS : va_S A s.heap H locs) (dg : decode cc pc = .ok (.lreturn, 1)) (hc : cells ≤ mc) (hs : slots ≤ ms) (hp : post v W0) :
    W p l e R s m args below meth c H locs cells slots (MQ below (va_Ql post (Post D A) A) args s mc ms A) (F0 m pc ls [.long v]) := by
  refine W.widen hc hs ?_
  exact W.lret (v := v) F.1.1 F.1.2.1 hr (fun t ht _ => ⟨⟨v, W0, rfl, hp, by show va_P D vwCl W0 t.heap; rw [ht]; exact hP, hD⟩, hS.F ht⟩) hS.2.2 dg hlk
theorem ret_v {post : va_W → Prop} (F : Fx D cy p m c cc nL s args Ts own A) (hr : meth.sig.returnType = none) (hlk : meth.locks = false) (hP : va_P D vwCl W0 H) (hD : va_D A W0) (hS : va_S A s.heap H locs) (dg : decode cc pc = .ok (.return_, 1)) (hc : cells ≤ mc) (hs : slots ≤ ms) (hp : post W0) :
    W p l e R s m args below meth c H locs cells slots (MQ below (va_Qv post (Post D A) A) args s mc ms A) (F0 m pc ls []) := by
  refine W.widen hc hs ?_
  exact W.vret F.1.1 F.1.2.1 hr (fun t ht _ => ⟨⟨W0, rfl, hp, by show va_P D vwCl W0 t.heap; rw [ht]; exact hP, hD⟩, hS.F ht⟩) hS.2.2 dg hlk
/-- a computed number by another name -/
theorem top_i {x v : Int32} (h : x = v) (k : W p l e R s m args below meth c H locs cells slots Q (F0 m pc ls (.int v :: rest))) : W p l e R s m args below meth c H locs cells slots Q (F0 m pc ls (.int x :: rest)) := h ▸ k
theorem top_l {x v : Int64} (h : x = v) (k : W p l e R s m args below meth c H locs cells slots Q (F0 m pc ls (.long v :: rest))) : W p l e R s m args below meth c H locs cells slots Q (F0 m pc ls (.long x :: rest)) := h ▸ k
theorem top_r {x : Option Nat} {v : Nat} (h : x = some v) (k : W p l e R s m args below meth c H locs cells slots Q (F0 m pc ls (.ref v :: rest))) : W p l e R s m args below meth c H locs cells slots Q (F0 m pc ls (va_rf x :: rest)) := by subst h; exact k
theorem vin {i : Int32} {n : Nat} (h : decide (i < 0 ∨ n ≤ i.toNatClampNeg) = false) : vp_in i n := of_decide_eq_false h
/-- a new array of a primitive type, its class the one of the table -/
theorem new_a (F : Fx D cy p m c cc nL s args Ts own A) {atype : ArrayType} (harr : (Cond.arrayClass (newarray.typeOf atype)).before args s = true) {ty : FieldType} (hty : newarray.typeOf atype = ty) (hpr : ∀ C, ty ≠ .object C) (hP : va_P D vwCl W0 H) (hD : va_D A W0) (hS : va_S A s.heap H locs) (t0 : Nat) {cA : ClassId} (ht : (TY cy)[t0]? = some (cA, ty))
    {n : Int32} {N' : Nat} {a0 : vp_A} (ha : ∀ cA : ClassId, vp_cell cA a0 = arrV cA N' (fun _ => defaultValue ty)) (hn : ¬ n < 0) (hN : n.toNatClampNeg = N') (hbytes : N' * componentBytes ty ≤ 536870912) (hcells : cells + 1 ≤ R.cells) (hslots : slots + N' ≤ R.slots) (hdg : decode cc pc = .ok (.newarray atype, 2))
    (kk : ∀ (q : Nat) (H1 : Heap), va_P D vwCl (W0 ++ [(q, .inl (cA, a0))]) H1 → va_D A (W0 ++ [(q, .inl (cA, a0))]) → va_S A s.heap H1 locs →
      W p l e R s m args below meth c H1 locs (cells + 1) (slots + N') Q (F0 m (pc + 2) ls (.ref q :: rest))) : W p l e R s m args below meth c H locs cells slots Q (F0 m pc ls (.int n :: rest)) := by
  refine va_newa F.1.1 F.1.2.1 harr hty F.2.1 hP hD hS F.2.2.2.2 ha hn hN hbytes hcells hslots hdg (fun q cB H1 hK hP1 hD1 hS1 => ?_)
  have h1 := (F.2.1.2 t0 _ ht).2
  have h2 := (hK.2 (TY cy).length (cB, ty) (by rw [List.getElem?_append_right (Nat.le_refl _), Nat.sub_self]; rfl)).2
  have e : cB = cA := by
    cases ty <;> first | (exact absurd rfl (hpr _)) | exact Option.some.inj (h2.symm.trans h1)
  subst e
  exact kk q H1 hP1 hD1 hS1
theorem new_q (F : Fx D cy p m c cc nL s args Ts own A) {C : String} {index : Nat} (hclink : (Cond.classLink own index C).before args s = true) (hover : va_AO C s) (hP : va_P D vwCl W0 H) (hD : va_D A W0) (hS : va_S A s.heap H locs) (t0 : Nat) {cA : ClassId} (ht : (TY cy)[t0]? = some (cA, .object C))
    {n : Int32} {N' : Nat} (hn : ¬ n < 0) (hN : n.toNatClampNeg = N') (hbytes : N' * 4 ≤ 536870912) (hcells : cells + 1 ≤ R.cells) (hslots : slots + N' ≤ R.slots) (hdg : decode cc pc = .ok (.anewarray index, 3))
    (kk : ∀ (q : Nat) (H1 : Heap), va_P D vwCl (W0 ++ [(q, .inl (cA, N', .inr (.inr (.inr (.inr (fun _ => none))))))]) H1 → va_D A (W0 ++ [(q, .inl (cA, N', .inr (.inr (.inr (.inr (fun _ => none))))))]) → va_S A s.heap H1 locs →
      W p l e R s m args below meth c H1 locs (cells + 1) (slots + N') Q (F0 m (pc + 3) ls (.ref q :: rest))) : W p l e R s m args below meth c H locs cells slots Q (F0 m pc ls (.int n :: rest)) := by
  refine va_newq F.1.1 F.1.2.1 F.1.2.2.2.1 hclink hover F.2.1 hP hD hS F.2.2.2.2 hn hN hbytes hcells hslots hdg (fun q cB H1 hK hP1 hD1 hS1 => ?_)
  have h1 := (F.2.1.2 t0 _ ht).2
  have h2 := (hK.2 (TY cy).length (cB, .object C) (by rw [List.getElem?_append_right (Nat.le_refl _), Nat.sub_self]; rfl)).2
  obtain ⟨_, _, _, _, _, e1⟩ := h1
  obtain ⟨_, _, _, _, _, e2⟩ := h2
  cases Option.some.inj (e2.symm.trans e1)
  exact kk q H1 hP1 hD1 hS1
end Rows
/-- a method's contract out of its walk -/
theorem ent {l : Launch} {y : MethodName} {wy wy' : List Cond} {f n mc ms : Nat} {D : va_G} {cy : Nat → ClassId} {av : List Value} {ws : va_W} {sz : Nat} {Qc : (Nat → Prop) → Array Value → State → Outcome → State → Prop} {cc : ByteArray} {maxL : Nat} {ret : Option FieldType}
    (hy : plainName y.cls = true) (hw : wy = Cond.code y cc maxL ret :: wy') (hav : (lg_sl av).length ≤ maxL)
    (body : ∀ (A : Nat → Prop) (p : Program) (e : Env) (s : State) (m : MethodId) (below : List Frame) (meth : Method) (c : Code) (ls : Array Slot), Fx D cy p m c cc maxL s av.toArray wy y.cls A → meth.sig.returnType = ret → meth.locks = false → meth.name = y.name → va_P D vwCl ws s.heap → va_D A ws → lv_has ls maxL (lv_args 0 av) →
      W p l e (RM f n mc ms) s m av.toArray below meth c s.heap [] 0 0 (MQ below (Qc A) av.toArray s mc ms A) (F0 m 0 ls [])) : Met l y wy (RM f n mc ms) (va_Pc av (Pre D cy ws sz)) (Qc (va_A ws sz)) mc ms (va_A ws sz) := by
  refine Met.ofW (cc := cc) (maxL := maxL) (ret := ret) hy hw ?_
  intro p e s m args below meth c s₁ B hml hv
  obtain ⟨rfl, hsz, hP, hK, hD0, hG, hZ⟩ := hv
  rw [lg_entry_eq]
  have hl := lv_entry av (n := maxL) hav
  generalize (lg_sl av ++ List.replicate (maxL - (lg_sl av).length) Slot.unset).toArray = ls at hl ⊢
  exact body (va_A ws sz) p e s m below meth c ls ⟨⟨B.exec, B.bytes, hml, findClass_of_methodNamed B.named, atoms_spec (ws := wy) B.pre⟩, hK, hG, hZ, fun q h => Or.inr (by rw [← hsz]; exact h)⟩ B.returns B.notSynchronized ((name_of_methodNamed B.named B.method).1) hP (hD0.self (sz := sz)) hl
theorem entX {l : Launch} {y : MethodName} {wy wy' : List Cond} {f n mc ms : Nat} {D : va_G} {cy : Nat → ClassId} {av : List Value} {ws : va_W} {sz : Nat} {Qc : (Nat → Prop) → Array Value → State → Outcome → State → Prop} {px : String → Prop} {cc : ByteArray} {maxL : Nat} {ret : Option FieldType}
    (hy : plainName y.cls = true) (hw : wy = Cond.code y cc maxL ret :: wy') (hav : (lg_sl av).length ≤ maxL)
    (body : ∀ (A : Nat → Prop) (p : Program) (e : Env) (s : State) (m : MethodId) (below : List Frame) (meth : Method) (c : Code) (ls : Array Slot), Fx D cy p m c cc maxL s av.toArray wy y.cls A → meth.sig.returnType = ret → meth.locks = false → (∀ x ∈ c.exceptionTable.toList, False) → va_P D vwCl ws s.heap → va_D A ws → lv_has ls maxL (lv_args 0 av) →
      W p l e (RM f n mc ms) s m av.toArray below meth c s.heap [] 0 0 (vx_MQ below (Qc A) (XP px A) av.toArray s mc ms A) (F0 m 0 ls [])) : vx_Met l y wy (RM f n mc ms) (va_Pc av (Pre D cy ws sz)) (Qc (va_A ws sz)) (XP px (va_A ws sz)) mc ms (va_A ws sz) := by
  refine vx_ofW (cc := cc) (maxL := maxL) (ret := ret) hy hw ?_
  intro p e s m args below meth c s₁ B hml hex hv
  obtain ⟨rfl, hsz, hP, hK, hD0, hG, hZ⟩ := hv
  rw [lg_entry_eq]
  have hl := lv_entry av (n := maxL) hav
  generalize (lg_sl av ++ List.replicate (maxL - (lg_sl av).length) Slot.unset).toArray = ls at hl ⊢
  exact body (va_A ws sz) p e s m below meth c ls ⟨⟨B.exec, B.bytes, hml, findClass_of_methodNamed B.named, atoms_spec (ws := wy) B.pre⟩, hK, hG, hZ, fun q h => Or.inr (by rw [← hsz]; exact h)⟩ B.returns B.notSynchronized hex hP (hD0.self (sz := sz)) hl
end KIT
