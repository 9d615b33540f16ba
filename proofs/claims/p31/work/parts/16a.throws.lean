section THROWS
/-- the words of a throw that no list of words may hold -/
def xBw : List Cond := [.declares (Bundle.initS "java/lang/RuntimeException"), .declares (Bundle.initS "java/lang/Exception"), .declares (Bundle.initS Bundle.tN), .castable "java/lang/IllegalArgumentException" "java/lang/IllegalArgumentException", .castable "java/lang/IllegalStateException" "java/lang/IllegalStateException", .castable "java/lang/IndexOutOfBoundsException" "java/lang/IndexOutOfBoundsException"]
/-- the texts of the class's exceptions -/
def xTx : List (Nat × String) := [(35, "a letter is a number from 0 to 25"), (46, "the slip has 10 letters"), (63, "the slip has no such letter"), (66, "a word has at least 2 letters"), (71, "there are 50 words, or this one is there"), (80, "the dictionary does not have this word"), (95, "there is no such word"), (97, "the least length is from 2 to 10"), (103, "a game has 2 to 4 players"), (117, "no letter can be played"), (123, "there is nothing to challenge"), (141, "there is no such player"), (143, "the fragment has no such letter")]
def Xk (A : Nat → Prop) (U : State) : Prop := vx_Zq Bundle.tN "UNASSIGNED_STACK" Bundle.steD A U U.heap ∧ vx_Zq Bundle.tN "SUPPRESSED_SENTINEL" Bundle.listD A U U.heap ∧ (∀ w ∈ xBw, w.before #[] U = true) ∧ ∀ q ∈ xTx, ∃ sa : Nat, vk_R RX4 q.1 q.2 sa U
theorem xb_ok : ∀ w ∈ xBw, (w.faceAtom = true ∨ w.castAtom = true) ∧ vx_ot w = true := by decide +kernel
theorem xb_move {w : Cond} {s U : State} {a a' : Array Value} (hw : w ∈ xBw) (hW : s.WarmedH U.vm) (h : w.before a s = true) : w.before a' U = true := by
  obtain ⟨h1, h2⟩ := xb_ok w hw
  have h3 : w.before a (s.setVm U.vm) = true := by
    rcases h1 with q | q
    · exact Cond.faceAtom_setVm hW.alike w q h
    · exact Cond.castAtom_setVm hW.alike w q h
  exact vx_ot_at (s := s.setVm U.vm) (State.WarmedH.refl (s.setVm U.vm)) rfl h2 h3
theorem Xk.move {A A' : Nat → Prop} {s U : State} {H : Heap} {locs : List Loc} (hW : s.WarmedH U.vm) (hU : U.heap = H) (hS : va_S A s.heap H locs) (hA : ∀ q, A' q → A q) (h : Xk A s) : Xk A' U := by
  obtain ⟨h1, h2, h3, h4⟩ := h
  subst hU
  refine ⟨((h1.moved hW.alike).kept hS.2.1).narrow hA, ((h2.moved hW.alike).kept hS.2.1).narrow hA, fun w hw => xb_move hw hW (h3 w hw), fun q hq => ?_⟩
  obtain ⟨sa, h5⟩ := h4 q hq
  exact ⟨sa, h5.warm hW⟩
theorem Xk.blind {A : Nat → Prop} {U : State} (g : JFrame) (mk : MethodId) (a : Array Value) (h : Xk A U) : Xk A (U.calling g mk a) :=
  Xk.move (locs := []) (A := A) (State.WarmedH.refl U) rfl va_S.rf (fun _ q => q) h
def Pwx (g : GG) (wd : va_W) (sz : Nat) (U : State) : Prop := Pw g wd sz U ∧ Xk (va_A wd sz) U
theorem Pwx.blind (g : GG) (av : List Value) (wd : va_W) (sz : Nat) : FrameBlind (va_Pc av (Pwx g wd sz)) := fun a U gg mk q => by
  obtain ⟨q0, q1, q2⟩ := q
  have h := Pw.blind g av wd sz a U gg mk ⟨q0, q1⟩
  exact ⟨h.1, h.2, q2.blind gg mk a⟩
/-- a contract that returns or throws; a throw leaves the world as it was -/
def Xi (l : Launch) (y : MethodName) (ws : List Cond) (rm : Room) (g : GG) (av : List Value) (wd : va_W) (post : Int32 → va_W → Prop) (xp : String → Prop) : Prop := ∀ sz : Nat, vx_Met l y ws rm (va_Pc av (Pwx g wd sz)) (va_Qi post (fun w t => Bw g (va_A wd sz) w t) (va_A wd sz)) (vx_X (fun _ : Unit => True) (fun E _ t => xp E ∧ Bw g (va_A wd sz) wd t) (va_A wd sz)) 1 6 (va_A wd sz)
/-- a contract that returns or throws; a throw leaves the world as it was -/
def Xv (l : Launch) (y : MethodName) (ws : List Cond) (rm : Room) (g : GG) (av : List Value) (wd : va_W) (post : va_W → Prop) (xp : String → Prop) : Prop := ∀ sz : Nat, vx_Met l y ws rm (va_Pc av (Pwx g wd sz)) (va_Qv post (fun w t => Bw g (va_A wd sz) w t) (va_A wd sz)) (vx_X (fun _ : Unit => True) (fun E _ t => xp E ∧ Bw g (va_A wd sz) wd t) (va_A wd sz)) 1 6 (va_A wd sz)
variable {l : Launch} {y : MethodName} {ws ws' : List Cond} {rm : Room} {g : GG} {av : List Value} {wd : va_W} {cc : ByteArray} {maxL : Nat} {xp : String → Prop}
theorem Xi.of {post : Int32 → va_W → Prop} (hl0 : l.flags = flags0) (hyc : y.cls = RX4) (hy : plainName y.cls = true) (hw : ws = Cond.code y cc maxL (some .int) :: ws') (hn : (lg_sl av).length ≤ maxL) (hrm : rm.cells = 1 ∧ rm.slots = 6)
    (body : ∀ (p : Program) (e : Env) (s : State) (m : MethodId) (args : Array Value) (below : List Frame) (meth : Method) (c : Code) (A : Nat → Prop) (Z : State → Prop),
      p.tables.exec = Jvm.exec → c.code = cc → c.maxLocals = maxL → (∀ w ∈ ws, w.before args s = true) → s.vm.findClass y.cls = some m.cls → va_K g.1 vwCl (tyG g) s → (∀ q, s.heap.size ≤ q → A q) →
      (∀ (r : Int32) (w : va_W) (H : Heap) (locs : List Loc) (ls : Array Slot) (pc : Nat), decode cc pc = .ok (.ireturn, 1) → post r w → va_P g.1 vwCl w H → va_D A w → va_S A s.heap H locs → W p l e rm s m args below meth c H locs 0 0 Z (F0 m pc ls [.int r])) →
      (∀ (cls text : String) (names : List String) (ik is ic : Nat) (H : Heap) (locs : List Loc) (ls : Array Slot) (rest : List Value) (pc : Nat), Bundle.fit cls = true → (∀ n ∈ names, Bundle.fit n = true) → Cond.classLink RX4 ik cls ∈ ws → Cond.initialized cls ∈ ws → (is, text) ∈ xTx →
        (∀ w ∈ (vx_atS RX4 ic cls names).filter goodWord, w ∈ ws) → (∀ w ∈ (vx_atS RX4 ic cls names).filter (fun w => !goodWord w), w ∈ xBw) → (∀ w ∈ Cond.classLink RX4 ik cls :: Cond.initialized cls :: vx_atS RX4 ic cls names, vx_ot w = true) → ls.size = maxL →
        decode cc pc = .ok (.new ik, 3) → decode cc (pc + 3) = .ok (.dup, 1) → decode cc (pc + 4) = .ok (.ldc is, 2) → decode cc (pc + 6) = .ok (.invokespecial ic, 3) → decode cc (pc + 9) = .ok (.athrow, 1) →
        names.length + 3 < rm.frames → (rest.map fun v => v.category).sum + (13 * (names.length + 1) + 43) ≤ rm.locals → xp cls → va_P g.1 vwCl wd H → va_D A wd → va_S A s.heap H locs → W p l e rm s m args below meth c H locs 0 0 Z (F0 m pc ls rest)) →
      ∀ (H : Heap) (locs : List Loc) (ls : Array Slot), va_P g.1 vwCl wd H → va_D A wd → va_S A s.heap H locs → lv_has ls maxL (lv_args 0 av) → W p l e rm s m args below meth c H locs 0 0 Z (F0 m 0 ls [])) : Xi l y ws rm g av wd post xp := by
  intro sz
  have hst : l.stackTraces = false := by unfold Launch.stackTraces; rw [hl0]; decide +kernel
  refine vx_ofW (cc := cc) (maxL := maxL) (ret := (some .int)) hy hw ?_
  intro p e s m args below meth c s₁ B hml hnox hv
  obtain ⟨rfl, ⟨hsz, hP, hK, hD0⟩, hXk⟩ := hv
  have hx := B.exec
  have hb := B.bytes
  have hr := B.returns
  have hts := atoms_spec (ws := ws) B.pre
  have hown : s.vm.findClass y.cls = some m.cls := findClass_of_methodNamed B.named
  have hlocks := B.notSynchronized
  subst hsz
  have hD := hD0.self (sz := s.heap.size)
  generalize hAe : va_A wd s.heap.size = A at hD hXk ⊢
  have hA : ∀ q : Nat, s.heap.size ≤ q → A q := fun q h => by rw [← hAe]; exact Or.inr h
  have hl := lv_entry av (n := maxL) hn
  rw [lg_entry_eq]
  refine body p e s m av.toArray below meth c A _ hx hb hml hts hown hK hA (fun r w H locs ls pc hd hp hP hD hS => ?_) (fun cls text names ik is ic H locs ls rest pc f1 f2 f3 f4 f5 f6 f7 f8 f9 d0 d3 d4 d6 d9 r1 r2 hxp hP hD hS => ?_) _ _ _ hP hD va_S.rf hl
  · exact W.widen (k := 1) (n := 6) (by decide) (by decide) (vx_ret (W.iret (v := r) hx hb hr (fun t ht hW => ⟨⟨r, w, rfl, hp, by rw [ht]; exact hP, va_K.moved hW.alike hK, hD⟩, hS.F ht⟩) hS.2.2 hd))
  · obtain ⟨h1, h2, h3, h4⟩ := hXk
    obtain ⟨sa, h5⟩ := h4 _ f5
    rw [hyc] at hown
    refine vx_throwS (text := text) (names := names) (ik := ik) (is := is) (ic := ic) (sa := sa) (cls := cls) hx hb hst hown f1 f2 (hts _ f3) (hts _ f4) h5 (vx_hat (fun w hw => hts w (f6 w hw)) f7 (fun w hw => xb_move hw (State.WarmedH.refl s) (h3 w hw))) f8 h1 h2 hS (by rw [hml]; exact f9) d0 d3 d4 d6 d9 (fun x hx9 => (hnox x hx9).elim) r1 r2 (by rw [hrm.1]; decide) (by rw [hrm.2]; decide) hlocks (fun t ha hz hq => ?_) hS.2.2 (by decide) (by decide)
    exact ⟨(), trivial, ⟨hxp, hP.kept (fun k q hk => hq q.1 (hP k q hk).lt), va_K.moved ha hK, hD⟩, Nat.le_trans hS.1 hz, fun q g1 g2 => (hq q (Nat.lt_of_lt_of_le g1 hS.1)).trans (hS.2.1 q g1 g2)⟩
theorem Xv.of {post : va_W → Prop} (hl0 : l.flags = flags0) (hyc : y.cls = RX4) (hy : plainName y.cls = true) (hw : ws = Cond.code y cc maxL none :: ws') (hn : (lg_sl av).length ≤ maxL) (hrm : rm.cells = 1 ∧ rm.slots = 6)
    (body : ∀ (p : Program) (e : Env) (s : State) (m : MethodId) (args : Array Value) (below : List Frame) (meth : Method) (c : Code) (A : Nat → Prop) (Z : State → Prop),
      p.tables.exec = Jvm.exec → c.code = cc → c.maxLocals = maxL → (∀ w ∈ ws, w.before args s = true) → s.vm.findClass y.cls = some m.cls → va_K g.1 vwCl (tyG g) s → (∀ q, s.heap.size ≤ q → A q) →
      (∀ (w : va_W) (H : Heap) (locs : List Loc) (ls : Array Slot) (pc : Nat), decode cc pc = .ok (.return_, 1) → post w → va_P g.1 vwCl w H → va_D A w → va_S A s.heap H locs → W p l e rm s m args below meth c H locs 0 0 Z (F0 m pc ls [])) →
      (∀ (cls text : String) (names : List String) (ik is ic : Nat) (H : Heap) (locs : List Loc) (ls : Array Slot) (rest : List Value) (pc : Nat), Bundle.fit cls = true → (∀ n ∈ names, Bundle.fit n = true) → Cond.classLink RX4 ik cls ∈ ws → Cond.initialized cls ∈ ws → (is, text) ∈ xTx →
        (∀ w ∈ (vx_atS RX4 ic cls names).filter goodWord, w ∈ ws) → (∀ w ∈ (vx_atS RX4 ic cls names).filter (fun w => !goodWord w), w ∈ xBw) → (∀ w ∈ Cond.classLink RX4 ik cls :: Cond.initialized cls :: vx_atS RX4 ic cls names, vx_ot w = true) → ls.size = maxL →
        decode cc pc = .ok (.new ik, 3) → decode cc (pc + 3) = .ok (.dup, 1) → decode cc (pc + 4) = .ok (.ldc is, 2) → decode cc (pc + 6) = .ok (.invokespecial ic, 3) → decode cc (pc + 9) = .ok (.athrow, 1) →
        names.length + 3 < rm.frames → (rest.map fun v => v.category).sum + (13 * (names.length + 1) + 43) ≤ rm.locals → xp cls → va_P g.1 vwCl wd H → va_D A wd → va_S A s.heap H locs → W p l e rm s m args below meth c H locs 0 0 Z (F0 m pc ls rest)) →
      ∀ (H : Heap) (locs : List Loc) (ls : Array Slot), va_P g.1 vwCl wd H → va_D A wd → va_S A s.heap H locs → lv_has ls maxL (lv_args 0 av) → W p l e rm s m args below meth c H locs 0 0 Z (F0 m 0 ls [])) : Xv l y ws rm g av wd post xp := by
  intro sz
  have hst : l.stackTraces = false := by unfold Launch.stackTraces; rw [hl0]; decide +kernel
  refine vx_ofW (cc := cc) (maxL := maxL) (ret := none) hy hw ?_
  intro p e s m args below meth c s₁ B hml hnox hv
  obtain ⟨rfl, ⟨hsz, hP, hK, hD0⟩, hXk⟩ := hv
  have hx := B.exec
  have hb := B.bytes
  have hr := B.returns
  have hts := atoms_spec (ws := ws) B.pre
  have hown : s.vm.findClass y.cls = some m.cls := findClass_of_methodNamed B.named
  have hlocks := B.notSynchronized
  subst hsz
  have hD := hD0.self (sz := s.heap.size)
  generalize hAe : va_A wd s.heap.size = A at hD hXk ⊢
  have hA : ∀ q : Nat, s.heap.size ≤ q → A q := fun q h => by rw [← hAe]; exact Or.inr h
  have hl := lv_entry av (n := maxL) hn
  rw [lg_entry_eq]
  refine body p e s m av.toArray below meth c A _ hx hb hml hts hown hK hA (fun w H locs ls pc hd hp hP hD hS => ?_) (fun cls text names ik is ic H locs ls rest pc f1 f2 f3 f4 f5 f6 f7 f8 f9 d0 d3 d4 d6 d9 r1 r2 hxp hP hD hS => ?_) _ _ _ hP hD va_S.rf hl
  · exact W.widen (k := 1) (n := 6) (by decide) (by decide) (vx_ret (W.vret hx hb hr (fun t ht hW => ⟨⟨w, rfl, hp, by rw [ht]; exact hP, va_K.moved hW.alike hK, hD⟩, hS.F ht⟩) hS.2.2 hd))
  · obtain ⟨h1, h2, h3, h4⟩ := hXk
    obtain ⟨sa, h5⟩ := h4 _ f5
    rw [hyc] at hown
    refine vx_throwS (text := text) (names := names) (ik := ik) (is := is) (ic := ic) (sa := sa) (cls := cls) hx hb hst hown f1 f2 (hts _ f3) (hts _ f4) h5 (vx_hat (fun w hw => hts w (f6 w hw)) f7 (fun w hw => xb_move hw (State.WarmedH.refl s) (h3 w hw))) f8 h1 h2 hS (by rw [hml]; exact f9) d0 d3 d4 d6 d9 (fun x hx9 => (hnox x hx9).elim) r1 r2 (by rw [hrm.1]; decide) (by rw [hrm.2]; decide) hlocks (fun t ha hz hq => ?_) hS.2.2 (by decide) (by decide)
    exact ⟨(), trivial, ⟨hxp, hP.kept (fun k q hk => hq q.1 (hP k q hk).lt), va_K.moved ha hK, hD⟩, Nat.le_trans hS.1 hz, fun q g1 g2 => (hq q (Nat.lt_of_lt_of_le g1 hS.1)).trans (hS.2.1 q g1 g2)⟩
end THROWS
