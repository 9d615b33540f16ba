/-! ===== BEGIN words of one list among another's, by their places ===== -/
theorem goodIn_r {big : List Cond} (ws : List Cond) (ps : List Nat) (hp : ws = ps.filterMap (fun i => big[i]?)) (h : ws.all goodWord = true) : GoodIn big ws := by
  intro w hw
  have h1 := List.all_eq_true.mp h w hw
  rw [hp] at hw
  obtain ⟨i, -, hi⟩ := List.mem_filterMap.mp hw
  have hm : w ∈ big := by first | exact List.mem_of_getElem? hi | exact List.getElem?_mem hi
  exact ⟨hm, good_of_word h1⟩
theorem goodIn_app {big a b : List Cond} (ha : GoodIn big a) (hb : GoodIn big b) : GoodIn big (a ++ b) := fun w h => (List.mem_append.mp h).elim (ha w) (hb w)
theorem goodIn_ca {big a b : List Cond} {c : Cond} (ha : GoodIn big (c :: a)) (hb : GoodIn big b) : GoodIn big (c :: (a ++ b)) := fun w h => (List.mem_cons.mp h).elim (fun e => ha w (List.mem_cons.mpr (Or.inl e))) (fun h => (List.mem_append.mp h).elim (fun h => ha w (List.mem_cons.mpr (Or.inr h))) (hb w))
theorem goodIn_sub {big ws : List Cond} (hm : ∀ w ∈ ws, w ∈ big) (h : ws.all goodWord = true) : GoodIn big ws := fun w hw => ⟨hm w hw, good_of_word (List.all_eq_true.mp h w hw)⟩
/-! ===== END ===== -/

/-! ===== BEGIN exceptions that leave a method, and their catching by the caller (launches without stack traces) ===== -/
section VXA
/-! The laws vx_back, vx_callV, vx_callS, vx_callSW, vx_throw0, vx_throwS follow proofs of the library, with one case more: JvmDerived/Free/Laws.lean (Back.of_free), Shelf42/LK1.lean (callV, callS), Shelf/KitTraced.lean (throwNew0V, throwNewS). -/
/-- where a method has thrown q: the class by its name, the cell, what was written, the world -/
def vx_T (XC : String → State → State → Prop) (st : State) (q : Addr) (t : State) (mc ms : Nat) (free : Addr → Prop) : Prop :=
  ∃ (E : String) (ce : Cell) (L : List Loc), XC E st t ∧ t.heap[q]? = some ce ∧ ce.vm = .none ∧ st.vm.findClass E = some ce.cls ∧ st.WarmedH t.vm ∧ st.sameButNew ({ t with vm := st.vm } : State) L mc ms ∧ ∀ z ∈ L, free z.base
def vx_Q (Qc : Array Value → State → Outcome → State → Prop) (XC : String → State → State → Prop) (mc ms : Nat) (free : Addr → Prop) : Array Value → State → Outcome → State → Prop := fun a st o t =>
  (Qc a st o t ∧ ∃ L, FrameEnd st o t L mc ms ∧ ∀ q ∈ L, free q.base) ∨ ∃ q, o = .threw q ∧ vx_T XC st q t mc ms free
/-- a callee that returns or throws -/
def vx_Met (l : Launch) (y : MethodName) (ws : List Cond) (rm : Room) (Pc : Array Value → State → Prop) (Qc : Array Value → State → Outcome → State → Prop) (XC : String → State → State → Prop) (mc ms : Nat) (free : Addr → Prop) : Prop :=
  MetFree l y (headSpec ws rm) Pc (fun _ _ _ _ _ => True) (vx_Q Qc XC mc ms free)
def vx_Post (XC : String → State → State → Prop) (mc ms : Nat) (free : Addr → Prop) : Pt → Array Value → Addr → Pt → Prop := fun A a q B =>
  ∃ (g : JFrame) (mk : MethodId) (t : State) (L : List Loc) (E : String) (ce : Cell), B.U.heap = t.heap ∧ B.U.vm = t.vm ∧ XC E (A.U.calling g mk a) t ∧ t.heap[q]? = some ce ∧ ce.vm = .none ∧ A.U.vm.findClass E = some ce.cls ∧ B.locs = A.locs ++ L ∧ (∀ z ∈ L, free z.base) ∧ B.cells = A.cells + mc ∧ B.slots = A.slots + ms
def vx_Back (l : Launch) (R : Room) (p : Program) (e : Env) (below : List Frame) (s : State) (sargs : Array Value) (y : MethodName) (len W9 : Nat)
    (Pre : Pt → Array Value → Prop) (Post : Pt → Array Value → Option Value → Pt → Prop) (PostX : Pt → Array Value → Addr → Pt → Prop) : Prop :=
  ∀ (m : MethodId) (meth : Method) (c : Code) (A : Pt) (g : JFrame) (ig : Instr) (mk : MethodId) (a : Array Value),
    Stand p l e R s m sargs below meth c A.U A.locs A.cells A.slots → g.method = m → g.locals.size = c.maxLocals → decode c.code g.pc = .ok (ig, len) →
    2 * g.monitorRoom + (g.stack.map fun v => v.category).sum ≤ W9 → A.U.methodNamed? y = some mk → Pre A a →
    (∃ (v : Option Value) (B : Pt), Stand p l e R s m sargs below meth c B.U B.locs B.cells B.slots ∧ Post A a v B ∧
      Steps p.tables e below (doInvoke e (A.U.setTop g) [] mk a).1 (B.U.setTop { g with pc := g.pc + len, stack := v.toList ++ g.stack })) ∨
    (∃ (q : Addr) (B : Pt), Stand p l e R s m sargs below meth c B.U B.locs B.cells B.slots ∧ PostX A a q B ∧
      Steps p.tables e below (doInvoke e (A.U.setTop g) [] mk a).1 ((B.U.setTop g).pushFrame (.throwing q)))
section Payer
variable {l : Launch} {R : Room} {p : Program} {e : Env} {below : List Frame} {s : State} {sargs : Array Value} {y : MethodName} {len W9 : Nat}
theorem vx_back {ws : List Cond} {rm : Room} {Pc : Array Value → State → Prop} {Qc : Array Value → State → Outcome → State → Prop} {XC : String → State → State → Prop} {mc ms : Nat} {free : Addr → Prop} {bytes : ByteArray} {maxL : Nat} {ret : Option FieldType}
    (hM : vx_Met l y ws rm Pc Qc XC mc ms free) (hblind : FrameBlind Pc) (hrc : rm.cells = mc) (hrs : rm.slots = ms)
    (hframes : rm.frames + 1 ≤ R.frames) (hlocals : W9 + (maxL + 11) + rm.locals ≤ R.locals)
    (hws : ∀ w ∈ ws, ∀ a' U, s.WarmedH U.vm → w.before a' U = true) (hcode : Cond.code y bytes maxL ret ∈ ws) (hinit : ∀ a' U, s.WarmedH U.vm → (Cond.initialized y.cls).before a' U = true) :
    vx_Back l R p e below s sargs y len W9 (PreOf R mc ms Pc) (PostOf Qc mc ms free) (vx_Post XC mc ms free) := by
  intro m meth c A g ig mk a X hg hsize hdg hW hn hp
  have h1 : (headSpec ws rm).pre.before a A.U = true := atoms_intro fun w hw => hws w hw _ _ X.warmed
  have h2 : (Cond.code y bytes maxL ret).before a A.U = true := hws _ hcode _ _ X.warmed
  have h3 : (Cond.initialized y.cls).before a A.U = true := hinit _ _ X.warmed
  have h4 : A.cells + (headSpec ws rm).room.cells ≤ R.cells := by rw [show (headSpec ws rm).room.cells = mc from hrc]; exact hp.1
  have h5 : A.slots + (headSpec ws rm).room.slots ≤ R.slots := by rw [show (headSpec ws rm).room.slots = ms from hrs]; exact hp.2.1
  have hPc : Pc a (A.U.calling g mk a) := hblind _ _ _ _ hp.2.2
  obtain ⟨U, Ls, c0, s0⟩ := A
  dsimp only [Pt.U, Pt.locs, Pt.cells, Pt.slots] at h1 h2 h3 h4 h5 X hn hPc ⊢
  obtain ⟨methY, cY, hmY, hcY, -, hlY, -, -, -, -⟩ := Cond.code_spec hn h2
  obtain ⟨kY, hkY, -⟩ := className_of_methodNamed hn
  have hinitY : kY.init = .initialized := Cond.initialized_spec (findClass_of_methodNamed hn) hkY h3
  have h : At U g.method c below := by rw [hg]; exact X.here
  have hlocals9 : W9 + (maxL + 11) + (headSpec ws rm).room.locals ≤ R.locals := hlocals
  have happ : (headSpec ws rm).appliesLoose y e.platform (U.calling g mk a) = true :=
    Spec.appliesLoose_calling (g := g) h hdg hn hkY hinitY
      (X.room_calling (g := g) (R' := (headSpec ws rm).room) hsize hmY hcY hframes (by rw [hlY]; omega) h4 h5) h1
  obtain ⟨mid, hmid⟩ := h.above
  have hfr : (U.setTop g).frames = (.java g :: mid) ++ below := by rw [State.frames_setTop' g h.top, hmid]; rfl
  obtain ⟨o, s₂, hsteps, -, hend, hq⟩ := Steps.callFree hM p X.admits X.cas X.clock (acts := []) hfr happ hPc trivial
  have hq' : vx_Q Qc XC mc ms free a (U.calling g mk a) o s₂ := hq
  rw [State.frames_setTop' g h.top] at hend
  obtain ⟨g₀, hg0⟩ := Option.isSome_iff_exists.mp h.top
  obtain ⟨r, hr⟩ := State.topJava?_eq_some.mp hg0
  have hr' : (({ U with heap := s₂.heap, slotsUsed := s₂.slotsUsed } : State).setVm s₂.vm).frames = .java g₀ :: r := hr
  rcases hq' with ⟨hqc, L, hfe, hL⟩ | ⟨q, rfl, E, ce, L, hx, hce, hcv, hcl, hW₂, hsm, hL⟩
  · obtain ⟨⟨v, rfl⟩, hW₂, e2, q2, q3, q4, q5, q6⟩ := id hfe
    have e3 : s₂ = ({ (U.calling g mk a).setFrames s₂.frames with heap := s₂.heap, slotsUsed := s₂.slotsUsed } : State).setVm s₂.vm := by
      have : s₂ = ({ s₂ with vm := (U.calling g mk a).vm } : State).setVm s₂.vm := rfl
      rw [e2] at this
      exact this
    obtain ⟨c₂, i₂, len₂, hc₂, hd₂, hf₂⟩ := hend
    have hW' : U.WarmedH s₂.vm := hW₂
    have hcc : c₂ = c := by
      have h1 : s₂.code? g.method = U.code? g.method := by
        rw [State.code?_eq, State.code?_eq, hW'.alike.method?]
      exact Option.some.inj (hc₂.symm.trans (h1.trans h.code))
    subst hcc
    have hlen : len₂ = len := by rw [hdg] at hd₂; cases hd₂; rfl
    subst hlen
    have hs₂ : s₂ = (({ U with heap := s₂.heap, slotsUsed := s₂.slotsUsed } : State).setVm s₂.vm).setTop { g with pc := g.pc + len₂, stack := v.toList ++ g.stack } := by
      refine e3.trans ?_
      rw [hf₂, State.calling_eq h.top, State.setFrames_setFrames, State.setTop_of_frames _ hr', hr]
      rfl
    have hsame : U.sameButNew ({ U with heap := s₂.heap, slotsUsed := s₂.slotsUsed } : State) L mc ms := by
      refine ⟨?_, q2, q3, q4, q5, q6⟩
      obtain ⟨t, ht, -⟩ := State.frames_cons hr
      show ({ U with heap := s₂.heap, slotsUsed := s₂.slotsUsed } : State) = { U.setFrames U.frames with heap := s₂.heap, slotsUsed := s₂.slotsUsed }
      rw [State.setFrames_self ht]
    subst hg
    refine Or.inl ⟨v, ⟨(({ U with heap := s₂.heap, slotsUsed := s₂.slotsUsed } : State).setVm s₂.vm), Ls ++ L, c0 + mc, s0 + ms⟩,
      ⟨X.admits, X.cas, X.clock, X.frames, X.room, X.hears, X.method, X.code, (X.here.setHeapUsed s₂.heap s₂.slotsUsed).setVm hW'.alike, X.tail, State.WarmedH.trans X.warmed hW', X.limits, X.bytes, X.same.trans (hsame.setVm s.vm)⟩,
      ⟨g, mk, s₂, L, rfl, rfl, hqc, rfl, hL, rfl, rfl⟩, ?_⟩
    show Steps p.tables e below _ ((({ U with heap := s₂.heap, slotsUsed := s₂.slotsUsed } : State).setVm s₂.vm).setTop { g with pc := g.pc + len₂, stack := v.toList ++ g.stack })
    rw [← hs₂]
    exact hsteps
  · obtain ⟨e2, q2, q3, q4, q5, q6⟩ := id hsm
    have e3 : s₂ = ({ (U.calling g mk a).setFrames s₂.frames with heap := s₂.heap, slotsUsed := s₂.slotsUsed } : State).setVm s₂.vm := by
      have : s₂ = ({ s₂ with vm := (U.calling g mk a).vm } : State).setVm s₂.vm := rfl
      rw [e2] at this
      exact this
    have hf₂ : s₂.frames = .throwing q :: .java g :: U.frames.tail := hend
    have hW' : U.WarmedH s₂.vm := hW₂
    have hs₂ : s₂ = ((({ U with heap := s₂.heap, slotsUsed := s₂.slotsUsed } : State).setVm s₂.vm).setTop g).pushFrame (.throwing q) := by
      refine e3.trans ?_
      rw [hf₂, State.calling_eq h.top, State.setFrames_setFrames, State.pushFrame, State.frames_setTop _ hr', State.setTop_of_frames _ hr', State.setFrames_setFrames, hr]
      rfl
    have hsame : U.sameButNew ({ U with heap := s₂.heap, slotsUsed := s₂.slotsUsed } : State) L mc ms := by
      refine ⟨?_, q2, q3, q4, q5, q6⟩
      obtain ⟨t, ht, -⟩ := State.frames_cons hr
      show ({ U with heap := s₂.heap, slotsUsed := s₂.slotsUsed } : State) = { U.setFrames U.frames with heap := s₂.heap, slotsUsed := s₂.slotsUsed }
      rw [State.setFrames_self ht]
    subst hg
    refine Or.inr ⟨q, ⟨(({ U with heap := s₂.heap, slotsUsed := s₂.slotsUsed } : State).setVm s₂.vm), Ls ++ L, c0 + mc, s0 + ms⟩,
      ⟨X.admits, X.cas, X.clock, X.frames, X.room, X.hears, X.method, X.code, (X.here.setHeapUsed s₂.heap s₂.slotsUsed).setVm hW'.alike, X.tail, State.WarmedH.trans X.warmed hW', X.limits, X.bytes, X.same.trans (hsame.setVm s.vm)⟩,
      ⟨g, mk, s₂, L, E, ce, rfl, rfl, hx, hce, hcv, hcl, rfl, hL, rfl, rfl⟩, ?_⟩
    show Steps p.tables e below _ (((({ U with heap := s₂.heap, slotsUsed := s₂.slotsUsed } : State).setVm s₂.vm).setTop g).pushFrame (.throwing q))
    rw [← hs₂]
    exact hsteps
end Payer
section Calls
variable {p : Program} {l : Launch} {e : Env} {R : Room} {s : State} {m : MethodId} {args : Array Value} {below : List Frame} {meth : Method} {c : Code} {T : State} {locs : List Loc} {cells slots : Nat}
theorem vx_callV (X : Stand p l e R s m args below meth c T locs cells slots) (hexec : p.tables.exec = Jvm.exec) {own C : String} {index : Nat} {y : MethodName} {bytes : ByteArray} {maxL : Nat} {ret : Option FieldType}
    (hown : s.vm.findClass own = some m.cls) (hlink : (Cond.methodLink own index y).before args s = true) (hinst : (Cond.instanceMethod y).before args s = true) (hsel : (Cond.selects C y y).before args s = true)
    (hcode : (Cond.code y bytes maxL ret).before args s = true) (hy : y.cls ≠ "java/lang/invoke/MethodHandle" ∧ y.cls ≠ "java/lang/invoke/VarHandle")
    {W9 : Nat} {Pre : Pt → Array Value → Prop} {Post : Pt → Array Value → Option Value → Pt → Prop} {PostX : Pt → Array Value → Addr → Pt → Prop} (hK : vx_Back l R p e below s args y 3 W9 Pre Post PostX)
    {b : Addr} {cellB : Cell} (hcell : T.heap[b]? = some cellB) (hobj : cellB.vm.isStatics = false) (hcls : s.vm.findClass C = some cellB.cls)
    {g : JFrame} (hg : g.method = m) (hsize : g.locals.size = c.maxLocals) {argsL rest : List Value} (hlen : ∀ sig, parseMethodDescriptor y.desc = some sig → argsL.length = sig.parameters.length)
    (hstack : g.stack = argsL.reverse ++ .ref b :: rest) (hW : 2 * g.monitorRoom + (rest.map fun v => v.category).sum ≤ W9) (hdg : decode c.code g.pc = .ok (.invokevirtual index, 3))
    (hpre : ∀ vm₁, s.WarmedH vm₁ → Pre ⟨T.setVm vm₁, locs, cells, slots⟩ (Value.ref b :: argsL).toArray) :
    (∃ (v : Option Value) (vm₁ : Vm) (B : Pt), s.WarmedH vm₁ ∧ Stand p l e R s m args below meth c B.U B.locs B.cells B.slots ∧ Post ⟨T.setVm vm₁, locs, cells, slots⟩ (Value.ref b :: argsL).toArray v B ∧
      ∀ target, Steps p.tables e below (B.U.setTop { g with pc := g.pc + 3, stack := v.toList ++ rest }) target → Steps p.tables e below (T.setTop g) target) ∨
    (∃ (q : Addr) (vm₁ : Vm) (B : Pt), s.WarmedH vm₁ ∧ Stand p l e R s m args below meth c B.U B.locs B.cells B.slots ∧ PostX ⟨T.setVm vm₁, locs, cells, slots⟩ (Value.ref b :: argsL).toArray q B ∧
      Steps p.tables e below (T.setTop g) ((B.U.setTop { g with stack := rest }).pushFrame (.throwing q))) := by
  obtain ⟨mk, methM, hnamed, hmethM, hstM, habM⟩ := Cond.instanceMethod_spec hinst
  obtain ⟨methM', cM, hmethM', -, -, -, -, -, -, hsigM⟩ := Cond.code_spec hnamed hcode
  cases hmethM.symm.trans hmethM'
  obtain ⟨c2, r2, m2, q1, q2, q3, q4, kP, hkP, hkPi⟩ := Cond.selects_spec hsel
  cases hcls.symm.trans q1
  cases (State.methodFound?_of_named hnamed hy).symm.trans q2
  cases hnamed.symm.trans q3
  have hselP : selectMethod e.platform s.vm cellB.cls mk = .method mk := by rw [Launch.admits_selectMethod X.admits]; exact q4
  obtain ⟨vm₁, X₁, hstep₁⟩ := X.invokevirtual hexec hown hlink hnamed hmethM hstM hkP hkPi hy (a := b) (cell := cellB) hcell
    (fun z h => by rw [h] at hobj; cases hobj) hselP hmethM habM hkP hkPi (g := g) hg (argsL := argsL) (rest := rest) (hlen _ hsigM) hstack hdg
  rcases hK m meth c ⟨T.setVm vm₁, locs, cells, slots⟩ { g with stack := rest } (.invokevirtual index) mk (Value.ref b :: argsL).toArray X₁ hg hsize hdg hW (X₁.named hnamed) (hpre vm₁ X₁.warmed) with ⟨v, B, X', hpost, hsteps⟩ | ⟨q, B, X', hpost, hsteps⟩
  · exact Or.inl ⟨v, vm₁, B, X₁.warmed, X', hpost, fun target h => hstep₁ _ fun acts => by rw [doInvoke_state]; exact hsteps.trans h⟩
  · exact Or.inr ⟨q, vm₁, B, X₁.warmed, X', hpost, hstep₁ _ fun acts => by rw [doInvoke_state]; exact hsteps⟩
theorem vx_callS (X : Stand p l e R s m args below meth c T locs cells slots) (hexec : p.tables.exec = Jvm.exec) {own : String} {index : Nat} {y : MethodName} {bytes : ByteArray} {maxL : Nat} {ret : Option FieldType}
    (hown : s.vm.findClass own = some m.cls) (hlink : (Cond.methodLink own index y).before args s = true) (hstat : (Cond.static y).before args s = true) (hinit : (Cond.initialized y.cls).before args s = true)
    (hcode : (Cond.code y bytes maxL ret).before args s = true) (hy : y.cls ≠ "java/lang/invoke/MethodHandle" ∧ y.cls ≠ "java/lang/invoke/VarHandle")
    {W9 : Nat} {Pre : Pt → Array Value → Prop} {Post : Pt → Array Value → Option Value → Pt → Prop} {PostX : Pt → Array Value → Addr → Pt → Prop} (hK : vx_Back l R p e below s args y 3 W9 Pre Post PostX)
    {g : JFrame} (hg : g.method = m) (hsize : g.locals.size = c.maxLocals) {argsL rest : List Value} (hlen : ∀ sig, parseMethodDescriptor y.desc = some sig → argsL.length = sig.parameters.length)
    (hstack : g.stack = argsL.reverse ++ rest) (hW : 2 * g.monitorRoom + (rest.map fun v => v.category).sum ≤ W9) (hdg : decode c.code g.pc = .ok (.invokestatic index, 3))
    (hpre : ∀ vm₁, s.WarmedH vm₁ → Pre ⟨T.setVm vm₁, locs, cells, slots⟩ argsL.toArray) :
    (∃ (v : Option Value) (vm₁ : Vm) (B : Pt), s.WarmedH vm₁ ∧ Stand p l e R s m args below meth c B.U B.locs B.cells B.slots ∧ Post ⟨T.setVm vm₁, locs, cells, slots⟩ argsL.toArray v B ∧
      ∀ target, Steps p.tables e below (B.U.setTop { g with pc := g.pc + 3, stack := v.toList ++ rest }) target → Steps p.tables e below (T.setTop g) target) ∨
    (∃ (q : Addr) (vm₁ : Vm) (B : Pt), s.WarmedH vm₁ ∧ Stand p l e R s m args below meth c B.U B.locs B.cells B.slots ∧ PostX ⟨T.setVm vm₁, locs, cells, slots⟩ argsL.toArray q B ∧
      Steps p.tables e below (T.setTop g) ((B.U.setTop { g with stack := rest }).pushFrame (.throwing q))) := by
  obtain ⟨mk, hnamed⟩ := Cond.code_named hcode
  obtain ⟨methM, cM, hmethM, -, -, -, -, -, -, hsigM⟩ := Cond.code_spec hnamed hcode
  have hstatic : methM.isStatic = true := Cond.static_spec hnamed hmethM hstat
  obtain ⟨kP, hkP, -⟩ := className_of_methodNamed hnamed
  have hinitP : kP.init = .initialized := Cond.initialized_spec (findClass_of_methodNamed hnamed) hkP hinit
  obtain ⟨vm₁, X₁, hstep₁⟩ := X.invokestatic hexec hown hlink hnamed hmethM hstatic hkP hinitP hy (g := g) hg (argsL := argsL) (rest := rest) (hlen _ hsigM) hstack hdg
  rcases hK m meth c ⟨T.setVm vm₁, locs, cells, slots⟩ { g with stack := rest } (.invokestatic index) mk argsL.toArray X₁ hg hsize hdg hW (X₁.named hnamed) (hpre vm₁ X₁.warmed) with ⟨v, B, X', hpost, hsteps⟩ | ⟨q, B, X', hpost, hsteps⟩
  · exact Or.inl ⟨v, vm₁, B, X₁.warmed, X', hpost, fun target h => hstep₁ _ fun acts => by rw [doInvoke_state]; exact hsteps.trans h⟩
  · exact Or.inr ⟨q, vm₁, B, X₁.warmed, X', hpost, hstep₁ _ fun acts => by rw [doInvoke_state]; exact hsteps⟩
end Calls
theorem vx_cls {s : State} {T : State} {vm₁ : Vm} {E : String} {k : ClassId} (hW : s.WarmedH vm₁) (h : (T.setVm vm₁).vm.findClass E = some k) : s.vm.findClass E = some k := by
  have h1 : vm₁.findClass E = some k := h
  rw [hW.alike.findClass] at h1
  exact h1
/-- the method's frame g, with q thrown over it -/
def vx_W (p : Program) (l : Launch) (e : Env) (R : Room) (s : State) (m : MethodId) (args : Array Value) (below : List Frame) (meth : Method) (c : Code) (H : Heap) (locs : List Loc) (cells slots : Nat) (Q : State → Prop) (g : JFrame) (q : Addr) : Prop :=
  ∀ T : State, T.heap = H → Stand p l e R s m args below meth c T locs cells slots → ∃ t, Steps p.tables e below ((T.setTop g).pushFrame (.throwing q)) t ∧ Q t
def vx_Run (p : Program) (l : Launch) (e : Env) (R : Room) (s : State) (m : MethodId) (args : Array Value) (below : List Frame) (meth : Method) (c : Code) (H : Heap) (locs : List Loc) (cells slots mc ms : Nat) (g : JFrame) (rest : List Value) (Qa : State → Outcome → State → Prop) (XC : String → State → State → Prop) (free : Addr → Prop) : Prop :=
  ∀ T : State, T.heap = H → Stand p l e R s m args below meth c T locs cells slots →
    (∃ (v : Option Value) (st₀ t T' : State) (L : List Loc), st₀.heap = H ∧ Stand p l e R s m args below meth c T' (locs ++ L) (cells + mc) (slots + ms) ∧ (∀ q ∈ L, free q.base) ∧ T'.heap = t.heap ∧ T'.vm = t.vm ∧ Qa st₀ (.returned v) t ∧
      Goes p e below T g T' { g with pc := g.pc + 3, stack := v.toList ++ rest }) ∨
    (∃ (q : Addr) (st₀ t T' : State) (L : List Loc) (E : String) (ce : Cell), st₀.heap = H ∧ Stand p l e R s m args below meth c T' (locs ++ L) (cells + mc) (slots + ms) ∧ (∀ z ∈ L, free z.base) ∧ T'.heap = t.heap ∧ T'.vm = t.vm ∧ XC E st₀ t ∧ t.heap[q]? = some ce ∧ ce.vm = .none ∧ s.vm.findClass E = some ce.cls ∧
      Steps p.tables e below (T.setTop g) ((T'.setTop { g with stack := rest }).pushFrame (.throwing q)))
def vx_X {S : Type} (px : S → Prop) (B : String → S → State → Prop) (A : Nat → Prop) : String → State → State → Prop := fun E st t => ∃ u : S, px u ∧ B E u t ∧ va_F A st t
section Runs
variable {p : Program} {l : Launch} {e : Env} {R : Room} {s : State} {m : MethodId} {args : Array Value} {below : List Frame} {meth : Method} {c : Code} {H : Heap} {locs : List Loc} {cells slots : Nat}
variable {y : MethodName} {bytes cc : ByteArray} {maxL nL mc ms n index : Nat} {ret : Option FieldType} {ws : List Cond} {rm : Room} {Pc : Array Value → State → Prop} {Qc : Array Value → State → Outcome → State → Prop} {XC : String → State → State → Prop} {free : Addr → Prop} {Ts : List Cond} {own C : String} {b : Addr} {As rest : List Value} {g : JFrame}
theorem vx_callBack (cb : CallB R s args own index y bytes maxL ret ws rm mc ms n) (hM : vx_Met l y ws rm Pc Qc XC mc ms free) (hbl : FrameBlind Pc) : vx_Back l R p e below s args y 3 8 (PreOf R mc ms Pc) (PostOf Qc mc ms free) (vx_Post XC mc ms free) := by
  obtain ⟨hrc, hrs, hfr, hlo, hws, hcw, -, hini, -⟩ := cb
  exact vx_back (bytes := bytes) (maxL := maxL) (ret := ret) hM hbl hrc hrs hfr hlo hws hcw (fun a' U hW => word_at hW (Or.inl (by first | rfl | simp [Cond.onTables, Cond.keeps, Cond.steady])) hini)
theorem vx_runV (S : CallFix p m c cc nL s args Ts own) (hM : vx_Met l y ws rm Pc Qc XC mc ms free) (cw : CallW R s args own C index y bytes maxL ret ws rm mc ms n) (hp : PreV s H C b Pc As)
    (hg : g.method = m) (hn : As.length = n) (hsize : g.locals.size = nL) (hstack : g.stack = As.reverse ++ .ref b :: rest) (hW : 2 * g.monitorRoom + (rest.map fun v => v.category).sum ≤ 8) (hdg : decode cc g.pc = .ok (.invokevirtual index, 3)) (hf : cells + mc ≤ R.cells ∧ slots + ms ≤ R.slots) :
    vx_Run p l e R s m args below meth c H locs cells slots mc ms g rest (Qc (Value.ref b :: As).toArray) XC free := by
  have hK : vx_Back l R p e below s args y 3 8 (PreOf R mc ms Pc) (PostOf Qc mc ms free) (vx_Post XC mc ms free) := vx_callBack cw.1 hM hp.1
  obtain ⟨⟨-, -, -, -, -, -, hcode, -, hy, hlen, hl⟩, hin, hse⟩ := cw
  obtain ⟨hx, hb, hml, ho, -⟩ := S
  obtain ⟨-, ⟨cellB, hcB, hoB, hclB⟩, hPc⟩ := hp
  intro T hT X
  rcases vx_callV X hx (C := C) (bytes := bytes) (maxL := maxL) (ret := ret) ho hl hin hse hcode hy hK (by rw [hT]; exact hcB) hoB hclB hg (hsize.trans hml.symm) (argsL := As) (rest := rest) (fun sig h => hn.trans (hlen sig h)) hstack hW (by rw [hb]; exact hdg)
    (fun vm₁ hW₁ => ⟨hf.1, hf.2, hPc (T.setVm vm₁) hT hW₁⟩) with ⟨v, vm₁, ⟨U', l2, c2, s2⟩, hW₁, X', ⟨g', mk, t, L, e1, e2, hq, h1, hL, h2, h3⟩, st⟩ | ⟨q, vm₁, ⟨U', l2, c2, s2⟩, hW₁, X', ⟨g', mk, t, L, E, ce, e1, e2, hq, hce, hcv, hcl, h1, hL, h2, h3⟩, st⟩
  · dsimp only [Pt.U, Pt.locs, Pt.cells, Pt.slots] at X' e1 e2 h1 h2 h3 st
    subst h1; subst h2; subst h3
    exact Or.inl ⟨v, (T.setVm vm₁).calling g' mk (Value.ref b :: As).toArray, t, U', L, hT, X', hL, e1, e2, hq, st⟩
  · dsimp only [Pt.U, Pt.locs, Pt.cells, Pt.slots] at X' e1 e2 h1 h2 h3 st hcl
    subst h1; subst h2; subst h3
    exact Or.inr ⟨q, (T.setVm vm₁).calling g' mk (Value.ref b :: As).toArray, t, U', L, E, ce, hT, X', hL, e1, e2, hq, hce, hcv, vx_cls hW₁ hcl, st⟩
theorem vx_runS (S : CallFix p m c cc nL s args Ts own) (hM : vx_Met l y ws rm Pc Qc XC mc ms free) (cw : CallB R s args own index y bytes maxL ret ws rm mc ms n ∧ (Cond.static y).before args s = true) (hp : PreS s H Pc As)
    (hg : g.method = m) (hn : As.length = n) (hsize : g.locals.size = nL) (hstack : g.stack = As.reverse ++ rest) (hW : 2 * g.monitorRoom + (rest.map fun v => v.category).sum ≤ 8) (hdg : decode cc g.pc = .ok (.invokestatic index, 3)) (hf : cells + mc ≤ R.cells ∧ slots + ms ≤ R.slots) :
    vx_Run p l e R s m args below meth c H locs cells slots mc ms g rest (Qc As.toArray) XC free := by
  have hK : vx_Back l R p e below s args y 3 8 (PreOf R mc ms Pc) (PostOf Qc mc ms free) (vx_Post XC mc ms free) := vx_callBack cw.1 hM hp.1
  obtain ⟨⟨-, -, -, -, -, -, hcode, hini, hy, hlen, hl⟩, hstt⟩ := cw
  obtain ⟨hx, hb, hml, ho, -⟩ := S
  intro T hT X
  rcases vx_callS X hx (bytes := bytes) (maxL := maxL) (ret := ret) ho hl hstt hini hcode hy hK hg (hsize.trans hml.symm) (argsL := As) (rest := rest) (fun sig h => hn.trans (hlen sig h)) hstack hW (by rw [hb]; exact hdg)
    (fun vm₁ hW₁ => ⟨hf.1, hf.2, hp.2 (T.setVm vm₁) hT hW₁⟩) with ⟨v, vm₁, ⟨U', l2, c2, s2⟩, hW₁, X', ⟨g', mk, t, L, e1, e2, hq, h1, hL, h2, h3⟩, st⟩ | ⟨q, vm₁, ⟨U', l2, c2, s2⟩, hW₁, X', ⟨g', mk, t, L, E, ce, e1, e2, hq, hce, hcv, hcl, h1, hL, h2, h3⟩, st⟩
  · dsimp only [Pt.U, Pt.locs, Pt.cells, Pt.slots] at X' e1 e2 h1 h2 h3 st
    subst h1; subst h2; subst h3
    exact Or.inl ⟨v, (T.setVm vm₁).calling g' mk As.toArray, t, U', L, hT, X', hL, e1, e2, hq, st⟩
  · dsimp only [Pt.U, Pt.locs, Pt.cells, Pt.slots] at X' e1 e2 h1 h2 h3 st hcl
    subst h1; subst h2; subst h3
    exact Or.inr ⟨q, (T.setVm vm₁).calling g' mk As.toArray, t, U', L, E, ce, hT, X', hL, e1, e2, hq, hce, hcv, vx_cls hW₁ hcl, st⟩
end Runs
section Rows
variable {p : Program} {l : Launch} {e : Env} {R : Room} {s : State} {m : MethodId} {args : Array Value} {below : List Frame} {meth : Method} {c : Code} {H : Heap} {locs : List Loc} {cells slots : Nat} {Q : State → Prop}
variable {mc ms : Nat} {free : Addr → Prop} {A0 A1 : Nat → Prop} {H0 : Heap} {a : Array Value} {pc : Nat} {ls : Array Slot} {st0 rest : List Value}
theorem vx_keep {st₀ t T' : State} {L : List Loc} (h0 : st₀.heap = H) (e1 : T'.heap = t.heap) (hS : va_S A0 H0 H locs) (hA : ∀ q, q < H.size → A1 q → A0 q) (hf : ∀ q, free q → A0 q) (hL : ∀ q ∈ L, free q.base) (hF : va_F A1 st₀ t) :
    H.size ≤ T'.heap.size ∧ (∀ q : Nat, q < H.size → ¬ A1 q → T'.heap[q]? = H[q]?) ∧ va_S A0 H0 T'.heap (locs ++ L) := by
  obtain ⟨hz, hk⟩ := hF
  rw [h0] at hz hk
  exact ⟨by rw [e1]; exact hz, fun q h1 h2 => by rw [e1]; exact hk q h1 h2,
    ⟨Nat.le_trans hS.1 (by rw [e1]; exact hz), fun q h1 h2 => by rw [e1, hk q (Nat.lt_of_lt_of_le h1 hS.1) (fun z => h2 (hA q (Nat.lt_of_lt_of_le h1 hS.1) z))]; exact hS.2.1 q h1 h2, fun q hq => by
      rcases List.mem_append.mp hq with h | h
      · exact hS.2.2 q h
      · exact hf _ (hL q h)⟩⟩
theorem vx_calli {S SX : Type} {post : Int32 → S → Prop} {px : SX → Prop} {B : S → State → Prop} {BX : String → SX → State → Prop} {AX : Nat → Prop} (hr : vx_Run p l e R s m args below meth c H locs cells slots mc ms (F0 m pc ls st0) rest (va_Qi post B A1 a) (vx_X px BX AX) free) (hS : va_S A0 H0 H locs) (hA : ∀ q, q < H.size → A1 q → A0 q) (hf : ∀ q, free q → A0 q) (hAX : ∀ q, q < H.size → AX q → A0 q)
    (kx : ∀ (E : String) (ce : Cell) (q9 : Addr) (u : SX) (t : State) (H1 : Heap) (locs1 : List Loc), t.heap = H1 → s.vm.Alike t.vm → px u → BX E u t → H.size ≤ H1.size → (∀ q : Nat, q < H.size → ¬ AX q → H1[q]? = H[q]?) → va_S A0 H0 H1 locs1 → H1[q9]? = some ce → ce.vm = .none → s.vm.findClass E = some ce.cls → vx_W p l e R s m args below meth c H1 locs1 (cells + mc) (slots + ms) Q (F0 m pc ls rest) q9)
    (kk : ∀ (r : Int32) (u : S) (t : State) (H1 : Heap) (locs1 : List Loc), t.heap = H1 → s.vm.Alike t.vm → post r u → B u t → H.size ≤ H1.size → (∀ q : Nat, q < H.size → ¬ A1 q → H1[q]? = H[q]?) → va_S A0 H0 H1 locs1 → W p l e R s m args below meth c H1 locs1 (cells + mc) (slots + ms) Q (F0 m (pc + 3) ls (.int r :: rest))) : W p l e R s m args below meth c H locs cells slots Q (F0 m pc ls st0) := by
  intro T hT X
  rcases hr T hT X with ⟨v, st₀, t, T', L, h0, X', hL, e1, e2, ⟨⟨r, u, hv, hp, hb⟩, hF⟩, st⟩ | ⟨q, st₀, t, T', L, E, ce, h0, X', hL, e1, e2, ⟨u, hp, hb, hF⟩, hce, hcv, hcl, st⟩
  · cases hv
    obtain ⟨k1, k2, k3⟩ := vx_keep h0 e1 hS hA hf hL hF
    obtain ⟨t2, a1, b1⟩ := kk r u t T'.heap (locs ++ L) e1.symm (by rw [← e2]; exact X'.warmed.alike) hp hb k1 k2 k3 T' rfl X'
    exact ⟨t2, st t2 a1, b1⟩
  · obtain ⟨k1, k2, k3⟩ := vx_keep h0 e1 hS hAX hf hL hF
    obtain ⟨t2, a1, b1⟩ := kx E ce q u t T'.heap (locs ++ L) e1.symm (by rw [← e2]; exact X'.warmed.alike) hp hb k1 k2 k3 (by rw [e1]; exact hce) hcv hcl T' rfl X'
    exact ⟨t2, st.trans a1, b1⟩
theorem vx_calll {S SX : Type} {post : Int64 → S → Prop} {px : SX → Prop} {B : S → State → Prop} {BX : String → SX → State → Prop} {AX : Nat → Prop} (hr : vx_Run p l e R s m args below meth c H locs cells slots mc ms (F0 m pc ls st0) rest (va_Ql post B A1 a) (vx_X px BX AX) free) (hS : va_S A0 H0 H locs) (hA : ∀ q, q < H.size → A1 q → A0 q) (hf : ∀ q, free q → A0 q) (hAX : ∀ q, q < H.size → AX q → A0 q)
    (kx : ∀ (E : String) (ce : Cell) (q9 : Addr) (u : SX) (t : State) (H1 : Heap) (locs1 : List Loc), t.heap = H1 → s.vm.Alike t.vm → px u → BX E u t → H.size ≤ H1.size → (∀ q : Nat, q < H.size → ¬ AX q → H1[q]? = H[q]?) → va_S A0 H0 H1 locs1 → H1[q9]? = some ce → ce.vm = .none → s.vm.findClass E = some ce.cls → vx_W p l e R s m args below meth c H1 locs1 (cells + mc) (slots + ms) Q (F0 m pc ls rest) q9)
    (kk : ∀ (r : Int64) (u : S) (t : State) (H1 : Heap) (locs1 : List Loc), t.heap = H1 → s.vm.Alike t.vm → post r u → B u t → H.size ≤ H1.size → (∀ q : Nat, q < H.size → ¬ A1 q → H1[q]? = H[q]?) → va_S A0 H0 H1 locs1 → W p l e R s m args below meth c H1 locs1 (cells + mc) (slots + ms) Q (F0 m (pc + 3) ls (.long r :: rest))) : W p l e R s m args below meth c H locs cells slots Q (F0 m pc ls st0) := by
  intro T hT X
  rcases hr T hT X with ⟨v, st₀, t, T', L, h0, X', hL, e1, e2, ⟨⟨r, u, hv, hp, hb⟩, hF⟩, st⟩ | ⟨q, st₀, t, T', L, E, ce, h0, X', hL, e1, e2, ⟨u, hp, hb, hF⟩, hce, hcv, hcl, st⟩
  · cases hv
    obtain ⟨k1, k2, k3⟩ := vx_keep h0 e1 hS hA hf hL hF
    obtain ⟨t2, a1, b1⟩ := kk r u t T'.heap (locs ++ L) e1.symm (by rw [← e2]; exact X'.warmed.alike) hp hb k1 k2 k3 T' rfl X'
    exact ⟨t2, st t2 a1, b1⟩
  · obtain ⟨k1, k2, k3⟩ := vx_keep h0 e1 hS hAX hf hL hF
    obtain ⟨t2, a1, b1⟩ := kx E ce q u t T'.heap (locs ++ L) e1.symm (by rw [← e2]; exact X'.warmed.alike) hp hb k1 k2 k3 (by rw [e1]; exact hce) hcv hcl T' rfl X'
    exact ⟨t2, st.trans a1, b1⟩
theorem vx_callf {S SX : Type} {post : UInt32 → S → Prop} {px : SX → Prop} {B : S → State → Prop} {BX : String → SX → State → Prop} {AX : Nat → Prop} (hr : vx_Run p l e R s m args below meth c H locs cells slots mc ms (F0 m pc ls st0) rest (va_Qf post B A1 a) (vx_X px BX AX) free) (hS : va_S A0 H0 H locs) (hA : ∀ q, q < H.size → A1 q → A0 q) (hf : ∀ q, free q → A0 q) (hAX : ∀ q, q < H.size → AX q → A0 q)
    (kx : ∀ (E : String) (ce : Cell) (q9 : Addr) (u : SX) (t : State) (H1 : Heap) (locs1 : List Loc), t.heap = H1 → s.vm.Alike t.vm → px u → BX E u t → H.size ≤ H1.size → (∀ q : Nat, q < H.size → ¬ AX q → H1[q]? = H[q]?) → va_S A0 H0 H1 locs1 → H1[q9]? = some ce → ce.vm = .none → s.vm.findClass E = some ce.cls → vx_W p l e R s m args below meth c H1 locs1 (cells + mc) (slots + ms) Q (F0 m pc ls rest) q9)
    (kk : ∀ (r : UInt32) (u : S) (t : State) (H1 : Heap) (locs1 : List Loc), t.heap = H1 → s.vm.Alike t.vm → post r u → B u t → H.size ≤ H1.size → (∀ q : Nat, q < H.size → ¬ A1 q → H1[q]? = H[q]?) → va_S A0 H0 H1 locs1 → W p l e R s m args below meth c H1 locs1 (cells + mc) (slots + ms) Q (F0 m (pc + 3) ls (.float r :: rest))) : W p l e R s m args below meth c H locs cells slots Q (F0 m pc ls st0) := by
  intro T hT X
  rcases hr T hT X with ⟨v, st₀, t, T', L, h0, X', hL, e1, e2, ⟨⟨r, u, hv, hp, hb⟩, hF⟩, st⟩ | ⟨q, st₀, t, T', L, E, ce, h0, X', hL, e1, e2, ⟨u, hp, hb, hF⟩, hce, hcv, hcl, st⟩
  · cases hv
    obtain ⟨k1, k2, k3⟩ := vx_keep h0 e1 hS hA hf hL hF
    obtain ⟨t2, a1, b1⟩ := kk r u t T'.heap (locs ++ L) e1.symm (by rw [← e2]; exact X'.warmed.alike) hp hb k1 k2 k3 T' rfl X'
    exact ⟨t2, st t2 a1, b1⟩
  · obtain ⟨k1, k2, k3⟩ := vx_keep h0 e1 hS hAX hf hL hF
    obtain ⟨t2, a1, b1⟩ := kx E ce q u t T'.heap (locs ++ L) e1.symm (by rw [← e2]; exact X'.warmed.alike) hp hb k1 k2 k3 (by rw [e1]; exact hce) hcv hcl T' rfl X'
    exact ⟨t2, st.trans a1, b1⟩
theorem vx_calld {S SX : Type} {post : UInt64 → S → Prop} {px : SX → Prop} {B : S → State → Prop} {BX : String → SX → State → Prop} {AX : Nat → Prop} (hr : vx_Run p l e R s m args below meth c H locs cells slots mc ms (F0 m pc ls st0) rest (va_Qd post B A1 a) (vx_X px BX AX) free) (hS : va_S A0 H0 H locs) (hA : ∀ q, q < H.size → A1 q → A0 q) (hf : ∀ q, free q → A0 q) (hAX : ∀ q, q < H.size → AX q → A0 q)
    (kx : ∀ (E : String) (ce : Cell) (q9 : Addr) (u : SX) (t : State) (H1 : Heap) (locs1 : List Loc), t.heap = H1 → s.vm.Alike t.vm → px u → BX E u t → H.size ≤ H1.size → (∀ q : Nat, q < H.size → ¬ AX q → H1[q]? = H[q]?) → va_S A0 H0 H1 locs1 → H1[q9]? = some ce → ce.vm = .none → s.vm.findClass E = some ce.cls → vx_W p l e R s m args below meth c H1 locs1 (cells + mc) (slots + ms) Q (F0 m pc ls rest) q9)
    (kk : ∀ (r : UInt64) (u : S) (t : State) (H1 : Heap) (locs1 : List Loc), t.heap = H1 → s.vm.Alike t.vm → post r u → B u t → H.size ≤ H1.size → (∀ q : Nat, q < H.size → ¬ A1 q → H1[q]? = H[q]?) → va_S A0 H0 H1 locs1 → W p l e R s m args below meth c H1 locs1 (cells + mc) (slots + ms) Q (F0 m (pc + 3) ls (.double r :: rest))) : W p l e R s m args below meth c H locs cells slots Q (F0 m pc ls st0) := by
  intro T hT X
  rcases hr T hT X with ⟨v, st₀, t, T', L, h0, X', hL, e1, e2, ⟨⟨r, u, hv, hp, hb⟩, hF⟩, st⟩ | ⟨q, st₀, t, T', L, E, ce, h0, X', hL, e1, e2, ⟨u, hp, hb, hF⟩, hce, hcv, hcl, st⟩
  · cases hv
    obtain ⟨k1, k2, k3⟩ := vx_keep h0 e1 hS hA hf hL hF
    obtain ⟨t2, a1, b1⟩ := kk r u t T'.heap (locs ++ L) e1.symm (by rw [← e2]; exact X'.warmed.alike) hp hb k1 k2 k3 T' rfl X'
    exact ⟨t2, st t2 a1, b1⟩
  · obtain ⟨k1, k2, k3⟩ := vx_keep h0 e1 hS hAX hf hL hF
    obtain ⟨t2, a1, b1⟩ := kx E ce q u t T'.heap (locs ++ L) e1.symm (by rw [← e2]; exact X'.warmed.alike) hp hb k1 k2 k3 (by rw [e1]; exact hce) hcv hcl T' rfl X'
    exact ⟨t2, st.trans a1, b1⟩
theorem vx_callv {S SX : Type} {post : S → Prop} {px : SX → Prop} {B : S → State → Prop} {BX : String → SX → State → Prop} {AX : Nat → Prop} (hr : vx_Run p l e R s m args below meth c H locs cells slots mc ms (F0 m pc ls st0) rest (va_Qv post B A1 a) (vx_X px BX AX) free) (hS : va_S A0 H0 H locs) (hA : ∀ q, q < H.size → A1 q → A0 q) (hf : ∀ q, free q → A0 q) (hAX : ∀ q, q < H.size → AX q → A0 q)
    (kx : ∀ (E : String) (ce : Cell) (q9 : Addr) (u : SX) (t : State) (H1 : Heap) (locs1 : List Loc), t.heap = H1 → s.vm.Alike t.vm → px u → BX E u t → H.size ≤ H1.size → (∀ q : Nat, q < H.size → ¬ AX q → H1[q]? = H[q]?) → va_S A0 H0 H1 locs1 → H1[q9]? = some ce → ce.vm = .none → s.vm.findClass E = some ce.cls → vx_W p l e R s m args below meth c H1 locs1 (cells + mc) (slots + ms) Q (F0 m pc ls rest) q9)
    (kk : ∀ (u : S) (t : State) (H1 : Heap) (locs1 : List Loc), t.heap = H1 → s.vm.Alike t.vm → post u → B u t → H.size ≤ H1.size → (∀ q : Nat, q < H.size → ¬ A1 q → H1[q]? = H[q]?) → va_S A0 H0 H1 locs1 → W p l e R s m args below meth c H1 locs1 (cells + mc) (slots + ms) Q (F0 m (pc + 3) ls (rest))) : W p l e R s m args below meth c H locs cells slots Q (F0 m pc ls st0) := by
  intro T hT X
  rcases hr T hT X with ⟨v, st₀, t, T', L, h0, X', hL, e1, e2, ⟨⟨u, hv, hp, hb⟩, hF⟩, st⟩ | ⟨q, st₀, t, T', L, E, ce, h0, X', hL, e1, e2, ⟨u, hp, hb, hF⟩, hce, hcv, hcl, st⟩
  · cases hv
    obtain ⟨k1, k2, k3⟩ := vx_keep h0 e1 hS hA hf hL hF
    obtain ⟨t2, a1, b1⟩ := kk u t T'.heap (locs ++ L) e1.symm (by rw [← e2]; exact X'.warmed.alike) hp hb k1 k2 k3 T' rfl X'
    exact ⟨t2, st t2 a1, b1⟩
  · obtain ⟨k1, k2, k3⟩ := vx_keep h0 e1 hS hAX hf hL hF
    obtain ⟨t2, a1, b1⟩ := kx E ce q u t T'.heap (locs ++ L) e1.symm (by rw [← e2]; exact X'.warmed.alike) hp hb k1 k2 k3 (by rw [e1]; exact hce) hcv hcl T' rfl X'
    exact ⟨t2, st.trans a1, b1⟩
/-- caught by the row x of this method's table; the rows ahead don't take it -/
theorem vx_catch {own name : String} {E : String} {ce : Cell} {q : Addr} (hown : s.vm.findClass own = some m.cls) (pre : List ExceptionTableEntry) (x : ExceptionTableEntry) (suf : List ExceptionTableEntry) (hsplit : c.exceptionTable.toList = pre ++ x :: suf)
    (hpass : ∀ z ∈ pre, covers z pc = false ∨ (z.catchType ≠ 0 ∧ ∃ nm : String, (Cond.classLink own z.catchType nm).before args s = true ∧ va_Nc E nm s)) (hx : covers x pc = true) (h0 : x.catchType ≠ 0)
    (hlink : (Cond.classLink own x.catchType name).before args s = true) (hcast : (Cond.castable E name).before args s = true) (hcell : H[q]? = some ce) (hv : ce.vm = .none) (hcl : s.vm.findClass E = some ce.cls)
    (kk : W p l e R s m args below meth c H locs cells slots Q (F0 m x.handlerPc ls [.ref q])) : vx_W p l e R s m args below meth c H locs cells slots Q (F0 m pc ls rest) q := by
  intro T hT X
  have hpl : e.platform.magicAccessors = ({} : Platform).magicAccessors := by rw [X.admits.platform]
  obtain ⟨c3, c4, hc3, hc4, hasg⟩ := Cond.castable_spec hcast
  cases Option.some.inj (hc3.symm.trans hcl)
  obtain ⟨c5, hc5, hcl5⟩ := Cond.classLink_spec hown hlink e.platform hpl
  cases Option.some.inj (hc4.symm.trans hc5)
  obtain ⟨vm', X', st⟩ := X.thenCaughtThrough q (g := F0 m pc ls rest) rfl (Steps.refl _) (by rw [hT]; exact hcell) (by rw [hv]; rfl) (by obtain ⟨k9, h9, -⟩ := Vm.findClass_spec hcl; exact ⟨k9, h9⟩) pre x suf hsplit
    (fun z hz => by
      rcases hpass z hz with h | ⟨hz0, nm, hl1, hn1⟩
      · exact Or.inl h
      · obtain ⟨c6, hc6, hcl6⟩ := Cond.classLink_spec hown hl1 e.platform hpl
        obtain ⟨a8, b8, h1, h2, h3⟩ := hn1
        cases Option.some.inj (h1.symm.trans hcl)
        cases Option.some.inj (h2.symm.trans hc6)
        exact Or.inr ⟨hz0, _, hcl6, h3⟩) hx (Or.inr ⟨h0, c4, hcl5, hasg⟩)
  obtain ⟨t, a1, b1⟩ := kk (T.setVm vm') hT X'
  exact ⟨t, st.trans a1, b1⟩
end Rows
section Ends
variable {p : Program} {l : Launch} {e : Env} {R : Room} {s : State} {m : MethodId} {args : Array Value} {below : List Frame} {meth : Method} {c : Code} {H : Heap} {locs : List Loc} {cells slots : Nat} {Q : State → Prop}
variable {mc ms : Nat} {free : Addr → Prop} {A0 A1 : Nat → Prop} {H0 : Heap} {a : Array Value} {ls : Array Slot} {st0 rest : List Value}
variable {Qc : Array Value → State → Outcome → State → Prop} {XC : String → State → State → Prop}
/-- what a body that may throw owes at its end -/
def vx_MQ (below : List Frame) (Qc : Array Value → State → Outcome → State → Prop) (XC : String → State → State → Prop) (a : Array Value) (s : State) (mc ms : Nat) (free : Addr → Prop) : State → Prop := fun t =>
  ∃ o, t.status = .running ∧ Ended t below o ∧ vx_Q Qc XC mc ms free a s o t
theorem vx_ret {g : JFrame} {mc ms : Nat} (k : W p l e R s m args below meth c H locs cells slots (MQ below Qc args s mc ms free) g) : W p l e R s m args below meth c H locs cells slots (vx_MQ below Qc XC args s mc ms free) g := by
  intro T hT X
  obtain ⟨t, a1, o, b1, b2, b3, b4⟩ := k T hT X
  exact ⟨t, a1, o, b1, b2, Or.inl ⟨b3, b4⟩⟩
/-- not caught here: it goes on to the caller -/
theorem vx_widen {g : JFrame} {q : Addr} {k n : Nat} (h1 : cells ≤ k) (h2 : slots ≤ n) (kk : vx_W p l e R s m args below meth c H locs k n Q g q) : vx_W p l e R s m args below meth c H locs cells slots Q g q := fun T hT X => kk T hT (stand_widen X h1 h2)
theorem vx_out {pc : Nat} {E : String} {ce : Cell} {q : Addr} {mc ms : Nat} (hout : ∀ x ∈ c.exceptionTable.toList, covers x pc = false) (hlocks : meth.locks = false) (hcell : H[q]? = some ce) (hv : ce.vm = .none) (hcl : s.vm.findClass E = some ce.cls)
    (hx : ∀ t : State, t.heap = H → s.vm.Alike t.vm → XC E s t) (hf : ∀ z ∈ locs, free z.base) (hc : cells ≤ mc) (hs : slots ≤ ms) :
    vx_W p l e R s m args below meth c H locs cells slots (vx_MQ below Qc XC args s mc ms free) (F0 m pc ls rest) q := by
  intro T hT X
  obtain ⟨st1, hrun, hend, hW, hsm⟩ := X.leaveThrown q (g := F0 m pc ls rest) rfl rfl rfl hout hlocks
  have hcell9 : (T.setFrames (.throwing q :: below)).heap[q]? = some ce := by
    show T.heap[q]? = some ce
    rw [hT]; exact hcell
  exact ⟨_, st1, .threw q, hrun, hend, Or.inr ⟨q, rfl, E, ce, locs, hx _ hT hW.alike, hcell9, hv, hcl, hW, hsm.mono hc hs, hf⟩⟩
theorem vx_frame {U : State} {k n : Nat} (h : s.sameButNew ({ U with vm := s.vm } : State) locs k n) : s.heap.size ≤ U.heap.size ∧ ∀ q : Nat, q < s.heap.size → (∀ z ∈ locs, z.base ≠ q) → U.heap[q]? = s.heap[q]? := by
  obtain ⟨-, h2, -, -, -, h6⟩ := h
  refine ⟨h2, fun q hq hz => ?_⟩
  obtain ⟨c9, e1, e2, e3, e4⟩ := h6 q _ (Array.getElem?_eq_getElem hq)
  have hs : c9.slots = (s.heap[q]).slots := Array.ext_getElem? fun i => e4 i fun hm => hz _ hm rfl
  have h9 : c9 = s.heap[q] := by
    rw [hs] at e2
    exact e2
  have e5 : U.heap[q]? = some c9 := e1
  rw [e5, h9, Array.getElem?_eq_getElem hq]
/-- the words of a throw but the four that speak of the heap -/
def vx_no (w : Cond) : Bool := decide (w ≠ .isRef (.static Bundle.tN "UNASSIGNED_STACK" Bundle.steD)) && decide (w ≠ .isRef (.static Bundle.tN "SUPPRESSED_SENTINEL" Bundle.listD)) && decide (w ≠ .laysStatic Bundle.tN "UNASSIGNED_STACK" Bundle.steD) && decide (w ≠ .laysStatic Bundle.tN "SUPPRESSED_SENTINEL" Bundle.listD)
def vx_at0 (own : String) (ic : Nat) (X : String) (names : List String) : List Cond := (Bundle.ownAtoms0 own ic X names).filter vx_no
def vx_atS (own : String) (ic : Nat) (X : String) (names : List String) : List Cond := (Bundle.ownAtoms own ic X names).filter vx_no
/-- a word that the tables alone decide, or a good one -/
def vx_ot (w : Cond) : Bool := w.onTables || goodWord w
theorem vx_ot_at {args a' : Array Value} {s U : State} {w : Cond} (hW : s.WarmedH U.vm) (hvm : s.vm = U.vm) (hg : vx_ot w = true) (h : w.before args s = true) : w.before a' U = true := by
  simp only [vx_ot, Bool.or_eq_true] at hg
  rcases hg with hg | hg
  · exact va_tabs hg hvm h
  · exact word_at hW (good_of_word hg) h
/-- a list's words: the good ones out of the method's own list, the others by premises of their own -/
theorem vx_hat {args : Array Value} {s : State} {L B : List Cond} (h1 : ∀ w ∈ L.filter goodWord, w.before args s = true) (h2 : ∀ w ∈ L.filter (fun w => !goodWord w), w ∈ B) (h3 : ∀ w ∈ B, w.before args s = true) : ∀ w ∈ L, w.before args s = true := by
  intro w hw
  by_cases g : goodWord w = true
  · exact h1 w (List.mem_filter.mpr ⟨hw, g⟩)
  · refine h3 w (h2 w (List.mem_filter.mpr ⟨hw, ?_⟩))
    show (!goodWord w) = true
    cases hgw : goodWord w
    · rfl
    · exact absurd hgw g
theorem vx_c {args : Array Value} {s : State} {w : Cond} {B : List Cond} (h : w.before args s = true) (t : ∀ w ∈ B, w.before args s = true) : ∀ w' ∈ w :: B, w'.before args s = true := fun w' h' => (List.mem_cons.mp h').elim (fun e => by rw [e]; exact h) (t w')
theorem vx_n {args : Array Value} {s : State} : ∀ w ∈ ([] : List Cond), w.before args s = true := fun _ h => nomatch h
theorem vx_own {args : Array Value} {s : State} {L : List Cond} (h1 : ∀ w ∈ L.filter vx_no, w.before args s = true)
    (hU : (Cond.isRef (.static Bundle.tN "UNASSIGNED_STACK" Bundle.steD)).before args s = true) (hN : (Cond.isRef (.static Bundle.tN "SUPPRESSED_SENTINEL" Bundle.listD)).before args s = true)
    (lU : (Cond.laysStatic Bundle.tN "UNASSIGNED_STACK" Bundle.steD).before args s = true) (lN : (Cond.laysStatic Bundle.tN "SUPPRESSED_SENTINEL" Bundle.listD).before args s = true) : ∀ w ∈ L, w.before args s = true := by
  intro w hw
  by_cases e1 : w = .isRef (.static Bundle.tN "UNASSIGNED_STACK" Bundle.steD)
  · rw [e1]; exact hU
  · by_cases e2 : w = .isRef (.static Bundle.tN "SUPPRESSED_SENTINEL" Bundle.listD)
    · rw [e2]; exact hN
    · by_cases e3 : w = .laysStatic Bundle.tN "UNASSIGNED_STACK" Bundle.steD
      · rw [e3]; exact lU
      · by_cases e4 : w = .laysStatic Bundle.tN "SUPPRESSED_SENTINEL" Bundle.listD
        · rw [e4]; exact lN
        · exact h1 w (List.mem_filter.mpr ⟨hw, by unfold vx_no; rw [decide_eq_true e1, decide_eq_true e2, decide_eq_true e3, decide_eq_true e4]; rfl⟩)
/-- where a static field lies, its class's statics cell in H -/
def vx_L (C n d : String) (A : Nat → Prop) (U : State) (H : Heap) : Prop := ∃ (c : ClassId) (k : Class) (i : Nat) (f : Field) (a : Nat) (cell : Cell), U.vm.findClass C = some c ∧ U.fieldFound? C n d = some (c, k, i, f) ∧ f.isStatic = true ∧ k.statics = some a ∧ H[a]? = some cell ∧ cell.vm.isStatics = true ∧ cell.cls = c ∧ f.slot < cell.slots.size ∧ k.staticTypes[f.slot]? = some f.type ∧ ¬ A a
theorem vx_L.moved {C n d : String} {A : Nat → Prop} {u U : State} {H : Heap} (hvm : u.vm.Alike U.vm) (h : vx_L C n d A u H) : vx_L C n d A U H := by
  obtain ⟨c, k, i, f, a, cell, h1, h2, h3, h4, h5, h6, h7, h8, h9, h10⟩ := h
  obtain ⟨k', hi', he⟩ := State.fieldFound?_setVm hvm h2
  exact ⟨c, k', i, f, a, cell, by rw [hvm.findClass]; exact h1, hi', h3, by rw [he]; exact h4, h5, h6, h7, h8, by rw [he]; exact h9, h10⟩
theorem vx_L.kept {C n d : String} {A : Nat → Prop} {U : State} {H H1 : Heap} (h : vx_L C n d A U H) (hq : ∀ a : Nat, a < H.size → ¬ A a → H1[a]? = H[a]?) : vx_L C n d A U H1 := by
  obtain ⟨c, k, i, f, a, cell, h1, h2, h3, h4, h5, h6, h7, h8, h9, h10⟩ := h
  exact ⟨c, k, i, f, a, cell, h1, h2, h3, h4, by rw [hq a (Array.getElem?_eq_some_iff.mp h5).1 h10]; exact h5, h6, h7, h8, h9, h10⟩
theorem vx_L.narrow {C n d : String} {A B : Nat → Prop} {U : State} {H : Heap} (h : vx_L C n d A U H) (hAB : ∀ q, B q → A q) : vx_L C n d B U H := by
  obtain ⟨c, k, i, f, a, cell, h1, h2, h3, h4, h5, h6, h7, h8, h9, h10⟩ := h
  exact ⟨c, k, i, f, a, cell, h1, h2, h3, h4, h5, h6, h7, h8, h9, fun z => h10 (hAB _ z)⟩
theorem vx_L.word {C n d : String} {A : Nat → Prop} {s : State} {args : Array Value} (h : vx_L C n d A s s.heap) : (Cond.laysStatic C n d).before args s = true := by
  obtain ⟨c, k, i, f, a, cell, h1, h2, h3, h4, h5, h6, h7, h8, h9, -⟩ := h
  show (Cond.laysStatic C n d).holds args s none s [] = true
  exact Cond.laysStatic_of h1 h2 h3 h4 h5 h6 h7 h8 h9
/-- .. and what it holds: null or some reference -/
def vx_Zq (C n d : String) (A : Nat → Prop) (U : State) (H : Heap) : Prop := va_Zq C n d A U H ∧ vx_L C n d A U H
theorem vx_Zq.moved {C n d : String} {A : Nat → Prop} {u U : State} {H : Heap} (hvm : u.vm.Alike U.vm) (h : vx_Zq C n d A u H) : vx_Zq C n d A U H := ⟨va_Zq.moved hvm h.1, vx_L.moved hvm h.2⟩
theorem vx_Zq.kept {C n d : String} {A : Nat → Prop} {U : State} {H H1 : Heap} (h : vx_Zq C n d A U H) (hq : ∀ a : Nat, a < H.size → ¬ A a → H1[a]? = H[a]?) : vx_Zq C n d A U H1 := ⟨va_Zq.kept h.1 hq, vx_L.kept h.2 hq⟩
theorem vx_Zq.narrow {C n d : String} {A B : Nat → Prop} {U : State} {H : Heap} (h : vx_Zq C n d A U H) (hAB : ∀ q, B q → A q) : vx_Zq C n d B U H := ⟨va_Zq.narrow h.1 hAB, vx_L.narrow h.2 hAB⟩
theorem vx_Zqof {args : Array Value} {s : State} {C n d : String} {A : Nat → Prop} (hl : (Cond.laysStatic C n d).before args s = true) (hini : (Cond.initialized C).before args s = true) (h : (Cond.isRef (.static C n d)).before args s = true) (hA : ∀ a : Nat, a < s.heap.size → ¬ A a) : vx_Zq C n d A s s.heap := by
  refine ⟨va_Zqof hl hini h hA, ?_⟩
  obtain ⟨c, k, i, f, a, cell, h1, h2, h3, h4, h5, h6, h7, h8, h9⟩ := Cond.laysStatic_spec hl
  exact ⟨c, k, i, f, a, cell, h1, h2, h3, h4, h5, h6, h7, h8, h9, hA a (Array.getElem?_eq_some_iff.mp h5).1⟩
theorem vx_isRef {C n d : String} {v : Value} {A : Nat → Prop} {s : State} {args : Array Value} (h : va_Z C n d v A s s.heap) (hv : v.isRef = true) : (Cond.isRef (.static C n d)).before args s = true := by
  obtain ⟨cf, kf, fi, f, a, cell, h1, h2, h3, h4, h5, h6, h7, -⟩ := h
  have he : (Term.static C n d).eval args s none [] s = some v := by
    simp [Term.eval, State.fieldNamed?, h1, h2, h4, h5, h6, h7]
  simp only [Cond.before, Cond.holds, Cond.value, he]
  cases v <;> simp_all [Value.isRef]
theorem vx_isRefq {C n d : String} {A : Nat → Prop} {s : State} {args : Array Value} (h : va_Zq C n d A s s.heap) : (Cond.isRef (.static C n d)).before args s = true := by
  rcases h with h | ⟨t, h⟩
  · exact vx_isRef h rfl
  · exact vx_isRef h rfl
/-- the same frame, seen from here: as if the method were called anew in this heap -/
theorem vx_rebase {T : State} (X : Stand p l e R s m args below meth c T locs cells slots) {R' : Room} (hf : R'.frames ≤ R.frames) (hl : R'.locals ≤ R.locals) (hc : cells + R'.cells ≤ R.cells) (hs : slots + R'.slots ≤ R.slots) :
    Stand p l e R' ((T.setVm s.vm).setFrames (.invoking m args :: below)) m args below meth c T [] 0 0 := by
  have htop : (T.setVm s.vm).topJava?.isSome := X.here.top
  have hF : ((T.setVm s.vm).setFrames (.invoking m args :: below)).frames = .invoking m args :: below := State.frames_setFrames _ (State.cur_lt_of_top htop)
  obtain ⟨g₀, hg0⟩ := Option.isSome_iff_exists.mp htop
  obtain ⟨r, hr⟩ := State.topJava?_eq_some.mp hg0
  have hl9 : e.platform.stackLimits (T.setVm s.vm).me = e.platform.stackLimits s.me := X.limits
  have hb9 : (T.setVm s.vm).me.stackBytes = s.me.stackBytes := X.bytes
  refine ⟨X.admits, X.cas, X.clock, hF, ?_, X.hears, X.method, X.code, X.here, X.tail, X.warmed, ?_, ?_, ?_⟩
  · have h := X.room
    have hU : ((T.setVm s.vm).setFrames (.invoking m args :: below)).localsInUse = s.localsInUse := by
      rw [State.localsInUse_invoking hF (meth := meth) (c := c) X.method X.code, State.localsInUse_invoking X.frames X.method X.code]
    simp only [State.hasRoom, Bool.and_eq_true, decide_eq_true_eq] at h ⊢
    obtain ⟨⟨⟨⟨h1, h2, h3, h4, h5, h6⟩, h7⟩, h8⟩, h9⟩ := h
    rw [X.frames, List.length_cons] at h2 h3
    have q1 := X.heapSize
    have q2 := X.used
    simp only [hF, hU, List.length_cons, State.stackLimits_setFrames, State.stackBytes_setFrames, hl9, hb9]
    refine ⟨⟨⟨⟨by omega, by omega, by omega, by omega, by omega, h6⟩, ?_⟩, ?_⟩, X.book⟩
    · show T.heap.size + R'.cells ≤ e.platform.maxCells
      omega
    · show T.slotsUsed + R'.slots ≤ e.platform.maxSlots
      omega
  · rw [State.stackLimits_setFrames]; rfl
  · rw [State.stackBytes_setFrames]; rfl
  · refine ⟨?_, Nat.le_refl _, Nat.le_refl _, ?_, ?_, fun a c9 h9 => ⟨c9, h9, rfl, rfl, fun _ _ => rfl⟩⟩
    · obtain ⟨t, ht, -⟩ := State.frames_cons hr
      show T.setVm s.vm = { ((T.setVm s.vm).setFrames (.invoking m args :: below)).setFrames (T.setVm s.vm).frames with heap := T.heap, slotsUsed := T.slotsUsed }
      rw [State.setFrames_setFrames, State.setFrames_self ht]
      rfl
    · show T.slotsUsed = T.slotsUsed + ((T.heap.toList.drop T.heap.size).map (·.slots.size)).sum
      rw [List.drop_eq_nil_of_le (Nat.le_of_eq Array.length_toList)]
      rfl
    · show ((T.heap.toList.drop T.heap.size).map (·.slots.size)).sum ≤ 0
      rw [List.drop_eq_nil_of_le (Nat.le_of_eq Array.length_toList)]
      exact Nat.le_refl _
/-- 'throw new E()': new; dup; invokespecial; athrow -/
theorem vx_throw0 {cc : ByteArray} {pc : Nat} (hexec : p.tables.exec = Jvm.exec) (hb : c.code = cc) (hl : l.stackTraces = false) {own cls : String} {names : List String} {ik ic mc ms : Nat} {A : Nat → Prop}
    (hown : s.vm.findClass own = some m.cls) (hcls : Bundle.fit cls = true) (hnames : ∀ n ∈ names, Bundle.fit n = true)
    (hk : (Cond.classLink own ik cls).before args s = true) (hini : (Cond.initialized cls).before args s = true) (hat : ∀ w ∈ vx_at0 own ic cls names, w.before args s = true)
    (hgood : ∀ w ∈ Cond.classLink own ik cls :: Cond.initialized cls :: vx_at0 own ic cls names, vx_ot w = true)
    (hU : vx_Zq Bundle.tN "UNASSIGNED_STACK" Bundle.steD A s s.heap) (hN : vx_Zq Bundle.tN "SUPPRESSED_SENTINEL" Bundle.listD A s s.heap) (hS : va_S A s.heap H locs) (hsize : ls.size = c.maxLocals)
    (d0 : decode cc pc = .ok (.new ik, 3)) (d3 : decode cc (pc + 3) = .ok (.dup, 1)) (d4 : decode cc (pc + 4) = .ok (.invokespecial ic, 3)) (d7 : decode cc (pc + 7) = .ok (.athrow, 1))
    (hout : ∀ x ∈ c.exceptionTable.toList, covers x (pc + 7) = false)
    (hRframes : names.length + 3 < R.frames) (hRlocals : (rest.map fun v => v.category).sum + (13 * (names.length + 1) + 42) ≤ R.locals) (hRcells : cells + 1 ≤ R.cells) (hRslots : slots + 6 ≤ R.slots) (hlocks : meth.locks = false)
    (hx : ∀ t : State, s.vm.Alike t.vm → H.size ≤ t.heap.size → (∀ q : Nat, q < H.size → t.heap[q]? = H[q]?) → XC cls s t)
    (hf : ∀ z ∈ locs, free z.base) (hc : cells + 1 ≤ mc) (hs : slots + 6 ≤ ms) :
    W p l e R s m args below meth c H locs cells slots (vx_MQ below Qc XC args s mc ms free) (F0 m pc ls rest) := by
  intro T hT X
  have htr : e.platform.stackTraces = false := (show e.platform.stackTraces = l.stackTraces by rw [X.admits.platform]).trans hl
  have Y := vx_rebase X (R' := { frames := R.frames, locals := R.locals, cells := 1, slots := 6 }) (Nat.le_refl _) (Nat.le_refl _) hRcells hRslots
  obtain ⟨s', hA⟩ : ∃ z, z = (T.setVm s.vm).setFrames (.invoking m args :: below) := ⟨_, rfl⟩
  rw [← hA] at Y
  have hvm : s'.vm = s.vm := by rw [hA]; rfl
  have hhp : s'.heap = H := by rw [hA]; exact hT
  have hW0 : s.WarmedH s'.vm := by rw [hvm]; exact State.WarmedH.refl s
  have hat' : ∀ w ∈ vx_at0 own ic cls names, w.before args s' = true := fun w hw => vx_ot_at hW0 hvm.symm (hgood w (List.mem_cons_of_mem _ (List.mem_cons_of_mem _ hw))) (hat w hw)
  have hk' : (Cond.classLink own ik cls).before args s' = true := vx_ot_at hW0 hvm.symm (hgood _ List.mem_cons_self) hk
  have hini' : (Cond.initialized cls).before args s' = true := vx_ot_at hW0 hvm.symm (hgood _ (List.mem_cons_of_mem _ List.mem_cons_self)) hini
  have hU' : vx_Zq Bundle.tN "UNASSIGNED_STACK" Bundle.steD A s' s'.heap := by rw [hhp]; exact vx_Zq.moved hW0.alike (hU.kept hS.2.1)
  have hN' : vx_Zq Bundle.tN "SUPPRESSED_SENTINEL" Bundle.listD A s' s'.heap := by rw [hhp]; exact vx_Zq.moved hW0.alike (hN.kept hS.2.1)
  have h : ∀ w ∈ Bundle.ownAtoms0 own ic cls names, w.before args s' = true := vx_own hat' (vx_isRefq hU'.1) (vx_isRefq hN'.1) hU'.2.word hN'.2.word
  have hown' : s'.vm.findClass own = some m.cls := by rw [hvm]; exact hown
  have hins : (Cond.instantiable cls 6).before args s' = true := h _ (by simp [Bundle.ownAtoms0])
  obtain ⟨vm₁, cX, kX, hfX, hkX, -, -, X₁, st1⟩ := Y.newCold hexec (own := own) (C := cls) (index := ik) (n := 6) hown' hk' hins hini'
    (g := F0 m pc ls rest) rfl (by rw [hb]; exact d0) (Nat.le_refl _) (Nat.le_refl _)
  generalize hT1 : (T.setVm vm₁).pushCell { cls := cX, slots := kX.instanceTypes.map defaultValue, vm := .none } = T1 at X₁ st1
  have hcat : (Value.ref T.heap.size).category = 1 := rfl
  have hcellA : T1.heap[T.heap.size]? = some (freshCell cX kX) := by rw [← hT1]; exact State.heap_pushCell_size _ _
  have d3' : decode c.code (pc + 3) = .ok (.dup, 1) := by rw [hb]; exact d3
  obtain ⟨U, hsteps, hrun, hend, hW, hsame, ce, hce, hO⟩ := X₁.ctorThrow0 hexec htr (own := own) (cls := cls) (names := names) (ic := ic) hown' hcls hnames h (fun x hx => nomatch hx) hfX hkX hcellA (by rw [hhp, hT]; exact Nat.le_refl _)
    (g := { method := m, pc := pc + 4, locals := ls, stack := .ref T.heap.size :: .ref T.heap.size :: rest, locked := none }) rfl hsize rfl rfl (rest := rest) rfl
    (by rw [hb]; exact d4) (by rw [hb]; exact d7) hout hRframes (by simp only [List.map_cons, List.sum_cons, hcat]; omega) hlocks
  obtain ⟨f1, f2⟩ := vx_frame hsame
  rw [hhp] at f1 f2
  have hWs : s.WarmedH U.vm := State.WarmedH.trans hW0 hW
  have hcl : s.vm.findClass cls = some ce.cls := by
    have h9 := hO.cls
    rw [hvm] at h9
    exact h9
  have hall : s.sameButNew ({ U with vm := s.vm } : State) locs mc ms := by
    subst hA
    obtain ⟨e1, e2⟩ := hsame
    rw [State.setFrames_setFrames] at e1
    have h2 : (T.setVm s.vm).sameButNew ({ U with vm := s.vm } : State) [] (0 + 1) (0 + 6) := ⟨e1, e2⟩
    have h3 := X.same.trans h2
    rw [List.append_nil] at h3
    exact h3.mono hc hs
  refine ⟨U, ?_, .threw T.heap.size, hrun, hend, Or.inr ⟨T.heap.size, rfl, cls, ce, locs, hx U hWs.alike f1 (fun q hq => f2 q hq (fun z hz => nomatch hz)), hce, hO.vm, hcl, hWs, hall, hf⟩⟩
  refine st1 _ ?_
  show Steps p.tables e below (T1.setTop { method := m, pc := pc + 3, locals := ls, stack := .ref T.heap.size :: rest, locked := none }) _
  jvm_step X₁.here [X₁.here.top, hexec, d3', Value.category]
  exact hsteps
/-- 'throw new E("text")': new; dup; ldc; invokespecial; athrow -/
theorem vx_throwS {cc : ByteArray} {pc : Nat} (hexec : p.tables.exec = Jvm.exec) (hb : c.code = cc) (hl : l.stackTraces = false) {own cls text : String} {names : List String} {ik is ic mc ms sa : Nat} {A : Nat → Prop}
    (hown : s.vm.findClass own = some m.cls) (hcls : Bundle.fit cls = true) (hnames : ∀ n ∈ names, Bundle.fit n = true)
    (hk : (Cond.classLink own ik cls).before args s = true) (hini : (Cond.initialized cls).before args s = true) (hstr : vk_R own is text sa s) (hat : ∀ w ∈ vx_atS own ic cls names, w.before args s = true)
    (hgood : ∀ w ∈ Cond.classLink own ik cls :: Cond.initialized cls :: vx_atS own ic cls names, vx_ot w = true)
    (hU : vx_Zq Bundle.tN "UNASSIGNED_STACK" Bundle.steD A s s.heap) (hN : vx_Zq Bundle.tN "SUPPRESSED_SENTINEL" Bundle.listD A s s.heap) (hS : va_S A s.heap H locs) (hsize : ls.size = c.maxLocals)
    (d0 : decode cc pc = .ok (.new ik, 3)) (d3 : decode cc (pc + 3) = .ok (.dup, 1)) (d4 : decode cc (pc + 4) = .ok (.ldc is, 2)) (d6 : decode cc (pc + 6) = .ok (.invokespecial ic, 3)) (d9 : decode cc (pc + 9) = .ok (.athrow, 1))
    (hout : ∀ x ∈ c.exceptionTable.toList, covers x (pc + 9) = false)
    (hRframes : names.length + 3 < R.frames) (hRlocals : (rest.map fun v => v.category).sum + (13 * (names.length + 1) + 43) ≤ R.locals) (hRcells : cells + 1 ≤ R.cells) (hRslots : slots + 6 ≤ R.slots) (hlocks : meth.locks = false)
    (hx : ∀ t : State, s.vm.Alike t.vm → H.size ≤ t.heap.size → (∀ q : Nat, q < H.size → t.heap[q]? = H[q]?) → XC cls s t)
    (hf : ∀ z ∈ locs, free z.base) (hc : cells + 1 ≤ mc) (hs : slots + 6 ≤ ms) :
    W p l e R s m args below meth c H locs cells slots (vx_MQ below Qc XC args s mc ms free) (F0 m pc ls rest) := by
  intro T hT X
  have htr : e.platform.stackTraces = false := (show e.platform.stackTraces = l.stackTraces by rw [X.admits.platform]).trans hl
  have Y := vx_rebase X (R' := { frames := R.frames, locals := R.locals, cells := 1, slots := 6 }) (Nat.le_refl _) (Nat.le_refl _) hRcells hRslots
  obtain ⟨s', hA⟩ : ∃ z, z = (T.setVm s.vm).setFrames (.invoking m args :: below) := ⟨_, rfl⟩
  rw [← hA] at Y
  have hvm : s'.vm = s.vm := by rw [hA]; rfl
  have hhp : s'.heap = H := by rw [hA]; exact hT
  have hW0 : s.WarmedH s'.vm := by rw [hvm]; exact State.WarmedH.refl s
  have hat' : ∀ w ∈ vx_atS own ic cls names, w.before args s' = true := fun w hw => vx_ot_at hW0 hvm.symm (hgood w (List.mem_cons_of_mem _ (List.mem_cons_of_mem _ hw))) (hat w hw)
  have hk' : (Cond.classLink own ik cls).before args s' = true := vx_ot_at hW0 hvm.symm (hgood _ List.mem_cons_self) hk
  have hini' : (Cond.initialized cls).before args s' = true := vx_ot_at hW0 hvm.symm (hgood _ (List.mem_cons_of_mem _ List.mem_cons_self)) hini
  have hU' : vx_Zq Bundle.tN "UNASSIGNED_STACK" Bundle.steD A s' s'.heap := by rw [hhp]; exact vx_Zq.moved hW0.alike (hU.kept hS.2.1)
  have hN' : vx_Zq Bundle.tN "SUPPRESSED_SENTINEL" Bundle.listD A s' s'.heap := by rw [hhp]; exact vx_Zq.moved hW0.alike (hN.kept hS.2.1)
  have h : ∀ w ∈ Bundle.ownAtoms own ic cls names, w.before args s' = true := vx_own hat' (vx_isRefq hU'.1) (vx_isRefq hN'.1) hU'.2.word hN'.2.word
  have hown' : s'.vm.findClass own = some m.cls := by rw [hvm]; exact hown
  have hins : (Cond.instantiable cls 6).before args s' = true := h _ (by simp [Bundle.ownAtoms])
  obtain ⟨vm₁, cX, kX, hfX, hkX, -, -, X₁, st1⟩ := Y.newCold hexec (own := own) (C := cls) (index := ik) (n := 6) hown' hk' hins hini'
    (g := F0 m pc ls rest) rfl (by rw [hb]; exact d0) (Nat.le_refl _) (Nat.le_refl _)
  generalize hT1 : (T.setVm vm₁).pushCell { cls := cX, slots := kX.instanceTypes.map defaultValue, vm := .none } = T1 at X₁ st1
  have hcat : (Value.ref T.heap.size).category = 1 := rfl
  have hcellA : T1.heap[T.heap.size]? = some (freshCell cX kX) := by rw [← hT1]; exact State.heap_pushCell_size _ _
  have d3' : decode c.code (pc + 3) = .ok (.dup, 1) := by rw [hb]; exact d3
  have d4' : decode c.code (pc + 4) = .ok (.ldc is, 2) := by rw [hb]; exact d4
  have hstr' : vk_R own is text sa s' := vk_R.warm hW0 hstr
  obtain ⟨U, hsteps, hrun, hend, hW, hsame, ce, hce, hO⟩ := X₁.ctorThrowS hexec htr (own := own) (cls := cls) (names := names) (ic := ic) hown' hcls hnames h (fun x hx => nomatch hx) hfX hkX hcellA (by rw [hhp, hT]; exact Nat.le_refl _) (msg := .ref sa) rfl
    (g := { method := m, pc := pc + 6, locals := ls, stack := .ref sa :: .ref T.heap.size :: .ref T.heap.size :: rest, locked := none }) rfl hsize rfl rfl (rest := rest) rfl
    (by rw [hb]; exact d6) (by rw [hb]; exact d9) hout hRframes (by simp only [List.map_cons, List.sum_cons, hcat]; omega) hlocks
  obtain ⟨f1, f2⟩ := vx_frame hsame
  rw [hhp] at f1 f2
  have hWs : s.WarmedH U.vm := State.WarmedH.trans hW0 hW
  have hcl : s.vm.findClass cls = some ce.cls := by
    have h9 := hO.cls
    rw [hvm] at h9
    exact h9
  have hall : s.sameButNew ({ U with vm := s.vm } : State) locs mc ms := by
    subst hA
    obtain ⟨e1, e2⟩ := hsame
    rw [State.setFrames_setFrames] at e1
    have h2 : (T.setVm s.vm).sameButNew ({ U with vm := s.vm } : State) [] (0 + 1) (0 + 6) := ⟨e1, e2⟩
    have h3 := X.same.trans h2
    rw [List.append_nil] at h3
    exact h3.mono hc hs
  refine ⟨U, ?_, .threw T.heap.size, hrun, hend, Or.inr ⟨T.heap.size, rfl, cls, ce, locs, hx U hWs.alike f1 (fun q hq => f2 q hq (fun z hz => nomatch hz)), hce, hO.vm, hcl, hWs, hall, hf⟩⟩
  refine st1 _ ?_
  show Steps p.tables e below (T1.setTop { method := m, pc := pc + 3, locals := ls, stack := .ref T.heap.size :: rest, locked := none }) _
  jvm_step X₁.here [X₁.here.top, hexec, d3', Value.category]
  exact X₁.ldcString hexec (own := own) (text := text) (index := is) (a := sa) hown' hstr'.1 hstr'.2
    (g := { method := m, pc := pc + 4, locals := ls, stack := .ref T.heap.size :: .ref T.heap.size :: rest, locked := none }) rfl d4' _ hsteps
/-- 'throw new E("text")', the text by a wide index -/
theorem vx_throwSW {cc : ByteArray} {pc : Nat} (hexec : p.tables.exec = Jvm.exec) (hb : c.code = cc) (hl : l.stackTraces = false) {own cls text : String} {names : List String} {ik is ic mc ms sa : Nat} {A : Nat → Prop}
    (hown : s.vm.findClass own = some m.cls) (hcls : Bundle.fit cls = true) (hnames : ∀ n ∈ names, Bundle.fit n = true)
    (hk : (Cond.classLink own ik cls).before args s = true) (hini : (Cond.initialized cls).before args s = true) (hstr : vk_R own is text sa s) (hat : ∀ w ∈ vx_atS own ic cls names, w.before args s = true)
    (hgood : ∀ w ∈ Cond.classLink own ik cls :: Cond.initialized cls :: vx_atS own ic cls names, vx_ot w = true)
    (hU : vx_Zq Bundle.tN "UNASSIGNED_STACK" Bundle.steD A s s.heap) (hN : vx_Zq Bundle.tN "SUPPRESSED_SENTINEL" Bundle.listD A s s.heap) (hS : va_S A s.heap H locs) (hsize : ls.size = c.maxLocals)
    (d0 : decode cc pc = .ok (.new ik, 3)) (d3 : decode cc (pc + 3) = .ok (.dup, 1)) (d4 : decode cc (pc + 4) = .ok (.ldc_w is, 3)) (d7 : decode cc (pc + 7) = .ok (.invokespecial ic, 3)) (d10 : decode cc (pc + 10) = .ok (.athrow, 1))
    (hout : ∀ x ∈ c.exceptionTable.toList, covers x (pc + 10) = false)
    (hRframes : names.length + 3 < R.frames) (hRlocals : (rest.map fun v => v.category).sum + (13 * (names.length + 1) + 43) ≤ R.locals) (hRcells : cells + 1 ≤ R.cells) (hRslots : slots + 6 ≤ R.slots) (hlocks : meth.locks = false)
    (hx : ∀ t : State, s.vm.Alike t.vm → H.size ≤ t.heap.size → (∀ q : Nat, q < H.size → t.heap[q]? = H[q]?) → XC cls s t)
    (hf : ∀ z ∈ locs, free z.base) (hc : cells + 1 ≤ mc) (hs : slots + 6 ≤ ms) :
    W p l e R s m args below meth c H locs cells slots (vx_MQ below Qc XC args s mc ms free) (F0 m pc ls rest) := by
  intro T hT X
  have htr : e.platform.stackTraces = false := (show e.platform.stackTraces = l.stackTraces by rw [X.admits.platform]).trans hl
  have Y := vx_rebase X (R' := { frames := R.frames, locals := R.locals, cells := 1, slots := 6 }) (Nat.le_refl _) (Nat.le_refl _) hRcells hRslots
  obtain ⟨s', hA⟩ : ∃ z, z = (T.setVm s.vm).setFrames (.invoking m args :: below) := ⟨_, rfl⟩
  rw [← hA] at Y
  have hvm : s'.vm = s.vm := by rw [hA]; rfl
  have hhp : s'.heap = H := by rw [hA]; exact hT
  have hW0 : s.WarmedH s'.vm := by rw [hvm]; exact State.WarmedH.refl s
  have hat' : ∀ w ∈ vx_atS own ic cls names, w.before args s' = true := fun w hw => vx_ot_at hW0 hvm.symm (hgood w (List.mem_cons_of_mem _ (List.mem_cons_of_mem _ hw))) (hat w hw)
  have hk' : (Cond.classLink own ik cls).before args s' = true := vx_ot_at hW0 hvm.symm (hgood _ List.mem_cons_self) hk
  have hini' : (Cond.initialized cls).before args s' = true := vx_ot_at hW0 hvm.symm (hgood _ (List.mem_cons_of_mem _ List.mem_cons_self)) hini
  have hU' : vx_Zq Bundle.tN "UNASSIGNED_STACK" Bundle.steD A s' s'.heap := by rw [hhp]; exact vx_Zq.moved hW0.alike (hU.kept hS.2.1)
  have hN' : vx_Zq Bundle.tN "SUPPRESSED_SENTINEL" Bundle.listD A s' s'.heap := by rw [hhp]; exact vx_Zq.moved hW0.alike (hN.kept hS.2.1)
  have h : ∀ w ∈ Bundle.ownAtoms own ic cls names, w.before args s' = true := vx_own hat' (vx_isRefq hU'.1) (vx_isRefq hN'.1) hU'.2.word hN'.2.word
  have hown' : s'.vm.findClass own = some m.cls := by rw [hvm]; exact hown
  have hins : (Cond.instantiable cls 6).before args s' = true := h _ (by simp [Bundle.ownAtoms])
  obtain ⟨vm₁, cX, kX, hfX, hkX, -, -, X₁, st1⟩ := Y.newCold hexec (own := own) (C := cls) (index := ik) (n := 6) hown' hk' hins hini'
    (g := F0 m pc ls rest) rfl (by rw [hb]; exact d0) (Nat.le_refl _) (Nat.le_refl _)
  generalize hT1 : (T.setVm vm₁).pushCell { cls := cX, slots := kX.instanceTypes.map defaultValue, vm := .none } = T1 at X₁ st1
  have hcat : (Value.ref T.heap.size).category = 1 := rfl
  have hcellA : T1.heap[T.heap.size]? = some (freshCell cX kX) := by rw [← hT1]; exact State.heap_pushCell_size _ _
  have d3' : decode c.code (pc + 3) = .ok (.dup, 1) := by rw [hb]; exact d3
  have d4' : decode c.code (pc + 4) = .ok (.ldc_w is, 3) := by rw [hb]; exact d4
  have hstr' : vk_R own is text sa s' := vk_R.warm hW0 hstr
  obtain ⟨U, hsteps, hrun, hend, hW, hsame, ce, hce, hO⟩ := X₁.ctorThrowS hexec htr (own := own) (cls := cls) (names := names) (ic := ic) hown' hcls hnames h (fun x hx => nomatch hx) hfX hkX hcellA (by rw [hhp, hT]; exact Nat.le_refl _) (msg := .ref sa) rfl
    (g := { method := m, pc := pc + 7, locals := ls, stack := .ref sa :: .ref T.heap.size :: .ref T.heap.size :: rest, locked := none }) rfl hsize rfl rfl (rest := rest) rfl
    (by rw [hb]; exact d7) (by rw [hb]; exact d10) hout hRframes (by simp only [List.map_cons, List.sum_cons, hcat]; omega) hlocks
  obtain ⟨f1, f2⟩ := vx_frame hsame
  rw [hhp] at f1 f2
  have hWs : s.WarmedH U.vm := State.WarmedH.trans hW0 hW
  have hcl : s.vm.findClass cls = some ce.cls := by
    have h9 := hO.cls
    rw [hvm] at h9
    exact h9
  have hall : s.sameButNew ({ U with vm := s.vm } : State) locs mc ms := by
    subst hA
    obtain ⟨e1, e2⟩ := hsame
    rw [State.setFrames_setFrames] at e1
    have h2 : (T.setVm s.vm).sameButNew ({ U with vm := s.vm } : State) [] (0 + 1) (0 + 6) := ⟨e1, e2⟩
    have h3 := X.same.trans h2
    rw [List.append_nil] at h3
    exact h3.mono hc hs
  refine ⟨U, ?_, .threw T.heap.size, hrun, hend, Or.inr ⟨T.heap.size, rfl, cls, ce, locs, hx U hWs.alike f1 (fun q hq => f2 q hq (fun z hz => nomatch hz)), hce, hO.vm, hcl, hWs, hall, hf⟩⟩
  refine st1 _ ?_
  show Steps p.tables e below (T1.setTop { method := m, pc := pc + 3, locals := ls, stack := .ref T.heap.size :: rest, locked := none }) _
  jvm_step X₁.here [X₁.here.top, hexec, d3', Value.category]
  exact X₁.ldcStringW hexec (own := own) (text := text) (index := is) (a := sa) hown' hstr'.1 hstr'.2
    (g := { method := m, pc := pc + 4, locals := ls, stack := .ref T.heap.size :: .ref T.heap.size :: rest, locked := none }) rfl d4' _ hsteps
end Ends
section Bodies
variable {l : Launch}
theorem vx_ofW {y : MethodName} {ws ws' : List Cond} {rm : Room} {Pc : Array Value → State → Prop} {Qc : Array Value → State → Outcome → State → Prop} {XC : String → State → State → Prop} {mc ms : Nat} {free : Addr → Prop} {cc : ByteArray} {maxL : Nat} {ret : Option FieldType}
    (hy : plainName y.cls = true) (hw : ws = Cond.code y cc maxL ret :: ws')
    (body : ∀ p e s m args below meth c s₁, BodyLoose p l y (headSpec ws rm) cc maxL ret e s m args below meth c s₁ → c.maxLocals = maxL → (∀ x ∈ c.exceptionTable.toList, False) → Pc args s →
      W p l e (headSpec ws rm).room s m args below meth c s.heap [] 0 0 (vx_MQ below Qc XC args s mc ms free) (entryFrame m args maxL)) : vx_Met l y ws rm Pc Qc XC mc ms free := by
  refine MetFree.of_bodyS (code := cc) (maxLocals := maxL) (ret := ret) hy ?_ ?_
  · intro args s m h hn
    obtain ⟨meth, c, h1, h2, h3, h4, h5, h6, -, -⟩ := Cond.code_spec hn (atoms_spec (ws := ws) h _ (by rw [hw]; exact List.mem_cons_self))
    exact ⟨meth, c, h1, h2, h3, h4, h5, h6⟩
  · intro p e s m args below meth c s₁ B hml hP _
    have hh0 : s₁.heap = s.heap := by rw [B.state]; rfl
    have ht : ∀ x ∈ c.exceptionTable.toList, False := by
      obtain ⟨meth9, c9, h1, h2, -, -, -, -, h7, -⟩ := Cond.code_spec B.named (atoms_spec (ws := ws) B.pre _ (by rw [hw]; exact List.mem_cons_self))
      cases Option.some.inj (h1.symm.trans B.method)
      cases Option.some.inj (h2.symm.trans (Stand.of_body B).code)
      intro x hx
      rw [Array.isEmpty_iff.mp h7] at hx
      cases hx
    obtain ⟨t, a1, o, b1, b2, b3⟩ := body p e s m args below meth c s₁ B hml ht hP s₁ hh0 (Stand.of_body B)
    exact ⟨t, o, a1, b1, b2, b3⟩
/-- the table of a body with handlers -/
theorem vx_table {p : Program} {x y : MethodName} {S : Spec} {cc bytes : ByteArray} {maxL maxL' : Nat} {ret ret' : Option FieldType} {e : Env} {s s₁ : State} {m : MethodId} {args : Array Value} {below : List Frame} {meth : Method} {c : Code} {hh : List (Nat × Nat × Nat × Nat)}
    (B : BodyLoose p l y S cc maxL ret e s m args below meth c s₁) (h : (Cond.codeWith y bytes maxL' ret' hh).before args s = true) : c.exceptionTable.toList = tableOf hh := by
  obtain ⟨m9, meth9, c9, hn9, h1, h2, -, -, h6, -⟩ := Cond.codeWith_spec h
  cases Option.some.inj (hn9.symm.trans B.named)
  cases Option.some.inj (h1.symm.trans B.method)
  cases Option.some.inj (h2.symm.trans (Stand.of_body B).code)
  rw [← h6, table_eq]
end Bodies
end VXA
/-! ===== END ===== -/
/-! ===== BEGIN a static call of a method with an exception table ===== -/
section VXS
variable {p : Program} {l : Launch} {e : Env} {R : Room} {s : State} {m : MethodId} {args : Array Value} {below : List Frame} {meth : Method} {c : Code} {T : State} {H : Heap} {locs : List Loc} {cells slots : Nat}
abbrev vx_CSW (R : Room) (s : State) (args : Array Value) (own : String) (index : Nat) (y : MethodName) (bytes : ByteArray) (maxL : Nat) (ret : Option FieldType) (hh : List (Nat × Nat × Nat × Nat)) (ws : List Cond) (rm : Room) (mc ms n : Nat) : Prop :=
  (rm.cells = mc ∧ rm.slots = ms ∧ rm.frames + 1 ≤ R.frames ∧ 8 + (maxL + 11) + rm.locals ≤ R.locals ∧ (∀ w ∈ ws, ∀ (a' : Array Value) (U : State), s.WarmedH U.vm → w.before a' U = true) ∧ Cond.codeWith y bytes maxL ret hh ∈ ws) ∧
  (Cond.codeWith y bytes maxL ret hh).before args s = true ∧ (Cond.initialized y.cls).before args s = true ∧ (y.cls ≠ "java/lang/invoke/MethodHandle" ∧ y.cls ≠ "java/lang/invoke/VarHandle") ∧
  (∀ sig, parseMethodDescriptor y.desc = some sig → n = sig.parameters.length) ∧ (Cond.methodLink own index y).before args s = true ∧ (Cond.static y).before args s = true
theorem vx_cwSW {own : String} {index maxL mc ms : Nat} {y : MethodName} {bytes : ByteArray} {ret : Option FieldType} {hh : List (Nat × Nat × Nat × Nat)} {Ts ws ws' : List Cond} {rm : Room} (n : Nat) (ht : ∀ w ∈ Ts, w.before args s = true) (hT : GoodIn Ts (va_wsS own index y ws)) (hw : ws = Cond.codeWith y bytes maxL ret hh :: ws') (hrc : rm.cells = mc) (hrs : rm.slots = ms)
    (hd : y.cls ≠ "java/lang/invoke/MethodHandle" ∧ y.cls ≠ "java/lang/invoke/VarHandle" ∧ (parseMethodDescriptor y.desc).map (fun d => d.parameters.length) = some n) (hR : rm.frames + 1 ≤ R.frames ∧ 8 + (maxL + 11) + rm.locals ≤ R.locals) :
    vx_CSW R s args own index y bytes maxL ret hh ws rm mc ms n := by
  have ok : ∀ w ∈ va_wsS own index y ws, w.before args s = true := fun w h => ht w (hT w h).1
  have hG : GoodIn Ts ws := fun w h => hT w (by unfold va_wsS; exact List.mem_append_right _ h)
  have hc : Cond.codeWith y bytes maxL ret hh ∈ ws := by rw [hw]; exact List.mem_cons_self
  refine ⟨⟨hrc, hrs, hR.1, hR.2, pay_in ht hG, hc⟩, ht _ (hG _ hc).1, ok _ (by simp [va_wsS]), ⟨hd.1, hd.2.1⟩, fun sig h => ?_, ok _ (by simp [va_wsS]), ok _ (by simp [va_wsS])⟩
  have h2 := hd.2.2
  rw [h] at h2
  exact (Option.some.inj h2).symm
theorem vx_callSW (X : Stand p l e R s m args below meth c T locs cells slots) (hexec : p.tables.exec = Jvm.exec) {own : String} {index : Nat} {y : MethodName} {bytes : ByteArray} {maxL : Nat} {ret : Option FieldType} {hh : List (Nat × Nat × Nat × Nat)}
    (hown : s.vm.findClass own = some m.cls) (hlink : (Cond.methodLink own index y).before args s = true) (hstat : (Cond.static y).before args s = true) (hinit : (Cond.initialized y.cls).before args s = true)
    (hcode : (Cond.codeWith y bytes maxL ret hh).before args s = true) (hy : y.cls ≠ "java/lang/invoke/MethodHandle" ∧ y.cls ≠ "java/lang/invoke/VarHandle")
    {W9 : Nat} {Pre : Pt → Array Value → Prop} {Post : Pt → Array Value → Option Value → Pt → Prop} (hK : Back l R p e below s args y 3 W9 Pre Post)
    {g : JFrame} (hg : g.method = m) (hsize : g.locals.size = c.maxLocals) {argsL rest : List Value} (hlen : ∀ sig, parseMethodDescriptor y.desc = some sig → argsL.length = sig.parameters.length)
    (hstack : g.stack = argsL.reverse ++ rest) (hW : 2 * g.monitorRoom + (rest.map fun v => v.category).sum ≤ W9) (hdg : decode c.code g.pc = .ok (.invokestatic index, 3))
    (hpre : ∀ vm₁, s.WarmedH vm₁ → Pre ⟨T.setVm vm₁, locs, cells, slots⟩ argsL.toArray) :
    ∃ (v : Option Value) (vm₁ : Vm) (B : Pt), s.WarmedH vm₁ ∧ Stand p l e R s m args below meth c B.U B.locs B.cells B.slots ∧ Post ⟨T.setVm vm₁, locs, cells, slots⟩ argsL.toArray v B ∧
      ∀ target, Steps p.tables e below (B.U.setTop { g with pc := g.pc + 3, stack := v.toList ++ rest }) target → Steps p.tables e below (T.setTop g) target := by
  obtain ⟨mk, methM, cM, hnamed, hmethM, -, -, -, -, -, -, hsigM⟩ := Cond.codeWith_spec hcode
  have hstatic : methM.isStatic = true := Cond.static_spec hnamed hmethM hstat
  obtain ⟨kP, hkP, -⟩ := className_of_methodNamed hnamed
  have hinitP : kP.init = .initialized := Cond.initialized_spec (findClass_of_methodNamed hnamed) hkP hinit
  obtain ⟨vm₁, X₁, hstep₁⟩ := X.invokestatic hexec hown hlink hnamed hmethM hstatic hkP hinitP hy (g := g) hg (argsL := argsL) (rest := rest) (hlen _ hsigM) hstack hdg
  obtain ⟨v, B, X', hpost, hsteps⟩ := hK m meth c ⟨T.setVm vm₁, locs, cells, slots⟩ { g with stack := rest } (.invokestatic index) mk argsL.toArray X₁ hg hsize hdg hW (X₁.named hnamed) (hpre vm₁ X₁.warmed)
  exact ⟨v, vm₁, B, X₁.warmed, X', hpost, fun target h => hstep₁ _ fun acts => by rw [doInvoke_state]; exact hsteps.trans h⟩
theorem vx_runSW {y : MethodName} {bytes cc : ByteArray} {maxL nL mc ms n index : Nat} {ret : Option FieldType} {hh : List (Nat × Nat × Nat × Nat)} {ws : List Cond} {rm : Room} {Pc : Array Value → State → Prop} {Qc : Array Value → State → Outcome → State → Prop} {free : Addr → Prop} {Ts : List Cond} {own : String} {As rest : List Value} {g : JFrame}
    (S : CallFix p m c cc nL s args Ts own) (hM : Met l y ws rm Pc Qc mc ms free) (cw : vx_CSW R s args own index y bytes maxL ret hh ws rm mc ms n) (hp : PreS s H Pc As)
    (hg : g.method = m) (hn : As.length = n) (hsize : g.locals.size = nL) (hstack : g.stack = As.reverse ++ rest) (hW : 2 * g.monitorRoom + (rest.map fun v => v.category).sum ≤ 8) (hdg : decode cc g.pc = .ok (.invokestatic index, 3)) (hf : cells + mc ≤ R.cells ∧ slots + ms ≤ R.slots) :
    va_Run p l e R s m args below meth c H locs cells slots mc ms g rest (Qc As.toArray) (free) := by
  obtain ⟨⟨hrc, hrs, hfr, hlo, hws, hcw⟩, hcode, hini, hy, hlen, hl, hstt⟩ := cw
  have hK : Back l R p e below s args y 3 8 (PreOf R mc ms Pc) (PostOf Qc mc ms free) := va_backW (hh := hh) (bytes := bytes) (maxL := maxL) (ret := ret) hM hp.1 hrc hrs hfr hlo hws hcw (fun a' U hW => word_at hW (Or.inl (by first | rfl | simp [Cond.onTables, Cond.keeps, Cond.steady])) hini)
  obtain ⟨hx, hb, hml, ho, -⟩ := S
  intro T hT X
  obtain ⟨v, vm₁, ⟨U', l2, c2, s2⟩, hW₁, X', ⟨g', mk, t, L, e1, e2, hq, h1, hL, h2, h3⟩, st⟩ := vx_callSW X hx (hh := hh) (bytes := bytes) (maxL := maxL) (ret := ret) ho hl hstt hini hcode hy hK hg (hsize.trans hml.symm) (argsL := As) (rest := rest) (fun sig h => hn.trans (hlen sig h)) hstack hW (by rw [hb]; exact hdg)
    (fun vm₁ hW₁ => ⟨hf.1, hf.2, hp.2 (T.setVm vm₁) hT hW₁⟩)
  dsimp only [Pt.U, Pt.locs, Pt.cells, Pt.slots] at X' e1 e2 h1 h2 h3 st
  subst h1; subst h2; subst h3
  exact ⟨v, (T.setVm vm₁).calling g' mk As.toArray, t, U', L, hT, X', hL, e1, e2, hq, st⟩
/-- not caught here, past rows that name other classes: it goes on to the caller -/
theorem vx_outP {p : Program} {l : Launch} {e : Env} {R : Room} {s : State} {m : MethodId} {args : Array Value} {below : List Frame} {meth : Method} {c : Code} {H : Heap} {locs : List Loc} {cells slots : Nat} {free : Addr → Prop} {ls : Array Slot} {rest : List Value} {Qc : Array Value → State → Outcome → State → Prop} {XC : String → State → State → Prop}
    {pc : Nat} {own E : String} {ce : Cell} {q : Addr} {mc ms : Nat} (hown : s.vm.findClass own = some m.cls) (hlocks : meth.locks = false)
    (hpass : ∀ z ∈ c.exceptionTable.toList, covers z pc = false ∨ (z.catchType ≠ 0 ∧ ∃ nm : String, (Cond.classLink own z.catchType nm).before args s = true ∧ va_Nc E nm s)) (hcell : H[q]? = some ce) (hv : ce.vm = .none) (hcl : s.vm.findClass E = some ce.cls)
    (hx : ∀ t : State, t.heap = H → s.vm.Alike t.vm → XC E s t) (hf : ∀ z ∈ locs, free z.base) (hc : cells ≤ mc) (hs : slots ≤ ms) :
    vx_W p l e R s m args below meth c H locs cells slots (vx_MQ below Qc XC args s mc ms free) (F0 m pc ls rest) q := by
  intro T hT X
  have hpl : e.platform.magicAccessors = ({} : Platform).magicAccessors := by rw [X.admits.platform]
  obtain ⟨vm', hW', X', st⟩ := X.outThrough hlocks q (g := F0 m pc ls rest) rfl rfl rfl (cell := ce) (by rw [hT]; exact hcell) (by rw [hv]; rfl)
    (by obtain ⟨k9, h9, -⟩ := Vm.findClass_spec hcl; exact ⟨k9, h9⟩) (fun z hz => by
      rcases hpass z hz with h | ⟨hz0, nm, hl1, hn1⟩
      · exact Or.inl h
      · obtain ⟨c6, hc6, hcl6⟩ := Cond.classLink_spec hown hl1 e.platform hpl
        obtain ⟨a8, b8, h1, h2, h3⟩ := hn1
        cases Option.some.inj (h1.symm.trans hcl)
        cases Option.some.inj (h2.symm.trans hc6)
        exact Or.inr ⟨hz0, _, hcl6, h3⟩)
  obtain ⟨g₀, hfr⟩ := X'.frames_eq
  have hcell9 : ((T.setVm vm').setFrames (.throwing q :: below)).heap[q]? = some ce := by
    show T.heap[q]? = some ce
    rw [hT]; exact hcell
  have hend : Ended ((T.setVm vm').setFrames (.throwing q :: below)) below (.threw q) := State.frames_setFrames _ (State.cur_lt_of_frames hfr)
  refine ⟨(T.setVm vm').setFrames (.throwing q :: below), ?_, .threw q, X'.here.running, hend, Or.inr ⟨q, rfl, E, ce, locs, hx _ hT (X'.ends _).1.alike, hcell9, hv, hcl, (X'.ends _).1, (X'.ends _).2.mono hc hs, hf⟩⟩
  rw [X.pushThrowing_eq]
  exact st
/-- a thing of a world lies in the heap -/
theorem vx_lt {D : va_G} {cl : List vw_C} {ws : va_W} {H1 : Heap} (h : va_P D cl ws H1) {k : Nat} {q : Nat × va_E} (hk : ws[k]? = some q) : q.1 < H1.size := (h k q hk).lt
end VXS
/-! ===== END ===== -/
/-! ===== BEGIN methods with a table of their own: called by a name, returning or throwing ===== -/
section VXH
/-! vx_backW, vx_callVX, vx_callSX, vx_callVW, vx_runVW, vx_runVX, vx_runSX, vx_ofWH follow the same proofs as their sisters above (Free/Laws.lean, Shelf42/LK1.lean); vx_outP calls Shelf42/NT130.lean (outThrough). -/
section
variable {l : Launch} {R : Room} {p : Program} {e : Env} {below : List Frame} {s : State} {sargs : Array Value} {y : MethodName} {len W9 : Nat}
theorem vx_backW {ws : List Cond} {rm : Room} {Pc : Array Value → State → Prop} {Qc : Array Value → State → Outcome → State → Prop} {XC : String → State → State → Prop} {mc ms : Nat} {free : Addr → Prop} {bytes : ByteArray} {maxL : Nat} {ret : Option FieldType} {hh : List (Nat × Nat × Nat × Nat)}
    (hM : vx_Met l y ws rm Pc Qc XC mc ms free) (hblind : FrameBlind Pc) (hrc : rm.cells = mc) (hrs : rm.slots = ms)
    (hframes : rm.frames + 1 ≤ R.frames) (hlocals : W9 + (maxL + 11) + rm.locals ≤ R.locals)
    (hws : ∀ w ∈ ws, ∀ a' U, s.WarmedH U.vm → w.before a' U = true) (hcode : Cond.codeWith y bytes maxL ret hh ∈ ws) (hinit : ∀ a' U, s.WarmedH U.vm → (Cond.initialized y.cls).before a' U = true) :
    vx_Back l R p e below s sargs y len W9 (PreOf R mc ms Pc) (PostOf Qc mc ms free) (vx_Post XC mc ms free) := by
  intro m meth c A g ig mk a X hg hsize hdg hW hn hp
  have h1 : (headSpec ws rm).pre.before a A.U = true := atoms_intro fun w hw => hws w hw _ _ X.warmed
  have h2 : (Cond.codeWith y bytes maxL ret hh).before a A.U = true := hws _ hcode _ _ X.warmed
  have h3 : (Cond.initialized y.cls).before a A.U = true := hinit _ _ X.warmed
  have h4 : A.cells + (headSpec ws rm).room.cells ≤ R.cells := by rw [show (headSpec ws rm).room.cells = mc from hrc]; exact hp.1
  have h5 : A.slots + (headSpec ws rm).room.slots ≤ R.slots := by rw [show (headSpec ws rm).room.slots = ms from hrs]; exact hp.2.1
  have hPc : Pc a (A.U.calling g mk a) := hblind _ _ _ _ hp.2.2
  obtain ⟨U, Ls, c0, s0⟩ := A
  dsimp only [Pt.U, Pt.locs, Pt.cells, Pt.slots] at h1 h2 h3 h4 h5 X hn hPc ⊢
  obtain ⟨m9, methY, cY, hn9, hmY, hcY, -, hlY, -⟩ := Cond.codeWith_spec h2
  cases Option.some.inj (hn9.symm.trans hn)
  obtain ⟨kY, hkY, -⟩ := className_of_methodNamed hn
  have hinitY : kY.init = .initialized := Cond.initialized_spec (findClass_of_methodNamed hn) hkY h3
  have h : At U g.method c below := by rw [hg]; exact X.here
  have hlocals9 : W9 + (maxL + 11) + (headSpec ws rm).room.locals ≤ R.locals := hlocals
  have happ : (headSpec ws rm).appliesLoose y e.platform (U.calling g mk a) = true :=
    Spec.appliesLoose_calling (g := g) h hdg hn hkY hinitY
      (X.room_calling (g := g) (R' := (headSpec ws rm).room) hsize hmY hcY hframes (by rw [hlY]; omega) h4 h5) h1
  obtain ⟨mid, hmid⟩ := h.above
  have hfr : (U.setTop g).frames = (.java g :: mid) ++ below := by rw [State.frames_setTop' g h.top, hmid]; rfl
  obtain ⟨o, s₂, hsteps, -, hend, hq⟩ := Steps.callFree hM p X.admits X.cas X.clock (acts := []) hfr happ hPc trivial
  have hq' : vx_Q Qc XC mc ms free a (U.calling g mk a) o s₂ := hq
  rw [State.frames_setTop' g h.top] at hend
  obtain ⟨g₀, hg0⟩ := Option.isSome_iff_exists.mp h.top
  obtain ⟨r, hr⟩ := State.topJava?_eq_some.mp hg0
  have hr' : (({ U with heap := s₂.heap, slotsUsed := s₂.slotsUsed } : State).setVm s₂.vm).frames = .java g₀ :: r := hr
  rcases hq' with ⟨hqc, L, hfe, hL⟩ | ⟨q, rfl, E, ce, L, hx, hce, hcv, hcl, hW₂, hsm, hL⟩
  · obtain ⟨⟨v, rfl⟩, hW₂, e2, q2, q3, q4, q5, q6⟩ := id hfe
    have e3 : s₂ = ({ (U.calling g mk a).setFrames s₂.frames with heap := s₂.heap, slotsUsed := s₂.slotsUsed } : State).setVm s₂.vm := by
      have : s₂ = ({ s₂ with vm := (U.calling g mk a).vm } : State).setVm s₂.vm := rfl
      rw [e2] at this
      exact this
    obtain ⟨c₂, i₂, len₂, hc₂, hd₂, hf₂⟩ := hend
    have hW' : U.WarmedH s₂.vm := hW₂
    have hcc : c₂ = c := by
      have h1 : s₂.code? g.method = U.code? g.method := by
        rw [State.code?_eq, State.code?_eq, hW'.alike.method?]
      exact Option.some.inj (hc₂.symm.trans (h1.trans h.code))
    subst hcc
    have hlen : len₂ = len := by rw [hdg] at hd₂; cases hd₂; rfl
    subst hlen
    have hs₂ : s₂ = (({ U with heap := s₂.heap, slotsUsed := s₂.slotsUsed } : State).setVm s₂.vm).setTop { g with pc := g.pc + len₂, stack := v.toList ++ g.stack } := by
      refine e3.trans ?_
      rw [hf₂, State.calling_eq h.top, State.setFrames_setFrames, State.setTop_of_frames _ hr', hr]
      rfl
    have hsame : U.sameButNew ({ U with heap := s₂.heap, slotsUsed := s₂.slotsUsed } : State) L mc ms := by
      refine ⟨?_, q2, q3, q4, q5, q6⟩
      obtain ⟨t, ht, -⟩ := State.frames_cons hr
      show ({ U with heap := s₂.heap, slotsUsed := s₂.slotsUsed } : State) = { U.setFrames U.frames with heap := s₂.heap, slotsUsed := s₂.slotsUsed }
      rw [State.setFrames_self ht]
    subst hg
    refine Or.inl ⟨v, ⟨(({ U with heap := s₂.heap, slotsUsed := s₂.slotsUsed } : State).setVm s₂.vm), Ls ++ L, c0 + mc, s0 + ms⟩,
      ⟨X.admits, X.cas, X.clock, X.frames, X.room, X.hears, X.method, X.code, (X.here.setHeapUsed s₂.heap s₂.slotsUsed).setVm hW'.alike, X.tail, State.WarmedH.trans X.warmed hW', X.limits, X.bytes, X.same.trans (hsame.setVm s.vm)⟩,
      ⟨g, mk, s₂, L, rfl, rfl, hqc, rfl, hL, rfl, rfl⟩, ?_⟩
    show Steps p.tables e below _ ((({ U with heap := s₂.heap, slotsUsed := s₂.slotsUsed } : State).setVm s₂.vm).setTop { g with pc := g.pc + len₂, stack := v.toList ++ g.stack })
    rw [← hs₂]
    exact hsteps
  · obtain ⟨e2, q2, q3, q4, q5, q6⟩ := id hsm
    have e3 : s₂ = ({ (U.calling g mk a).setFrames s₂.frames with heap := s₂.heap, slotsUsed := s₂.slotsUsed } : State).setVm s₂.vm := by
      have : s₂ = ({ s₂ with vm := (U.calling g mk a).vm } : State).setVm s₂.vm := rfl
      rw [e2] at this
      exact this
    have hf₂ : s₂.frames = .throwing q :: .java g :: U.frames.tail := hend
    have hW' : U.WarmedH s₂.vm := hW₂
    have hs₂ : s₂ = ((({ U with heap := s₂.heap, slotsUsed := s₂.slotsUsed } : State).setVm s₂.vm).setTop g).pushFrame (.throwing q) := by
      refine e3.trans ?_
      rw [hf₂, State.calling_eq h.top, State.setFrames_setFrames, State.pushFrame, State.frames_setTop _ hr', State.setTop_of_frames _ hr', State.setFrames_setFrames, hr]
      rfl
    have hsame : U.sameButNew ({ U with heap := s₂.heap, slotsUsed := s₂.slotsUsed } : State) L mc ms := by
      refine ⟨?_, q2, q3, q4, q5, q6⟩
      obtain ⟨t, ht, -⟩ := State.frames_cons hr
      show ({ U with heap := s₂.heap, slotsUsed := s₂.slotsUsed } : State) = { U.setFrames U.frames with heap := s₂.heap, slotsUsed := s₂.slotsUsed }
      rw [State.setFrames_self ht]
    subst hg
    refine Or.inr ⟨q, ⟨(({ U with heap := s₂.heap, slotsUsed := s₂.slotsUsed } : State).setVm s₂.vm), Ls ++ L, c0 + mc, s0 + ms⟩,
      ⟨X.admits, X.cas, X.clock, X.frames, X.room, X.hears, X.method, X.code, (X.here.setHeapUsed s₂.heap s₂.slotsUsed).setVm hW'.alike, X.tail, State.WarmedH.trans X.warmed hW', X.limits, X.bytes, X.same.trans (hsame.setVm s.vm)⟩,
      ⟨g, mk, s₂, L, E, ce, rfl, rfl, hx, hce, hcv, hcl, rfl, hL, rfl, rfl⟩, ?_⟩
    show Steps p.tables e below _ (((({ U with heap := s₂.heap, slotsUsed := s₂.slotsUsed } : State).setVm s₂.vm).setTop g).pushFrame (.throwing q))
    rw [← hs₂]
    exact hsteps
end
variable {p : Program} {l : Launch} {e : Env} {R : Room} {s : State} {m : MethodId} {args : Array Value} {below : List Frame} {meth : Method} {c : Code} {T : State} {H : Heap} {locs : List Loc} {cells slots : Nat}
theorem vx_callVX (X : Stand p l e R s m args below meth c T locs cells slots) (hexec : p.tables.exec = Jvm.exec) {own C : String} {index : Nat} {y : MethodName} {bytes : ByteArray} {maxL : Nat} {ret : Option FieldType} {hh : List (Nat × Nat × Nat × Nat)}
    (hown : s.vm.findClass own = some m.cls) (hlink : (Cond.methodLink own index y).before args s = true) (hinst : (Cond.instanceMethod y).before args s = true) (hsel : (Cond.selects C y y).before args s = true)
    (hcode : (Cond.codeWith y bytes maxL ret hh).before args s = true) (hy : y.cls ≠ "java/lang/invoke/MethodHandle" ∧ y.cls ≠ "java/lang/invoke/VarHandle")
    {W9 : Nat} {Pre : Pt → Array Value → Prop} {Post : Pt → Array Value → Option Value → Pt → Prop} {PostX : Pt → Array Value → Addr → Pt → Prop} (hK : vx_Back l R p e below s args y 3 W9 Pre Post PostX)
    {b : Addr} {cellB : Cell} (hcell : T.heap[b]? = some cellB) (hobj : cellB.vm.isStatics = false) (hcls : s.vm.findClass C = some cellB.cls)
    {g : JFrame} (hg : g.method = m) (hsize : g.locals.size = c.maxLocals) {argsL rest : List Value} (hlen : ∀ sig, parseMethodDescriptor y.desc = some sig → argsL.length = sig.parameters.length)
    (hstack : g.stack = argsL.reverse ++ .ref b :: rest) (hW : 2 * g.monitorRoom + (rest.map fun v => v.category).sum ≤ W9) (hdg : decode c.code g.pc = .ok (.invokevirtual index, 3))
    (hpre : ∀ vm₁, s.WarmedH vm₁ → Pre ⟨T.setVm vm₁, locs, cells, slots⟩ (Value.ref b :: argsL).toArray) :
    (∃ (v : Option Value) (vm₁ : Vm) (B : Pt), s.WarmedH vm₁ ∧ Stand p l e R s m args below meth c B.U B.locs B.cells B.slots ∧ Post ⟨T.setVm vm₁, locs, cells, slots⟩ (Value.ref b :: argsL).toArray v B ∧
      ∀ target, Steps p.tables e below (B.U.setTop { g with pc := g.pc + 3, stack := v.toList ++ rest }) target → Steps p.tables e below (T.setTop g) target) ∨
    (∃ (q : Addr) (vm₁ : Vm) (B : Pt), s.WarmedH vm₁ ∧ Stand p l e R s m args below meth c B.U B.locs B.cells B.slots ∧ PostX ⟨T.setVm vm₁, locs, cells, slots⟩ (Value.ref b :: argsL).toArray q B ∧
      Steps p.tables e below (T.setTop g) ((B.U.setTop { g with stack := rest }).pushFrame (.throwing q))) := by
  obtain ⟨mk, methM, hnamed, hmethM, hstM, habM⟩ := Cond.instanceMethod_spec hinst
  obtain ⟨m8, methM', cM, hn8, hmethM', -, -, -, -, -, -, hsigM⟩ := Cond.codeWith_spec hcode
  cases Option.some.inj (hn8.symm.trans hnamed)
  cases hmethM.symm.trans hmethM'
  obtain ⟨c2, r2, m2, q1, q2, q3, q4, kP, hkP, hkPi⟩ := Cond.selects_spec hsel
  cases hcls.symm.trans q1
  cases (State.methodFound?_of_named hnamed hy).symm.trans q2
  cases hnamed.symm.trans q3
  have hselP : selectMethod e.platform s.vm cellB.cls mk = .method mk := by rw [Launch.admits_selectMethod X.admits]; exact q4
  obtain ⟨vm₁, X₁, hstep₁⟩ := X.invokevirtual hexec hown hlink hnamed hmethM hstM hkP hkPi hy (a := b) (cell := cellB) hcell
    (fun z h => by rw [h] at hobj; cases hobj) hselP hmethM habM hkP hkPi (g := g) hg (argsL := argsL) (rest := rest) (hlen _ hsigM) hstack hdg
  rcases hK m meth c ⟨T.setVm vm₁, locs, cells, slots⟩ { g with stack := rest } (.invokevirtual index) mk (Value.ref b :: argsL).toArray X₁ hg hsize hdg hW (X₁.named hnamed) (hpre vm₁ X₁.warmed) with ⟨v, B, X', hpost, hsteps⟩ | ⟨q, B, X', hpost, hsteps⟩
  · exact Or.inl ⟨v, vm₁, B, X₁.warmed, X', hpost, fun target h => hstep₁ _ fun acts => by rw [doInvoke_state]; exact hsteps.trans h⟩
  · exact Or.inr ⟨q, vm₁, B, X₁.warmed, X', hpost, hstep₁ _ fun acts => by rw [doInvoke_state]; exact hsteps⟩
theorem vx_callSX (X : Stand p l e R s m args below meth c T locs cells slots) (hexec : p.tables.exec = Jvm.exec) {own : String} {index : Nat} {y : MethodName} {bytes : ByteArray} {maxL : Nat} {ret : Option FieldType} {hh : List (Nat × Nat × Nat × Nat)}
    (hown : s.vm.findClass own = some m.cls) (hlink : (Cond.methodLink own index y).before args s = true) (hstat : (Cond.static y).before args s = true) (hinit : (Cond.initialized y.cls).before args s = true)
    (hcode : (Cond.codeWith y bytes maxL ret hh).before args s = true) (hy : y.cls ≠ "java/lang/invoke/MethodHandle" ∧ y.cls ≠ "java/lang/invoke/VarHandle")
    {W9 : Nat} {Pre : Pt → Array Value → Prop} {Post : Pt → Array Value → Option Value → Pt → Prop} {PostX : Pt → Array Value → Addr → Pt → Prop} (hK : vx_Back l R p e below s args y 3 W9 Pre Post PostX)
    {g : JFrame} (hg : g.method = m) (hsize : g.locals.size = c.maxLocals) {argsL rest : List Value} (hlen : ∀ sig, parseMethodDescriptor y.desc = some sig → argsL.length = sig.parameters.length)
    (hstack : g.stack = argsL.reverse ++ rest) (hW : 2 * g.monitorRoom + (rest.map fun v => v.category).sum ≤ W9) (hdg : decode c.code g.pc = .ok (.invokestatic index, 3))
    (hpre : ∀ vm₁, s.WarmedH vm₁ → Pre ⟨T.setVm vm₁, locs, cells, slots⟩ argsL.toArray) :
    (∃ (v : Option Value) (vm₁ : Vm) (B : Pt), s.WarmedH vm₁ ∧ Stand p l e R s m args below meth c B.U B.locs B.cells B.slots ∧ Post ⟨T.setVm vm₁, locs, cells, slots⟩ argsL.toArray v B ∧
      ∀ target, Steps p.tables e below (B.U.setTop { g with pc := g.pc + 3, stack := v.toList ++ rest }) target → Steps p.tables e below (T.setTop g) target) ∨
    (∃ (q : Addr) (vm₁ : Vm) (B : Pt), s.WarmedH vm₁ ∧ Stand p l e R s m args below meth c B.U B.locs B.cells B.slots ∧ PostX ⟨T.setVm vm₁, locs, cells, slots⟩ argsL.toArray q B ∧
      Steps p.tables e below (T.setTop g) ((B.U.setTop { g with stack := rest }).pushFrame (.throwing q))) := by
  obtain ⟨mk, methM, cM, hnamed, hmethM, -, -, -, -, -, -, hsigM⟩ := Cond.codeWith_spec hcode
  have hstatic : methM.isStatic = true := Cond.static_spec hnamed hmethM hstat
  obtain ⟨kP, hkP, -⟩ := className_of_methodNamed hnamed
  have hinitP : kP.init = .initialized := Cond.initialized_spec (findClass_of_methodNamed hnamed) hkP hinit
  obtain ⟨vm₁, X₁, hstep₁⟩ := X.invokestatic hexec hown hlink hnamed hmethM hstatic hkP hinitP hy (g := g) hg (argsL := argsL) (rest := rest) (hlen _ hsigM) hstack hdg
  rcases hK m meth c ⟨T.setVm vm₁, locs, cells, slots⟩ { g with stack := rest } (.invokestatic index) mk argsL.toArray X₁ hg hsize hdg hW (X₁.named hnamed) (hpre vm₁ X₁.warmed) with ⟨v, B, X', hpost, hsteps⟩ | ⟨q, B, X', hpost, hsteps⟩
  · exact Or.inl ⟨v, vm₁, B, X₁.warmed, X', hpost, fun target h => hstep₁ _ fun acts => by rw [doInvoke_state]; exact hsteps.trans h⟩
  · exact Or.inr ⟨q, vm₁, B, X₁.warmed, X', hpost, hstep₁ _ fun acts => by rw [doInvoke_state]; exact hsteps⟩
theorem vx_callVW (X : Stand p l e R s m args below meth c T locs cells slots) (hexec : p.tables.exec = Jvm.exec) {own C : String} {index : Nat} {y : MethodName} {bytes : ByteArray} {maxL : Nat} {ret : Option FieldType} {hh : List (Nat × Nat × Nat × Nat)}
    (hown : s.vm.findClass own = some m.cls) (hlink : (Cond.methodLink own index y).before args s = true) (hinst : (Cond.instanceMethod y).before args s = true) (hsel : (Cond.selects C y y).before args s = true)
    (hcode : (Cond.codeWith y bytes maxL ret hh).before args s = true) (hy : y.cls ≠ "java/lang/invoke/MethodHandle" ∧ y.cls ≠ "java/lang/invoke/VarHandle")
    {W9 : Nat} {Pre : Pt → Array Value → Prop} {Post : Pt → Array Value → Option Value → Pt → Prop} (hK : Back l R p e below s args y 3 W9 Pre Post)
    {b : Addr} {cellB : Cell} (hcell : T.heap[b]? = some cellB) (hobj : cellB.vm.isStatics = false) (hcls : s.vm.findClass C = some cellB.cls)
    {g : JFrame} (hg : g.method = m) (hsize : g.locals.size = c.maxLocals) {argsL rest : List Value} (hlen : ∀ sig, parseMethodDescriptor y.desc = some sig → argsL.length = sig.parameters.length)
    (hstack : g.stack = argsL.reverse ++ .ref b :: rest) (hW : 2 * g.monitorRoom + (rest.map fun v => v.category).sum ≤ W9) (hdg : decode c.code g.pc = .ok (.invokevirtual index, 3))
    (hpre : ∀ vm₁, s.WarmedH vm₁ → Pre ⟨T.setVm vm₁, locs, cells, slots⟩ (Value.ref b :: argsL).toArray) :
    ∃ (v : Option Value) (vm₁ : Vm) (B : Pt), s.WarmedH vm₁ ∧ Stand p l e R s m args below meth c B.U B.locs B.cells B.slots ∧ Post ⟨T.setVm vm₁, locs, cells, slots⟩ (Value.ref b :: argsL).toArray v B ∧
      ∀ target, Steps p.tables e below (B.U.setTop { g with pc := g.pc + 3, stack := v.toList ++ rest }) target → Steps p.tables e below (T.setTop g) target := by
  obtain ⟨mk, methM, hnamed, hmethM, hstM, habM⟩ := Cond.instanceMethod_spec hinst
  obtain ⟨m8, methM', cM, hn8, hmethM', -, -, -, -, -, -, hsigM⟩ := Cond.codeWith_spec hcode
  cases Option.some.inj (hn8.symm.trans hnamed)
  cases hmethM.symm.trans hmethM'
  obtain ⟨c2, r2, m2, q1, q2, q3, q4, kP, hkP, hkPi⟩ := Cond.selects_spec hsel
  cases hcls.symm.trans q1
  cases (State.methodFound?_of_named hnamed hy).symm.trans q2
  cases hnamed.symm.trans q3
  have hselP : selectMethod e.platform s.vm cellB.cls mk = .method mk := by rw [Launch.admits_selectMethod X.admits]; exact q4
  obtain ⟨vm₁, X₁, hstep₁⟩ := X.invokevirtual hexec hown hlink hnamed hmethM hstM hkP hkPi hy (a := b) (cell := cellB) hcell
    (fun z h => by rw [h] at hobj; cases hobj) hselP hmethM habM hkP hkPi (g := g) hg (argsL := argsL) (rest := rest) (hlen _ hsigM) hstack hdg
  obtain ⟨v, B, X', hpost, hsteps⟩ := hK m meth c ⟨T.setVm vm₁, locs, cells, slots⟩ { g with stack := rest } (.invokevirtual index) mk (Value.ref b :: argsL).toArray X₁ hg hsize hdg hW (X₁.named hnamed) (hpre vm₁ X₁.warmed)
  exact ⟨v, vm₁, B, X₁.warmed, X', hpost, fun target h => hstep₁ _ fun acts => by rw [doInvoke_state]; exact hsteps.trans h⟩
abbrev vx_CVW (R : Room) (s : State) (args : Array Value) (own C : String) (index : Nat) (y : MethodName) (bytes : ByteArray) (maxL : Nat) (ret : Option FieldType) (hh : List (Nat × Nat × Nat × Nat)) (ws : List Cond) (rm : Room) (mc ms n : Nat) : Prop :=
  (rm.cells = mc ∧ rm.slots = ms ∧ rm.frames + 1 ≤ R.frames ∧ 8 + (maxL + 11) + rm.locals ≤ R.locals ∧ (∀ w ∈ ws, ∀ (a' : Array Value) (U : State), s.WarmedH U.vm → w.before a' U = true) ∧ Cond.codeWith y bytes maxL ret hh ∈ ws) ∧
  (Cond.codeWith y bytes maxL ret hh).before args s = true ∧ (Cond.initialized y.cls).before args s = true ∧ (y.cls ≠ "java/lang/invoke/MethodHandle" ∧ y.cls ≠ "java/lang/invoke/VarHandle") ∧
  (∀ sig, parseMethodDescriptor y.desc = some sig → n = sig.parameters.length) ∧ (Cond.methodLink own index y).before args s = true ∧ (Cond.instanceMethod y).before args s = true ∧ (Cond.selects C y y).before args s = true
theorem vx_cwVW {own C : String} {index maxL mc ms : Nat} {y : MethodName} {bytes : ByteArray} {ret : Option FieldType} {hh : List (Nat × Nat × Nat × Nat)} {Ts ws ws' : List Cond} {rm : Room} (n : Nat) (ht : ∀ w ∈ Ts, w.before args s = true) (hT : GoodIn Ts (wsV own index C y ws)) (hw : ws = Cond.codeWith y bytes maxL ret hh :: ws') (hrc : rm.cells = mc) (hrs : rm.slots = ms)
    (hd : y.cls = C ∧ y.cls ≠ "java/lang/invoke/MethodHandle" ∧ y.cls ≠ "java/lang/invoke/VarHandle" ∧ (parseMethodDescriptor y.desc).map (fun d => d.parameters.length) = some n) (hR : rm.frames + 1 ≤ R.frames ∧ 8 + (maxL + 11) + rm.locals ≤ R.locals) :
    vx_CVW R s args own C index y bytes maxL ret hh ws rm mc ms n := by
  obtain ⟨hC, hd⟩ := hd
  subst hC
  have ok : ∀ w ∈ wsV own index y.cls y ws, w.before args s = true := fun w h => ht w (hT w h).1
  have hG : GoodIn Ts ws := fun w h => hT w (by unfold wsV; exact List.mem_append_right _ h)
  have hc : Cond.codeWith y bytes maxL ret hh ∈ ws := by rw [hw]; exact List.mem_cons_self
  refine ⟨⟨hrc, hrs, hR.1, hR.2, pay_in ht hG, hc⟩, ht _ (hG _ hc).1, ok _ (by simp [wsV]), ⟨hd.1, hd.2.1⟩, fun sig h => ?_, ok _ (by simp [wsV]), ok _ (by simp [wsV]), ok _ (by simp [wsV])⟩
  have h2 := hd.2.2
  rw [h] at h2
  exact (Option.some.inj h2).symm
theorem vx_runVW {y : MethodName} {bytes cc : ByteArray} {maxL nL mc ms n index : Nat} {ret : Option FieldType} {hh : List (Nat × Nat × Nat × Nat)} {ws : List Cond} {rm : Room} {Pc : Array Value → State → Prop} {Qc : Array Value → State → Outcome → State → Prop} {free : Addr → Prop} {Ts : List Cond} {own C : String} {b : Addr} {As rest : List Value} {g : JFrame}
    (S : CallFix p m c cc nL s args Ts own) (hM : Met l y ws rm Pc Qc mc ms free) (cw : vx_CVW R s args own C index y bytes maxL ret hh ws rm mc ms n) (hp : PreV s H C b Pc As)
    (hg : g.method = m) (hn : As.length = n) (hsize : g.locals.size = nL) (hstack : g.stack = As.reverse ++ .ref b :: rest) (hW : 2 * g.monitorRoom + (rest.map fun v => v.category).sum ≤ 8) (hdg : decode cc g.pc = .ok (.invokevirtual index, 3)) (hf : cells + mc ≤ R.cells ∧ slots + ms ≤ R.slots) :
    va_Run p l e R s m args below meth c H locs cells slots mc ms g rest (Qc (Value.ref b :: As).toArray) free := by
  obtain ⟨⟨hrc, hrs, hfr, hlo, hws, hcw⟩, hcode, hini, hy, hlen, hl, hin, hse⟩ := cw
  have hK : Back l R p e below s args y 3 8 (PreOf R mc ms Pc) (PostOf Qc mc ms free) := va_backW (hh := hh) (bytes := bytes) (maxL := maxL) (ret := ret) hM hp.1 hrc hrs hfr hlo hws hcw (fun a' U hW => word_at hW (Or.inl (by first | rfl | simp [Cond.onTables, Cond.keeps, Cond.steady])) hini)
  obtain ⟨hx, hb, hml, ho, -⟩ := S
  obtain ⟨-, ⟨cellB, hcB, hoB, hclB⟩, hPc⟩ := hp
  intro T hT X
  obtain ⟨v, vm₁, ⟨U', l2, c2, s2⟩, hW₁, X', ⟨g', mk, t, L, e1, e2, hq, h1, hL, h2, h3⟩, st⟩ := vx_callVW X hx (C := C) (hh := hh) (bytes := bytes) (maxL := maxL) (ret := ret) ho hl hin hse hcode hy hK (by rw [hT]; exact hcB) hoB hclB hg (hsize.trans hml.symm) (argsL := As) (rest := rest) (fun sig h => hn.trans (hlen sig h)) hstack hW (by rw [hb]; exact hdg)
    (fun vm₁ hW₁ => ⟨hf.1, hf.2, hPc (T.setVm vm₁) hT hW₁⟩)
  dsimp only [Pt.U, Pt.locs, Pt.cells, Pt.slots] at X' e1 e2 h1 h2 h3 st
  subst h1; subst h2; subst h3
  exact ⟨v, (T.setVm vm₁).calling g' mk (Value.ref b :: As).toArray, t, U', L, hT, X', hL, e1, e2, hq, st⟩
section
variable {y : MethodName} {bytes cc : ByteArray} {maxL nL mc ms n index : Nat} {ret : Option FieldType} {ws : List Cond} {rm : Room} {Pc : Array Value → State → Prop} {Qc : Array Value → State → Outcome → State → Prop} {XC : String → State → State → Prop} {free : Addr → Prop} {Ts : List Cond} {own C : String} {b : Addr} {As rest : List Value} {g : JFrame}
theorem vx_runVX {hh : List (Nat × Nat × Nat × Nat)} (S : CallFix p m c cc nL s args Ts own) (hM : vx_Met l y ws rm Pc Qc XC mc ms free) (cw : vx_CVW R s args own C index y bytes maxL ret hh ws rm mc ms n) (hp : PreV s H C b Pc As)
    (hg : g.method = m) (hn : As.length = n) (hsize : g.locals.size = nL) (hstack : g.stack = As.reverse ++ .ref b :: rest) (hW : 2 * g.monitorRoom + (rest.map fun v => v.category).sum ≤ 8) (hdg : decode cc g.pc = .ok (.invokevirtual index, 3)) (hf : cells + mc ≤ R.cells ∧ slots + ms ≤ R.slots) :
    vx_Run p l e R s m args below meth c H locs cells slots mc ms g rest (Qc (Value.ref b :: As).toArray) XC free := by
  obtain ⟨⟨hrc, hrs, hfr, hlo, hws, hcw⟩, hcode, hini, hy, hlen, hl, hin, hse⟩ := cw
  have hK : vx_Back l R p e below s args y 3 8 (PreOf R mc ms Pc) (PostOf Qc mc ms free) (vx_Post XC mc ms free) := vx_backW (hh := hh) (bytes := bytes) (maxL := maxL) (ret := ret) hM hp.1 hrc hrs hfr hlo hws hcw (fun a' U hW => word_at hW (Or.inl (by first | rfl | simp [Cond.onTables, Cond.keeps, Cond.steady])) hini)
  obtain ⟨hx, hb, hml, ho, -⟩ := S
  obtain ⟨-, ⟨cellB, hcB, hoB, hclB⟩, hPc⟩ := hp
  intro T hT X
  rcases vx_callVX X hx (C := C) (hh := hh) (bytes := bytes) (maxL := maxL) (ret := ret) ho hl hin hse hcode hy hK (by rw [hT]; exact hcB) hoB hclB hg (hsize.trans hml.symm) (argsL := As) (rest := rest) (fun sig h => hn.trans (hlen sig h)) hstack hW (by rw [hb]; exact hdg)
    (fun vm₁ hW₁ => ⟨hf.1, hf.2, hPc (T.setVm vm₁) hT hW₁⟩) with ⟨v, vm₁, ⟨U', l2, c2, s2⟩, hW₁, X', ⟨g', mk, t, L, e1, e2, hq, h1, hL, h2, h3⟩, st⟩ | ⟨q, vm₁, ⟨U', l2, c2, s2⟩, hW₁, X', ⟨g', mk, t, L, E, ce, e1, e2, hq, hce, hcv, hcl, h1, hL, h2, h3⟩, st⟩
  · dsimp only [Pt.U, Pt.locs, Pt.cells, Pt.slots] at X' e1 e2 h1 h2 h3 st
    subst h1; subst h2; subst h3
    exact Or.inl ⟨v, (T.setVm vm₁).calling g' mk (Value.ref b :: As).toArray, t, U', L, hT, X', hL, e1, e2, hq, st⟩
  · dsimp only [Pt.U, Pt.locs, Pt.cells, Pt.slots] at X' e1 e2 h1 h2 h3 st hcl
    subst h1; subst h2; subst h3
    exact Or.inr ⟨q, (T.setVm vm₁).calling g' mk (Value.ref b :: As).toArray, t, U', L, E, ce, hT, X', hL, e1, e2, hq, hce, hcv, vx_cls hW₁ hcl, st⟩
theorem vx_runSX {hh : List (Nat × Nat × Nat × Nat)} (S : CallFix p m c cc nL s args Ts own) (hM : vx_Met l y ws rm Pc Qc XC mc ms free) (cw : vx_CSW R s args own index y bytes maxL ret hh ws rm mc ms n) (hp : PreS s H Pc As)
    (hg : g.method = m) (hn : As.length = n) (hsize : g.locals.size = nL) (hstack : g.stack = As.reverse ++ rest) (hW : 2 * g.monitorRoom + (rest.map fun v => v.category).sum ≤ 8) (hdg : decode cc g.pc = .ok (.invokestatic index, 3)) (hf : cells + mc ≤ R.cells ∧ slots + ms ≤ R.slots) :
    vx_Run p l e R s m args below meth c H locs cells slots mc ms g rest (Qc As.toArray) XC free := by
  obtain ⟨⟨hrc, hrs, hfr, hlo, hws, hcw⟩, hcode, hini, hy, hlen, hl, hstt⟩ := cw
  have hK : vx_Back l R p e below s args y 3 8 (PreOf R mc ms Pc) (PostOf Qc mc ms free) (vx_Post XC mc ms free) := vx_backW (hh := hh) (bytes := bytes) (maxL := maxL) (ret := ret) hM hp.1 hrc hrs hfr hlo hws hcw (fun a' U hW => word_at hW (Or.inl (by first | rfl | simp [Cond.onTables, Cond.keeps, Cond.steady])) hini)
  obtain ⟨hx, hb, hml, ho, -⟩ := S
  intro T hT X
  rcases vx_callSX X hx (hh := hh) (bytes := bytes) (maxL := maxL) (ret := ret) ho hl hstt hini hcode hy hK hg (hsize.trans hml.symm) (argsL := As) (rest := rest) (fun sig h => hn.trans (hlen sig h)) hstack hW (by rw [hb]; exact hdg)
    (fun vm₁ hW₁ => ⟨hf.1, hf.2, hp.2 (T.setVm vm₁) hT hW₁⟩) with ⟨v, vm₁, ⟨U', l2, c2, s2⟩, hW₁, X', ⟨g', mk, t, L, e1, e2, hq, h1, hL, h2, h3⟩, st⟩ | ⟨q, vm₁, ⟨U', l2, c2, s2⟩, hW₁, X', ⟨g', mk, t, L, E, ce, e1, e2, hq, hce, hcv, hcl, h1, hL, h2, h3⟩, st⟩
  · dsimp only [Pt.U, Pt.locs, Pt.cells, Pt.slots] at X' e1 e2 h1 h2 h3 st
    subst h1; subst h2; subst h3
    exact Or.inl ⟨v, (T.setVm vm₁).calling g' mk As.toArray, t, U', L, hT, X', hL, e1, e2, hq, st⟩
  · dsimp only [Pt.U, Pt.locs, Pt.cells, Pt.slots] at X' e1 e2 h1 h2 h3 st hcl
    subst h1; subst h2; subst h3
    exact Or.inr ⟨q, (T.setVm vm₁).calling g' mk As.toArray, t, U', L, E, ce, hT, X', hL, e1, e2, hq, hce, hcv, vx_cls hW₁ hcl, st⟩
end
end VXH
theorem vx_ofWH {l : Launch} {y : MethodName} {ws ws' : List Cond} {rm : Room} {Pc : Array Value → State → Prop} {Qc : Array Value → State → Outcome → State → Prop} {XC : String → State → State → Prop} {mc ms : Nat} {free : Addr → Prop} {cc : ByteArray} {maxL : Nat} {ret : Option FieldType} {hh : List (Nat × Nat × Nat × Nat)}
    (hy : plainName y.cls = true) (hw : ws = Cond.codeWith y cc maxL ret hh :: ws')
    (body : ∀ p e s m args below meth c s₁, BodyLoose p l y (headSpec ws rm) cc maxL ret e s m args below meth c s₁ → c.maxLocals = maxL → Pc args s →
      W p l e (headSpec ws rm).room s m args below meth c s.heap [] 0 0 (vx_MQ below Qc XC args s mc ms free) (entryFrame m args maxL)) : vx_Met l y ws rm Pc Qc XC mc ms free := by
  refine MetFree.of_bodyS (code := cc) (maxLocals := maxL) (ret := ret) hy ?_ ?_
  · intro args s m h hn
    obtain ⟨m9, meth, c, hn9, h1, h2, h3, h4, -, h5, h6, -⟩ := Cond.codeWith_spec (atoms_spec (ws := ws) h _ (by rw [hw]; exact List.mem_cons_self))
    cases hn.symm.trans hn9
    exact ⟨meth, c, h1, h2, h3, h4, h5, h6⟩
  · intro p e s m args below meth c s₁ B hml hP _
    have hh0 : s₁.heap = s.heap := by rw [B.state]; rfl
    obtain ⟨t, a1, o, b1, b2, b3⟩ := body p e s m args below meth c s₁ B hml hP s₁ hh0 (Stand.of_body B)
    exact ⟨t, o, a1, b1, b2, b3⟩
/-! ===== END ===== -/

/-! ===== BEGIN printed: names, fields, word lists, decode rows ===== -/
def RX0 : String := "GhostGame$Dictionary"
def TX0 : u_T := fun k => match k with
  | 0 => ("GhostGame$Dictionary", "words", "[J", true)
  | 1 => ("GhostGame$Dictionary", "count", "I", false)
  | _ => ("GhostGame$Dictionary", "leastLength", "I", false)
def tyX0 : Nat → FieldType := fun k => match k with
  | 0 => .array .long
  | 1 => .int
  | _ => .int
abbrev wsX00 : List Cond := u_ws RX0 TX0 3
theorem nmX0 : ∀ a, a < 3 → ∀ b, b < 3 → a ≠ b → (TX0 a).2.1 ≠ (TX0 b).2.1 := by decide +kernel
theorem tyX0_ok : ∀ k, k < 3 → parseFieldDescriptor (TX0 k).2.2.1 = some (tyX0 k) := by decide +kernel
abbrev cX0_init : ByteArray := prog_2_method_1_code
def yX0_init : MethodName := ⟨RX0, "<init>", "()V"⟩
abbrev cX0_size : ByteArray := prog_2_method_2_code
def yX0_size : MethodName := ⟨RX0, "size", "()I"⟩
abbrev cX0_has : ByteArray := prog_2_method_3_code
def yX0_has : MethodName := ⟨RX0, "has", "(J)Z"⟩
abbrev cX0_wordAt : ByteArray := prog_2_method_4_code
def yX0_wordAt : MethodName := ⟨RX0, "wordAt", "(I)J"⟩
abbrev cX0_add : ByteArray := prog_2_method_5_code
def yX0_add : MethodName := ⟨RX0, "add", "(J)Z"⟩
abbrev cX0_remove : ByteArray := prog_2_method_6_code
def yX0_remove : MethodName := ⟨RX0, "remove", "(J)Z"⟩
abbrev cX0_countFrom : ByteArray := prog_2_method_7_code
def yX0_countFrom : MethodName := ⟨RX0, "countFrom", "(J)I"⟩
abbrev cX0_countBeginnings : ByteArray := prog_2_method_8_code
def yX0_countBeginnings : MethodName := ⟨RX0, "countBeginnings", "()I"⟩
abbrev cX0_changeLeastLength : ByteArray := prog_2_method_9_code
def yX0_changeLeastLength : MethodName := ⟨RX0, "changeLeastLength", "(I)I"⟩
abbrev cX0_isLongEnough : ByteArray := prog_2_method_10_code
def yX0_isLongEnough : MethodName := ⟨RX0, "isLongEnough", "(J)Z"⟩
abbrev cX0_hasCounting : ByteArray := prog_2_method_11_code
def yX0_hasCounting : MethodName := ⟨RX0, "hasCounting", "(J)Z"⟩
abbrev cX0_hasCountingFrom : ByteArray := prog_2_method_12_code
def yX0_hasCountingFrom : MethodName := ⟨RX0, "hasCountingFrom", "(J)Z"⟩
abbrev cX0_placeOf : ByteArray := prog_2_method_13_code
def yX0_placeOf : MethodName := ⟨RX0, "placeOf", "(J)I"⟩
abbrev cX0_lengthSharedBefore : ByteArray := prog_2_method_14_code
def yX0_lengthSharedBefore : MethodName := ⟨RX0, "lengthSharedBefore", "(I)I"⟩
def RX1 : String := "GhostGame$Game"
def TX1 : u_T := fun k => match k with
  | 0 => ("GhostGame$Game", "strikes", "[I", true)
  | 1 => ("GhostGame$Game", "playerCount", "I", false)
  | 2 => ("GhostGame$Game", "mover", "I", false)
  | 3 => ("GhostGame$Game", "lastMover", "I", false)
  | 4 => ("GhostGame$Game", "champion", "I", false)
  | _ => ("GhostGame$Game", "fragment", "J", false)
def tyX1 : Nat → FieldType := fun k => match k with
  | 0 => .array .int
  | 1 => .int
  | 2 => .int
  | 3 => .int
  | 4 => .int
  | _ => .long
abbrev wsX10 : List Cond := u_ws RX1 TX1 6
theorem nmX1 : ∀ a, a < 6 → ∀ b, b < 6 → a ≠ b → (TX1 a).2.1 ≠ (TX1 b).2.1 := by decide +kernel
theorem tyX1_ok : ∀ k, k < 6 → parseFieldDescriptor (TX1 k).2.2.1 = some (tyX1 k) := by decide +kernel
abbrev cX1_init : ByteArray := prog_3_method_1_code
def yX1_init : MethodName := ⟨RX1, "<init>", "()V"⟩
abbrev cX1_begin : ByteArray := prog_3_method_2_code
def yX1_begin : MethodName := ⟨RX1, "begin", "(I)V"⟩
abbrev cX1_isOn : ByteArray := prog_3_method_3_code
def yX1_isOn : MethodName := ⟨RX1, "isOn", "()Z"⟩
abbrev cX1_mover : ByteArray := prog_3_method_4_code
def yX1_mover : MethodName := ⟨RX1, "mover", "()I"⟩
abbrev cX1_champion : ByteArray := prog_3_method_5_code
def yX1_champion : MethodName := ⟨RX1, "champion", "()I"⟩
abbrev cX1_playerCount : ByteArray := prog_3_method_6_code
def yX1_playerCount : MethodName := ⟨RX1, "playerCount", "()I"⟩
abbrev cX1_fragment : ByteArray := prog_3_method_7_code
def yX1_fragment : MethodName := ⟨RX1, "fragment", "()J"⟩
abbrev cX1_strikesOf : ByteArray := prog_3_method_8_code
def yX1_strikesOf : MethodName := ⟨RX1, "strikesOf", "(I)I"⟩
abbrev cX1_addLetter : ByteArray := prog_3_method_9_code
def yX1_addLetter : MethodName := ⟨RX1, "addLetter", "(ILGhostGame$Dictionary;)I"⟩
abbrev cX1_settleChallenge : ByteArray := prog_3_method_10_code
def yX1_settleChallenge : MethodName := ⟨RX1, "settleChallenge", "(LGhostGame$Dictionary;)I"⟩
abbrev cX1_endRound : ByteArray := prog_3_method_11_code
def yX1_endRound : MethodName := ⟨RX1, "endRound", "(I)I"⟩
abbrev cX1_hasPlayer : ByteArray := prog_3_method_12_code
def yX1_hasPlayer : MethodName := ⟨RX1, "hasPlayer", "(I)Z"⟩
abbrev cX1_isOut : ByteArray := prog_3_method_13_code
def yX1_isOut : MethodName := ⟨RX1, "isOut", "(I)Z"⟩
abbrev cX1_playersLeft : ByteArray := prog_3_method_14_code
def yX1_playersLeft : MethodName := ⟨RX1, "playersLeft", "()I"⟩
abbrev cX1_nextBehind : ByteArray := prog_3_method_15_code
def yX1_nextBehind : MethodName := ⟨RX1, "nextBehind", "(I)I"⟩
def RX2 : String := "GhostGame$Row"
def TX2 : u_T := fun k => match k with
  | _ => ("", "", "", false)
def tyX2 : Nat → FieldType := fun k => match k with
  | _ => .int
abbrev wsX20 : List Cond := u_ws RX2 TX2 0
theorem nmX2 : ∀ a, a < 0 → ∀ b, b < 0 → a ≠ b → (TX2 a).2.1 ≠ (TX2 b).2.1 := by decide +kernel
theorem tyX2_ok : ∀ k, k < 0 → parseFieldDescriptor (TX2 k).2.2.1 = some (tyX2 k) := by decide +kernel
abbrev cX2_lengthOf : ByteArray := prog_4_method_2_code
def yX2_lengthOf : MethodName := ⟨RX2, "lengthOf", "(J)I"⟩
abbrev cX2_isFull : ByteArray := prog_4_method_3_code
def yX2_isFull : MethodName := ⟨RX2, "isFull", "(J)Z"⟩
abbrev cX2_letterAt : ByteArray := prog_4_method_4_code
def yX2_letterAt : MethodName := ⟨RX2, "letterAt", "(JI)I"⟩
abbrev cX2_with : ByteArray := prog_4_method_5_code
def yX2_with : MethodName := ⟨RX2, "with", "(JI)J"⟩
abbrev cX2_beginning : ByteArray := prog_4_method_6_code
def yX2_beginning : MethodName := ⟨RX2, "beginning", "(JI)J"⟩
abbrev cX2_beginsWith : ByteArray := prog_4_method_7_code
def yX2_beginsWith : MethodName := ⟨RX2, "beginsWith", "(JJ)Z"⟩
abbrev cX2_goesOnBehind : ByteArray := prog_4_method_8_code
def yX2_goesOnBehind : MethodName := ⟨RX2, "goesOnBehind", "(JJ)Z"⟩
abbrev cX2_lengthShared : ByteArray := prog_4_method_9_code
def yX2_lengthShared : MethodName := ⟨RX2, "lengthShared", "(JJ)I"⟩
abbrev cX2_pack : ByteArray := prog_4_method_10_code
def yX2_pack : MethodName := ⟨RX2, "pack", "(IJ)J"⟩
def RX3 : String := "GhostGame$Solver"
def TX3 : u_T := fun k => match k with
  | _ => ("", "", "", false)
def tyX3 : Nat → FieldType := fun k => match k with
  | _ => .int
abbrev wsX30 : List Cond := u_ws RX3 TX3 0
theorem nmX3 : ∀ a, a < 0 → ∀ b, b < 0 → a ≠ b → (TX3 a).2.1 ≠ (TX3 b).2.1 := by decide +kernel
theorem tyX3_ok : ∀ k, k < 0 → parseFieldDescriptor (TX3 k).2.2.1 = some (tyX3 k) := by decide +kernel
abbrev cX3_lettersOpenBehind : ByteArray := prog_5_method_2_code
def yX3_lettersOpenBehind : MethodName := ⟨RX3, "lettersOpenBehind", "(LGhostGame$Dictionary;J)I"⟩
abbrev cX3_lettersWinningBehind : ByteArray := prog_5_method_3_code
def yX3_lettersWinningBehind : MethodName := ⟨RX3, "lettersWinningBehind", "(LGhostGame$Dictionary;J)I"⟩
abbrev cX3_moverWins : ByteArray := prog_5_method_4_code
def yX3_moverWins : MethodName := ⟨RX3, "moverWins", "(LGhostGame$Dictionary;J)Z"⟩
abbrev cX3_endBehind : ByteArray := prog_5_method_5_code
def yX3_endBehind : MethodName := ⟨RX3, "endBehind", "(LGhostGame$Dictionary;J)I"⟩
abbrev cX3_letterChosenBehind : ByteArray := prog_5_method_6_code
def yX3_letterChosenBehind : MethodName := ⟨RX3, "letterChosenBehind", "(LGhostGame$Dictionary;J)I"⟩
abbrev cX3_countWays : ByteArray := prog_5_method_7_code
def yX3_countWays : MethodName := ⟨RX3, "countWays", "(LGhostGame$Dictionary;J)I"⟩
abbrev cX3_countWonWays : ByteArray := prog_5_method_8_code
def yX3_countWonWays : MethodName := ⟨RX3, "countWonWays", "(LGhostGame$Dictionary;J)I"⟩
abbrev cX3_score : ByteArray := prog_5_method_9_code
def yX3_score : MethodName := ⟨RX3, "score", "(LGhostGame$Dictionary;J)I"⟩
abbrev cX3_scoreOfLetter : ByteArray := prog_5_method_10_code
def yX3_scoreOfLetter : MethodName := ⟨RX3, "scoreOfLetter", "(LGhostGame$Dictionary;JI)I"⟩
abbrev cX3_leadsOn : ByteArray := prog_5_method_11_code
def yX3_leadsOn : MethodName := ⟨RX3, "leadsOn", "(LGhostGame$Dictionary;JJ)Z"⟩
abbrev cX3_isWay : ByteArray := prog_5_method_12_code
def yX3_isWay : MethodName := ⟨RX3, "isWay", "(LGhostGame$Dictionary;JJ)Z"⟩
abbrev cX3_otherSideCompletes : ByteArray := prog_5_method_13_code
def yX3_otherSideCompletes : MethodName := ⟨RX3, "otherSideCompletes", "(JJ)Z"⟩
abbrev cX3_isIn : ByteArray := prog_5_method_14_code
def yX3_isIn : MethodName := ⟨RX3, "isIn", "(II)Z"⟩
def RX4 : String := "GhostGame"
def TX4 : u_T := fun k => match k with
  | 0 => ("GhostGame", "dictionary", "LGhostGame$Dictionary;", true)
  | 1 => ("GhostGame", "game", "LGhostGame$Game;", true)
  | _ => ("GhostGame", "slip", "J", false)
def tyX4 : Nat → FieldType := fun k => match k with
  | 0 => .object "GhostGame$Dictionary"
  | 1 => .object "GhostGame$Game"
  | _ => .long
abbrev wsX40 : List Cond := u_ws RX4 TX4 3
theorem nmX4 : ∀ a, a < 3 → ∀ b, b < 3 → a ≠ b → (TX4 a).2.1 ≠ (TX4 b).2.1 := by decide +kernel
theorem tyX4_ok : ∀ k, k < 3 → parseFieldDescriptor (TX4 k).2.2.1 = some (tyX4 k) := by decide +kernel
abbrev cX4_init : ByteArray := prog_1_method_1_code
def yX4_init : MethodName := ⟨RX4, "<init>", "()V"⟩
abbrev cX4_write : ByteArray := prog_1_method_2_code
def yX4_write : MethodName := ⟨RX4, "write", "(I)I"⟩
abbrev cX4_wipe : ByteArray := prog_1_method_3_code
def yX4_wipe : MethodName := ⟨RX4, "wipe", "()I"⟩
abbrev cX4_slipLength : ByteArray := prog_1_method_4_code
def yX4_slipLength : MethodName := ⟨RX4, "slipLength", "()I"⟩
abbrev cX4_slipAt : ByteArray := prog_1_method_5_code
def yX4_slipAt : MethodName := ⟨RX4, "slipAt", "(I)I"⟩
abbrev cX4_addWord : ByteArray := prog_1_method_6_code
def yX4_addWord : MethodName := ⟨RX4, "addWord", "()I"⟩
abbrev cX4_removeWord : ByteArray := prog_1_method_7_code
def yX4_removeWord : MethodName := ⟨RX4, "removeWord", "()I"⟩
abbrev cX4_isWord : ByteArray := prog_1_method_8_code
def yX4_isWord : MethodName := ⟨RX4, "isWord", "()Z"⟩
abbrev cX4_words : ByteArray := prog_1_method_9_code
def yX4_words : MethodName := ⟨RX4, "words", "()I"⟩
abbrev cX4_wordsFromSlip : ByteArray := prog_1_method_10_code
def yX4_wordsFromSlip : MethodName := ⟨RX4, "wordsFromSlip", "()I"⟩
abbrev cX4_beginnings : ByteArray := prog_1_method_11_code
def yX4_beginnings : MethodName := ⟨RX4, "beginnings", "()I"⟩
abbrev cX4_copyWord : ByteArray := prog_1_method_12_code
def yX4_copyWord : MethodName := ⟨RX4, "copyWord", "(I)I"⟩
abbrev cX4_setLeastLength : ByteArray := prog_1_method_13_code
def yX4_setLeastLength : MethodName := ⟨RX4, "setLeastLength", "(I)I"⟩
abbrev cX4_start : ByteArray := prog_1_method_14_code
def yX4_start : MethodName := ⟨RX4, "start", "(I)V"⟩
abbrev cX4_play : ByteArray := prog_1_method_15_code
def yX4_play : MethodName := ⟨RX4, "play", "(I)I"⟩
abbrev cX4_challenge : ByteArray := prog_1_method_16_code
def yX4_challenge : MethodName := ⟨RX4, "challenge", "()I"⟩
abbrev cX4_turn : ByteArray := prog_1_method_17_code
def yX4_turn : MethodName := ⟨RX4, "turn", "()I"⟩
abbrev cX4_winner : ByteArray := prog_1_method_18_code
def yX4_winner : MethodName := ⟨RX4, "winner", "()I"⟩
abbrev cX4_players : ByteArray := prog_1_method_19_code
def yX4_players : MethodName := ⟨RX4, "players", "()I"⟩
abbrev cX4_strikes : ByteArray := prog_1_method_20_code
def yX4_strikes : MethodName := ⟨RX4, "strikes", "(I)I"⟩
abbrev cX4_fragmentLength : ByteArray := prog_1_method_21_code
def yX4_fragmentLength : MethodName := ⟨RX4, "fragmentLength", "()I"⟩
abbrev cX4_fragmentAt : ByteArray := prog_1_method_22_code
def yX4_fragmentAt : MethodName := ⟨RX4, "fragmentAt", "(I)I"⟩
abbrev cX4_openLetters : ByteArray := prog_1_method_23_code
def yX4_openLetters : MethodName := ⟨RX4, "openLetters", "()I"⟩
abbrev cX4_winningLetters : ByteArray := prog_1_method_24_code
def yX4_winningLetters : MethodName := ⟨RX4, "winningLetters", "()I"⟩
abbrev cX4_canWin : ByteArray := prog_1_method_25_code
def yX4_canWin : MethodName := ⟨RX4, "canWin", "()Z"⟩
abbrev cX4_end : ByteArray := prog_1_method_26_code
def yX4_end : MethodName := ⟨RX4, "end", "()I"⟩
abbrev cX4_bestLetter : ByteArray := prog_1_method_27_code
def yX4_bestLetter : MethodName := ⟨RX4, "bestLetter", "()I"⟩
abbrev cX4_waysToPlay : ByteArray := prog_1_method_28_code
def yX4_waysToPlay : MethodName := ⟨RX4, "waysToPlay", "()I"⟩
abbrev cX4_waysToWin : ByteArray := prog_1_method_29_code
def yX4_waysToWin : MethodName := ⟨RX4, "waysToWin", "()I"⟩
abbrev cX4_isLetter : ByteArray := prog_1_method_30_code
def yX4_isLetter : MethodName := ⟨RX4, "isLetter", "(I)Z"⟩
def RX5 : String := "GhostGameModel"
def TX5 : u_T := fun k => match k with
  | 0 => ("GhostGameModel", "slip", "[I", true)
  | 1 => ("GhostGameModel", "slipLength", "I", false)
  | 2 => ("GhostGameModel", "letters", "[I", true)
  | 3 => ("GhostGameModel", "length", "[I", true)
  | 4 => ("GhostGameModel", "words", "I", false)
  | 5 => ("GhostGameModel", "least", "I", false)
  | 6 => ("GhostGameModel", "players", "I", false)
  | 7 => ("GhostGameModel", "strikes", "[I", true)
  | 8 => ("GhostGameModel", "turn", "I", false)
  | 9 => ("GhostGameModel", "latest", "I", false)
  | 10 => ("GhostGameModel", "winner", "I", false)
  | 11 => ("GhostGameModel", "fragment", "[I", true)
  | 12 => ("GhostGameModel", "fragmentLength", "I", false)
  | 13 => ("GhostGameModel", "wins", "[Z", true)
  | 14 => ("GhostGameModel", "ends", "[I", true)
  | 15 => ("GhostGameModel", "chosen", "[I", true)
  | 16 => ("GhostGameModel", "good", "[I", true)
  | 17 => ("GhostGameModel", "open", "[I", true)
  | _ => ("GhostGameModel", "thrown", "I", false)
def tyX5 : Nat → FieldType := fun k => match k with
  | 0 => .array .int
  | 1 => .int
  | 2 => .array .int
  | 3 => .array .int
  | 4 => .int
  | 5 => .int
  | 6 => .int
  | 7 => .array .int
  | 8 => .int
  | 9 => .int
  | 10 => .int
  | 11 => .array .int
  | 12 => .int
  | 13 => .array .boolean
  | 14 => .array .int
  | 15 => .array .int
  | 16 => .array .int
  | 17 => .array .int
  | _ => .int
abbrev wsX50 : List Cond := u_ws RX5 TX5 19
theorem nmX5 : ∀ a, a < 19 → ∀ b, b < 19 → a ≠ b → (TX5 a).2.1 ≠ (TX5 b).2.1 := by decide +kernel
theorem tyX5_ok : ∀ k, k < 19 → parseFieldDescriptor (TX5 k).2.2.1 = some (tyX5 k) := by decide +kernel
abbrev cX5_init : ByteArray := prog_7_method_1_code
def yX5_init : MethodName := ⟨RX5, "<init>", "()V"⟩
abbrev cX5_thrown : ByteArray := prog_7_method_2_code
def yX5_thrown : MethodName := ⟨RX5, "thrown", "()I"⟩
abbrev cX5_asked : ByteArray := prog_7_method_3_code
def yX5_asked : MethodName := ⟨RX5, "asked", "(Z)Z"⟩
abbrev cX5_asked_ : ByteArray := prog_7_method_4_code
def yX5_asked_ : MethodName := ⟨RX5, "asked", "(ZZ)Z"⟩
abbrev cX5_told : ByteArray := prog_7_method_5_code
def yX5_told : MethodName := ⟨RX5, "told", "(I)I"⟩
abbrev cX5_isLetter : ByteArray := prog_7_method_6_code
def yX5_isLetter : MethodName := ⟨RX5, "isLetter", "(I)Z"⟩
abbrev cX5_begins : ByteArray := prog_7_method_7_code
def yX5_begins : MethodName := ⟨RX5, "begins", "(I[II)Z"⟩
abbrev cX5_areAlike : ByteArray := prog_7_method_8_code
def yX5_areAlike : MethodName := ⟨RX5, "areAlike", "(III)Z"⟩
abbrev cX5_counts : ByteArray := prog_7_method_9_code
def yX5_counts : MethodName := ⟨RX5, "counts", "(I)Z"⟩
abbrev cX5_found : ByteArray := prog_7_method_10_code
def yX5_found : MethodName := ⟨RX5, "found", "()I"⟩
abbrev cX5_isBefore : ByteArray := prog_7_method_11_code
def yX5_isBefore : MethodName := ⟨RX5, "isBefore", "(II)Z"⟩
abbrev cX5_write : ByteArray := prog_7_method_12_code
def yX5_write : MethodName := ⟨RX5, "write", "(I)I"⟩
abbrev cX5_wipe : ByteArray := prog_7_method_13_code
def yX5_wipe : MethodName := ⟨RX5, "wipe", "()I"⟩
abbrev cX5_slipLength : ByteArray := prog_7_method_14_code
def yX5_slipLength : MethodName := ⟨RX5, "slipLength", "()I"⟩
abbrev cX5_slipAt : ByteArray := prog_7_method_15_code
def yX5_slipAt : MethodName := ⟨RX5, "slipAt", "(I)I"⟩
abbrev cX5_addWord : ByteArray := prog_7_method_16_code
def yX5_addWord : MethodName := ⟨RX5, "addWord", "()I"⟩
abbrev cX5_removeWord : ByteArray := prog_7_method_17_code
def yX5_removeWord : MethodName := ⟨RX5, "removeWord", "()I"⟩
abbrev cX5_isWord : ByteArray := prog_7_method_18_code
def yX5_isWord : MethodName := ⟨RX5, "isWord", "()Z"⟩
abbrev cX5_words : ByteArray := prog_7_method_19_code
def yX5_words : MethodName := ⟨RX5, "words", "()I"⟩
abbrev cX5_wordsFromSlip : ByteArray := prog_7_method_20_code
def yX5_wordsFromSlip : MethodName := ⟨RX5, "wordsFromSlip", "()I"⟩
abbrev cX5_beginnings : ByteArray := prog_7_method_21_code
def yX5_beginnings : MethodName := ⟨RX5, "beginnings", "()I"⟩
abbrev cX5_copyWord : ByteArray := prog_7_method_22_code
def yX5_copyWord : MethodName := ⟨RX5, "copyWord", "(I)I"⟩
abbrev cX5_setLeastLength : ByteArray := prog_7_method_23_code
def yX5_setLeastLength : MethodName := ⟨RX5, "setLeastLength", "(I)I"⟩
abbrev cX5_goesOn : ByteArray := prog_7_method_24_code
def yX5_goesOn : MethodName := ⟨RX5, "goesOn", "()Z"⟩
abbrev cX5_start : ByteArray := prog_7_method_25_code
def yX5_start : MethodName := ⟨RX5, "start", "(I)V"⟩
abbrev cX5_behind : ByteArray := prog_7_method_26_code
def yX5_behind : MethodName := ⟨RX5, "behind", "(I)I"⟩
abbrev cX5_loses : ByteArray := prog_7_method_27_code
def yX5_loses : MethodName := ⟨RX5, "loses", "(I)I"⟩
abbrev cX5_hasWord : ByteArray := prog_7_method_28_code
def yX5_hasWord : MethodName := ⟨RX5, "hasWord", "(Z)Z"⟩
abbrev cX5_play : ByteArray := prog_7_method_29_code
def yX5_play : MethodName := ⟨RX5, "play", "(I)I"⟩
abbrev cX5_challenge : ByteArray := prog_7_method_30_code
def yX5_challenge : MethodName := ⟨RX5, "challenge", "()I"⟩
abbrev cX5_turn : ByteArray := prog_7_method_31_code
def yX5_turn : MethodName := ⟨RX5, "turn", "()I"⟩
abbrev cX5_winner : ByteArray := prog_7_method_32_code
def yX5_winner : MethodName := ⟨RX5, "winner", "()I"⟩
abbrev cX5_players : ByteArray := prog_7_method_33_code
def yX5_players : MethodName := ⟨RX5, "players", "()I"⟩
abbrev cX5_strikes : ByteArray := prog_7_method_34_code
def yX5_strikes : MethodName := ⟨RX5, "strikes", "(I)I"⟩
abbrev cX5_fragmentLength : ByteArray := prog_7_method_35_code
def yX5_fragmentLength : MethodName := ⟨RX5, "fragmentLength", "()I"⟩
abbrev cX5_fragmentAt : ByteArray := prog_7_method_36_code
def yX5_fragmentAt : MethodName := ⟨RX5, "fragmentAt", "(I)I"⟩
abbrev cX5_isWhole : ByteArray := prog_7_method_37_code
def yX5_isWhole : MethodName := ⟨RX5, "isWhole", "(II)Z"⟩
abbrev cX5_solves : ByteArray := prog_7_method_38_code
def yX5_solves : MethodName := ⟨RX5, "solves", "(II)V"⟩
abbrev cX5_endBehind : ByteArray := prog_7_method_39_code
def yX5_endBehind : MethodName := ⟨RX5, "endBehind", "(III)I"⟩
abbrev cX5_looks : ByteArray := prog_7_method_40_code
def yX5_looks : MethodName := ⟨RX5, "looks", "()I"⟩
abbrev cX5_openLetters : ByteArray := prog_7_method_41_code
def yX5_openLetters : MethodName := ⟨RX5, "openLetters", "()I"⟩
abbrev cX5_winningLetters : ByteArray := prog_7_method_42_code
def yX5_winningLetters : MethodName := ⟨RX5, "winningLetters", "()I"⟩
abbrev cX5_canWin : ByteArray := prog_7_method_43_code
def yX5_canWin : MethodName := ⟨RX5, "canWin", "()Z"⟩
abbrev cX5_end : ByteArray := prog_7_method_44_code
def yX5_end : MethodName := ⟨RX5, "end", "()I"⟩
abbrev cX5_bestLetter : ByteArray := prog_7_method_45_code
def yX5_bestLetter : MethodName := ⟨RX5, "bestLetter", "()I"⟩
abbrev cX5_isWay : ByteArray := prog_7_method_46_code
def yX5_isWay : MethodName := ⟨RX5, "isWay", "(I)Z"⟩
abbrev cX5_waysToPlay : ByteArray := prog_7_method_47_code
def yX5_waysToPlay : MethodName := ⟨RX5, "waysToPlay", "()I"⟩
abbrev cX5_waysToWin : ByteArray := prog_7_method_48_code
def yX5_waysToWin : MethodName := ⟨RX5, "waysToWin", "()I"⟩
def RJ9 : String := "java/lang/Math"
def TJ9 : u_T := fun k => match k with
  | _ => ("", "", "", false)
def tyJ9 : Nat → FieldType := fun k => match k with
  | _ => .int
abbrev wsJ90 : List Cond := u_ws RJ9 TJ9 0
theorem nmJ9 : ∀ a, a < 0 → ∀ b, b < 0 → a ≠ b → (TJ9 a).2.1 ≠ (TJ9 b).2.1 := by decide +kernel
theorem tyJ9_ok : ∀ k, k < 0 → parseFieldDescriptor (TJ9 k).2.2.1 = some (tyJ9 k) := by decide +kernel
abbrev cJ9_abs_0f7a4 : ByteArray := prog_12_method_59_code
def yJ9_abs_0f7a4 : MethodName := ⟨RJ9, "abs", "(I)I"⟩
abbrev cJ9_max_7cf53 : ByteArray := prog_12_method_65_code
def yJ9_max_7cf53 : MethodName := ⟨RJ9, "max", "(II)I"⟩
abbrev cJ9_min_7cf53 : ByteArray := prog_12_method_69_code
def yJ9_min_7cf53 : MethodName := ⟨RJ9, "min", "(II)I"⟩
def RJ0 : String := "java/lang/String"
def TJ0 : u_T := fun k => match k with
  | _ => ("", "", "", false)
def tyJ0 : Nat → FieldType := fun k => match k with
  | _ => .int
abbrev wsJ00 : List Cond := u_ws RJ0 TJ0 0
theorem nmJ0 : ∀ a, a < 0 → ∀ b, b < 0 → a ≠ b → (TJ0 a).2.1 ≠ (TJ0 b).2.1 := by decide +kernel
theorem tyJ0_ok : ∀ k, k < 0 → parseFieldDescriptor (TJ0 k).2.2.1 = some (tyJ0 k) := by decide +kernel
def RL : String := "GhostGameLaw"
abbrev cL_write : ByteArray := method_3_code
def yL_write : MethodName := ⟨RL, "write", "(LGhostGame;I[J)I"⟩
abbrev cL_slipAt : ByteArray := method_4_code
def yL_slipAt : MethodName := ⟨RL, "slipAt", "(LGhostGame;I[J)I"⟩
abbrev cL_addWord : ByteArray := method_5_code
def yL_addWord : MethodName := ⟨RL, "addWord", "(LGhostGame;[J)I"⟩
abbrev cL_removeWord : ByteArray := method_6_code
def yL_removeWord : MethodName := ⟨RL, "removeWord", "(LGhostGame;[J)I"⟩
abbrev cL_copyWord : ByteArray := method_7_code
def yL_copyWord : MethodName := ⟨RL, "copyWord", "(LGhostGame;I[J)I"⟩
abbrev cL_setLeastLength : ByteArray := method_8_code
def yL_setLeastLength : MethodName := ⟨RL, "setLeastLength", "(LGhostGame;I[J)I"⟩
abbrev cL_start : ByteArray := method_9_code
def yL_start : MethodName := ⟨RL, "start", "(LGhostGame;I)I"⟩
abbrev cL_play : ByteArray := method_10_code
def yL_play : MethodName := ⟨RL, "play", "(LGhostGame;I[J)I"⟩
abbrev cL_challenge : ByteArray := method_11_code
def yL_challenge : MethodName := ⟨RL, "challenge", "(LGhostGame;[J)I"⟩
abbrev cL_strikes : ByteArray := method_12_code
def yL_strikes : MethodName := ⟨RL, "strikes", "(LGhostGame;I[J)I"⟩
abbrev cL_fragmentAt : ByteArray := method_13_code
def yL_fragmentAt : MethodName := ⟨RL, "fragmentAt", "(LGhostGame;I[J)I"⟩
abbrev cL_law : ByteArray := code
def yL_law : MethodName := ⟨RL, "law", "([I)Z"⟩
def wsX0_init : List Cond := .code yX0_init cX0_init 1 none :: ([.methodLink RX0 3 objectInit, .instanceMethod objectInit, .code objectInit ⟨#[0xb1]⟩ 1 none, .arrayClass .long, .fieldLink RX0 9 "GhostGame$Dictionary" "words" "[J", .fieldLink RX0 15 "GhostGame$Dictionary" "count" "I", .fieldLink RX0 19 "GhostGame$Dictionary" "leastLength" "I"] ++ wsX00)
def wsX0_size : List Cond := .code yX0_size cX0_size 1 (some .int) :: ([.fieldLink RX0 15 "GhostGame$Dictionary" "count" "I"] ++ wsX00)
def wsX0_placeOf : List Cond := .code yX0_placeOf cX0_placeOf 4 (some .int) :: ([.fieldLink RX0 15 "GhostGame$Dictionary" "count" "I", .fieldLink RX0 9 "GhostGame$Dictionary" "words" "[J"] ++ wsX00)
def wsX0_has : List Cond := .code yX0_has cX0_has 3 (some .boolean) :: ([.methodLink RX0 22 yX0_placeOf, .instanceMethod yX0_placeOf, .selects RX0 yX0_placeOf yX0_placeOf, .initialized RX0, .code yX0_placeOf cX0_placeOf 4 (some .int), .fieldLink RX0 15 "GhostGame$Dictionary" "count" "I", .fieldLink RX0 9 "GhostGame$Dictionary" "words" "[J"] ++ wsX00)
def wsX0_wordAt : List Cond := .code yX0_wordAt cX0_wordAt 2 (some .long) :: ([.fieldLink RX0 15 "GhostGame$Dictionary" "count" "I", .fieldLink RX0 9 "GhostGame$Dictionary" "words" "[J"] ++ wsX00)
def wsX0_add : List Cond := .code yX0_add cX0_add 4 (some .boolean) :: ([.fieldLink RX0 15 "GhostGame$Dictionary" "count" "I", .fieldLink RX0 9 "GhostGame$Dictionary" "words" "[J", .methodLink RX0 28 yX0_has, .instanceMethod yX0_has, .selects RX0 yX0_has yX0_has, .initialized RX0, .code yX0_has cX0_has 3 (some .boolean), .methodLink RX0 22 yX0_placeOf, .instanceMethod yX0_placeOf, .selects RX0 yX0_placeOf yX0_placeOf, .code yX0_placeOf cX0_placeOf 4 (some .int)] ++ wsX00)
def wsX0_remove : List Cond := .code yX0_remove cX0_remove 5 (some .boolean) :: ([.fieldLink RX0 15 "GhostGame$Dictionary" "count" "I", .fieldLink RX0 9 "GhostGame$Dictionary" "words" "[J", .methodLink RX0 22 yX0_placeOf, .instanceMethod yX0_placeOf, .selects RX0 yX0_placeOf yX0_placeOf, .initialized RX0, .code yX0_placeOf cX0_placeOf 4 (some .int)] ++ wsX00)
def wsX2_lengthOf : List Cond := .code yX2_lengthOf cX2_lengthOf 2 (some .int) :: ([])
def wsX2_pack : List Cond := .code yX2_pack cX2_pack 3 (some .long) :: ([])
def wsX2_beginning : List Cond := .code yX2_beginning cX2_beginning 4 (some .long) :: ([.constantLong RX2 15 (1125899906842623), .methodLink RX2 11 yX2_lengthOf, .static yX2_lengthOf, .initialized RX2, .code yX2_lengthOf cX2_lengthOf 2 (some .int), .methodLink RX2 17 yX2_pack, .static yX2_pack, .code yX2_pack cX2_pack 3 (some .long)])
def wsX2_beginsWith : List Cond := .code yX2_beginsWith cX2_beginsWith 5 (some .boolean) :: ([.methodLink RX2 11 yX2_lengthOf, .static yX2_lengthOf, .initialized RX2, .code yX2_lengthOf cX2_lengthOf 2 (some .int), .methodLink RX2 21 yX2_beginning, .static yX2_beginning, .code yX2_beginning cX2_beginning 4 (some .long), .constantLong RX2 15 (1125899906842623), .methodLink RX2 17 yX2_pack, .static yX2_pack, .code yX2_pack cX2_pack 3 (some .long)])
def wsX0_countFrom : List Cond := .code yX0_countFrom cX0_countFrom 5 (some .int) :: ([.fieldLink RX0 15 "GhostGame$Dictionary" "count" "I", .fieldLink RX0 9 "GhostGame$Dictionary" "words" "[J", .methodLink RX0 32 yX2_beginsWith, .static yX2_beginsWith, .initialized RX2, .code yX2_beginsWith cX2_beginsWith 5 (some .boolean), .methodLink RX2 11 yX2_lengthOf, .static yX2_lengthOf, .code yX2_lengthOf cX2_lengthOf 2 (some .int), .methodLink RX2 21 yX2_beginning, .static yX2_beginning, .code yX2_beginning cX2_beginning 4 (some .long), .constantLong RX2 15 (1125899906842623), .methodLink RX2 17 yX2_pack, .static yX2_pack, .code yX2_pack cX2_pack 3 (some .long)] ++ wsX00)
def wsX2_lengthShared : List Cond := .code yX2_lengthShared cX2_lengthShared 5 (some .int) :: ([.methodLink RX2 29 Lib.Math.min.name, .static Lib.Math.min.name, .initialized "java/lang/Math", .code Lib.Math.min.name Lib.Math.min.code 2 (some .int), .methodLink RX2 11 yX2_lengthOf, .static yX2_lengthOf, .initialized RX2, .code yX2_lengthOf cX2_lengthOf 2 (some .int), .methodLink RX2 21 yX2_beginning, .static yX2_beginning, .code yX2_beginning cX2_beginning 4 (some .long), .constantLong RX2 15 (1125899906842623), .methodLink RX2 17 yX2_pack, .static yX2_pack, .code yX2_pack cX2_pack 3 (some .long)])
def wsX0_lengthSharedBefore : List Cond := .code yX0_lengthSharedBefore cX0_lengthSharedBefore 4 (some .int) :: ([.fieldLink RX0 9 "GhostGame$Dictionary" "words" "[J", .methodLink RX0 50 Lib.Math.max.name, .static Lib.Math.max.name, .initialized "java/lang/Math", .code Lib.Math.max.name Lib.Math.max.code 2 (some .int), .methodLink RX0 46 yX2_lengthShared, .static yX2_lengthShared, .initialized RX2, .code yX2_lengthShared cX2_lengthShared 5 (some .int), .methodLink RX2 29 Lib.Math.min.name, .static Lib.Math.min.name, .code Lib.Math.min.name Lib.Math.min.code 2 (some .int), .methodLink RX2 11 yX2_lengthOf, .static yX2_lengthOf, .code yX2_lengthOf cX2_lengthOf 2 (some .int), .methodLink RX2 21 yX2_beginning, .static yX2_beginning, .code yX2_beginning cX2_beginning 4 (some .long), .constantLong RX2 15 (1125899906842623), .methodLink RX2 17 yX2_pack, .static yX2_pack, .code yX2_pack cX2_pack 3 (some .long)] ++ wsX00)
def wsX0_countBeginnings_r1 : List Cond := [Cond.fieldLink RX0 15 "GhostGame$Dictionary" "count" "I", Cond.fieldLink RX0 9 "GhostGame$Dictionary" "words" "[J", Cond.methodLink RX0 36 yX2_lengthOf, Cond.static yX2_lengthOf, Cond.initialized RX2, Cond.code yX2_lengthOf cX2_lengthOf 2 (some .int), Cond.methodLink RX0 39 yX0_lengthSharedBefore, Cond.instanceMethod yX0_lengthSharedBefore, Cond.selects RX0 yX0_lengthSharedBefore yX0_lengthSharedBefore, Cond.initialized RX0, Cond.code yX0_lengthSharedBefore cX0_lengthSharedBefore 4 (some .int), Cond.methodLink RX0 50 Lib.Math.max.name, Cond.static Lib.Math.max.name, Cond.initialized "java/lang/Math", Cond.code Lib.Math.max.name Lib.Math.max.code 2 (some .int), Cond.methodLink RX0 46 yX2_lengthShared, Cond.static yX2_lengthShared, Cond.code yX2_lengthShared cX2_lengthShared 5 (some .int), Cond.methodLink RX2 29 Lib.Math.min.name, Cond.static Lib.Math.min.name, Cond.code Lib.Math.min.name Lib.Math.min.code 2 (some .int), Cond.methodLink RX2 11 yX2_lengthOf, Cond.methodLink RX2 21 yX2_beginning, Cond.static yX2_beginning]
def wsX0_countBeginnings_r2 : List Cond := [Cond.code yX2_beginning cX2_beginning 4 (some .long), Cond.constantLong RX2 15 (1125899906842623), Cond.methodLink RX2 17 yX2_pack, Cond.static yX2_pack, Cond.code yX2_pack cX2_pack 3 (some .long)]
def wsX0_countBeginnings : List Cond := .code yX0_countBeginnings cX0_countBeginnings 3 (some .int) :: ((wsX0_countBeginnings_r1 ++ wsX0_countBeginnings_r2) ++ wsX00)
def wsX0_changeLeastLength : List Cond := .code yX0_changeLeastLength cX0_changeLeastLength 3 (some .int) :: ([.fieldLink RX0 19 "GhostGame$Dictionary" "leastLength" "I"] ++ wsX00)
def wsX0_isLongEnough : List Cond := .code yX0_isLongEnough cX0_isLongEnough 3 (some .boolean) :: ([.fieldLink RX0 19 "GhostGame$Dictionary" "leastLength" "I", .methodLink RX0 36 yX2_lengthOf, .static yX2_lengthOf, .initialized RX2, .code yX2_lengthOf cX2_lengthOf 2 (some .int)] ++ wsX00)
def wsX0_hasCounting : List Cond := .code yX0_hasCounting cX0_hasCounting 3 (some .boolean) :: ([.methodLink RX0 43 yX0_isLongEnough, .instanceMethod yX0_isLongEnough, .selects RX0 yX0_isLongEnough yX0_isLongEnough, .initialized RX0, .code yX0_isLongEnough cX0_isLongEnough 3 (some .boolean), .fieldLink RX0 19 "GhostGame$Dictionary" "leastLength" "I", .methodLink RX0 36 yX2_lengthOf, .static yX2_lengthOf, .initialized RX2, .code yX2_lengthOf cX2_lengthOf 2 (some .int), .methodLink RX0 28 yX0_has, .instanceMethod yX0_has, .selects RX0 yX0_has yX0_has, .code yX0_has cX0_has 3 (some .boolean), .methodLink RX0 22 yX0_placeOf, .instanceMethod yX0_placeOf, .selects RX0 yX0_placeOf yX0_placeOf, .code yX0_placeOf cX0_placeOf 4 (some .int), .fieldLink RX0 15 "GhostGame$Dictionary" "count" "I", .fieldLink RX0 9 "GhostGame$Dictionary" "words" "[J"] ++ wsX00)
def wsX0_hasCountingFrom : List Cond := .code yX0_hasCountingFrom cX0_hasCountingFrom 4 (some .boolean) :: ([.fieldLink RX0 15 "GhostGame$Dictionary" "count" "I", .fieldLink RX0 9 "GhostGame$Dictionary" "words" "[J", .methodLink RX0 43 yX0_isLongEnough, .instanceMethod yX0_isLongEnough, .selects RX0 yX0_isLongEnough yX0_isLongEnough, .initialized RX0, .code yX0_isLongEnough cX0_isLongEnough 3 (some .boolean), .fieldLink RX0 19 "GhostGame$Dictionary" "leastLength" "I", .methodLink RX0 36 yX2_lengthOf, .static yX2_lengthOf, .initialized RX2, .code yX2_lengthOf cX2_lengthOf 2 (some .int), .methodLink RX0 32 yX2_beginsWith, .static yX2_beginsWith, .code yX2_beginsWith cX2_beginsWith 5 (some .boolean), .methodLink RX2 11 yX2_lengthOf, .methodLink RX2 21 yX2_beginning, .static yX2_beginning, .code yX2_beginning cX2_beginning 4 (some .long), .constantLong RX2 15 (1125899906842623), .methodLink RX2 17 yX2_pack, .static yX2_pack, .code yX2_pack cX2_pack 3 (some .long)] ++ wsX00)
def wsX1_init : List Cond := .code yX1_init cX1_init 1 none :: ([.methodLink RX1 3 objectInit, .instanceMethod objectInit, .code objectInit ⟨#[0xb1]⟩ 1 none, .arrayClass .int, .fieldLink RX1 9 "GhostGame$Game" "strikes" "[I", .fieldLink RX1 15 "GhostGame$Game" "playerCount" "I", .fieldLink RX1 19 "GhostGame$Game" "mover" "I", .fieldLink RX1 22 "GhostGame$Game" "lastMover" "I", .fieldLink RX1 25 "GhostGame$Game" "champion" "I", .fieldLink RX1 30 "GhostGame$Game" "fragment" "J"] ++ wsX10)
def wsX1_begin : List Cond := .code yX1_begin cX1_begin 3 none :: ([.fieldLink RX1 9 "GhostGame$Game" "strikes" "[I", .fieldLink RX1 15 "GhostGame$Game" "playerCount" "I", .fieldLink RX1 19 "GhostGame$Game" "mover" "I", .fieldLink RX1 22 "GhostGame$Game" "lastMover" "I", .fieldLink RX1 25 "GhostGame$Game" "champion" "I", .fieldLink RX1 30 "GhostGame$Game" "fragment" "J"] ++ wsX10)
def wsX1_isOn : List Cond := .code yX1_isOn cX1_isOn 1 (some .boolean) :: ([.fieldLink RX1 19 "GhostGame$Game" "mover" "I"] ++ wsX10)
def wsX1_mover : List Cond := .code yX1_mover cX1_mover 1 (some .int) :: ([.fieldLink RX1 19 "GhostGame$Game" "mover" "I"] ++ wsX10)
def wsX1_champion : List Cond := .code yX1_champion cX1_champion 1 (some .int) :: ([.fieldLink RX1 25 "GhostGame$Game" "champion" "I"] ++ wsX10)
def wsX1_playerCount : List Cond := .code yX1_playerCount cX1_playerCount 1 (some .int) :: ([.fieldLink RX1 15 "GhostGame$Game" "playerCount" "I"] ++ wsX10)
def wsX1_fragment : List Cond := .code yX1_fragment cX1_fragment 1 (some .long) :: ([.fieldLink RX1 30 "GhostGame$Game" "fragment" "J"] ++ wsX10)
def wsX1_hasPlayer : List Cond := .code yX1_hasPlayer cX1_hasPlayer 2 (some .boolean) :: ([.fieldLink RX1 15 "GhostGame$Game" "playerCount" "I", .fieldLink RX1 9 "GhostGame$Game" "strikes" "[I"] ++ wsX10)
def wsX1_strikesOf : List Cond := .code yX1_strikesOf cX1_strikesOf 2 (some .int) :: ([.fieldLink RX1 9 "GhostGame$Game" "strikes" "[I", .methodLink RX1 34 yX1_hasPlayer, .instanceMethod yX1_hasPlayer, .selects RX1 yX1_hasPlayer yX1_hasPlayer, .initialized RX1, .code yX1_hasPlayer cX1_hasPlayer 2 (some .boolean), .fieldLink RX1 15 "GhostGame$Game" "playerCount" "I"] ++ wsX10)
def wsX2_with : List Cond := .code yX2_with cX2_with 3 (some .long) :: ([.constantLong RX2 15 (1125899906842623), .methodLink RX2 11 yX2_lengthOf, .static yX2_lengthOf, .initialized RX2, .code yX2_lengthOf cX2_lengthOf 2 (some .int), .methodLink RX2 17 yX2_pack, .static yX2_pack, .code yX2_pack cX2_pack 3 (some .long)])
def wsX1_isOut : List Cond := .code yX1_isOut cX1_isOut 2 (some .boolean) :: ([.methodLink RX1 65 yX1_strikesOf, .instanceMethod yX1_strikesOf, .selects RX1 yX1_strikesOf yX1_strikesOf, .initialized RX1, .code yX1_strikesOf cX1_strikesOf 2 (some .int), .fieldLink RX1 9 "GhostGame$Game" "strikes" "[I", .methodLink RX1 34 yX1_hasPlayer, .instanceMethod yX1_hasPlayer, .selects RX1 yX1_hasPlayer yX1_hasPlayer, .code yX1_hasPlayer cX1_hasPlayer 2 (some .boolean), .fieldLink RX1 15 "GhostGame$Game" "playerCount" "I"] ++ wsX10)
def wsX1_playersLeft : List Cond := .code yX1_playersLeft cX1_playersLeft 3 (some .int) :: ([.fieldLink RX1 15 "GhostGame$Game" "playerCount" "I", .methodLink RX1 62 yX1_isOut, .instanceMethod yX1_isOut, .selects RX1 yX1_isOut yX1_isOut, .initialized RX1, .code yX1_isOut cX1_isOut 2 (some .boolean), .methodLink RX1 65 yX1_strikesOf, .instanceMethod yX1_strikesOf, .selects RX1 yX1_strikesOf yX1_strikesOf, .code yX1_strikesOf cX1_strikesOf 2 (some .int), .fieldLink RX1 9 "GhostGame$Game" "strikes" "[I", .methodLink RX1 34 yX1_hasPlayer, .instanceMethod yX1_hasPlayer, .selects RX1 yX1_hasPlayer yX1_hasPlayer, .code yX1_hasPlayer cX1_hasPlayer 2 (some .boolean)] ++ wsX10)
def wsX1_nextBehind : List Cond := .code yX1_nextBehind cX1_nextBehind 4 (some .int) :: ([.fieldLink RX1 15 "GhostGame$Game" "playerCount" "I", .methodLink RX1 62 yX1_isOut, .instanceMethod yX1_isOut, .selects RX1 yX1_isOut yX1_isOut, .initialized RX1, .code yX1_isOut cX1_isOut 2 (some .boolean), .methodLink RX1 65 yX1_strikesOf, .instanceMethod yX1_strikesOf, .selects RX1 yX1_strikesOf yX1_strikesOf, .code yX1_strikesOf cX1_strikesOf 2 (some .int), .fieldLink RX1 9 "GhostGame$Game" "strikes" "[I", .methodLink RX1 34 yX1_hasPlayer, .instanceMethod yX1_hasPlayer, .selects RX1 yX1_hasPlayer yX1_hasPlayer, .code yX1_hasPlayer cX1_hasPlayer 2 (some .boolean)] ++ wsX10)
def wsX1_endRound_r1 : List Cond := [Cond.fieldLink RX1 9 "GhostGame$Game" "strikes" "[I", Cond.fieldLink RX1 30 "GhostGame$Game" "fragment" "J", Cond.fieldLink RX1 25 "GhostGame$Game" "champion" "I", Cond.fieldLink RX1 19 "GhostGame$Game" "mover" "I", Cond.methodLink RX1 34 yX1_hasPlayer, Cond.instanceMethod yX1_hasPlayer, Cond.selects RX1 yX1_hasPlayer yX1_hasPlayer, Cond.initialized RX1, Cond.code yX1_hasPlayer cX1_hasPlayer 2 (some .boolean), Cond.fieldLink RX1 15 "GhostGame$Game" "playerCount" "I", Cond.methodLink RX1 58 yX1_playersLeft, Cond.instanceMethod yX1_playersLeft, Cond.selects RX1 yX1_playersLeft yX1_playersLeft, Cond.code yX1_playersLeft cX1_playersLeft 3 (some .int), Cond.methodLink RX1 62 yX1_isOut, Cond.instanceMethod yX1_isOut, Cond.selects RX1 yX1_isOut yX1_isOut, Cond.code yX1_isOut cX1_isOut 2 (some .boolean), Cond.methodLink RX1 65 yX1_strikesOf, Cond.instanceMethod yX1_strikesOf, Cond.selects RX1 yX1_strikesOf yX1_strikesOf, Cond.code yX1_strikesOf cX1_strikesOf 2 (some .int), Cond.methodLink RX1 52 yX1_nextBehind, Cond.instanceMethod yX1_nextBehind]
def wsX1_endRound_r2 : List Cond := [Cond.selects RX1 yX1_nextBehind yX1_nextBehind, Cond.code yX1_nextBehind cX1_nextBehind 4 (some .int)]
def wsX1_endRound : List Cond := .code yX1_endRound cX1_endRound 2 (some .int) :: ((wsX1_endRound_r1 ++ wsX1_endRound_r2) ++ wsX10)
def wsX1_addLetter_r1 : List Cond := [Cond.fieldLink RX1 30 "GhostGame$Game" "fragment" "J", Cond.fieldLink RX1 19 "GhostGame$Game" "mover" "I", Cond.fieldLink RX1 22 "GhostGame$Game" "lastMover" "I", Cond.methodLink RX1 38 yX2_with, Cond.static yX2_with, Cond.initialized RX2, Cond.code yX2_with cX2_with 3 (some .long), Cond.constantLong RX2 15 (1125899906842623), Cond.methodLink RX2 11 yX2_lengthOf, Cond.static yX2_lengthOf, Cond.code yX2_lengthOf cX2_lengthOf 2 (some .int), Cond.methodLink RX2 17 yX2_pack, Cond.static yX2_pack, Cond.code yX2_pack cX2_pack 3 (some .long), Cond.methodLink RX1 42 yX0_hasCounting, Cond.instanceMethod yX0_hasCounting, Cond.selects RX0 yX0_hasCounting yX0_hasCounting, Cond.initialized RX0, Cond.code yX0_hasCounting cX0_hasCounting 3 (some .boolean), Cond.methodLink RX0 43 yX0_isLongEnough, Cond.instanceMethod yX0_isLongEnough, Cond.selects RX0 yX0_isLongEnough yX0_isLongEnough, Cond.code yX0_isLongEnough cX0_isLongEnough 3 (some .boolean), Cond.fieldLink RX0 19 "GhostGame$Dictionary" "leastLength" "I"]
def wsX1_addLetter_r2 : List Cond := [Cond.methodLink RX0 36 yX2_lengthOf, Cond.methodLink RX0 28 yX0_has, Cond.instanceMethod yX0_has, Cond.selects RX0 yX0_has yX0_has, Cond.code yX0_has cX0_has 3 (some .boolean), Cond.methodLink RX0 22 yX0_placeOf, Cond.instanceMethod yX0_placeOf, Cond.selects RX0 yX0_placeOf yX0_placeOf, Cond.code yX0_placeOf cX0_placeOf 4 (some .int), Cond.fieldLink RX0 15 "GhostGame$Dictionary" "count" "I", Cond.fieldLink RX0 9 "GhostGame$Dictionary" "words" "[J", Cond.methodLink RX1 48 yX1_endRound, Cond.instanceMethod yX1_endRound, Cond.selects RX1 yX1_endRound yX1_endRound, Cond.initialized RX1, Cond.code yX1_endRound cX1_endRound 2 (some .int), Cond.fieldLink RX1 9 "GhostGame$Game" "strikes" "[I", Cond.fieldLink RX1 25 "GhostGame$Game" "champion" "I", Cond.methodLink RX1 34 yX1_hasPlayer, Cond.instanceMethod yX1_hasPlayer, Cond.selects RX1 yX1_hasPlayer yX1_hasPlayer, Cond.code yX1_hasPlayer cX1_hasPlayer 2 (some .boolean), Cond.fieldLink RX1 15 "GhostGame$Game" "playerCount" "I", Cond.methodLink RX1 58 yX1_playersLeft]
def wsX1_addLetter_r3 : List Cond := [Cond.instanceMethod yX1_playersLeft, Cond.selects RX1 yX1_playersLeft yX1_playersLeft, Cond.code yX1_playersLeft cX1_playersLeft 3 (some .int), Cond.methodLink RX1 62 yX1_isOut, Cond.instanceMethod yX1_isOut, Cond.selects RX1 yX1_isOut yX1_isOut, Cond.code yX1_isOut cX1_isOut 2 (some .boolean), Cond.methodLink RX1 65 yX1_strikesOf, Cond.instanceMethod yX1_strikesOf, Cond.selects RX1 yX1_strikesOf yX1_strikesOf, Cond.code yX1_strikesOf cX1_strikesOf 2 (some .int), Cond.methodLink RX1 52 yX1_nextBehind, Cond.instanceMethod yX1_nextBehind, Cond.selects RX1 yX1_nextBehind yX1_nextBehind, Cond.code yX1_nextBehind cX1_nextBehind 4 (some .int)]
def wsX1_addLetter : List Cond := .code yX1_addLetter cX1_addLetter 3 (some .int) :: ((wsX1_addLetter_r1 ++ (wsX1_addLetter_r2 ++ wsX1_addLetter_r3)) ++ wsX10 ++ wsX00)
def wsX1_settleChallenge_r1 : List Cond := [Cond.fieldLink RX1 30 "GhostGame$Game" "fragment" "J", Cond.fieldLink RX1 19 "GhostGame$Game" "mover" "I", Cond.fieldLink RX1 22 "GhostGame$Game" "lastMover" "I", Cond.methodLink RX1 55 yX0_hasCountingFrom, Cond.instanceMethod yX0_hasCountingFrom, Cond.selects RX0 yX0_hasCountingFrom yX0_hasCountingFrom, Cond.initialized RX0, Cond.code yX0_hasCountingFrom cX0_hasCountingFrom 4 (some .boolean), Cond.fieldLink RX0 15 "GhostGame$Dictionary" "count" "I", Cond.fieldLink RX0 9 "GhostGame$Dictionary" "words" "[J", Cond.methodLink RX0 43 yX0_isLongEnough, Cond.instanceMethod yX0_isLongEnough, Cond.selects RX0 yX0_isLongEnough yX0_isLongEnough, Cond.code yX0_isLongEnough cX0_isLongEnough 3 (some .boolean), Cond.fieldLink RX0 19 "GhostGame$Dictionary" "leastLength" "I", Cond.methodLink RX0 36 yX2_lengthOf, Cond.static yX2_lengthOf, Cond.initialized RX2, Cond.code yX2_lengthOf cX2_lengthOf 2 (some .int), Cond.methodLink RX0 32 yX2_beginsWith, Cond.static yX2_beginsWith, Cond.code yX2_beginsWith cX2_beginsWith 5 (some .boolean), Cond.methodLink RX2 11 yX2_lengthOf, Cond.methodLink RX2 21 yX2_beginning]
def wsX1_settleChallenge_r2 : List Cond := [Cond.static yX2_beginning, Cond.code yX2_beginning cX2_beginning 4 (some .long), Cond.constantLong RX2 15 (1125899906842623), Cond.methodLink RX2 17 yX2_pack, Cond.static yX2_pack, Cond.code yX2_pack cX2_pack 3 (some .long), Cond.methodLink RX1 48 yX1_endRound, Cond.instanceMethod yX1_endRound, Cond.selects RX1 yX1_endRound yX1_endRound, Cond.initialized RX1, Cond.code yX1_endRound cX1_endRound 2 (some .int), Cond.fieldLink RX1 9 "GhostGame$Game" "strikes" "[I", Cond.fieldLink RX1 25 "GhostGame$Game" "champion" "I", Cond.methodLink RX1 34 yX1_hasPlayer, Cond.instanceMethod yX1_hasPlayer, Cond.selects RX1 yX1_hasPlayer yX1_hasPlayer, Cond.code yX1_hasPlayer cX1_hasPlayer 2 (some .boolean), Cond.fieldLink RX1 15 "GhostGame$Game" "playerCount" "I", Cond.methodLink RX1 58 yX1_playersLeft, Cond.instanceMethod yX1_playersLeft, Cond.selects RX1 yX1_playersLeft yX1_playersLeft, Cond.code yX1_playersLeft cX1_playersLeft 3 (some .int), Cond.methodLink RX1 62 yX1_isOut, Cond.instanceMethod yX1_isOut]
def wsX1_settleChallenge_r3 : List Cond := [Cond.selects RX1 yX1_isOut yX1_isOut, Cond.code yX1_isOut cX1_isOut 2 (some .boolean), Cond.methodLink RX1 65 yX1_strikesOf, Cond.instanceMethod yX1_strikesOf, Cond.selects RX1 yX1_strikesOf yX1_strikesOf, Cond.code yX1_strikesOf cX1_strikesOf 2 (some .int), Cond.methodLink RX1 52 yX1_nextBehind, Cond.instanceMethod yX1_nextBehind, Cond.selects RX1 yX1_nextBehind yX1_nextBehind, Cond.code yX1_nextBehind cX1_nextBehind 4 (some .int)]
def wsX1_settleChallenge : List Cond := .code yX1_settleChallenge cX1_settleChallenge 2 (some .int) :: ((wsX1_settleChallenge_r1 ++ (wsX1_settleChallenge_r2 ++ wsX1_settleChallenge_r3)) ++ wsX10 ++ wsX00)
def wsX2_isFull : List Cond := .code yX2_isFull cX2_isFull 2 (some .boolean) :: ([.methodLink RX2 11 yX2_lengthOf, .static yX2_lengthOf, .initialized RX2, .code yX2_lengthOf cX2_lengthOf 2 (some .int)])
def wsX2_letterAt : List Cond := .code yX2_letterAt cX2_letterAt 4 (some .int) :: ([.methodLink RX2 11 yX2_lengthOf, .static yX2_lengthOf, .initialized RX2, .code yX2_lengthOf cX2_lengthOf 2 (some .int)])
def wsX2_goesOnBehind : List Cond := .code yX2_goesOnBehind cX2_goesOnBehind 4 (some .boolean) :: ([.methodLink RX2 25 yX2_beginsWith, .static yX2_beginsWith, .initialized RX2, .code yX2_beginsWith cX2_beginsWith 5 (some .boolean), .methodLink RX2 11 yX2_lengthOf, .static yX2_lengthOf, .code yX2_lengthOf cX2_lengthOf 2 (some .int), .methodLink RX2 21 yX2_beginning, .static yX2_beginning, .code yX2_beginning cX2_beginning 4 (some .long), .constantLong RX2 15 (1125899906842623), .methodLink RX2 17 yX2_pack, .static yX2_pack, .code yX2_pack cX2_pack 3 (some .long)])
def wsX3_leadsOn : List Cond := .code yX3_leadsOn cX3_leadsOn 5 (some .boolean) :: ([.methodLink RX3 78 yX0_isLongEnough, .instanceMethod yX0_isLongEnough, .selects RX0 yX0_isLongEnough yX0_isLongEnough, .initialized RX0, .code yX0_isLongEnough cX0_isLongEnough 3 (some .boolean), .fieldLink RX0 19 "GhostGame$Dictionary" "leastLength" "I", .methodLink RX0 36 yX2_lengthOf, .static yX2_lengthOf, .initialized RX2, .code yX2_lengthOf cX2_lengthOf 2 (some .int), .methodLink RX3 81 yX2_goesOnBehind, .static yX2_goesOnBehind, .code yX2_goesOnBehind cX2_goesOnBehind 4 (some .boolean), .methodLink RX2 25 yX2_beginsWith, .static yX2_beginsWith, .code yX2_beginsWith cX2_beginsWith 5 (some .boolean), .methodLink RX2 11 yX2_lengthOf, .methodLink RX2 21 yX2_beginning, .static yX2_beginning, .code yX2_beginning cX2_beginning 4 (some .long), .constantLong RX2 15 (1125899906842623), .methodLink RX2 17 yX2_pack, .static yX2_pack, .code yX2_pack cX2_pack 3 (some .long)] ++ wsX00)
def wsX3_lettersOpenBehind_r1 : List Cond := [Cond.methodLink RX3 9 yX0_size, Cond.instanceMethod yX0_size, Cond.selects RX0 yX0_size yX0_size, Cond.initialized RX0, Cond.code yX0_size cX0_size 1 (some .int), Cond.fieldLink RX0 15 "GhostGame$Dictionary" "count" "I", Cond.methodLink RX3 15 yX0_wordAt, Cond.instanceMethod yX0_wordAt, Cond.selects RX0 yX0_wordAt yX0_wordAt, Cond.code yX0_wordAt cX0_wordAt 2 (some .long), Cond.fieldLink RX0 9 "GhostGame$Dictionary" "words" "[J", Cond.methodLink RX3 19 yX3_leadsOn, Cond.static yX3_leadsOn, Cond.initialized RX3, Cond.code yX3_leadsOn cX3_leadsOn 5 (some .boolean), Cond.methodLink RX3 78 yX0_isLongEnough, Cond.instanceMethod yX0_isLongEnough, Cond.selects RX0 yX0_isLongEnough yX0_isLongEnough, Cond.code yX0_isLongEnough cX0_isLongEnough 3 (some .boolean), Cond.fieldLink RX0 19 "GhostGame$Dictionary" "leastLength" "I", Cond.methodLink RX0 36 yX2_lengthOf, Cond.static yX2_lengthOf, Cond.initialized RX2, Cond.code yX2_lengthOf cX2_lengthOf 2 (some .int)]
def wsX3_lettersOpenBehind_r2 : List Cond := [Cond.methodLink RX3 81 yX2_goesOnBehind, Cond.static yX2_goesOnBehind, Cond.code yX2_goesOnBehind cX2_goesOnBehind 4 (some .boolean), Cond.methodLink RX2 25 yX2_beginsWith, Cond.static yX2_beginsWith, Cond.code yX2_beginsWith cX2_beginsWith 5 (some .boolean), Cond.methodLink RX2 11 yX2_lengthOf, Cond.methodLink RX2 21 yX2_beginning, Cond.static yX2_beginning, Cond.code yX2_beginning cX2_beginning 4 (some .long), Cond.constantLong RX2 15 (1125899906842623), Cond.methodLink RX2 17 yX2_pack, Cond.static yX2_pack, Cond.code yX2_pack cX2_pack 3 (some .long), Cond.methodLink RX3 25 yX2_lengthOf, Cond.methodLink RX3 31 yX2_letterAt, Cond.static yX2_letterAt, Cond.code yX2_letterAt cX2_letterAt 4 (some .int)]
def wsX3_lettersOpenBehind : List Cond := .code yX3_lettersOpenBehind cX3_lettersOpenBehind 7 (some .int) :: ((wsX3_lettersOpenBehind_r1 ++ wsX3_lettersOpenBehind_r2) ++ wsX00)
def wsX3_isIn : List Cond := .code yX3_isIn cX3_isIn 2 (some .boolean) :: ([])
def wsX3_score_r1 : List Cond := [Cond.methodLink RX3 67 Lib.Math.max.name, Cond.static Lib.Math.max.name, Cond.initialized "java/lang/Math", Cond.code Lib.Math.max.name Lib.Math.max.code 2 (some .int), Cond.methodLink RX3 63 yX2_isFull, Cond.static yX2_isFull, Cond.initialized RX2, Cond.code yX2_isFull cX2_isFull 2 (some .boolean), Cond.methodLink RX2 11 yX2_lengthOf, Cond.static yX2_lengthOf, Cond.code yX2_lengthOf cX2_lengthOf 2 (some .int), Cond.methodLink RX3 35 yX3_lettersOpenBehind, Cond.static yX3_lettersOpenBehind, Cond.initialized RX3, Cond.code yX3_lettersOpenBehind cX3_lettersOpenBehind 7 (some .int), Cond.methodLink RX3 9 yX0_size, Cond.instanceMethod yX0_size, Cond.selects RX0 yX0_size yX0_size, Cond.initialized RX0, Cond.code yX0_size cX0_size 1 (some .int), Cond.fieldLink RX0 15 "GhostGame$Dictionary" "count" "I", Cond.methodLink RX3 15 yX0_wordAt, Cond.instanceMethod yX0_wordAt, Cond.selects RX0 yX0_wordAt yX0_wordAt]
def wsX3_score_r2 : List Cond := [Cond.code yX0_wordAt cX0_wordAt 2 (some .long), Cond.fieldLink RX0 9 "GhostGame$Dictionary" "words" "[J", Cond.methodLink RX3 19 yX3_leadsOn, Cond.static yX3_leadsOn, Cond.code yX3_leadsOn cX3_leadsOn 5 (some .boolean), Cond.methodLink RX3 78 yX0_isLongEnough, Cond.instanceMethod yX0_isLongEnough, Cond.selects RX0 yX0_isLongEnough yX0_isLongEnough, Cond.code yX0_isLongEnough cX0_isLongEnough 3 (some .boolean), Cond.fieldLink RX0 19 "GhostGame$Dictionary" "leastLength" "I", Cond.methodLink RX0 36 yX2_lengthOf, Cond.methodLink RX3 81 yX2_goesOnBehind, Cond.static yX2_goesOnBehind, Cond.code yX2_goesOnBehind cX2_goesOnBehind 4 (some .boolean), Cond.methodLink RX2 25 yX2_beginsWith, Cond.static yX2_beginsWith, Cond.code yX2_beginsWith cX2_beginsWith 5 (some .boolean), Cond.methodLink RX2 21 yX2_beginning, Cond.static yX2_beginning, Cond.code yX2_beginning cX2_beginning 4 (some .long), Cond.constantLong RX2 15 (1125899906842623), Cond.methodLink RX2 17 yX2_pack, Cond.static yX2_pack, Cond.code yX2_pack cX2_pack 3 (some .long)]
def wsX3_score_r3 : List Cond := [Cond.methodLink RX3 25 yX2_lengthOf, Cond.methodLink RX3 31 yX2_letterAt, Cond.static yX2_letterAt, Cond.code yX2_letterAt cX2_letterAt 4 (some .int), Cond.methodLink RX3 39 yX3_isIn, Cond.static yX3_isIn, Cond.code yX3_isIn cX3_isIn 2 (some .boolean), Cond.methodLink RX3 43 yX3_scoreOfLetter, Cond.static yX3_scoreOfLetter, Cond.code yX3_scoreOfLetter cX3_scoreOfLetter 7 (some .int), Cond.methodLink RX3 71 yX2_with, Cond.static yX2_with, Cond.code yX2_with cX2_with 3 (some .long), Cond.methodLink RX3 75 yX0_hasCounting, Cond.instanceMethod yX0_hasCounting, Cond.selects RX0 yX0_hasCounting yX0_hasCounting, Cond.code yX0_hasCounting cX0_hasCounting 3 (some .boolean), Cond.methodLink RX0 43 yX0_isLongEnough, Cond.methodLink RX0 28 yX0_has, Cond.instanceMethod yX0_has, Cond.selects RX0 yX0_has yX0_has, Cond.code yX0_has cX0_has 3 (some .boolean), Cond.methodLink RX0 22 yX0_placeOf, Cond.instanceMethod yX0_placeOf]
def wsX3_score_r4 : List Cond := [Cond.selects RX0 yX0_placeOf yX0_placeOf, Cond.code yX0_placeOf cX0_placeOf 4 (some .int), Cond.methodLink RX3 47 yX3_score, Cond.static yX3_score]
def wsX3_score : List Cond := .code yX3_score cX3_score 6 (some .int) :: ((wsX3_score_r1 ++ (wsX3_score_r2 ++ (wsX3_score_r3 ++ wsX3_score_r4))) ++ wsX00)
def wsX3_scoreOfLetter_r1 : List Cond := [Cond.methodLink RX3 71 yX2_with, Cond.static yX2_with, Cond.initialized RX2, Cond.code yX2_with cX2_with 3 (some .long), Cond.constantLong RX2 15 (1125899906842623), Cond.methodLink RX2 11 yX2_lengthOf, Cond.static yX2_lengthOf, Cond.code yX2_lengthOf cX2_lengthOf 2 (some .int), Cond.methodLink RX2 17 yX2_pack, Cond.static yX2_pack, Cond.code yX2_pack cX2_pack 3 (some .long), Cond.methodLink RX3 75 yX0_hasCounting, Cond.instanceMethod yX0_hasCounting, Cond.selects RX0 yX0_hasCounting yX0_hasCounting, Cond.initialized RX0, Cond.code yX0_hasCounting cX0_hasCounting 3 (some .boolean), Cond.methodLink RX0 43 yX0_isLongEnough, Cond.instanceMethod yX0_isLongEnough, Cond.selects RX0 yX0_isLongEnough yX0_isLongEnough, Cond.code yX0_isLongEnough cX0_isLongEnough 3 (some .boolean), Cond.fieldLink RX0 19 "GhostGame$Dictionary" "leastLength" "I", Cond.methodLink RX0 36 yX2_lengthOf, Cond.methodLink RX0 28 yX0_has, Cond.instanceMethod yX0_has]
def wsX3_scoreOfLetter_r2 : List Cond := [Cond.selects RX0 yX0_has yX0_has, Cond.code yX0_has cX0_has 3 (some .boolean), Cond.methodLink RX0 22 yX0_placeOf, Cond.instanceMethod yX0_placeOf, Cond.selects RX0 yX0_placeOf yX0_placeOf, Cond.code yX0_placeOf cX0_placeOf 4 (some .int), Cond.fieldLink RX0 15 "GhostGame$Dictionary" "count" "I", Cond.fieldLink RX0 9 "GhostGame$Dictionary" "words" "[J", Cond.methodLink RX3 47 yX3_score, Cond.static yX3_score, Cond.initialized RX3, Cond.code yX3_score cX3_score 6 (some .int), Cond.methodLink RX3 67 Lib.Math.max.name, Cond.static Lib.Math.max.name, Cond.initialized "java/lang/Math", Cond.code Lib.Math.max.name Lib.Math.max.code 2 (some .int), Cond.methodLink RX3 63 yX2_isFull, Cond.static yX2_isFull, Cond.code yX2_isFull cX2_isFull 2 (some .boolean), Cond.methodLink RX3 35 yX3_lettersOpenBehind, Cond.static yX3_lettersOpenBehind, Cond.code yX3_lettersOpenBehind cX3_lettersOpenBehind 7 (some .int), Cond.methodLink RX3 9 yX0_size, Cond.instanceMethod yX0_size]
def wsX3_scoreOfLetter_r3 : List Cond := [Cond.selects RX0 yX0_size yX0_size, Cond.code yX0_size cX0_size 1 (some .int), Cond.methodLink RX3 15 yX0_wordAt, Cond.instanceMethod yX0_wordAt, Cond.selects RX0 yX0_wordAt yX0_wordAt, Cond.code yX0_wordAt cX0_wordAt 2 (some .long), Cond.methodLink RX3 19 yX3_leadsOn, Cond.static yX3_leadsOn, Cond.code yX3_leadsOn cX3_leadsOn 5 (some .boolean), Cond.methodLink RX3 78 yX0_isLongEnough, Cond.methodLink RX3 81 yX2_goesOnBehind, Cond.static yX2_goesOnBehind, Cond.code yX2_goesOnBehind cX2_goesOnBehind 4 (some .boolean), Cond.methodLink RX2 25 yX2_beginsWith, Cond.static yX2_beginsWith, Cond.code yX2_beginsWith cX2_beginsWith 5 (some .boolean), Cond.methodLink RX2 21 yX2_beginning, Cond.static yX2_beginning, Cond.code yX2_beginning cX2_beginning 4 (some .long), Cond.methodLink RX3 25 yX2_lengthOf, Cond.methodLink RX3 31 yX2_letterAt, Cond.static yX2_letterAt, Cond.code yX2_letterAt cX2_letterAt 4 (some .int), Cond.methodLink RX3 39 yX3_isIn]
def wsX3_scoreOfLetter_r4 : List Cond := [Cond.static yX3_isIn, Cond.code yX3_isIn cX3_isIn 2 (some .boolean), Cond.methodLink RX3 43 yX3_scoreOfLetter, Cond.static yX3_scoreOfLetter]
def wsX3_scoreOfLetter : List Cond := .code yX3_scoreOfLetter cX3_scoreOfLetter 7 (some .int) :: ((wsX3_scoreOfLetter_r1 ++ (wsX3_scoreOfLetter_r2 ++ (wsX3_scoreOfLetter_r3 ++ wsX3_scoreOfLetter_r4))) ++ wsX00)
def wsX3_lettersWinningBehind_r1 : List Cond := [Cond.methodLink RX3 35 yX3_lettersOpenBehind, Cond.static yX3_lettersOpenBehind, Cond.initialized RX3, Cond.code yX3_lettersOpenBehind cX3_lettersOpenBehind 7 (some .int), Cond.methodLink RX3 9 yX0_size, Cond.instanceMethod yX0_size, Cond.selects RX0 yX0_size yX0_size, Cond.initialized RX0, Cond.code yX0_size cX0_size 1 (some .int), Cond.fieldLink RX0 15 "GhostGame$Dictionary" "count" "I", Cond.methodLink RX3 15 yX0_wordAt, Cond.instanceMethod yX0_wordAt, Cond.selects RX0 yX0_wordAt yX0_wordAt, Cond.code yX0_wordAt cX0_wordAt 2 (some .long), Cond.fieldLink RX0 9 "GhostGame$Dictionary" "words" "[J", Cond.methodLink RX3 19 yX3_leadsOn, Cond.static yX3_leadsOn, Cond.code yX3_leadsOn cX3_leadsOn 5 (some .boolean), Cond.methodLink RX3 78 yX0_isLongEnough, Cond.instanceMethod yX0_isLongEnough, Cond.selects RX0 yX0_isLongEnough yX0_isLongEnough, Cond.code yX0_isLongEnough cX0_isLongEnough 3 (some .boolean), Cond.fieldLink RX0 19 "GhostGame$Dictionary" "leastLength" "I", Cond.methodLink RX0 36 yX2_lengthOf]
def wsX3_lettersWinningBehind_r2 : List Cond := [Cond.static yX2_lengthOf, Cond.initialized RX2, Cond.code yX2_lengthOf cX2_lengthOf 2 (some .int), Cond.methodLink RX3 81 yX2_goesOnBehind, Cond.static yX2_goesOnBehind, Cond.code yX2_goesOnBehind cX2_goesOnBehind 4 (some .boolean), Cond.methodLink RX2 25 yX2_beginsWith, Cond.static yX2_beginsWith, Cond.code yX2_beginsWith cX2_beginsWith 5 (some .boolean), Cond.methodLink RX2 11 yX2_lengthOf, Cond.methodLink RX2 21 yX2_beginning, Cond.static yX2_beginning, Cond.code yX2_beginning cX2_beginning 4 (some .long), Cond.constantLong RX2 15 (1125899906842623), Cond.methodLink RX2 17 yX2_pack, Cond.static yX2_pack, Cond.code yX2_pack cX2_pack 3 (some .long), Cond.methodLink RX3 25 yX2_lengthOf, Cond.methodLink RX3 31 yX2_letterAt, Cond.static yX2_letterAt, Cond.code yX2_letterAt cX2_letterAt 4 (some .int), Cond.methodLink RX3 39 yX3_isIn, Cond.static yX3_isIn, Cond.code yX3_isIn cX3_isIn 2 (some .boolean)]
def wsX3_lettersWinningBehind_r3 : List Cond := [Cond.methodLink RX3 43 yX3_scoreOfLetter, Cond.static yX3_scoreOfLetter, Cond.code yX3_scoreOfLetter cX3_scoreOfLetter 7 (some .int), Cond.methodLink RX3 71 yX2_with, Cond.static yX2_with, Cond.code yX2_with cX2_with 3 (some .long), Cond.methodLink RX3 75 yX0_hasCounting, Cond.instanceMethod yX0_hasCounting, Cond.selects RX0 yX0_hasCounting yX0_hasCounting, Cond.code yX0_hasCounting cX0_hasCounting 3 (some .boolean), Cond.methodLink RX0 43 yX0_isLongEnough, Cond.methodLink RX0 28 yX0_has, Cond.instanceMethod yX0_has, Cond.selects RX0 yX0_has yX0_has, Cond.code yX0_has cX0_has 3 (some .boolean), Cond.methodLink RX0 22 yX0_placeOf, Cond.instanceMethod yX0_placeOf, Cond.selects RX0 yX0_placeOf yX0_placeOf, Cond.code yX0_placeOf cX0_placeOf 4 (some .int), Cond.methodLink RX3 47 yX3_score, Cond.static yX3_score, Cond.code yX3_score cX3_score 6 (some .int), Cond.methodLink RX3 67 Lib.Math.max.name, Cond.static Lib.Math.max.name]
def wsX3_lettersWinningBehind_r4 : List Cond := [Cond.initialized "java/lang/Math", Cond.code Lib.Math.max.name Lib.Math.max.code 2 (some .int), Cond.methodLink RX3 63 yX2_isFull, Cond.static yX2_isFull, Cond.code yX2_isFull cX2_isFull 2 (some .boolean)]
def wsX3_lettersWinningBehind : List Cond := .code yX3_lettersWinningBehind cX3_lettersWinningBehind 6 (some .int) :: ((wsX3_lettersWinningBehind_r1 ++ (wsX3_lettersWinningBehind_r2 ++ (wsX3_lettersWinningBehind_r3 ++ wsX3_lettersWinningBehind_r4))) ++ wsX00)
def wsX3_moverWins_r1 : List Cond := [Cond.methodLink RX3 47 yX3_score, Cond.static yX3_score, Cond.initialized RX3, Cond.code yX3_score cX3_score 6 (some .int), Cond.methodLink RX3 67 Lib.Math.max.name, Cond.static Lib.Math.max.name, Cond.initialized "java/lang/Math", Cond.code Lib.Math.max.name Lib.Math.max.code 2 (some .int), Cond.methodLink RX3 63 yX2_isFull, Cond.static yX2_isFull, Cond.initialized RX2, Cond.code yX2_isFull cX2_isFull 2 (some .boolean), Cond.methodLink RX2 11 yX2_lengthOf, Cond.static yX2_lengthOf, Cond.code yX2_lengthOf cX2_lengthOf 2 (some .int), Cond.methodLink RX3 35 yX3_lettersOpenBehind, Cond.static yX3_lettersOpenBehind, Cond.code yX3_lettersOpenBehind cX3_lettersOpenBehind 7 (some .int), Cond.methodLink RX3 9 yX0_size, Cond.instanceMethod yX0_size, Cond.selects RX0 yX0_size yX0_size, Cond.initialized RX0, Cond.code yX0_size cX0_size 1 (some .int), Cond.fieldLink RX0 15 "GhostGame$Dictionary" "count" "I"]
def wsX3_moverWins_r2 : List Cond := [Cond.methodLink RX3 15 yX0_wordAt, Cond.instanceMethod yX0_wordAt, Cond.selects RX0 yX0_wordAt yX0_wordAt, Cond.code yX0_wordAt cX0_wordAt 2 (some .long), Cond.fieldLink RX0 9 "GhostGame$Dictionary" "words" "[J", Cond.methodLink RX3 19 yX3_leadsOn, Cond.static yX3_leadsOn, Cond.code yX3_leadsOn cX3_leadsOn 5 (some .boolean), Cond.methodLink RX3 78 yX0_isLongEnough, Cond.instanceMethod yX0_isLongEnough, Cond.selects RX0 yX0_isLongEnough yX0_isLongEnough, Cond.code yX0_isLongEnough cX0_isLongEnough 3 (some .boolean), Cond.fieldLink RX0 19 "GhostGame$Dictionary" "leastLength" "I", Cond.methodLink RX0 36 yX2_lengthOf, Cond.methodLink RX3 81 yX2_goesOnBehind, Cond.static yX2_goesOnBehind, Cond.code yX2_goesOnBehind cX2_goesOnBehind 4 (some .boolean), Cond.methodLink RX2 25 yX2_beginsWith, Cond.static yX2_beginsWith, Cond.code yX2_beginsWith cX2_beginsWith 5 (some .boolean), Cond.methodLink RX2 21 yX2_beginning, Cond.static yX2_beginning, Cond.code yX2_beginning cX2_beginning 4 (some .long), Cond.constantLong RX2 15 (1125899906842623)]
def wsX3_moverWins_r3 : List Cond := [Cond.methodLink RX2 17 yX2_pack, Cond.static yX2_pack, Cond.code yX2_pack cX2_pack 3 (some .long), Cond.methodLink RX3 25 yX2_lengthOf, Cond.methodLink RX3 31 yX2_letterAt, Cond.static yX2_letterAt, Cond.code yX2_letterAt cX2_letterAt 4 (some .int), Cond.methodLink RX3 39 yX3_isIn, Cond.static yX3_isIn, Cond.code yX3_isIn cX3_isIn 2 (some .boolean), Cond.methodLink RX3 43 yX3_scoreOfLetter, Cond.static yX3_scoreOfLetter, Cond.code yX3_scoreOfLetter cX3_scoreOfLetter 7 (some .int), Cond.methodLink RX3 71 yX2_with, Cond.static yX2_with, Cond.code yX2_with cX2_with 3 (some .long), Cond.methodLink RX3 75 yX0_hasCounting, Cond.instanceMethod yX0_hasCounting, Cond.selects RX0 yX0_hasCounting yX0_hasCounting, Cond.code yX0_hasCounting cX0_hasCounting 3 (some .boolean), Cond.methodLink RX0 43 yX0_isLongEnough, Cond.methodLink RX0 28 yX0_has, Cond.instanceMethod yX0_has, Cond.selects RX0 yX0_has yX0_has]
def wsX3_moverWins_r4 : List Cond := [Cond.code yX0_has cX0_has 3 (some .boolean), Cond.methodLink RX0 22 yX0_placeOf, Cond.instanceMethod yX0_placeOf, Cond.selects RX0 yX0_placeOf yX0_placeOf, Cond.code yX0_placeOf cX0_placeOf 4 (some .int)]
def wsX3_moverWins : List Cond := .code yX3_moverWins cX3_moverWins 3 (some .boolean) :: ((wsX3_moverWins_r1 ++ (wsX3_moverWins_r2 ++ (wsX3_moverWins_r3 ++ wsX3_moverWins_r4))) ++ wsX00)
def wsX3_endBehind_r1 : List Cond := [Cond.methodLink RX3 50 Lib.Math.abs.name, Cond.static Lib.Math.abs.name, Cond.initialized "java/lang/Math", Cond.code Lib.Math.abs.name Lib.Math.abs.code 1 (some .int), Cond.methodLink RX3 47 yX3_score, Cond.static yX3_score, Cond.initialized RX3, Cond.code yX3_score cX3_score 6 (some .int), Cond.methodLink RX3 67 Lib.Math.max.name, Cond.static Lib.Math.max.name, Cond.code Lib.Math.max.name Lib.Math.max.code 2 (some .int), Cond.methodLink RX3 63 yX2_isFull, Cond.static yX2_isFull, Cond.initialized RX2, Cond.code yX2_isFull cX2_isFull 2 (some .boolean), Cond.methodLink RX2 11 yX2_lengthOf, Cond.static yX2_lengthOf, Cond.code yX2_lengthOf cX2_lengthOf 2 (some .int), Cond.methodLink RX3 35 yX3_lettersOpenBehind, Cond.static yX3_lettersOpenBehind, Cond.code yX3_lettersOpenBehind cX3_lettersOpenBehind 7 (some .int), Cond.methodLink RX3 9 yX0_size, Cond.instanceMethod yX0_size, Cond.selects RX0 yX0_size yX0_size]
def wsX3_endBehind_r2 : List Cond := [Cond.initialized RX0, Cond.code yX0_size cX0_size 1 (some .int), Cond.fieldLink RX0 15 "GhostGame$Dictionary" "count" "I", Cond.methodLink RX3 15 yX0_wordAt, Cond.instanceMethod yX0_wordAt, Cond.selects RX0 yX0_wordAt yX0_wordAt, Cond.code yX0_wordAt cX0_wordAt 2 (some .long), Cond.fieldLink RX0 9 "GhostGame$Dictionary" "words" "[J", Cond.methodLink RX3 19 yX3_leadsOn, Cond.static yX3_leadsOn, Cond.code yX3_leadsOn cX3_leadsOn 5 (some .boolean), Cond.methodLink RX3 78 yX0_isLongEnough, Cond.instanceMethod yX0_isLongEnough, Cond.selects RX0 yX0_isLongEnough yX0_isLongEnough, Cond.code yX0_isLongEnough cX0_isLongEnough 3 (some .boolean), Cond.fieldLink RX0 19 "GhostGame$Dictionary" "leastLength" "I", Cond.methodLink RX0 36 yX2_lengthOf, Cond.methodLink RX3 81 yX2_goesOnBehind, Cond.static yX2_goesOnBehind, Cond.code yX2_goesOnBehind cX2_goesOnBehind 4 (some .boolean), Cond.methodLink RX2 25 yX2_beginsWith, Cond.static yX2_beginsWith, Cond.code yX2_beginsWith cX2_beginsWith 5 (some .boolean), Cond.methodLink RX2 21 yX2_beginning]
def wsX3_endBehind_r3 : List Cond := [Cond.static yX2_beginning, Cond.code yX2_beginning cX2_beginning 4 (some .long), Cond.constantLong RX2 15 (1125899906842623), Cond.methodLink RX2 17 yX2_pack, Cond.static yX2_pack, Cond.code yX2_pack cX2_pack 3 (some .long), Cond.methodLink RX3 25 yX2_lengthOf, Cond.methodLink RX3 31 yX2_letterAt, Cond.static yX2_letterAt, Cond.code yX2_letterAt cX2_letterAt 4 (some .int), Cond.methodLink RX3 39 yX3_isIn, Cond.static yX3_isIn, Cond.code yX3_isIn cX3_isIn 2 (some .boolean), Cond.methodLink RX3 43 yX3_scoreOfLetter, Cond.static yX3_scoreOfLetter, Cond.code yX3_scoreOfLetter cX3_scoreOfLetter 7 (some .int), Cond.methodLink RX3 71 yX2_with, Cond.static yX2_with, Cond.code yX2_with cX2_with 3 (some .long), Cond.methodLink RX3 75 yX0_hasCounting, Cond.instanceMethod yX0_hasCounting, Cond.selects RX0 yX0_hasCounting yX0_hasCounting, Cond.code yX0_hasCounting cX0_hasCounting 3 (some .boolean), Cond.methodLink RX0 43 yX0_isLongEnough]
def wsX3_endBehind_r4 : List Cond := [Cond.methodLink RX0 28 yX0_has, Cond.instanceMethod yX0_has, Cond.selects RX0 yX0_has yX0_has, Cond.code yX0_has cX0_has 3 (some .boolean), Cond.methodLink RX0 22 yX0_placeOf, Cond.instanceMethod yX0_placeOf, Cond.selects RX0 yX0_placeOf yX0_placeOf, Cond.code yX0_placeOf cX0_placeOf 4 (some .int)]
def wsX3_endBehind : List Cond := .code yX3_endBehind cX3_endBehind 3 (some .int) :: ((wsX3_endBehind_r1 ++ (wsX3_endBehind_r2 ++ (wsX3_endBehind_r3 ++ wsX3_endBehind_r4))) ++ wsX00)
def wsX3_letterChosenBehind_r1 : List Cond := [Cond.methodLink RX3 35 yX3_lettersOpenBehind, Cond.static yX3_lettersOpenBehind, Cond.initialized RX3, Cond.code yX3_lettersOpenBehind cX3_lettersOpenBehind 7 (some .int), Cond.methodLink RX3 9 yX0_size, Cond.instanceMethod yX0_size, Cond.selects RX0 yX0_size yX0_size, Cond.initialized RX0, Cond.code yX0_size cX0_size 1 (some .int), Cond.fieldLink RX0 15 "GhostGame$Dictionary" "count" "I", Cond.methodLink RX3 15 yX0_wordAt, Cond.instanceMethod yX0_wordAt, Cond.selects RX0 yX0_wordAt yX0_wordAt, Cond.code yX0_wordAt cX0_wordAt 2 (some .long), Cond.fieldLink RX0 9 "GhostGame$Dictionary" "words" "[J", Cond.methodLink RX3 19 yX3_leadsOn, Cond.static yX3_leadsOn, Cond.code yX3_leadsOn cX3_leadsOn 5 (some .boolean), Cond.methodLink RX3 78 yX0_isLongEnough, Cond.instanceMethod yX0_isLongEnough, Cond.selects RX0 yX0_isLongEnough yX0_isLongEnough, Cond.code yX0_isLongEnough cX0_isLongEnough 3 (some .boolean), Cond.fieldLink RX0 19 "GhostGame$Dictionary" "leastLength" "I", Cond.methodLink RX0 36 yX2_lengthOf]
def wsX3_letterChosenBehind_r2 : List Cond := [Cond.static yX2_lengthOf, Cond.initialized RX2, Cond.code yX2_lengthOf cX2_lengthOf 2 (some .int), Cond.methodLink RX3 81 yX2_goesOnBehind, Cond.static yX2_goesOnBehind, Cond.code yX2_goesOnBehind cX2_goesOnBehind 4 (some .boolean), Cond.methodLink RX2 25 yX2_beginsWith, Cond.static yX2_beginsWith, Cond.code yX2_beginsWith cX2_beginsWith 5 (some .boolean), Cond.methodLink RX2 11 yX2_lengthOf, Cond.methodLink RX2 21 yX2_beginning, Cond.static yX2_beginning, Cond.code yX2_beginning cX2_beginning 4 (some .long), Cond.constantLong RX2 15 (1125899906842623), Cond.methodLink RX2 17 yX2_pack, Cond.static yX2_pack, Cond.code yX2_pack cX2_pack 3 (some .long), Cond.methodLink RX3 25 yX2_lengthOf, Cond.methodLink RX3 31 yX2_letterAt, Cond.static yX2_letterAt, Cond.code yX2_letterAt cX2_letterAt 4 (some .int), Cond.methodLink RX3 47 yX3_score, Cond.static yX3_score, Cond.code yX3_score cX3_score 6 (some .int)]
def wsX3_letterChosenBehind_r3 : List Cond := [Cond.methodLink RX3 67 Lib.Math.max.name, Cond.static Lib.Math.max.name, Cond.initialized "java/lang/Math", Cond.code Lib.Math.max.name Lib.Math.max.code 2 (some .int), Cond.methodLink RX3 63 yX2_isFull, Cond.static yX2_isFull, Cond.code yX2_isFull cX2_isFull 2 (some .boolean), Cond.methodLink RX3 39 yX3_isIn, Cond.static yX3_isIn, Cond.code yX3_isIn cX3_isIn 2 (some .boolean), Cond.methodLink RX3 43 yX3_scoreOfLetter, Cond.static yX3_scoreOfLetter, Cond.code yX3_scoreOfLetter cX3_scoreOfLetter 7 (some .int), Cond.methodLink RX3 71 yX2_with, Cond.static yX2_with, Cond.code yX2_with cX2_with 3 (some .long), Cond.methodLink RX3 75 yX0_hasCounting, Cond.instanceMethod yX0_hasCounting, Cond.selects RX0 yX0_hasCounting yX0_hasCounting, Cond.code yX0_hasCounting cX0_hasCounting 3 (some .boolean), Cond.methodLink RX0 43 yX0_isLongEnough, Cond.methodLink RX0 28 yX0_has, Cond.instanceMethod yX0_has, Cond.selects RX0 yX0_has yX0_has]
def wsX3_letterChosenBehind_r4 : List Cond := [Cond.code yX0_has cX0_has 3 (some .boolean), Cond.methodLink RX0 22 yX0_placeOf, Cond.instanceMethod yX0_placeOf, Cond.selects RX0 yX0_placeOf yX0_placeOf, Cond.code yX0_placeOf cX0_placeOf 4 (some .int)]
def wsX3_letterChosenBehind : List Cond := .code yX3_letterChosenBehind cX3_letterChosenBehind 6 (some .int) :: ((wsX3_letterChosenBehind_r1 ++ (wsX3_letterChosenBehind_r2 ++ (wsX3_letterChosenBehind_r3 ++ wsX3_letterChosenBehind_r4))) ++ wsX00)
def wsX3_isWay_r1 : List Cond := [Cond.methodLink RX3 19 yX3_leadsOn, Cond.static yX3_leadsOn, Cond.initialized RX3, Cond.code yX3_leadsOn cX3_leadsOn 5 (some .boolean), Cond.methodLink RX3 78 yX0_isLongEnough, Cond.instanceMethod yX0_isLongEnough, Cond.selects RX0 yX0_isLongEnough yX0_isLongEnough, Cond.initialized RX0, Cond.code yX0_isLongEnough cX0_isLongEnough 3 (some .boolean), Cond.fieldLink RX0 19 "GhostGame$Dictionary" "leastLength" "I", Cond.methodLink RX0 36 yX2_lengthOf, Cond.static yX2_lengthOf, Cond.initialized RX2, Cond.code yX2_lengthOf cX2_lengthOf 2 (some .int), Cond.methodLink RX3 81 yX2_goesOnBehind, Cond.static yX2_goesOnBehind, Cond.code yX2_goesOnBehind cX2_goesOnBehind 4 (some .boolean), Cond.methodLink RX2 25 yX2_beginsWith, Cond.static yX2_beginsWith, Cond.code yX2_beginsWith cX2_beginsWith 5 (some .boolean), Cond.methodLink RX2 11 yX2_lengthOf, Cond.methodLink RX2 21 yX2_beginning, Cond.static yX2_beginning, Cond.code yX2_beginning cX2_beginning 4 (some .long)]
def wsX3_isWay_r2 : List Cond := [Cond.constantLong RX2 15 (1125899906842623), Cond.methodLink RX2 17 yX2_pack, Cond.static yX2_pack, Cond.code yX2_pack cX2_pack 3 (some .long), Cond.methodLink RX3 25 yX2_lengthOf, Cond.methodLink RX3 84 yX2_beginning, Cond.methodLink RX3 75 yX0_hasCounting, Cond.instanceMethod yX0_hasCounting, Cond.selects RX0 yX0_hasCounting yX0_hasCounting, Cond.code yX0_hasCounting cX0_hasCounting 3 (some .boolean), Cond.methodLink RX0 43 yX0_isLongEnough, Cond.methodLink RX0 28 yX0_has, Cond.instanceMethod yX0_has, Cond.selects RX0 yX0_has yX0_has, Cond.code yX0_has cX0_has 3 (some .boolean), Cond.methodLink RX0 22 yX0_placeOf, Cond.instanceMethod yX0_placeOf, Cond.selects RX0 yX0_placeOf yX0_placeOf, Cond.code yX0_placeOf cX0_placeOf 4 (some .int), Cond.fieldLink RX0 15 "GhostGame$Dictionary" "count" "I", Cond.fieldLink RX0 9 "GhostGame$Dictionary" "words" "[J"]
def wsX3_isWay : List Cond := .code yX3_isWay cX3_isWay 6 (some .boolean) :: ((wsX3_isWay_r1 ++ wsX3_isWay_r2) ++ wsX00)
def wsX3_countWays_r1 : List Cond := [Cond.methodLink RX3 9 yX0_size, Cond.instanceMethod yX0_size, Cond.selects RX0 yX0_size yX0_size, Cond.initialized RX0, Cond.code yX0_size cX0_size 1 (some .int), Cond.fieldLink RX0 15 "GhostGame$Dictionary" "count" "I", Cond.methodLink RX3 15 yX0_wordAt, Cond.instanceMethod yX0_wordAt, Cond.selects RX0 yX0_wordAt yX0_wordAt, Cond.code yX0_wordAt cX0_wordAt 2 (some .long), Cond.fieldLink RX0 9 "GhostGame$Dictionary" "words" "[J", Cond.methodLink RX3 56 yX3_isWay, Cond.static yX3_isWay, Cond.initialized RX3, Cond.code yX3_isWay cX3_isWay 6 (some .boolean), Cond.methodLink RX3 19 yX3_leadsOn, Cond.static yX3_leadsOn, Cond.code yX3_leadsOn cX3_leadsOn 5 (some .boolean), Cond.methodLink RX3 78 yX0_isLongEnough, Cond.instanceMethod yX0_isLongEnough, Cond.selects RX0 yX0_isLongEnough yX0_isLongEnough, Cond.code yX0_isLongEnough cX0_isLongEnough 3 (some .boolean), Cond.fieldLink RX0 19 "GhostGame$Dictionary" "leastLength" "I", Cond.methodLink RX0 36 yX2_lengthOf]
def wsX3_countWays_r2 : List Cond := [Cond.static yX2_lengthOf, Cond.initialized RX2, Cond.code yX2_lengthOf cX2_lengthOf 2 (some .int), Cond.methodLink RX3 81 yX2_goesOnBehind, Cond.static yX2_goesOnBehind, Cond.code yX2_goesOnBehind cX2_goesOnBehind 4 (some .boolean), Cond.methodLink RX2 25 yX2_beginsWith, Cond.static yX2_beginsWith, Cond.code yX2_beginsWith cX2_beginsWith 5 (some .boolean), Cond.methodLink RX2 11 yX2_lengthOf, Cond.methodLink RX2 21 yX2_beginning, Cond.static yX2_beginning, Cond.code yX2_beginning cX2_beginning 4 (some .long), Cond.constantLong RX2 15 (1125899906842623), Cond.methodLink RX2 17 yX2_pack, Cond.static yX2_pack, Cond.code yX2_pack cX2_pack 3 (some .long), Cond.methodLink RX3 25 yX2_lengthOf, Cond.methodLink RX3 84 yX2_beginning, Cond.methodLink RX3 75 yX0_hasCounting, Cond.instanceMethod yX0_hasCounting, Cond.selects RX0 yX0_hasCounting yX0_hasCounting, Cond.code yX0_hasCounting cX0_hasCounting 3 (some .boolean), Cond.methodLink RX0 43 yX0_isLongEnough]
def wsX3_countWays_r3 : List Cond := [Cond.methodLink RX0 28 yX0_has, Cond.instanceMethod yX0_has, Cond.selects RX0 yX0_has yX0_has, Cond.code yX0_has cX0_has 3 (some .boolean), Cond.methodLink RX0 22 yX0_placeOf, Cond.instanceMethod yX0_placeOf, Cond.selects RX0 yX0_placeOf yX0_placeOf, Cond.code yX0_placeOf cX0_placeOf 4 (some .int)]
def wsX3_countWays : List Cond := .code yX3_countWays cX3_countWays 5 (some .int) :: ((wsX3_countWays_r1 ++ (wsX3_countWays_r2 ++ wsX3_countWays_r3)) ++ wsX00)
def wsX3_otherSideCompletes : List Cond := .code yX3_otherSideCompletes cX3_otherSideCompletes 4 (some .boolean) :: ([.methodLink RX3 25 yX2_lengthOf, .static yX2_lengthOf, .initialized RX2, .code yX2_lengthOf cX2_lengthOf 2 (some .int)])
def wsX3_countWonWays_r1 : List Cond := [Cond.methodLink RX3 9 yX0_size, Cond.instanceMethod yX0_size, Cond.selects RX0 yX0_size yX0_size, Cond.initialized RX0, Cond.code yX0_size cX0_size 1 (some .int), Cond.fieldLink RX0 15 "GhostGame$Dictionary" "count" "I", Cond.methodLink RX3 15 yX0_wordAt, Cond.instanceMethod yX0_wordAt, Cond.selects RX0 yX0_wordAt yX0_wordAt, Cond.code yX0_wordAt cX0_wordAt 2 (some .long), Cond.fieldLink RX0 9 "GhostGame$Dictionary" "words" "[J", Cond.methodLink RX3 56 yX3_isWay, Cond.static yX3_isWay, Cond.initialized RX3, Cond.code yX3_isWay cX3_isWay 6 (some .boolean), Cond.methodLink RX3 19 yX3_leadsOn, Cond.static yX3_leadsOn, Cond.code yX3_leadsOn cX3_leadsOn 5 (some .boolean), Cond.methodLink RX3 78 yX0_isLongEnough, Cond.instanceMethod yX0_isLongEnough, Cond.selects RX0 yX0_isLongEnough yX0_isLongEnough, Cond.code yX0_isLongEnough cX0_isLongEnough 3 (some .boolean), Cond.fieldLink RX0 19 "GhostGame$Dictionary" "leastLength" "I", Cond.methodLink RX0 36 yX2_lengthOf]
def wsX3_countWonWays_r2 : List Cond := [Cond.static yX2_lengthOf, Cond.initialized RX2, Cond.code yX2_lengthOf cX2_lengthOf 2 (some .int), Cond.methodLink RX3 81 yX2_goesOnBehind, Cond.static yX2_goesOnBehind, Cond.code yX2_goesOnBehind cX2_goesOnBehind 4 (some .boolean), Cond.methodLink RX2 25 yX2_beginsWith, Cond.static yX2_beginsWith, Cond.code yX2_beginsWith cX2_beginsWith 5 (some .boolean), Cond.methodLink RX2 11 yX2_lengthOf, Cond.methodLink RX2 21 yX2_beginning, Cond.static yX2_beginning, Cond.code yX2_beginning cX2_beginning 4 (some .long), Cond.constantLong RX2 15 (1125899906842623), Cond.methodLink RX2 17 yX2_pack, Cond.static yX2_pack, Cond.code yX2_pack cX2_pack 3 (some .long), Cond.methodLink RX3 25 yX2_lengthOf, Cond.methodLink RX3 84 yX2_beginning, Cond.methodLink RX3 75 yX0_hasCounting, Cond.instanceMethod yX0_hasCounting, Cond.selects RX0 yX0_hasCounting yX0_hasCounting, Cond.code yX0_hasCounting cX0_hasCounting 3 (some .boolean), Cond.methodLink RX0 43 yX0_isLongEnough]
def wsX3_countWonWays_r3 : List Cond := [Cond.methodLink RX0 28 yX0_has, Cond.instanceMethod yX0_has, Cond.selects RX0 yX0_has yX0_has, Cond.code yX0_has cX0_has 3 (some .boolean), Cond.methodLink RX0 22 yX0_placeOf, Cond.instanceMethod yX0_placeOf, Cond.selects RX0 yX0_placeOf yX0_placeOf, Cond.code yX0_placeOf cX0_placeOf 4 (some .int), Cond.methodLink RX3 59 yX3_otherSideCompletes, Cond.static yX3_otherSideCompletes, Cond.code yX3_otherSideCompletes cX3_otherSideCompletes 4 (some .boolean)]
def wsX3_countWonWays : List Cond := .code yX3_countWonWays cX3_countWonWays 7 (some .int) :: ((wsX3_countWonWays_r1 ++ (wsX3_countWonWays_r2 ++ wsX3_countWonWays_r3)) ++ wsX00)
def wsX4_init_r1 : List Cond := [Cond.methodLink RX4 1 objectInit, Cond.instanceMethod objectInit, Cond.code objectInit ⟨#[0xb1]⟩ 1 none, Cond.classLink RX4 7 RX0, Cond.instantiable RX0 3, Cond.initialized RX0, Cond.fieldLink RX4 10 "GhostGame" "dictionary" "LGhostGame$Dictionary;", Cond.classLink RX4 16 RX1, Cond.instantiable RX1 6, Cond.initialized RX1, Cond.fieldLink RX4 19 "GhostGame" "game" "LGhostGame$Game;", Cond.fieldLink RX4 25 "GhostGame" "slip" "J", Cond.methodLink RX4 9 yX0_init, Cond.instanceMethod yX0_init, Cond.code yX0_init cX0_init 1 none, Cond.methodLink RX0 3 objectInit, Cond.arrayClass .long, Cond.fieldLink RX0 9 "GhostGame$Dictionary" "words" "[J", Cond.fieldLink RX0 15 "GhostGame$Dictionary" "count" "I", Cond.fieldLink RX0 19 "GhostGame$Dictionary" "leastLength" "I", Cond.methodLink RX4 18 yX1_init, Cond.instanceMethod yX1_init, Cond.code yX1_init cX1_init 1 none, Cond.methodLink RX1 3 objectInit]
def wsX4_init_r2 : List Cond := [Cond.arrayClass .int, Cond.fieldLink RX1 9 "GhostGame$Game" "strikes" "[I", Cond.fieldLink RX1 15 "GhostGame$Game" "playerCount" "I", Cond.fieldLink RX1 19 "GhostGame$Game" "mover" "I", Cond.fieldLink RX1 22 "GhostGame$Game" "lastMover" "I", Cond.fieldLink RX1 25 "GhostGame$Game" "champion" "I", Cond.fieldLink RX1 30 "GhostGame$Game" "fragment" "J"]
def wsX4_init : List Cond := .code yX4_init cX4_init 1 none :: ((wsX4_init_r1 ++ wsX4_init_r2) ++ wsX00 ++ wsX40 ++ wsX10)
def wsX4_isLetter : List Cond := .code yX4_isLetter cX4_isLetter 1 (some .boolean) :: ([])
def wsX4_write : List Cond := .code yX4_write cX4_write 2 (some .int) :: ([.classLink RX4 33 "java/lang/IllegalArgumentException", .initialized "java/lang/IllegalArgumentException", .classLink RX4 44 "java/lang/IllegalStateException", .initialized "java/lang/IllegalStateException", .fieldLink RX4 25 "GhostGame" "slip" "J", .methodLink RX4 29 yX4_isLetter, .static yX4_isLetter, .initialized RX4, .code yX4_isLetter cX4_isLetter 1 (some .boolean), .methodLink RX4 40 yX2_isFull, .static yX2_isFull, .initialized RX2, .code yX2_isFull cX2_isFull 2 (some .boolean), .methodLink RX2 11 yX2_lengthOf, .static yX2_lengthOf, .code yX2_lengthOf cX2_lengthOf 2 (some .int), .methodLink RX4 49 yX2_with, .static yX2_with, .code yX2_with cX2_with 3 (some .long), .constantLong RX2 15 (1125899906842623), .methodLink RX2 17 yX2_pack, .static yX2_pack, .code yX2_pack cX2_pack 3 (some .long), .methodLink RX4 53 yX2_lengthOf] ++ wsX40 ++ (vx_atS RX4 37 "java/lang/IllegalArgumentException" ["java/lang/RuntimeException", "java/lang/Exception"]).filter goodWord ++ (vx_atS RX4 48 "java/lang/IllegalStateException" ["java/lang/RuntimeException", "java/lang/Exception"]).filter goodWord)
def wsX4_wipe : List Cond := .code yX4_wipe cX4_wipe 2 (some .int) :: ([.fieldLink RX4 25 "GhostGame" "slip" "J", .methodLink RX4 53 yX2_lengthOf, .static yX2_lengthOf, .initialized RX2, .code yX2_lengthOf cX2_lengthOf 2 (some .int)] ++ wsX40)
def wsX4_slipLength : List Cond := .code yX4_slipLength cX4_slipLength 1 (some .int) :: ([.fieldLink RX4 25 "GhostGame" "slip" "J", .methodLink RX4 53 yX2_lengthOf, .static yX2_lengthOf, .initialized RX2, .code yX2_lengthOf cX2_lengthOf 2 (some .int)] ++ wsX40)
def wsX4_slipAt : List Cond := .code yX4_slipAt cX4_slipAt 3 (some .int) :: ([.classLink RX4 61 "java/lang/IndexOutOfBoundsException", .initialized "java/lang/IndexOutOfBoundsException", .fieldLink RX4 25 "GhostGame" "slip" "J", .methodLink RX4 57 yX2_letterAt, .static yX2_letterAt, .initialized RX2, .code yX2_letterAt cX2_letterAt 4 (some .int), .methodLink RX2 11 yX2_lengthOf, .static yX2_lengthOf, .code yX2_lengthOf cX2_lengthOf 2 (some .int)] ++ wsX40 ++ (vx_atS RX4 65 "java/lang/IndexOutOfBoundsException" ["java/lang/RuntimeException", "java/lang/Exception"]).filter goodWord)
def wsX4_addWord_r1 : List Cond := [Cond.classLink RX4 33 "java/lang/IllegalArgumentException", Cond.initialized "java/lang/IllegalArgumentException", Cond.classLink RX4 44 "java/lang/IllegalStateException", Cond.initialized "java/lang/IllegalStateException", Cond.fieldLink RX4 25 "GhostGame" "slip" "J", Cond.fieldLink RX4 10 "GhostGame" "dictionary" "LGhostGame$Dictionary;", Cond.methodLink RX4 53 yX2_lengthOf, Cond.static yX2_lengthOf, Cond.initialized RX2, Cond.code yX2_lengthOf cX2_lengthOf 2 (some .int), Cond.methodLink RX4 68 yX0_add, Cond.instanceMethod yX0_add, Cond.selects RX0 yX0_add yX0_add, Cond.initialized RX0, Cond.code yX0_add cX0_add 4 (some .boolean), Cond.fieldLink RX0 15 "GhostGame$Dictionary" "count" "I", Cond.fieldLink RX0 9 "GhostGame$Dictionary" "words" "[J", Cond.methodLink RX0 28 yX0_has, Cond.instanceMethod yX0_has, Cond.selects RX0 yX0_has yX0_has, Cond.code yX0_has cX0_has 3 (some .boolean), Cond.methodLink RX0 22 yX0_placeOf, Cond.instanceMethod yX0_placeOf, Cond.selects RX0 yX0_placeOf yX0_placeOf]
def wsX4_addWord_r2 : List Cond := [Cond.code yX0_placeOf cX0_placeOf 4 (some .int), Cond.methodLink RX4 73 yX0_size, Cond.instanceMethod yX0_size, Cond.selects RX0 yX0_size yX0_size, Cond.code yX0_size cX0_size 1 (some .int)]
def wsX4_addWord : List Cond := .code yX4_addWord cX4_addWord 1 (some .int) :: ((wsX4_addWord_r1 ++ wsX4_addWord_r2) ++ wsX40 ++ wsX00 ++ (vx_atS RX4 37 "java/lang/IllegalArgumentException" ["java/lang/RuntimeException", "java/lang/Exception"]).filter goodWord ++ (vx_atS RX4 48 "java/lang/IllegalStateException" ["java/lang/RuntimeException", "java/lang/Exception"]).filter goodWord)
def wsX4_removeWord : List Cond := .code yX4_removeWord cX4_removeWord 1 (some .int) :: ([.classLink RX4 44 "java/lang/IllegalStateException", .initialized "java/lang/IllegalStateException", .fieldLink RX4 10 "GhostGame" "dictionary" "LGhostGame$Dictionary;", .fieldLink RX4 25 "GhostGame" "slip" "J", .methodLink RX4 77 yX0_remove, .instanceMethod yX0_remove, .selects RX0 yX0_remove yX0_remove, .initialized RX0, .code yX0_remove cX0_remove 5 (some .boolean), .fieldLink RX0 15 "GhostGame$Dictionary" "count" "I", .fieldLink RX0 9 "GhostGame$Dictionary" "words" "[J", .methodLink RX0 22 yX0_placeOf, .instanceMethod yX0_placeOf, .selects RX0 yX0_placeOf yX0_placeOf, .code yX0_placeOf cX0_placeOf 4 (some .int), .methodLink RX4 73 yX0_size, .instanceMethod yX0_size, .selects RX0 yX0_size yX0_size, .code yX0_size cX0_size 1 (some .int)] ++ wsX40 ++ wsX00 ++ (vx_atS RX4 48 "java/lang/IllegalStateException" ["java/lang/RuntimeException", "java/lang/Exception"]).filter goodWord)
def wsX4_isWord : List Cond := .code yX4_isWord cX4_isWord 1 (some .boolean) :: ([.fieldLink RX4 10 "GhostGame" "dictionary" "LGhostGame$Dictionary;", .fieldLink RX4 25 "GhostGame" "slip" "J", .methodLink RX4 82 yX0_has, .instanceMethod yX0_has, .selects RX0 yX0_has yX0_has, .initialized RX0, .code yX0_has cX0_has 3 (some .boolean), .methodLink RX0 22 yX0_placeOf, .instanceMethod yX0_placeOf, .selects RX0 yX0_placeOf yX0_placeOf, .code yX0_placeOf cX0_placeOf 4 (some .int), .fieldLink RX0 15 "GhostGame$Dictionary" "count" "I", .fieldLink RX0 9 "GhostGame$Dictionary" "words" "[J"] ++ wsX40 ++ wsX00)
def wsX4_words : List Cond := .code yX4_words cX4_words 1 (some .int) :: ([.fieldLink RX4 10 "GhostGame" "dictionary" "LGhostGame$Dictionary;", .methodLink RX4 73 yX0_size, .instanceMethod yX0_size, .selects RX0 yX0_size yX0_size, .initialized RX0, .code yX0_size cX0_size 1 (some .int), .fieldLink RX0 15 "GhostGame$Dictionary" "count" "I"] ++ wsX40 ++ wsX00)
def wsX4_wordsFromSlip : List Cond := .code yX4_wordsFromSlip cX4_wordsFromSlip 1 (some .int) :: ([.fieldLink RX4 10 "GhostGame" "dictionary" "LGhostGame$Dictionary;", .fieldLink RX4 25 "GhostGame" "slip" "J", .methodLink RX4 85 yX0_countFrom, .instanceMethod yX0_countFrom, .selects RX0 yX0_countFrom yX0_countFrom, .initialized RX0, .code yX0_countFrom cX0_countFrom 5 (some .int), .fieldLink RX0 15 "GhostGame$Dictionary" "count" "I", .fieldLink RX0 9 "GhostGame$Dictionary" "words" "[J", .methodLink RX0 32 yX2_beginsWith, .static yX2_beginsWith, .initialized RX2, .code yX2_beginsWith cX2_beginsWith 5 (some .boolean), .methodLink RX2 11 yX2_lengthOf, .static yX2_lengthOf, .code yX2_lengthOf cX2_lengthOf 2 (some .int), .methodLink RX2 21 yX2_beginning, .static yX2_beginning, .code yX2_beginning cX2_beginning 4 (some .long), .constantLong RX2 15 (1125899906842623), .methodLink RX2 17 yX2_pack, .static yX2_pack, .code yX2_pack cX2_pack 3 (some .long)] ++ wsX40 ++ wsX00)
def wsX4_beginnings_r1 : List Cond := [Cond.fieldLink RX4 10 "GhostGame" "dictionary" "LGhostGame$Dictionary;", Cond.methodLink RX4 88 yX0_countBeginnings, Cond.instanceMethod yX0_countBeginnings, Cond.selects RX0 yX0_countBeginnings yX0_countBeginnings, Cond.initialized RX0, Cond.code yX0_countBeginnings cX0_countBeginnings 3 (some .int), Cond.fieldLink RX0 15 "GhostGame$Dictionary" "count" "I", Cond.fieldLink RX0 9 "GhostGame$Dictionary" "words" "[J", Cond.methodLink RX0 36 yX2_lengthOf, Cond.static yX2_lengthOf, Cond.initialized RX2, Cond.code yX2_lengthOf cX2_lengthOf 2 (some .int), Cond.methodLink RX0 39 yX0_lengthSharedBefore, Cond.instanceMethod yX0_lengthSharedBefore, Cond.selects RX0 yX0_lengthSharedBefore yX0_lengthSharedBefore, Cond.code yX0_lengthSharedBefore cX0_lengthSharedBefore 4 (some .int), Cond.methodLink RX0 50 Lib.Math.max.name, Cond.static Lib.Math.max.name, Cond.initialized "java/lang/Math", Cond.code Lib.Math.max.name Lib.Math.max.code 2 (some .int), Cond.methodLink RX0 46 yX2_lengthShared, Cond.static yX2_lengthShared, Cond.code yX2_lengthShared cX2_lengthShared 5 (some .int), Cond.methodLink RX2 29 Lib.Math.min.name]
def wsX4_beginnings_r2 : List Cond := [Cond.static Lib.Math.min.name, Cond.code Lib.Math.min.name Lib.Math.min.code 2 (some .int), Cond.methodLink RX2 11 yX2_lengthOf, Cond.methodLink RX2 21 yX2_beginning, Cond.static yX2_beginning, Cond.code yX2_beginning cX2_beginning 4 (some .long), Cond.constantLong RX2 15 (1125899906842623), Cond.methodLink RX2 17 yX2_pack, Cond.static yX2_pack, Cond.code yX2_pack cX2_pack 3 (some .long)]
def wsX4_beginnings : List Cond := .code yX4_beginnings cX4_beginnings 1 (some .int) :: ((wsX4_beginnings_r1 ++ wsX4_beginnings_r2) ++ wsX40 ++ wsX00)
def wsX4_copyWord : List Cond := .code yX4_copyWord cX4_copyWord 4 (some .int) :: ([.classLink RX4 61 "java/lang/IndexOutOfBoundsException", .initialized "java/lang/IndexOutOfBoundsException", .fieldLink RX4 10 "GhostGame" "dictionary" "LGhostGame$Dictionary;", .fieldLink RX4 25 "GhostGame" "slip" "J", .methodLink RX4 91 yX0_wordAt, .instanceMethod yX0_wordAt, .selects RX0 yX0_wordAt yX0_wordAt, .initialized RX0, .code yX0_wordAt cX0_wordAt 2 (some .long), .fieldLink RX0 15 "GhostGame$Dictionary" "count" "I", .fieldLink RX0 9 "GhostGame$Dictionary" "words" "[J", .methodLink RX4 53 yX2_lengthOf, .static yX2_lengthOf, .initialized RX2, .code yX2_lengthOf cX2_lengthOf 2 (some .int)] ++ wsX40 ++ wsX00 ++ (vx_atS RX4 65 "java/lang/IndexOutOfBoundsException" ["java/lang/RuntimeException", "java/lang/Exception"]).filter goodWord)
def wsX4_setLeastLength : List Cond := .code yX4_setLeastLength cX4_setLeastLength 2 (some .int) :: ([.classLink RX4 33 "java/lang/IllegalArgumentException", .initialized "java/lang/IllegalArgumentException", .fieldLink RX4 10 "GhostGame" "dictionary" "LGhostGame$Dictionary;", .methodLink RX4 99 yX0_changeLeastLength, .instanceMethod yX0_changeLeastLength, .selects RX0 yX0_changeLeastLength yX0_changeLeastLength, .initialized RX0, .code yX0_changeLeastLength cX0_changeLeastLength 3 (some .int), .fieldLink RX0 19 "GhostGame$Dictionary" "leastLength" "I"] ++ wsX40 ++ wsX00 ++ (vx_atS RX4 37 "java/lang/IllegalArgumentException" ["java/lang/RuntimeException", "java/lang/Exception"]).filter goodWord)
def wsX4_start : List Cond := .code yX4_start cX4_start 2 none :: ([.classLink RX4 33 "java/lang/IllegalArgumentException", .initialized "java/lang/IllegalArgumentException", .fieldLink RX4 19 "GhostGame" "game" "LGhostGame$Game;", .methodLink RX4 105 yX1_begin, .instanceMethod yX1_begin, .selects RX1 yX1_begin yX1_begin, .initialized RX1, .code yX1_begin cX1_begin 3 none, .fieldLink RX1 9 "GhostGame$Game" "strikes" "[I", .fieldLink RX1 15 "GhostGame$Game" "playerCount" "I", .fieldLink RX1 19 "GhostGame$Game" "mover" "I", .fieldLink RX1 22 "GhostGame$Game" "lastMover" "I", .fieldLink RX1 25 "GhostGame$Game" "champion" "I", .fieldLink RX1 30 "GhostGame$Game" "fragment" "J"] ++ wsX40 ++ wsX10 ++ (vx_atS RX4 37 "java/lang/IllegalArgumentException" ["java/lang/RuntimeException", "java/lang/Exception"]).filter goodWord)
def wsX4_play_r1 : List Cond := [Cond.classLink RX4 33 "java/lang/IllegalArgumentException", Cond.initialized "java/lang/IllegalArgumentException", Cond.classLink RX4 44 "java/lang/IllegalStateException", Cond.initialized "java/lang/IllegalStateException", Cond.fieldLink RX4 19 "GhostGame" "game" "LGhostGame$Game;", Cond.fieldLink RX4 10 "GhostGame" "dictionary" "LGhostGame$Dictionary;", Cond.methodLink RX4 29 yX4_isLetter, Cond.static yX4_isLetter, Cond.initialized RX4, Cond.code yX4_isLetter cX4_isLetter 1 (some .boolean), Cond.methodLink RX4 109 yX1_isOn, Cond.instanceMethod yX1_isOn, Cond.selects RX1 yX1_isOn yX1_isOn, Cond.initialized RX1, Cond.code yX1_isOn cX1_isOn 1 (some .boolean), Cond.fieldLink RX1 19 "GhostGame$Game" "mover" "I", Cond.methodLink RX4 113 yX1_fragment, Cond.instanceMethod yX1_fragment, Cond.selects RX1 yX1_fragment yX1_fragment, Cond.code yX1_fragment cX1_fragment 1 (some .long), Cond.fieldLink RX1 30 "GhostGame$Game" "fragment" "J", Cond.methodLink RX4 40 yX2_isFull, Cond.static yX2_isFull, Cond.initialized RX2]
def wsX4_play_r2 : List Cond := [Cond.code yX2_isFull cX2_isFull 2 (some .boolean), Cond.methodLink RX2 11 yX2_lengthOf, Cond.static yX2_lengthOf, Cond.code yX2_lengthOf cX2_lengthOf 2 (some .int), Cond.methodLink RX4 119 yX1_addLetter, Cond.instanceMethod yX1_addLetter, Cond.selects RX1 yX1_addLetter yX1_addLetter, Cond.code yX1_addLetter cX1_addLetter 3 (some .int), Cond.fieldLink RX1 22 "GhostGame$Game" "lastMover" "I", Cond.methodLink RX1 38 yX2_with, Cond.static yX2_with, Cond.code yX2_with cX2_with 3 (some .long), Cond.constantLong RX2 15 (1125899906842623), Cond.methodLink RX2 17 yX2_pack, Cond.static yX2_pack, Cond.code yX2_pack cX2_pack 3 (some .long), Cond.methodLink RX1 42 yX0_hasCounting, Cond.instanceMethod yX0_hasCounting, Cond.selects RX0 yX0_hasCounting yX0_hasCounting, Cond.initialized RX0, Cond.code yX0_hasCounting cX0_hasCounting 3 (some .boolean), Cond.methodLink RX0 43 yX0_isLongEnough, Cond.instanceMethod yX0_isLongEnough, Cond.selects RX0 yX0_isLongEnough yX0_isLongEnough]
def wsX4_play_r3 : List Cond := [Cond.code yX0_isLongEnough cX0_isLongEnough 3 (some .boolean), Cond.fieldLink RX0 19 "GhostGame$Dictionary" "leastLength" "I", Cond.methodLink RX0 36 yX2_lengthOf, Cond.methodLink RX0 28 yX0_has, Cond.instanceMethod yX0_has, Cond.selects RX0 yX0_has yX0_has, Cond.code yX0_has cX0_has 3 (some .boolean), Cond.methodLink RX0 22 yX0_placeOf, Cond.instanceMethod yX0_placeOf, Cond.selects RX0 yX0_placeOf yX0_placeOf, Cond.code yX0_placeOf cX0_placeOf 4 (some .int), Cond.fieldLink RX0 15 "GhostGame$Dictionary" "count" "I", Cond.fieldLink RX0 9 "GhostGame$Dictionary" "words" "[J", Cond.methodLink RX1 48 yX1_endRound, Cond.instanceMethod yX1_endRound, Cond.selects RX1 yX1_endRound yX1_endRound, Cond.code yX1_endRound cX1_endRound 2 (some .int), Cond.fieldLink RX1 9 "GhostGame$Game" "strikes" "[I", Cond.fieldLink RX1 25 "GhostGame$Game" "champion" "I", Cond.methodLink RX1 34 yX1_hasPlayer, Cond.instanceMethod yX1_hasPlayer, Cond.selects RX1 yX1_hasPlayer yX1_hasPlayer, Cond.code yX1_hasPlayer cX1_hasPlayer 2 (some .boolean), Cond.fieldLink RX1 15 "GhostGame$Game" "playerCount" "I"]
def wsX4_play_r4 : List Cond := [Cond.methodLink RX1 58 yX1_playersLeft, Cond.instanceMethod yX1_playersLeft, Cond.selects RX1 yX1_playersLeft yX1_playersLeft, Cond.code yX1_playersLeft cX1_playersLeft 3 (some .int), Cond.methodLink RX1 62 yX1_isOut, Cond.instanceMethod yX1_isOut, Cond.selects RX1 yX1_isOut yX1_isOut, Cond.code yX1_isOut cX1_isOut 2 (some .boolean), Cond.methodLink RX1 65 yX1_strikesOf, Cond.instanceMethod yX1_strikesOf, Cond.selects RX1 yX1_strikesOf yX1_strikesOf, Cond.code yX1_strikesOf cX1_strikesOf 2 (some .int), Cond.methodLink RX1 52 yX1_nextBehind, Cond.instanceMethod yX1_nextBehind, Cond.selects RX1 yX1_nextBehind yX1_nextBehind, Cond.code yX1_nextBehind cX1_nextBehind 4 (some .int)]
def wsX4_play : List Cond := .code yX4_play cX4_play 2 (some .int) :: ((wsX4_play_r1 ++ (wsX4_play_r2 ++ (wsX4_play_r3 ++ wsX4_play_r4))) ++ wsX40 ++ wsX10 ++ wsX00 ++ (vx_atS RX4 37 "java/lang/IllegalArgumentException" ["java/lang/RuntimeException", "java/lang/Exception"]).filter goodWord ++ (vx_atS RX4 48 "java/lang/IllegalStateException" ["java/lang/RuntimeException", "java/lang/Exception"]).filter goodWord)
def wsX4_challenge_r1 : List Cond := [Cond.classLink RX4 44 "java/lang/IllegalStateException", Cond.initialized "java/lang/IllegalStateException", Cond.fieldLink RX4 19 "GhostGame" "game" "LGhostGame$Game;", Cond.fieldLink RX4 10 "GhostGame" "dictionary" "LGhostGame$Dictionary;", Cond.methodLink RX4 109 yX1_isOn, Cond.instanceMethod yX1_isOn, Cond.selects RX1 yX1_isOn yX1_isOn, Cond.initialized RX1, Cond.code yX1_isOn cX1_isOn 1 (some .boolean), Cond.fieldLink RX1 19 "GhostGame$Game" "mover" "I", Cond.methodLink RX4 113 yX1_fragment, Cond.instanceMethod yX1_fragment, Cond.selects RX1 yX1_fragment yX1_fragment, Cond.code yX1_fragment cX1_fragment 1 (some .long), Cond.fieldLink RX1 30 "GhostGame$Game" "fragment" "J", Cond.methodLink RX4 125 yX1_settleChallenge, Cond.instanceMethod yX1_settleChallenge, Cond.selects RX1 yX1_settleChallenge yX1_settleChallenge, Cond.code yX1_settleChallenge cX1_settleChallenge 2 (some .int), Cond.fieldLink RX1 22 "GhostGame$Game" "lastMover" "I", Cond.methodLink RX1 55 yX0_hasCountingFrom, Cond.instanceMethod yX0_hasCountingFrom, Cond.selects RX0 yX0_hasCountingFrom yX0_hasCountingFrom, Cond.initialized RX0]
def wsX4_challenge_r2 : List Cond := [Cond.code yX0_hasCountingFrom cX0_hasCountingFrom 4 (some .boolean), Cond.fieldLink RX0 15 "GhostGame$Dictionary" "count" "I", Cond.fieldLink RX0 9 "GhostGame$Dictionary" "words" "[J", Cond.methodLink RX0 43 yX0_isLongEnough, Cond.instanceMethod yX0_isLongEnough, Cond.selects RX0 yX0_isLongEnough yX0_isLongEnough, Cond.code yX0_isLongEnough cX0_isLongEnough 3 (some .boolean), Cond.fieldLink RX0 19 "GhostGame$Dictionary" "leastLength" "I", Cond.methodLink RX0 36 yX2_lengthOf, Cond.static yX2_lengthOf, Cond.initialized RX2, Cond.code yX2_lengthOf cX2_lengthOf 2 (some .int), Cond.methodLink RX0 32 yX2_beginsWith, Cond.static yX2_beginsWith, Cond.code yX2_beginsWith cX2_beginsWith 5 (some .boolean), Cond.methodLink RX2 11 yX2_lengthOf, Cond.methodLink RX2 21 yX2_beginning, Cond.static yX2_beginning, Cond.code yX2_beginning cX2_beginning 4 (some .long), Cond.constantLong RX2 15 (1125899906842623), Cond.methodLink RX2 17 yX2_pack, Cond.static yX2_pack, Cond.code yX2_pack cX2_pack 3 (some .long), Cond.methodLink RX1 48 yX1_endRound]
def wsX4_challenge_r3 : List Cond := [Cond.instanceMethod yX1_endRound, Cond.selects RX1 yX1_endRound yX1_endRound, Cond.code yX1_endRound cX1_endRound 2 (some .int), Cond.fieldLink RX1 9 "GhostGame$Game" "strikes" "[I", Cond.fieldLink RX1 25 "GhostGame$Game" "champion" "I", Cond.methodLink RX1 34 yX1_hasPlayer, Cond.instanceMethod yX1_hasPlayer, Cond.selects RX1 yX1_hasPlayer yX1_hasPlayer, Cond.code yX1_hasPlayer cX1_hasPlayer 2 (some .boolean), Cond.fieldLink RX1 15 "GhostGame$Game" "playerCount" "I", Cond.methodLink RX1 58 yX1_playersLeft, Cond.instanceMethod yX1_playersLeft, Cond.selects RX1 yX1_playersLeft yX1_playersLeft, Cond.code yX1_playersLeft cX1_playersLeft 3 (some .int), Cond.methodLink RX1 62 yX1_isOut, Cond.instanceMethod yX1_isOut, Cond.selects RX1 yX1_isOut yX1_isOut, Cond.code yX1_isOut cX1_isOut 2 (some .boolean), Cond.methodLink RX1 65 yX1_strikesOf, Cond.instanceMethod yX1_strikesOf, Cond.selects RX1 yX1_strikesOf yX1_strikesOf, Cond.code yX1_strikesOf cX1_strikesOf 2 (some .int), Cond.methodLink RX1 52 yX1_nextBehind, Cond.instanceMethod yX1_nextBehind]
def wsX4_challenge_r4 : List Cond := [Cond.selects RX1 yX1_nextBehind yX1_nextBehind, Cond.code yX1_nextBehind cX1_nextBehind 4 (some .int)]
def wsX4_challenge : List Cond := .code yX4_challenge cX4_challenge 1 (some .int) :: ((wsX4_challenge_r1 ++ (wsX4_challenge_r2 ++ (wsX4_challenge_r3 ++ wsX4_challenge_r4))) ++ wsX40 ++ wsX10 ++ wsX00 ++ (vx_atS RX4 48 "java/lang/IllegalStateException" ["java/lang/RuntimeException", "java/lang/Exception"]).filter goodWord)
def wsX4_turn : List Cond := .code yX4_turn cX4_turn 1 (some .int) :: ([.fieldLink RX4 19 "GhostGame" "game" "LGhostGame$Game;", .methodLink RX4 129 yX1_mover, .instanceMethod yX1_mover, .selects RX1 yX1_mover yX1_mover, .initialized RX1, .code yX1_mover cX1_mover 1 (some .int), .fieldLink RX1 19 "GhostGame$Game" "mover" "I"] ++ wsX40 ++ wsX10)
def wsX4_winner : List Cond := .code yX4_winner cX4_winner 1 (some .int) :: ([.fieldLink RX4 19 "GhostGame" "game" "LGhostGame$Game;", .methodLink RX4 132 yX1_champion, .instanceMethod yX1_champion, .selects RX1 yX1_champion yX1_champion, .initialized RX1, .code yX1_champion cX1_champion 1 (some .int), .fieldLink RX1 25 "GhostGame$Game" "champion" "I"] ++ wsX40 ++ wsX10)
def wsX4_players : List Cond := .code yX4_players cX4_players 1 (some .int) :: ([.fieldLink RX4 19 "GhostGame" "game" "LGhostGame$Game;", .methodLink RX4 135 yX1_playerCount, .instanceMethod yX1_playerCount, .selects RX1 yX1_playerCount yX1_playerCount, .initialized RX1, .code yX1_playerCount cX1_playerCount 1 (some .int), .fieldLink RX1 15 "GhostGame$Game" "playerCount" "I"] ++ wsX40 ++ wsX10)
def wsX4_strikes : List Cond := .code yX4_strikes cX4_strikes 3 (some .int) :: ([.classLink RX4 61 "java/lang/IndexOutOfBoundsException", .initialized "java/lang/IndexOutOfBoundsException", .fieldLink RX4 19 "GhostGame" "game" "LGhostGame$Game;", .methodLink RX4 138 yX1_strikesOf, .instanceMethod yX1_strikesOf, .selects RX1 yX1_strikesOf yX1_strikesOf, .initialized RX1, .code yX1_strikesOf cX1_strikesOf 2 (some .int), .fieldLink RX1 9 "GhostGame$Game" "strikes" "[I", .methodLink RX1 34 yX1_hasPlayer, .instanceMethod yX1_hasPlayer, .selects RX1 yX1_hasPlayer yX1_hasPlayer, .code yX1_hasPlayer cX1_hasPlayer 2 (some .boolean), .fieldLink RX1 15 "GhostGame$Game" "playerCount" "I"] ++ wsX40 ++ wsX10 ++ (vx_atS RX4 65 "java/lang/IndexOutOfBoundsException" ["java/lang/RuntimeException", "java/lang/Exception"]).filter goodWord)
def wsX4_fragmentLength : List Cond := .code yX4_fragmentLength cX4_fragmentLength 1 (some .int) :: ([.fieldLink RX4 19 "GhostGame" "game" "LGhostGame$Game;", .methodLink RX4 113 yX1_fragment, .instanceMethod yX1_fragment, .selects RX1 yX1_fragment yX1_fragment, .initialized RX1, .code yX1_fragment cX1_fragment 1 (some .long), .fieldLink RX1 30 "GhostGame$Game" "fragment" "J", .methodLink RX4 53 yX2_lengthOf, .static yX2_lengthOf, .initialized RX2, .code yX2_lengthOf cX2_lengthOf 2 (some .int)] ++ wsX40 ++ wsX10)
def wsX4_fragmentAt : List Cond := .code yX4_fragmentAt cX4_fragmentAt 3 (some .int) :: ([.classLink RX4 61 "java/lang/IndexOutOfBoundsException", .initialized "java/lang/IndexOutOfBoundsException", .fieldLink RX4 19 "GhostGame" "game" "LGhostGame$Game;", .methodLink RX4 113 yX1_fragment, .instanceMethod yX1_fragment, .selects RX1 yX1_fragment yX1_fragment, .initialized RX1, .code yX1_fragment cX1_fragment 1 (some .long), .fieldLink RX1 30 "GhostGame$Game" "fragment" "J", .methodLink RX4 57 yX2_letterAt, .static yX2_letterAt, .initialized RX2, .code yX2_letterAt cX2_letterAt 4 (some .int), .methodLink RX2 11 yX2_lengthOf, .static yX2_lengthOf, .code yX2_lengthOf cX2_lengthOf 2 (some .int)] ++ wsX40 ++ wsX10 ++ (vx_atS RX4 65 "java/lang/IndexOutOfBoundsException" ["java/lang/RuntimeException", "java/lang/Exception"]).filter goodWord)
def wsX4_openLetters_r1 : List Cond := [Cond.fieldLink RX4 10 "GhostGame" "dictionary" "LGhostGame$Dictionary;", Cond.fieldLink RX4 19 "GhostGame" "game" "LGhostGame$Game;", Cond.methodLink RX4 113 yX1_fragment, Cond.instanceMethod yX1_fragment, Cond.selects RX1 yX1_fragment yX1_fragment, Cond.initialized RX1, Cond.code yX1_fragment cX1_fragment 1 (some .long), Cond.fieldLink RX1 30 "GhostGame$Game" "fragment" "J", Cond.methodLink RX4 145 yX3_lettersOpenBehind, Cond.static yX3_lettersOpenBehind, Cond.initialized RX3, Cond.code yX3_lettersOpenBehind cX3_lettersOpenBehind 7 (some .int), Cond.methodLink RX3 9 yX0_size, Cond.instanceMethod yX0_size, Cond.selects RX0 yX0_size yX0_size, Cond.initialized RX0, Cond.code yX0_size cX0_size 1 (some .int), Cond.fieldLink RX0 15 "GhostGame$Dictionary" "count" "I", Cond.methodLink RX3 15 yX0_wordAt, Cond.instanceMethod yX0_wordAt, Cond.selects RX0 yX0_wordAt yX0_wordAt, Cond.code yX0_wordAt cX0_wordAt 2 (some .long), Cond.fieldLink RX0 9 "GhostGame$Dictionary" "words" "[J", Cond.methodLink RX3 19 yX3_leadsOn]
def wsX4_openLetters_r2 : List Cond := [Cond.static yX3_leadsOn, Cond.code yX3_leadsOn cX3_leadsOn 5 (some .boolean), Cond.methodLink RX3 78 yX0_isLongEnough, Cond.instanceMethod yX0_isLongEnough, Cond.selects RX0 yX0_isLongEnough yX0_isLongEnough, Cond.code yX0_isLongEnough cX0_isLongEnough 3 (some .boolean), Cond.fieldLink RX0 19 "GhostGame$Dictionary" "leastLength" "I", Cond.methodLink RX0 36 yX2_lengthOf, Cond.static yX2_lengthOf, Cond.initialized RX2, Cond.code yX2_lengthOf cX2_lengthOf 2 (some .int), Cond.methodLink RX3 81 yX2_goesOnBehind, Cond.static yX2_goesOnBehind, Cond.code yX2_goesOnBehind cX2_goesOnBehind 4 (some .boolean), Cond.methodLink RX2 25 yX2_beginsWith, Cond.static yX2_beginsWith, Cond.code yX2_beginsWith cX2_beginsWith 5 (some .boolean), Cond.methodLink RX2 11 yX2_lengthOf, Cond.methodLink RX2 21 yX2_beginning, Cond.static yX2_beginning, Cond.code yX2_beginning cX2_beginning 4 (some .long), Cond.constantLong RX2 15 (1125899906842623), Cond.methodLink RX2 17 yX2_pack, Cond.static yX2_pack]
def wsX4_openLetters_r3 : List Cond := [Cond.code yX2_pack cX2_pack 3 (some .long), Cond.methodLink RX3 25 yX2_lengthOf, Cond.methodLink RX3 31 yX2_letterAt, Cond.static yX2_letterAt, Cond.code yX2_letterAt cX2_letterAt 4 (some .int)]
def wsX4_openLetters : List Cond := .code yX4_openLetters cX4_openLetters 1 (some .int) :: ((wsX4_openLetters_r1 ++ (wsX4_openLetters_r2 ++ wsX4_openLetters_r3)) ++ wsX40 ++ wsX10 ++ wsX00)
def wsX4_winningLetters_r1 : List Cond := [Cond.fieldLink RX4 10 "GhostGame" "dictionary" "LGhostGame$Dictionary;", Cond.fieldLink RX4 19 "GhostGame" "game" "LGhostGame$Game;", Cond.methodLink RX4 113 yX1_fragment, Cond.instanceMethod yX1_fragment, Cond.selects RX1 yX1_fragment yX1_fragment, Cond.initialized RX1, Cond.code yX1_fragment cX1_fragment 1 (some .long), Cond.fieldLink RX1 30 "GhostGame$Game" "fragment" "J", Cond.methodLink RX4 151 yX3_lettersWinningBehind, Cond.static yX3_lettersWinningBehind, Cond.initialized RX3, Cond.code yX3_lettersWinningBehind cX3_lettersWinningBehind 6 (some .int), Cond.methodLink RX3 35 yX3_lettersOpenBehind, Cond.static yX3_lettersOpenBehind, Cond.code yX3_lettersOpenBehind cX3_lettersOpenBehind 7 (some .int), Cond.methodLink RX3 9 yX0_size, Cond.instanceMethod yX0_size, Cond.selects RX0 yX0_size yX0_size, Cond.initialized RX0, Cond.code yX0_size cX0_size 1 (some .int), Cond.fieldLink RX0 15 "GhostGame$Dictionary" "count" "I", Cond.methodLink RX3 15 yX0_wordAt, Cond.instanceMethod yX0_wordAt, Cond.selects RX0 yX0_wordAt yX0_wordAt]
def wsX4_winningLetters_r2 : List Cond := [Cond.code yX0_wordAt cX0_wordAt 2 (some .long), Cond.fieldLink RX0 9 "GhostGame$Dictionary" "words" "[J", Cond.methodLink RX3 19 yX3_leadsOn, Cond.static yX3_leadsOn, Cond.code yX3_leadsOn cX3_leadsOn 5 (some .boolean), Cond.methodLink RX3 78 yX0_isLongEnough, Cond.instanceMethod yX0_isLongEnough, Cond.selects RX0 yX0_isLongEnough yX0_isLongEnough, Cond.code yX0_isLongEnough cX0_isLongEnough 3 (some .boolean), Cond.fieldLink RX0 19 "GhostGame$Dictionary" "leastLength" "I", Cond.methodLink RX0 36 yX2_lengthOf, Cond.static yX2_lengthOf, Cond.initialized RX2, Cond.code yX2_lengthOf cX2_lengthOf 2 (some .int), Cond.methodLink RX3 81 yX2_goesOnBehind, Cond.static yX2_goesOnBehind, Cond.code yX2_goesOnBehind cX2_goesOnBehind 4 (some .boolean), Cond.methodLink RX2 25 yX2_beginsWith, Cond.static yX2_beginsWith, Cond.code yX2_beginsWith cX2_beginsWith 5 (some .boolean), Cond.methodLink RX2 11 yX2_lengthOf, Cond.methodLink RX2 21 yX2_beginning, Cond.static yX2_beginning, Cond.code yX2_beginning cX2_beginning 4 (some .long)]
def wsX4_winningLetters_r3 : List Cond := [Cond.constantLong RX2 15 (1125899906842623), Cond.methodLink RX2 17 yX2_pack, Cond.static yX2_pack, Cond.code yX2_pack cX2_pack 3 (some .long), Cond.methodLink RX3 25 yX2_lengthOf, Cond.methodLink RX3 31 yX2_letterAt, Cond.static yX2_letterAt, Cond.code yX2_letterAt cX2_letterAt 4 (some .int), Cond.methodLink RX3 39 yX3_isIn, Cond.static yX3_isIn, Cond.code yX3_isIn cX3_isIn 2 (some .boolean), Cond.methodLink RX3 43 yX3_scoreOfLetter, Cond.static yX3_scoreOfLetter, Cond.code yX3_scoreOfLetter cX3_scoreOfLetter 7 (some .int), Cond.methodLink RX3 71 yX2_with, Cond.static yX2_with, Cond.code yX2_with cX2_with 3 (some .long), Cond.methodLink RX3 75 yX0_hasCounting, Cond.instanceMethod yX0_hasCounting, Cond.selects RX0 yX0_hasCounting yX0_hasCounting, Cond.code yX0_hasCounting cX0_hasCounting 3 (some .boolean), Cond.methodLink RX0 43 yX0_isLongEnough, Cond.methodLink RX0 28 yX0_has, Cond.instanceMethod yX0_has]
def wsX4_winningLetters_r4 : List Cond := [Cond.selects RX0 yX0_has yX0_has, Cond.code yX0_has cX0_has 3 (some .boolean), Cond.methodLink RX0 22 yX0_placeOf, Cond.instanceMethod yX0_placeOf, Cond.selects RX0 yX0_placeOf yX0_placeOf, Cond.code yX0_placeOf cX0_placeOf 4 (some .int), Cond.methodLink RX3 47 yX3_score, Cond.static yX3_score, Cond.code yX3_score cX3_score 6 (some .int), Cond.methodLink RX3 67 Lib.Math.max.name, Cond.static Lib.Math.max.name, Cond.initialized "java/lang/Math", Cond.code Lib.Math.max.name Lib.Math.max.code 2 (some .int), Cond.methodLink RX3 63 yX2_isFull, Cond.static yX2_isFull, Cond.code yX2_isFull cX2_isFull 2 (some .boolean)]
def wsX4_winningLetters : List Cond := .code yX4_winningLetters cX4_winningLetters 1 (some .int) :: ((wsX4_winningLetters_r1 ++ (wsX4_winningLetters_r2 ++ (wsX4_winningLetters_r3 ++ wsX4_winningLetters_r4))) ++ wsX40 ++ wsX10 ++ wsX00)
def wsX4_canWin_r1 : List Cond := [Cond.fieldLink RX4 10 "GhostGame" "dictionary" "LGhostGame$Dictionary;", Cond.fieldLink RX4 19 "GhostGame" "game" "LGhostGame$Game;", Cond.methodLink RX4 113 yX1_fragment, Cond.instanceMethod yX1_fragment, Cond.selects RX1 yX1_fragment yX1_fragment, Cond.initialized RX1, Cond.code yX1_fragment cX1_fragment 1 (some .long), Cond.fieldLink RX1 30 "GhostGame$Game" "fragment" "J", Cond.methodLink RX4 154 yX3_moverWins, Cond.static yX3_moverWins, Cond.initialized RX3, Cond.code yX3_moverWins cX3_moverWins 3 (some .boolean), Cond.methodLink RX3 47 yX3_score, Cond.static yX3_score, Cond.code yX3_score cX3_score 6 (some .int), Cond.methodLink RX3 67 Lib.Math.max.name, Cond.static Lib.Math.max.name, Cond.initialized "java/lang/Math", Cond.code Lib.Math.max.name Lib.Math.max.code 2 (some .int), Cond.methodLink RX3 63 yX2_isFull, Cond.static yX2_isFull, Cond.initialized RX2, Cond.code yX2_isFull cX2_isFull 2 (some .boolean), Cond.methodLink RX2 11 yX2_lengthOf]
def wsX4_canWin_r2 : List Cond := [Cond.static yX2_lengthOf, Cond.code yX2_lengthOf cX2_lengthOf 2 (some .int), Cond.methodLink RX3 35 yX3_lettersOpenBehind, Cond.static yX3_lettersOpenBehind, Cond.code yX3_lettersOpenBehind cX3_lettersOpenBehind 7 (some .int), Cond.methodLink RX3 9 yX0_size, Cond.instanceMethod yX0_size, Cond.selects RX0 yX0_size yX0_size, Cond.initialized RX0, Cond.code yX0_size cX0_size 1 (some .int), Cond.fieldLink RX0 15 "GhostGame$Dictionary" "count" "I", Cond.methodLink RX3 15 yX0_wordAt, Cond.instanceMethod yX0_wordAt, Cond.selects RX0 yX0_wordAt yX0_wordAt, Cond.code yX0_wordAt cX0_wordAt 2 (some .long), Cond.fieldLink RX0 9 "GhostGame$Dictionary" "words" "[J", Cond.methodLink RX3 19 yX3_leadsOn, Cond.static yX3_leadsOn, Cond.code yX3_leadsOn cX3_leadsOn 5 (some .boolean), Cond.methodLink RX3 78 yX0_isLongEnough, Cond.instanceMethod yX0_isLongEnough, Cond.selects RX0 yX0_isLongEnough yX0_isLongEnough, Cond.code yX0_isLongEnough cX0_isLongEnough 3 (some .boolean), Cond.fieldLink RX0 19 "GhostGame$Dictionary" "leastLength" "I"]
def wsX4_canWin_r3 : List Cond := [Cond.methodLink RX0 36 yX2_lengthOf, Cond.methodLink RX3 81 yX2_goesOnBehind, Cond.static yX2_goesOnBehind, Cond.code yX2_goesOnBehind cX2_goesOnBehind 4 (some .boolean), Cond.methodLink RX2 25 yX2_beginsWith, Cond.static yX2_beginsWith, Cond.code yX2_beginsWith cX2_beginsWith 5 (some .boolean), Cond.methodLink RX2 21 yX2_beginning, Cond.static yX2_beginning, Cond.code yX2_beginning cX2_beginning 4 (some .long), Cond.constantLong RX2 15 (1125899906842623), Cond.methodLink RX2 17 yX2_pack, Cond.static yX2_pack, Cond.code yX2_pack cX2_pack 3 (some .long), Cond.methodLink RX3 25 yX2_lengthOf, Cond.methodLink RX3 31 yX2_letterAt, Cond.static yX2_letterAt, Cond.code yX2_letterAt cX2_letterAt 4 (some .int), Cond.methodLink RX3 39 yX3_isIn, Cond.static yX3_isIn, Cond.code yX3_isIn cX3_isIn 2 (some .boolean), Cond.methodLink RX3 43 yX3_scoreOfLetter, Cond.static yX3_scoreOfLetter, Cond.code yX3_scoreOfLetter cX3_scoreOfLetter 7 (some .int)]
def wsX4_canWin_r4 : List Cond := [Cond.methodLink RX3 71 yX2_with, Cond.static yX2_with, Cond.code yX2_with cX2_with 3 (some .long), Cond.methodLink RX3 75 yX0_hasCounting, Cond.instanceMethod yX0_hasCounting, Cond.selects RX0 yX0_hasCounting yX0_hasCounting, Cond.code yX0_hasCounting cX0_hasCounting 3 (some .boolean), Cond.methodLink RX0 43 yX0_isLongEnough, Cond.methodLink RX0 28 yX0_has, Cond.instanceMethod yX0_has, Cond.selects RX0 yX0_has yX0_has, Cond.code yX0_has cX0_has 3 (some .boolean), Cond.methodLink RX0 22 yX0_placeOf, Cond.instanceMethod yX0_placeOf, Cond.selects RX0 yX0_placeOf yX0_placeOf, Cond.code yX0_placeOf cX0_placeOf 4 (some .int)]
def wsX4_canWin : List Cond := .code yX4_canWin cX4_canWin 1 (some .boolean) :: ((wsX4_canWin_r1 ++ (wsX4_canWin_r2 ++ (wsX4_canWin_r3 ++ wsX4_canWin_r4))) ++ wsX40 ++ wsX10 ++ wsX00)
def wsX4_end_r1 : List Cond := [Cond.fieldLink RX4 10 "GhostGame" "dictionary" "LGhostGame$Dictionary;", Cond.fieldLink RX4 19 "GhostGame" "game" "LGhostGame$Game;", Cond.methodLink RX4 113 yX1_fragment, Cond.instanceMethod yX1_fragment, Cond.selects RX1 yX1_fragment yX1_fragment, Cond.initialized RX1, Cond.code yX1_fragment cX1_fragment 1 (some .long), Cond.fieldLink RX1 30 "GhostGame$Game" "fragment" "J", Cond.methodLink RX4 158 yX3_endBehind, Cond.static yX3_endBehind, Cond.initialized RX3, Cond.code yX3_endBehind cX3_endBehind 3 (some .int), Cond.methodLink RX3 50 Lib.Math.abs.name, Cond.static Lib.Math.abs.name, Cond.initialized "java/lang/Math", Cond.code Lib.Math.abs.name Lib.Math.abs.code 1 (some .int), Cond.methodLink RX3 47 yX3_score, Cond.static yX3_score, Cond.code yX3_score cX3_score 6 (some .int), Cond.methodLink RX3 67 Lib.Math.max.name, Cond.static Lib.Math.max.name, Cond.code Lib.Math.max.name Lib.Math.max.code 2 (some .int), Cond.methodLink RX3 63 yX2_isFull, Cond.static yX2_isFull]
def wsX4_end_r2 : List Cond := [Cond.initialized RX2, Cond.code yX2_isFull cX2_isFull 2 (some .boolean), Cond.methodLink RX2 11 yX2_lengthOf, Cond.static yX2_lengthOf, Cond.code yX2_lengthOf cX2_lengthOf 2 (some .int), Cond.methodLink RX3 35 yX3_lettersOpenBehind, Cond.static yX3_lettersOpenBehind, Cond.code yX3_lettersOpenBehind cX3_lettersOpenBehind 7 (some .int), Cond.methodLink RX3 9 yX0_size, Cond.instanceMethod yX0_size, Cond.selects RX0 yX0_size yX0_size, Cond.initialized RX0, Cond.code yX0_size cX0_size 1 (some .int), Cond.fieldLink RX0 15 "GhostGame$Dictionary" "count" "I", Cond.methodLink RX3 15 yX0_wordAt, Cond.instanceMethod yX0_wordAt, Cond.selects RX0 yX0_wordAt yX0_wordAt, Cond.code yX0_wordAt cX0_wordAt 2 (some .long), Cond.fieldLink RX0 9 "GhostGame$Dictionary" "words" "[J", Cond.methodLink RX3 19 yX3_leadsOn, Cond.static yX3_leadsOn, Cond.code yX3_leadsOn cX3_leadsOn 5 (some .boolean), Cond.methodLink RX3 78 yX0_isLongEnough, Cond.instanceMethod yX0_isLongEnough]
def wsX4_end_r3 : List Cond := [Cond.selects RX0 yX0_isLongEnough yX0_isLongEnough, Cond.code yX0_isLongEnough cX0_isLongEnough 3 (some .boolean), Cond.fieldLink RX0 19 "GhostGame$Dictionary" "leastLength" "I", Cond.methodLink RX0 36 yX2_lengthOf, Cond.methodLink RX3 81 yX2_goesOnBehind, Cond.static yX2_goesOnBehind, Cond.code yX2_goesOnBehind cX2_goesOnBehind 4 (some .boolean), Cond.methodLink RX2 25 yX2_beginsWith, Cond.static yX2_beginsWith, Cond.code yX2_beginsWith cX2_beginsWith 5 (some .boolean), Cond.methodLink RX2 21 yX2_beginning, Cond.static yX2_beginning, Cond.code yX2_beginning cX2_beginning 4 (some .long), Cond.constantLong RX2 15 (1125899906842623), Cond.methodLink RX2 17 yX2_pack, Cond.static yX2_pack, Cond.code yX2_pack cX2_pack 3 (some .long), Cond.methodLink RX3 25 yX2_lengthOf, Cond.methodLink RX3 31 yX2_letterAt, Cond.static yX2_letterAt, Cond.code yX2_letterAt cX2_letterAt 4 (some .int), Cond.methodLink RX3 39 yX3_isIn, Cond.static yX3_isIn, Cond.code yX3_isIn cX3_isIn 2 (some .boolean)]
def wsX4_end_r4 : List Cond := [Cond.methodLink RX3 43 yX3_scoreOfLetter, Cond.static yX3_scoreOfLetter, Cond.code yX3_scoreOfLetter cX3_scoreOfLetter 7 (some .int), Cond.methodLink RX3 71 yX2_with, Cond.static yX2_with, Cond.code yX2_with cX2_with 3 (some .long), Cond.methodLink RX3 75 yX0_hasCounting, Cond.instanceMethod yX0_hasCounting, Cond.selects RX0 yX0_hasCounting yX0_hasCounting, Cond.code yX0_hasCounting cX0_hasCounting 3 (some .boolean), Cond.methodLink RX0 43 yX0_isLongEnough, Cond.methodLink RX0 28 yX0_has, Cond.instanceMethod yX0_has, Cond.selects RX0 yX0_has yX0_has, Cond.code yX0_has cX0_has 3 (some .boolean), Cond.methodLink RX0 22 yX0_placeOf, Cond.instanceMethod yX0_placeOf, Cond.selects RX0 yX0_placeOf yX0_placeOf, Cond.code yX0_placeOf cX0_placeOf 4 (some .int)]
def wsX4_end : List Cond := .code yX4_end cX4_end 1 (some .int) :: ((wsX4_end_r1 ++ (wsX4_end_r2 ++ (wsX4_end_r3 ++ wsX4_end_r4))) ++ wsX40 ++ wsX10 ++ wsX00)
def wsX4_bestLetter_r1 : List Cond := [Cond.fieldLink RX4 10 "GhostGame" "dictionary" "LGhostGame$Dictionary;", Cond.fieldLink RX4 19 "GhostGame" "game" "LGhostGame$Game;", Cond.methodLink RX4 113 yX1_fragment, Cond.instanceMethod yX1_fragment, Cond.selects RX1 yX1_fragment yX1_fragment, Cond.initialized RX1, Cond.code yX1_fragment cX1_fragment 1 (some .long), Cond.fieldLink RX1 30 "GhostGame$Game" "fragment" "J", Cond.methodLink RX4 161 yX3_letterChosenBehind, Cond.static yX3_letterChosenBehind, Cond.initialized RX3, Cond.code yX3_letterChosenBehind cX3_letterChosenBehind 6 (some .int), Cond.methodLink RX3 35 yX3_lettersOpenBehind, Cond.static yX3_lettersOpenBehind, Cond.code yX3_lettersOpenBehind cX3_lettersOpenBehind 7 (some .int), Cond.methodLink RX3 9 yX0_size, Cond.instanceMethod yX0_size, Cond.selects RX0 yX0_size yX0_size, Cond.initialized RX0, Cond.code yX0_size cX0_size 1 (some .int), Cond.fieldLink RX0 15 "GhostGame$Dictionary" "count" "I", Cond.methodLink RX3 15 yX0_wordAt, Cond.instanceMethod yX0_wordAt, Cond.selects RX0 yX0_wordAt yX0_wordAt]
def wsX4_bestLetter_r2 : List Cond := [Cond.code yX0_wordAt cX0_wordAt 2 (some .long), Cond.fieldLink RX0 9 "GhostGame$Dictionary" "words" "[J", Cond.methodLink RX3 19 yX3_leadsOn, Cond.static yX3_leadsOn, Cond.code yX3_leadsOn cX3_leadsOn 5 (some .boolean), Cond.methodLink RX3 78 yX0_isLongEnough, Cond.instanceMethod yX0_isLongEnough, Cond.selects RX0 yX0_isLongEnough yX0_isLongEnough, Cond.code yX0_isLongEnough cX0_isLongEnough 3 (some .boolean), Cond.fieldLink RX0 19 "GhostGame$Dictionary" "leastLength" "I", Cond.methodLink RX0 36 yX2_lengthOf, Cond.static yX2_lengthOf, Cond.initialized RX2, Cond.code yX2_lengthOf cX2_lengthOf 2 (some .int), Cond.methodLink RX3 81 yX2_goesOnBehind, Cond.static yX2_goesOnBehind, Cond.code yX2_goesOnBehind cX2_goesOnBehind 4 (some .boolean), Cond.methodLink RX2 25 yX2_beginsWith, Cond.static yX2_beginsWith, Cond.code yX2_beginsWith cX2_beginsWith 5 (some .boolean), Cond.methodLink RX2 11 yX2_lengthOf, Cond.methodLink RX2 21 yX2_beginning, Cond.static yX2_beginning, Cond.code yX2_beginning cX2_beginning 4 (some .long)]
def wsX4_bestLetter_r3 : List Cond := [Cond.constantLong RX2 15 (1125899906842623), Cond.methodLink RX2 17 yX2_pack, Cond.static yX2_pack, Cond.code yX2_pack cX2_pack 3 (some .long), Cond.methodLink RX3 25 yX2_lengthOf, Cond.methodLink RX3 31 yX2_letterAt, Cond.static yX2_letterAt, Cond.code yX2_letterAt cX2_letterAt 4 (some .int), Cond.methodLink RX3 47 yX3_score, Cond.static yX3_score, Cond.code yX3_score cX3_score 6 (some .int), Cond.methodLink RX3 67 Lib.Math.max.name, Cond.static Lib.Math.max.name, Cond.initialized "java/lang/Math", Cond.code Lib.Math.max.name Lib.Math.max.code 2 (some .int), Cond.methodLink RX3 63 yX2_isFull, Cond.static yX2_isFull, Cond.code yX2_isFull cX2_isFull 2 (some .boolean), Cond.methodLink RX3 39 yX3_isIn, Cond.static yX3_isIn, Cond.code yX3_isIn cX3_isIn 2 (some .boolean), Cond.methodLink RX3 43 yX3_scoreOfLetter, Cond.static yX3_scoreOfLetter, Cond.code yX3_scoreOfLetter cX3_scoreOfLetter 7 (some .int)]
def wsX4_bestLetter_r4 : List Cond := [Cond.methodLink RX3 71 yX2_with, Cond.static yX2_with, Cond.code yX2_with cX2_with 3 (some .long), Cond.methodLink RX3 75 yX0_hasCounting, Cond.instanceMethod yX0_hasCounting, Cond.selects RX0 yX0_hasCounting yX0_hasCounting, Cond.code yX0_hasCounting cX0_hasCounting 3 (some .boolean), Cond.methodLink RX0 43 yX0_isLongEnough, Cond.methodLink RX0 28 yX0_has, Cond.instanceMethod yX0_has, Cond.selects RX0 yX0_has yX0_has, Cond.code yX0_has cX0_has 3 (some .boolean), Cond.methodLink RX0 22 yX0_placeOf, Cond.instanceMethod yX0_placeOf, Cond.selects RX0 yX0_placeOf yX0_placeOf, Cond.code yX0_placeOf cX0_placeOf 4 (some .int)]
def wsX4_bestLetter : List Cond := .code yX4_bestLetter cX4_bestLetter 1 (some .int) :: ((wsX4_bestLetter_r1 ++ (wsX4_bestLetter_r2 ++ (wsX4_bestLetter_r3 ++ wsX4_bestLetter_r4))) ++ wsX40 ++ wsX10 ++ wsX00)
def wsX4_waysToPlay_r1 : List Cond := [Cond.fieldLink RX4 10 "GhostGame" "dictionary" "LGhostGame$Dictionary;", Cond.fieldLink RX4 19 "GhostGame" "game" "LGhostGame$Game;", Cond.methodLink RX4 113 yX1_fragment, Cond.instanceMethod yX1_fragment, Cond.selects RX1 yX1_fragment yX1_fragment, Cond.initialized RX1, Cond.code yX1_fragment cX1_fragment 1 (some .long), Cond.fieldLink RX1 30 "GhostGame$Game" "fragment" "J", Cond.methodLink RX4 164 yX3_countWays, Cond.static yX3_countWays, Cond.initialized RX3, Cond.code yX3_countWays cX3_countWays 5 (some .int), Cond.methodLink RX3 9 yX0_size, Cond.instanceMethod yX0_size, Cond.selects RX0 yX0_size yX0_size, Cond.initialized RX0, Cond.code yX0_size cX0_size 1 (some .int), Cond.fieldLink RX0 15 "GhostGame$Dictionary" "count" "I", Cond.methodLink RX3 15 yX0_wordAt, Cond.instanceMethod yX0_wordAt, Cond.selects RX0 yX0_wordAt yX0_wordAt, Cond.code yX0_wordAt cX0_wordAt 2 (some .long), Cond.fieldLink RX0 9 "GhostGame$Dictionary" "words" "[J", Cond.methodLink RX3 56 yX3_isWay]
def wsX4_waysToPlay_r2 : List Cond := [Cond.static yX3_isWay, Cond.code yX3_isWay cX3_isWay 6 (some .boolean), Cond.methodLink RX3 19 yX3_leadsOn, Cond.static yX3_leadsOn, Cond.code yX3_leadsOn cX3_leadsOn 5 (some .boolean), Cond.methodLink RX3 78 yX0_isLongEnough, Cond.instanceMethod yX0_isLongEnough, Cond.selects RX0 yX0_isLongEnough yX0_isLongEnough, Cond.code yX0_isLongEnough cX0_isLongEnough 3 (some .boolean), Cond.fieldLink RX0 19 "GhostGame$Dictionary" "leastLength" "I", Cond.methodLink RX0 36 yX2_lengthOf, Cond.static yX2_lengthOf, Cond.initialized RX2, Cond.code yX2_lengthOf cX2_lengthOf 2 (some .int), Cond.methodLink RX3 81 yX2_goesOnBehind, Cond.static yX2_goesOnBehind, Cond.code yX2_goesOnBehind cX2_goesOnBehind 4 (some .boolean), Cond.methodLink RX2 25 yX2_beginsWith, Cond.static yX2_beginsWith, Cond.code yX2_beginsWith cX2_beginsWith 5 (some .boolean), Cond.methodLink RX2 11 yX2_lengthOf, Cond.methodLink RX2 21 yX2_beginning, Cond.static yX2_beginning, Cond.code yX2_beginning cX2_beginning 4 (some .long)]
def wsX4_waysToPlay_r3 : List Cond := [Cond.constantLong RX2 15 (1125899906842623), Cond.methodLink RX2 17 yX2_pack, Cond.static yX2_pack, Cond.code yX2_pack cX2_pack 3 (some .long), Cond.methodLink RX3 25 yX2_lengthOf, Cond.methodLink RX3 84 yX2_beginning, Cond.methodLink RX3 75 yX0_hasCounting, Cond.instanceMethod yX0_hasCounting, Cond.selects RX0 yX0_hasCounting yX0_hasCounting, Cond.code yX0_hasCounting cX0_hasCounting 3 (some .boolean), Cond.methodLink RX0 43 yX0_isLongEnough, Cond.methodLink RX0 28 yX0_has, Cond.instanceMethod yX0_has, Cond.selects RX0 yX0_has yX0_has, Cond.code yX0_has cX0_has 3 (some .boolean), Cond.methodLink RX0 22 yX0_placeOf, Cond.instanceMethod yX0_placeOf, Cond.selects RX0 yX0_placeOf yX0_placeOf, Cond.code yX0_placeOf cX0_placeOf 4 (some .int)]
def wsX4_waysToPlay : List Cond := .code yX4_waysToPlay cX4_waysToPlay 1 (some .int) :: ((wsX4_waysToPlay_r1 ++ (wsX4_waysToPlay_r2 ++ wsX4_waysToPlay_r3)) ++ wsX40 ++ wsX10 ++ wsX00)
def wsX4_waysToWin_r1 : List Cond := [Cond.fieldLink RX4 10 "GhostGame" "dictionary" "LGhostGame$Dictionary;", Cond.fieldLink RX4 19 "GhostGame" "game" "LGhostGame$Game;", Cond.methodLink RX4 113 yX1_fragment, Cond.instanceMethod yX1_fragment, Cond.selects RX1 yX1_fragment yX1_fragment, Cond.initialized RX1, Cond.code yX1_fragment cX1_fragment 1 (some .long), Cond.fieldLink RX1 30 "GhostGame$Game" "fragment" "J", Cond.methodLink RX4 167 yX3_countWonWays, Cond.static yX3_countWonWays, Cond.initialized RX3, Cond.code yX3_countWonWays cX3_countWonWays 7 (some .int), Cond.methodLink RX3 9 yX0_size, Cond.instanceMethod yX0_size, Cond.selects RX0 yX0_size yX0_size, Cond.initialized RX0, Cond.code yX0_size cX0_size 1 (some .int), Cond.fieldLink RX0 15 "GhostGame$Dictionary" "count" "I", Cond.methodLink RX3 15 yX0_wordAt, Cond.instanceMethod yX0_wordAt, Cond.selects RX0 yX0_wordAt yX0_wordAt, Cond.code yX0_wordAt cX0_wordAt 2 (some .long), Cond.fieldLink RX0 9 "GhostGame$Dictionary" "words" "[J", Cond.methodLink RX3 56 yX3_isWay]
def wsX4_waysToWin_r2 : List Cond := [Cond.static yX3_isWay, Cond.code yX3_isWay cX3_isWay 6 (some .boolean), Cond.methodLink RX3 19 yX3_leadsOn, Cond.static yX3_leadsOn, Cond.code yX3_leadsOn cX3_leadsOn 5 (some .boolean), Cond.methodLink RX3 78 yX0_isLongEnough, Cond.instanceMethod yX0_isLongEnough, Cond.selects RX0 yX0_isLongEnough yX0_isLongEnough, Cond.code yX0_isLongEnough cX0_isLongEnough 3 (some .boolean), Cond.fieldLink RX0 19 "GhostGame$Dictionary" "leastLength" "I", Cond.methodLink RX0 36 yX2_lengthOf, Cond.static yX2_lengthOf, Cond.initialized RX2, Cond.code yX2_lengthOf cX2_lengthOf 2 (some .int), Cond.methodLink RX3 81 yX2_goesOnBehind, Cond.static yX2_goesOnBehind, Cond.code yX2_goesOnBehind cX2_goesOnBehind 4 (some .boolean), Cond.methodLink RX2 25 yX2_beginsWith, Cond.static yX2_beginsWith, Cond.code yX2_beginsWith cX2_beginsWith 5 (some .boolean), Cond.methodLink RX2 11 yX2_lengthOf, Cond.methodLink RX2 21 yX2_beginning, Cond.static yX2_beginning, Cond.code yX2_beginning cX2_beginning 4 (some .long)]
def wsX4_waysToWin_r3 : List Cond := [Cond.constantLong RX2 15 (1125899906842623), Cond.methodLink RX2 17 yX2_pack, Cond.static yX2_pack, Cond.code yX2_pack cX2_pack 3 (some .long), Cond.methodLink RX3 25 yX2_lengthOf, Cond.methodLink RX3 84 yX2_beginning, Cond.methodLink RX3 75 yX0_hasCounting, Cond.instanceMethod yX0_hasCounting, Cond.selects RX0 yX0_hasCounting yX0_hasCounting, Cond.code yX0_hasCounting cX0_hasCounting 3 (some .boolean), Cond.methodLink RX0 43 yX0_isLongEnough, Cond.methodLink RX0 28 yX0_has, Cond.instanceMethod yX0_has, Cond.selects RX0 yX0_has yX0_has, Cond.code yX0_has cX0_has 3 (some .boolean), Cond.methodLink RX0 22 yX0_placeOf, Cond.instanceMethod yX0_placeOf, Cond.selects RX0 yX0_placeOf yX0_placeOf, Cond.code yX0_placeOf cX0_placeOf 4 (some .int), Cond.methodLink RX3 59 yX3_otherSideCompletes, Cond.static yX3_otherSideCompletes, Cond.code yX3_otherSideCompletes cX3_otherSideCompletes 4 (some .boolean)]
def wsX4_waysToWin : List Cond := .code yX4_waysToWin cX4_waysToWin 1 (some .int) :: ((wsX4_waysToWin_r1 ++ (wsX4_waysToWin_r2 ++ wsX4_waysToWin_r3)) ++ wsX40 ++ wsX10 ++ wsX00)
def wsX5_init : List Cond := .code yX5_init cX5_init 1 none :: ([.methodLink RX5 1 objectInit, .instanceMethod objectInit, .code objectInit ⟨#[0xb1]⟩ 1 none, .arrayClass .int, .fieldLink RX5 7 "GhostGameModel" "slip" "[I", .fieldLink RX5 13 "GhostGameModel" "letters" "[I", .fieldLink RX5 16 "GhostGameModel" "length" "[I", .fieldLink RX5 19 "GhostGameModel" "least" "I", .fieldLink RX5 23 "GhostGameModel" "strikes" "[I", .fieldLink RX5 26 "GhostGameModel" "winner" "I", .fieldLink RX5 29 "GhostGameModel" "fragment" "[I", .arrayClass .boolean, .fieldLink RX5 32 "GhostGameModel" "wins" "[Z", .fieldLink RX5 36 "GhostGameModel" "ends" "[I", .fieldLink RX5 39 "GhostGameModel" "chosen" "[I", .fieldLink RX5 42 "GhostGameModel" "good" "[I", .fieldLink RX5 45 "GhostGameModel" "open" "[I"] ++ wsX50)
def wsX5_thrown : List Cond := .code yX5_thrown cX5_thrown 1 (some .int) :: ([.fieldLink RX5 48 "GhostGameModel" "thrown" "I"] ++ wsX50)
def wsX5_asked : List Cond := .code yX5_asked cX5_asked 2 (some .boolean) :: ([.fieldLink RX5 48 "GhostGameModel" "thrown" "I"] ++ wsX50)
def wsX5_asked_ : List Cond := .code yX5_asked_ cX5_asked_ 3 (some .boolean) :: ([.fieldLink RX5 48 "GhostGameModel" "thrown" "I"] ++ wsX50)
def wsX5_told : List Cond := .code yX5_told cX5_told 2 (some .int) :: ([.fieldLink RX5 48 "GhostGameModel" "thrown" "I"] ++ wsX50)
def wsX5_isLetter : List Cond := .code yX5_isLetter cX5_isLetter 1 (some .boolean) :: ([])
def wsX5_begins : List Cond := .code yX5_begins cX5_begins 6 (some .boolean) :: ([.fieldLink RX5 16 "GhostGameModel" "length" "[I", .fieldLink RX5 13 "GhostGameModel" "letters" "[I"] ++ wsX50)
def wsX5_areAlike : List Cond := .code yX5_areAlike cX5_areAlike 6 (some .boolean) :: ([.fieldLink RX5 16 "GhostGameModel" "length" "[I", .fieldLink RX5 13 "GhostGameModel" "letters" "[I"] ++ wsX50)
def wsX5_counts : List Cond := .code yX5_counts cX5_counts 2 (some .boolean) :: ([.fieldLink RX5 16 "GhostGameModel" "length" "[I", .fieldLink RX5 19 "GhostGameModel" "least" "I"] ++ wsX50)
def wsX5_found : List Cond := .code yX5_found cX5_found 3 (some .int) :: ([.fieldLink RX5 51 "GhostGameModel" "words" "I", .fieldLink RX5 16 "GhostGameModel" "length" "[I", .fieldLink RX5 54 "GhostGameModel" "slipLength" "I", .fieldLink RX5 7 "GhostGameModel" "slip" "[I", .methodLink RX5 57 yX5_begins, .instanceMethod yX5_begins, .selects RX5 yX5_begins yX5_begins, .initialized RX5, .code yX5_begins cX5_begins 6 (some .boolean), .fieldLink RX5 13 "GhostGameModel" "letters" "[I"] ++ wsX50)
def wsX5_isBefore : List Cond := .code yX5_isBefore cX5_isBefore 6 (some .boolean) :: ([.fieldLink RX5 16 "GhostGameModel" "length" "[I", .fieldLink RX5 13 "GhostGameModel" "letters" "[I"] ++ wsX50)
def wsX5_write : List Cond := .code yX5_write cX5_write 2 (some .int) :: ([.fieldLink RX5 54 "GhostGameModel" "slipLength" "I", .fieldLink RX5 7 "GhostGameModel" "slip" "[I", .methodLink RX5 61 yX5_isLetter, .static yX5_isLetter, .initialized RX5, .code yX5_isLetter cX5_isLetter 1 (some .boolean), .methodLink RX5 65 yX5_asked_, .instanceMethod yX5_asked_, .selects RX5 yX5_asked_ yX5_asked_, .code yX5_asked_ cX5_asked_ 3 (some .boolean), .fieldLink RX5 48 "GhostGameModel" "thrown" "I"] ++ wsX50)
def wsX5_wipe : List Cond := .code yX5_wipe cX5_wipe 2 (some .int) :: ([.fieldLink RX5 54 "GhostGameModel" "slipLength" "I", .methodLink RX5 69 yX5_told, .instanceMethod yX5_told, .selects RX5 yX5_told yX5_told, .initialized RX5, .code yX5_told cX5_told 2 (some .int), .fieldLink RX5 48 "GhostGameModel" "thrown" "I"] ++ wsX50)
def wsX5_slipLength : List Cond := .code yX5_slipLength cX5_slipLength 1 (some .int) :: ([.fieldLink RX5 54 "GhostGameModel" "slipLength" "I", .methodLink RX5 69 yX5_told, .instanceMethod yX5_told, .selects RX5 yX5_told yX5_told, .initialized RX5, .code yX5_told cX5_told 2 (some .int), .fieldLink RX5 48 "GhostGameModel" "thrown" "I"] ++ wsX50)
def wsX5_slipAt : List Cond := .code yX5_slipAt cX5_slipAt 2 (some .int) :: ([.fieldLink RX5 54 "GhostGameModel" "slipLength" "I", .fieldLink RX5 7 "GhostGameModel" "slip" "[I", .methodLink RX5 73 yX5_asked, .instanceMethod yX5_asked, .selects RX5 yX5_asked yX5_asked, .initialized RX5, .code yX5_asked cX5_asked 2 (some .boolean), .fieldLink RX5 48 "GhostGameModel" "thrown" "I"] ++ wsX50)
def wsX5_addWord : List Cond := .code yX5_addWord cX5_addWord 2 (some .int) :: ([.fieldLink RX5 54 "GhostGameModel" "slipLength" "I", .fieldLink RX5 51 "GhostGameModel" "words" "I", .fieldLink RX5 16 "GhostGameModel" "length" "[I", .fieldLink RX5 13 "GhostGameModel" "letters" "[I", .fieldLink RX5 7 "GhostGameModel" "slip" "[I", .methodLink RX5 76 yX5_found, .instanceMethod yX5_found, .selects RX5 yX5_found yX5_found, .initialized RX5, .code yX5_found cX5_found 3 (some .int), .methodLink RX5 57 yX5_begins, .instanceMethod yX5_begins, .selects RX5 yX5_begins yX5_begins, .code yX5_begins cX5_begins 6 (some .boolean), .methodLink RX5 65 yX5_asked_, .instanceMethod yX5_asked_, .selects RX5 yX5_asked_ yX5_asked_, .code yX5_asked_ cX5_asked_ 3 (some .boolean), .fieldLink RX5 48 "GhostGameModel" "thrown" "I"] ++ wsX50)
def wsX5_removeWord : List Cond := .code yX5_removeWord cX5_removeWord 3 (some .int) :: ([.fieldLink RX5 51 "GhostGameModel" "words" "I", .fieldLink RX5 16 "GhostGameModel" "length" "[I", .fieldLink RX5 13 "GhostGameModel" "letters" "[I", .methodLink RX5 76 yX5_found, .instanceMethod yX5_found, .selects RX5 yX5_found yX5_found, .initialized RX5, .code yX5_found cX5_found 3 (some .int), .fieldLink RX5 54 "GhostGameModel" "slipLength" "I", .fieldLink RX5 7 "GhostGameModel" "slip" "[I", .methodLink RX5 57 yX5_begins, .instanceMethod yX5_begins, .selects RX5 yX5_begins yX5_begins, .code yX5_begins cX5_begins 6 (some .boolean), .methodLink RX5 73 yX5_asked, .instanceMethod yX5_asked, .selects RX5 yX5_asked yX5_asked, .code yX5_asked cX5_asked 2 (some .boolean), .fieldLink RX5 48 "GhostGameModel" "thrown" "I"] ++ wsX50)
def wsX5_isWord : List Cond := .code yX5_isWord cX5_isWord 1 (some .boolean) :: ([.fieldLink RX5 48 "GhostGameModel" "thrown" "I", .methodLink RX5 76 yX5_found, .instanceMethod yX5_found, .selects RX5 yX5_found yX5_found, .initialized RX5, .code yX5_found cX5_found 3 (some .int), .fieldLink RX5 51 "GhostGameModel" "words" "I", .fieldLink RX5 16 "GhostGameModel" "length" "[I", .fieldLink RX5 54 "GhostGameModel" "slipLength" "I", .fieldLink RX5 7 "GhostGameModel" "slip" "[I", .methodLink RX5 57 yX5_begins, .instanceMethod yX5_begins, .selects RX5 yX5_begins yX5_begins, .code yX5_begins cX5_begins 6 (some .boolean), .fieldLink RX5 13 "GhostGameModel" "letters" "[I"] ++ wsX50)
def wsX5_words : List Cond := .code yX5_words cX5_words 1 (some .int) :: ([.fieldLink RX5 51 "GhostGameModel" "words" "I", .methodLink RX5 69 yX5_told, .instanceMethod yX5_told, .selects RX5 yX5_told yX5_told, .initialized RX5, .code yX5_told cX5_told 2 (some .int), .fieldLink RX5 48 "GhostGameModel" "thrown" "I"] ++ wsX50)
def wsX5_wordsFromSlip : List Cond := .code yX5_wordsFromSlip cX5_wordsFromSlip 3 (some .int) :: ([.fieldLink RX5 51 "GhostGameModel" "words" "I", .fieldLink RX5 7 "GhostGameModel" "slip" "[I", .fieldLink RX5 54 "GhostGameModel" "slipLength" "I", .methodLink RX5 57 yX5_begins, .instanceMethod yX5_begins, .selects RX5 yX5_begins yX5_begins, .initialized RX5, .code yX5_begins cX5_begins 6 (some .boolean), .fieldLink RX5 16 "GhostGameModel" "length" "[I", .fieldLink RX5 13 "GhostGameModel" "letters" "[I", .methodLink RX5 69 yX5_told, .instanceMethod yX5_told, .selects RX5 yX5_told yX5_told, .code yX5_told cX5_told 2 (some .int), .fieldLink RX5 48 "GhostGameModel" "thrown" "I"] ++ wsX50)
def wsX5_beginnings : List Cond := .code yX5_beginnings cX5_beginnings 6 (some .int) :: ([.fieldLink RX5 51 "GhostGameModel" "words" "I", .fieldLink RX5 16 "GhostGameModel" "length" "[I", .methodLink RX5 80 yX5_areAlike, .instanceMethod yX5_areAlike, .selects RX5 yX5_areAlike yX5_areAlike, .initialized RX5, .code yX5_areAlike cX5_areAlike 6 (some .boolean), .fieldLink RX5 13 "GhostGameModel" "letters" "[I", .methodLink RX5 69 yX5_told, .instanceMethod yX5_told, .selects RX5 yX5_told yX5_told, .code yX5_told cX5_told 2 (some .int), .fieldLink RX5 48 "GhostGameModel" "thrown" "I"] ++ wsX50)
def wsX5_copyWord : List Cond := .code yX5_copyWord cX5_copyWord 6 (some .int) :: ([.fieldLink RX5 51 "GhostGameModel" "words" "I", .fieldLink RX5 16 "GhostGameModel" "length" "[I", .fieldLink RX5 54 "GhostGameModel" "slipLength" "I", .fieldLink RX5 7 "GhostGameModel" "slip" "[I", .fieldLink RX5 13 "GhostGameModel" "letters" "[I", .methodLink RX5 73 yX5_asked, .instanceMethod yX5_asked, .selects RX5 yX5_asked yX5_asked, .initialized RX5, .code yX5_asked cX5_asked 2 (some .boolean), .fieldLink RX5 48 "GhostGameModel" "thrown" "I", .methodLink RX5 84 yX5_isBefore, .instanceMethod yX5_isBefore, .selects RX5 yX5_isBefore yX5_isBefore, .code yX5_isBefore cX5_isBefore 6 (some .boolean)] ++ wsX50)
def wsX5_setLeastLength : List Cond := .code yX5_setLeastLength cX5_setLeastLength 3 (some .int) :: ([.fieldLink RX5 19 "GhostGameModel" "least" "I", .methodLink RX5 73 yX5_asked, .instanceMethod yX5_asked, .selects RX5 yX5_asked yX5_asked, .initialized RX5, .code yX5_asked cX5_asked 2 (some .boolean), .fieldLink RX5 48 "GhostGameModel" "thrown" "I"] ++ wsX50)
def wsX5_goesOn : List Cond := .code yX5_goesOn cX5_goesOn 1 (some .boolean) :: ([.fieldLink RX5 88 "GhostGameModel" "players" "I", .fieldLink RX5 26 "GhostGameModel" "winner" "I"] ++ wsX50)
def wsX5_start : List Cond := .code yX5_start cX5_start 3 none :: ([.fieldLink RX5 88 "GhostGameModel" "players" "I", .fieldLink RX5 23 "GhostGameModel" "strikes" "[I", .fieldLink RX5 91 "GhostGameModel" "turn" "I", .fieldLink RX5 26 "GhostGameModel" "winner" "I", .fieldLink RX5 94 "GhostGameModel" "fragmentLength" "I", .methodLink RX5 73 yX5_asked, .instanceMethod yX5_asked, .selects RX5 yX5_asked yX5_asked, .initialized RX5, .code yX5_asked cX5_asked 2 (some .boolean), .fieldLink RX5 48 "GhostGameModel" "thrown" "I"] ++ wsX50)
def wsX5_behind : List Cond := .code yX5_behind cX5_behind 3 (some .int) :: ([.fieldLink RX5 88 "GhostGameModel" "players" "I", .fieldLink RX5 23 "GhostGameModel" "strikes" "[I"] ++ wsX50)
def wsX5_loses : List Cond := .code yX5_loses cX5_loses 4 (some .int) :: ([.fieldLink RX5 23 "GhostGameModel" "strikes" "[I", .fieldLink RX5 94 "GhostGameModel" "fragmentLength" "I", .fieldLink RX5 88 "GhostGameModel" "players" "I", .fieldLink RX5 91 "GhostGameModel" "turn" "I", .fieldLink RX5 26 "GhostGameModel" "winner" "I", .methodLink RX5 97 yX5_behind, .instanceMethod yX5_behind, .selects RX5 yX5_behind yX5_behind, .initialized RX5, .code yX5_behind cX5_behind 3 (some .int)] ++ wsX50)
def wsX5_hasWord : List Cond := .code yX5_hasWord cX5_hasWord 4 (some .boolean) :: ([.fieldLink RX5 51 "GhostGameModel" "words" "I", .fieldLink RX5 29 "GhostGameModel" "fragment" "[I", .fieldLink RX5 94 "GhostGameModel" "fragmentLength" "I", .fieldLink RX5 16 "GhostGameModel" "length" "[I", .methodLink RX5 100 yX5_counts, .instanceMethod yX5_counts, .selects RX5 yX5_counts yX5_counts, .initialized RX5, .code yX5_counts cX5_counts 2 (some .boolean), .fieldLink RX5 19 "GhostGameModel" "least" "I", .methodLink RX5 57 yX5_begins, .instanceMethod yX5_begins, .selects RX5 yX5_begins yX5_begins, .code yX5_begins cX5_begins 6 (some .boolean), .fieldLink RX5 13 "GhostGameModel" "letters" "[I"] ++ wsX50)
def wsX5_play_r1 : List Cond := [Cond.fieldLink RX5 94 "GhostGameModel" "fragmentLength" "I", Cond.fieldLink RX5 29 "GhostGameModel" "fragment" "[I", Cond.fieldLink RX5 91 "GhostGameModel" "turn" "I", Cond.fieldLink RX5 113 "GhostGameModel" "latest" "I", Cond.methodLink RX5 61 yX5_isLetter, Cond.static yX5_isLetter, Cond.initialized RX5, Cond.code yX5_isLetter cX5_isLetter 1 (some .boolean), Cond.methodLink RX5 103 yX5_goesOn, Cond.instanceMethod yX5_goesOn, Cond.selects RX5 yX5_goesOn yX5_goesOn, Cond.code yX5_goesOn cX5_goesOn 1 (some .boolean), Cond.fieldLink RX5 88 "GhostGameModel" "players" "I", Cond.fieldLink RX5 26 "GhostGameModel" "winner" "I", Cond.methodLink RX5 65 yX5_asked_, Cond.instanceMethod yX5_asked_, Cond.selects RX5 yX5_asked_ yX5_asked_, Cond.code yX5_asked_ cX5_asked_ 3 (some .boolean), Cond.fieldLink RX5 48 "GhostGameModel" "thrown" "I", Cond.methodLink RX5 107 yX5_hasWord, Cond.instanceMethod yX5_hasWord, Cond.selects RX5 yX5_hasWord yX5_hasWord, Cond.code yX5_hasWord cX5_hasWord 4 (some .boolean), Cond.fieldLink RX5 51 "GhostGameModel" "words" "I"]
def wsX5_play_r2 : List Cond := [Cond.fieldLink RX5 16 "GhostGameModel" "length" "[I", Cond.methodLink RX5 100 yX5_counts, Cond.instanceMethod yX5_counts, Cond.selects RX5 yX5_counts yX5_counts, Cond.code yX5_counts cX5_counts 2 (some .boolean), Cond.fieldLink RX5 19 "GhostGameModel" "least" "I", Cond.methodLink RX5 57 yX5_begins, Cond.instanceMethod yX5_begins, Cond.selects RX5 yX5_begins yX5_begins, Cond.code yX5_begins cX5_begins 6 (some .boolean), Cond.fieldLink RX5 13 "GhostGameModel" "letters" "[I", Cond.methodLink RX5 110 yX5_loses, Cond.instanceMethod yX5_loses, Cond.selects RX5 yX5_loses yX5_loses, Cond.code yX5_loses cX5_loses 4 (some .int), Cond.fieldLink RX5 23 "GhostGameModel" "strikes" "[I", Cond.methodLink RX5 97 yX5_behind, Cond.instanceMethod yX5_behind, Cond.selects RX5 yX5_behind yX5_behind, Cond.code yX5_behind cX5_behind 3 (some .int)]
def wsX5_play : List Cond := .code yX5_play cX5_play 2 (some .int) :: ((wsX5_play_r1 ++ wsX5_play_r2) ++ wsX50)
def wsX5_challenge_r1 : List Cond := [Cond.fieldLink RX5 94 "GhostGameModel" "fragmentLength" "I", Cond.fieldLink RX5 91 "GhostGameModel" "turn" "I", Cond.fieldLink RX5 113 "GhostGameModel" "latest" "I", Cond.methodLink RX5 103 yX5_goesOn, Cond.instanceMethod yX5_goesOn, Cond.selects RX5 yX5_goesOn yX5_goesOn, Cond.initialized RX5, Cond.code yX5_goesOn cX5_goesOn 1 (some .boolean), Cond.fieldLink RX5 88 "GhostGameModel" "players" "I", Cond.fieldLink RX5 26 "GhostGameModel" "winner" "I", Cond.methodLink RX5 73 yX5_asked, Cond.instanceMethod yX5_asked, Cond.selects RX5 yX5_asked yX5_asked, Cond.code yX5_asked cX5_asked 2 (some .boolean), Cond.fieldLink RX5 48 "GhostGameModel" "thrown" "I", Cond.methodLink RX5 107 yX5_hasWord, Cond.instanceMethod yX5_hasWord, Cond.selects RX5 yX5_hasWord yX5_hasWord, Cond.code yX5_hasWord cX5_hasWord 4 (some .boolean), Cond.fieldLink RX5 51 "GhostGameModel" "words" "I", Cond.fieldLink RX5 29 "GhostGameModel" "fragment" "[I", Cond.fieldLink RX5 16 "GhostGameModel" "length" "[I", Cond.methodLink RX5 100 yX5_counts, Cond.instanceMethod yX5_counts]
def wsX5_challenge_r2 : List Cond := [Cond.selects RX5 yX5_counts yX5_counts, Cond.code yX5_counts cX5_counts 2 (some .boolean), Cond.fieldLink RX5 19 "GhostGameModel" "least" "I", Cond.methodLink RX5 57 yX5_begins, Cond.instanceMethod yX5_begins, Cond.selects RX5 yX5_begins yX5_begins, Cond.code yX5_begins cX5_begins 6 (some .boolean), Cond.fieldLink RX5 13 "GhostGameModel" "letters" "[I", Cond.methodLink RX5 110 yX5_loses, Cond.instanceMethod yX5_loses, Cond.selects RX5 yX5_loses yX5_loses, Cond.code yX5_loses cX5_loses 4 (some .int), Cond.fieldLink RX5 23 "GhostGameModel" "strikes" "[I", Cond.methodLink RX5 97 yX5_behind, Cond.instanceMethod yX5_behind, Cond.selects RX5 yX5_behind yX5_behind, Cond.code yX5_behind cX5_behind 3 (some .int)]
def wsX5_challenge : List Cond := .code yX5_challenge cX5_challenge 1 (some .int) :: ((wsX5_challenge_r1 ++ wsX5_challenge_r2) ++ wsX50)
def wsX5_turn : List Cond := .code yX5_turn cX5_turn 1 (some .int) :: ([.fieldLink RX5 91 "GhostGameModel" "turn" "I", .methodLink RX5 103 yX5_goesOn, .instanceMethod yX5_goesOn, .selects RX5 yX5_goesOn yX5_goesOn, .initialized RX5, .code yX5_goesOn cX5_goesOn 1 (some .boolean), .fieldLink RX5 88 "GhostGameModel" "players" "I", .fieldLink RX5 26 "GhostGameModel" "winner" "I", .methodLink RX5 69 yX5_told, .instanceMethod yX5_told, .selects RX5 yX5_told yX5_told, .code yX5_told cX5_told 2 (some .int), .fieldLink RX5 48 "GhostGameModel" "thrown" "I"] ++ wsX50)
def wsX5_winner : List Cond := .code yX5_winner cX5_winner 1 (some .int) :: ([.fieldLink RX5 26 "GhostGameModel" "winner" "I", .methodLink RX5 69 yX5_told, .instanceMethod yX5_told, .selects RX5 yX5_told yX5_told, .initialized RX5, .code yX5_told cX5_told 2 (some .int), .fieldLink RX5 48 "GhostGameModel" "thrown" "I"] ++ wsX50)
def wsX5_players : List Cond := .code yX5_players cX5_players 1 (some .int) :: ([.fieldLink RX5 88 "GhostGameModel" "players" "I", .methodLink RX5 69 yX5_told, .instanceMethod yX5_told, .selects RX5 yX5_told yX5_told, .initialized RX5, .code yX5_told cX5_told 2 (some .int), .fieldLink RX5 48 "GhostGameModel" "thrown" "I"] ++ wsX50)
def wsX5_strikes : List Cond := .code yX5_strikes cX5_strikes 2 (some .int) :: ([.fieldLink RX5 88 "GhostGameModel" "players" "I", .fieldLink RX5 23 "GhostGameModel" "strikes" "[I", .methodLink RX5 73 yX5_asked, .instanceMethod yX5_asked, .selects RX5 yX5_asked yX5_asked, .initialized RX5, .code yX5_asked cX5_asked 2 (some .boolean), .fieldLink RX5 48 "GhostGameModel" "thrown" "I"] ++ wsX50)
def wsX5_fragmentLength : List Cond := .code yX5_fragmentLength cX5_fragmentLength 1 (some .int) :: ([.fieldLink RX5 94 "GhostGameModel" "fragmentLength" "I", .methodLink RX5 69 yX5_told, .instanceMethod yX5_told, .selects RX5 yX5_told yX5_told, .initialized RX5, .code yX5_told cX5_told 2 (some .int), .fieldLink RX5 48 "GhostGameModel" "thrown" "I"] ++ wsX50)
def wsX5_fragmentAt : List Cond := .code yX5_fragmentAt cX5_fragmentAt 2 (some .int) :: ([.fieldLink RX5 94 "GhostGameModel" "fragmentLength" "I", .fieldLink RX5 29 "GhostGameModel" "fragment" "[I", .methodLink RX5 73 yX5_asked, .instanceMethod yX5_asked, .selects RX5 yX5_asked yX5_asked, .initialized RX5, .code yX5_asked cX5_asked 2 (some .boolean), .fieldLink RX5 48 "GhostGameModel" "thrown" "I"] ++ wsX50)
def wsX5_isWhole : List Cond := .code yX5_isWhole cX5_isWhole 5 (some .boolean) :: ([.fieldLink RX5 51 "GhostGameModel" "words" "I", .fieldLink RX5 16 "GhostGameModel" "length" "[I", .methodLink RX5 100 yX5_counts, .instanceMethod yX5_counts, .selects RX5 yX5_counts yX5_counts, .initialized RX5, .code yX5_counts cX5_counts 2 (some .boolean), .fieldLink RX5 19 "GhostGameModel" "least" "I", .methodLink RX5 80 yX5_areAlike, .instanceMethod yX5_areAlike, .selects RX5 yX5_areAlike yX5_areAlike, .code yX5_areAlike cX5_areAlike 6 (some .boolean), .fieldLink RX5 13 "GhostGameModel" "letters" "[I"] ++ wsX50)
def wsX5_endBehind : List Cond := .code yX5_endBehind cX5_endBehind 6 (some .int) :: ([.fieldLink RX5 51 "GhostGameModel" "words" "I", .fieldLink RX5 16 "GhostGameModel" "length" "[I", .fieldLink RX5 13 "GhostGameModel" "letters" "[I", .fieldLink RX5 36 "GhostGameModel" "ends" "[I", .methodLink RX5 100 yX5_counts, .instanceMethod yX5_counts, .selects RX5 yX5_counts yX5_counts, .initialized RX5, .code yX5_counts cX5_counts 2 (some .boolean), .fieldLink RX5 19 "GhostGameModel" "least" "I", .methodLink RX5 80 yX5_areAlike, .instanceMethod yX5_areAlike, .selects RX5 yX5_areAlike yX5_areAlike, .code yX5_areAlike cX5_areAlike 6 (some .boolean), .methodLink RX5 116 yX5_isWhole, .instanceMethod yX5_isWhole, .selects RX5 yX5_isWhole yX5_isWhole, .code yX5_isWhole cX5_isWhole 5 (some .boolean)] ++ wsX50)
def wsX5_solves_r1 : List Cond := [Cond.fieldLink RX5 45 "GhostGameModel" "open" "[I", Cond.fieldLink RX5 42 "GhostGameModel" "good" "[I", Cond.fieldLink RX5 51 "GhostGameModel" "words" "I", Cond.fieldLink RX5 16 "GhostGameModel" "length" "[I", Cond.fieldLink RX5 13 "GhostGameModel" "letters" "[I", Cond.fieldLink RX5 32 "GhostGameModel" "wins" "[Z", Cond.fieldLink RX5 36 "GhostGameModel" "ends" "[I", Cond.fieldLink RX5 39 "GhostGameModel" "chosen" "[I", Cond.methodLink RX5 100 yX5_counts, Cond.instanceMethod yX5_counts, Cond.selects RX5 yX5_counts yX5_counts, Cond.initialized RX5, Cond.code yX5_counts cX5_counts 2 (some .boolean), Cond.fieldLink RX5 19 "GhostGameModel" "least" "I", Cond.methodLink RX5 80 yX5_areAlike, Cond.instanceMethod yX5_areAlike, Cond.selects RX5 yX5_areAlike yX5_areAlike, Cond.code yX5_areAlike cX5_areAlike 6 (some .boolean), Cond.methodLink RX5 116 yX5_isWhole, Cond.instanceMethod yX5_isWhole, Cond.selects RX5 yX5_isWhole yX5_isWhole, Cond.code yX5_isWhole cX5_isWhole 5 (some .boolean), Cond.methodLink RX5 119 yX5_endBehind, Cond.instanceMethod yX5_endBehind]
def wsX5_solves_r2 : List Cond := [Cond.selects RX5 yX5_endBehind yX5_endBehind, Cond.code yX5_endBehind cX5_endBehind 6 (some .int)]
def wsX5_solves : List Cond := .code yX5_solves cX5_solves 8 none :: ((wsX5_solves_r1 ++ wsX5_solves_r2) ++ wsX50)
def wsX5_looks_r1 : List Cond := [Cond.fieldLink RX5 48 "GhostGameModel" "thrown" "I", Cond.fieldLink RX5 94 "GhostGameModel" "fragmentLength" "I", Cond.fieldLink RX5 51 "GhostGameModel" "words" "I", Cond.fieldLink RX5 16 "GhostGameModel" "length" "[I", Cond.fieldLink RX5 29 "GhostGameModel" "fragment" "[I", Cond.methodLink RX5 100 yX5_counts, Cond.instanceMethod yX5_counts, Cond.selects RX5 yX5_counts yX5_counts, Cond.initialized RX5, Cond.code yX5_counts cX5_counts 2 (some .boolean), Cond.fieldLink RX5 19 "GhostGameModel" "least" "I", Cond.methodLink RX5 123 yX5_solves, Cond.instanceMethod yX5_solves, Cond.selects RX5 yX5_solves yX5_solves, Cond.code yX5_solves cX5_solves 8 none, Cond.fieldLink RX5 45 "GhostGameModel" "open" "[I", Cond.fieldLink RX5 42 "GhostGameModel" "good" "[I", Cond.fieldLink RX5 13 "GhostGameModel" "letters" "[I", Cond.fieldLink RX5 32 "GhostGameModel" "wins" "[Z", Cond.fieldLink RX5 36 "GhostGameModel" "ends" "[I", Cond.fieldLink RX5 39 "GhostGameModel" "chosen" "[I", Cond.methodLink RX5 80 yX5_areAlike, Cond.instanceMethod yX5_areAlike, Cond.selects RX5 yX5_areAlike yX5_areAlike]
def wsX5_looks_r2 : List Cond := [Cond.code yX5_areAlike cX5_areAlike 6 (some .boolean), Cond.methodLink RX5 116 yX5_isWhole, Cond.instanceMethod yX5_isWhole, Cond.selects RX5 yX5_isWhole yX5_isWhole, Cond.code yX5_isWhole cX5_isWhole 5 (some .boolean), Cond.methodLink RX5 119 yX5_endBehind, Cond.instanceMethod yX5_endBehind, Cond.selects RX5 yX5_endBehind yX5_endBehind, Cond.code yX5_endBehind cX5_endBehind 6 (some .int), Cond.methodLink RX5 57 yX5_begins, Cond.instanceMethod yX5_begins, Cond.selects RX5 yX5_begins yX5_begins, Cond.code yX5_begins cX5_begins 6 (some .boolean)]
def wsX5_looks : List Cond := .code yX5_looks cX5_looks 4 (some .int) :: ((wsX5_looks_r1 ++ wsX5_looks_r2) ++ wsX50)
def wsX5_openLetters_r1 : List Cond := [Cond.fieldLink RX5 45 "GhostGameModel" "open" "[I", Cond.methodLink RX5 127 yX5_looks, Cond.instanceMethod yX5_looks, Cond.selects RX5 yX5_looks yX5_looks, Cond.initialized RX5, Cond.code yX5_looks cX5_looks 4 (some .int), Cond.fieldLink RX5 48 "GhostGameModel" "thrown" "I", Cond.fieldLink RX5 94 "GhostGameModel" "fragmentLength" "I", Cond.fieldLink RX5 51 "GhostGameModel" "words" "I", Cond.fieldLink RX5 16 "GhostGameModel" "length" "[I", Cond.fieldLink RX5 29 "GhostGameModel" "fragment" "[I", Cond.methodLink RX5 100 yX5_counts, Cond.instanceMethod yX5_counts, Cond.selects RX5 yX5_counts yX5_counts, Cond.code yX5_counts cX5_counts 2 (some .boolean), Cond.fieldLink RX5 19 "GhostGameModel" "least" "I", Cond.methodLink RX5 123 yX5_solves, Cond.instanceMethod yX5_solves, Cond.selects RX5 yX5_solves yX5_solves, Cond.code yX5_solves cX5_solves 8 none, Cond.fieldLink RX5 42 "GhostGameModel" "good" "[I", Cond.fieldLink RX5 13 "GhostGameModel" "letters" "[I", Cond.fieldLink RX5 32 "GhostGameModel" "wins" "[Z", Cond.fieldLink RX5 36 "GhostGameModel" "ends" "[I"]
def wsX5_openLetters_r2 : List Cond := [Cond.fieldLink RX5 39 "GhostGameModel" "chosen" "[I", Cond.methodLink RX5 80 yX5_areAlike, Cond.instanceMethod yX5_areAlike, Cond.selects RX5 yX5_areAlike yX5_areAlike, Cond.code yX5_areAlike cX5_areAlike 6 (some .boolean), Cond.methodLink RX5 116 yX5_isWhole, Cond.instanceMethod yX5_isWhole, Cond.selects RX5 yX5_isWhole yX5_isWhole, Cond.code yX5_isWhole cX5_isWhole 5 (some .boolean), Cond.methodLink RX5 119 yX5_endBehind, Cond.instanceMethod yX5_endBehind, Cond.selects RX5 yX5_endBehind yX5_endBehind, Cond.code yX5_endBehind cX5_endBehind 6 (some .int), Cond.methodLink RX5 57 yX5_begins, Cond.instanceMethod yX5_begins, Cond.selects RX5 yX5_begins yX5_begins, Cond.code yX5_begins cX5_begins 6 (some .boolean)]
def wsX5_openLetters : List Cond := .code yX5_openLetters cX5_openLetters 2 (some .int) :: ((wsX5_openLetters_r1 ++ wsX5_openLetters_r2) ++ wsX50)
def wsX5_winningLetters_r1 : List Cond := [Cond.fieldLink RX5 42 "GhostGameModel" "good" "[I", Cond.methodLink RX5 127 yX5_looks, Cond.instanceMethod yX5_looks, Cond.selects RX5 yX5_looks yX5_looks, Cond.initialized RX5, Cond.code yX5_looks cX5_looks 4 (some .int), Cond.fieldLink RX5 48 "GhostGameModel" "thrown" "I", Cond.fieldLink RX5 94 "GhostGameModel" "fragmentLength" "I", Cond.fieldLink RX5 51 "GhostGameModel" "words" "I", Cond.fieldLink RX5 16 "GhostGameModel" "length" "[I", Cond.fieldLink RX5 29 "GhostGameModel" "fragment" "[I", Cond.methodLink RX5 100 yX5_counts, Cond.instanceMethod yX5_counts, Cond.selects RX5 yX5_counts yX5_counts, Cond.code yX5_counts cX5_counts 2 (some .boolean), Cond.fieldLink RX5 19 "GhostGameModel" "least" "I", Cond.methodLink RX5 123 yX5_solves, Cond.instanceMethod yX5_solves, Cond.selects RX5 yX5_solves yX5_solves, Cond.code yX5_solves cX5_solves 8 none, Cond.fieldLink RX5 45 "GhostGameModel" "open" "[I", Cond.fieldLink RX5 13 "GhostGameModel" "letters" "[I", Cond.fieldLink RX5 32 "GhostGameModel" "wins" "[Z", Cond.fieldLink RX5 36 "GhostGameModel" "ends" "[I"]
def wsX5_winningLetters_r2 : List Cond := [Cond.fieldLink RX5 39 "GhostGameModel" "chosen" "[I", Cond.methodLink RX5 80 yX5_areAlike, Cond.instanceMethod yX5_areAlike, Cond.selects RX5 yX5_areAlike yX5_areAlike, Cond.code yX5_areAlike cX5_areAlike 6 (some .boolean), Cond.methodLink RX5 116 yX5_isWhole, Cond.instanceMethod yX5_isWhole, Cond.selects RX5 yX5_isWhole yX5_isWhole, Cond.code yX5_isWhole cX5_isWhole 5 (some .boolean), Cond.methodLink RX5 119 yX5_endBehind, Cond.instanceMethod yX5_endBehind, Cond.selects RX5 yX5_endBehind yX5_endBehind, Cond.code yX5_endBehind cX5_endBehind 6 (some .int), Cond.methodLink RX5 57 yX5_begins, Cond.instanceMethod yX5_begins, Cond.selects RX5 yX5_begins yX5_begins, Cond.code yX5_begins cX5_begins 6 (some .boolean)]
def wsX5_winningLetters : List Cond := .code yX5_winningLetters cX5_winningLetters 2 (some .int) :: ((wsX5_winningLetters_r1 ++ wsX5_winningLetters_r2) ++ wsX50)
def wsX5_canWin_r1 : List Cond := [Cond.fieldLink RX5 32 "GhostGameModel" "wins" "[Z", Cond.methodLink RX5 127 yX5_looks, Cond.instanceMethod yX5_looks, Cond.selects RX5 yX5_looks yX5_looks, Cond.initialized RX5, Cond.code yX5_looks cX5_looks 4 (some .int), Cond.fieldLink RX5 48 "GhostGameModel" "thrown" "I", Cond.fieldLink RX5 94 "GhostGameModel" "fragmentLength" "I", Cond.fieldLink RX5 51 "GhostGameModel" "words" "I", Cond.fieldLink RX5 16 "GhostGameModel" "length" "[I", Cond.fieldLink RX5 29 "GhostGameModel" "fragment" "[I", Cond.methodLink RX5 100 yX5_counts, Cond.instanceMethod yX5_counts, Cond.selects RX5 yX5_counts yX5_counts, Cond.code yX5_counts cX5_counts 2 (some .boolean), Cond.fieldLink RX5 19 "GhostGameModel" "least" "I", Cond.methodLink RX5 123 yX5_solves, Cond.instanceMethod yX5_solves, Cond.selects RX5 yX5_solves yX5_solves, Cond.code yX5_solves cX5_solves 8 none, Cond.fieldLink RX5 45 "GhostGameModel" "open" "[I", Cond.fieldLink RX5 42 "GhostGameModel" "good" "[I", Cond.fieldLink RX5 13 "GhostGameModel" "letters" "[I", Cond.fieldLink RX5 36 "GhostGameModel" "ends" "[I"]
def wsX5_canWin_r2 : List Cond := [Cond.fieldLink RX5 39 "GhostGameModel" "chosen" "[I", Cond.methodLink RX5 80 yX5_areAlike, Cond.instanceMethod yX5_areAlike, Cond.selects RX5 yX5_areAlike yX5_areAlike, Cond.code yX5_areAlike cX5_areAlike 6 (some .boolean), Cond.methodLink RX5 116 yX5_isWhole, Cond.instanceMethod yX5_isWhole, Cond.selects RX5 yX5_isWhole yX5_isWhole, Cond.code yX5_isWhole cX5_isWhole 5 (some .boolean), Cond.methodLink RX5 119 yX5_endBehind, Cond.instanceMethod yX5_endBehind, Cond.selects RX5 yX5_endBehind yX5_endBehind, Cond.code yX5_endBehind cX5_endBehind 6 (some .int), Cond.methodLink RX5 57 yX5_begins, Cond.instanceMethod yX5_begins, Cond.selects RX5 yX5_begins yX5_begins, Cond.code yX5_begins cX5_begins 6 (some .boolean)]
def wsX5_canWin : List Cond := .code yX5_canWin cX5_canWin 2 (some .boolean) :: ((wsX5_canWin_r1 ++ wsX5_canWin_r2) ++ wsX50)
def wsX5_end_r1 : List Cond := [Cond.fieldLink RX5 36 "GhostGameModel" "ends" "[I", Cond.methodLink RX5 127 yX5_looks, Cond.instanceMethod yX5_looks, Cond.selects RX5 yX5_looks yX5_looks, Cond.initialized RX5, Cond.code yX5_looks cX5_looks 4 (some .int), Cond.fieldLink RX5 48 "GhostGameModel" "thrown" "I", Cond.fieldLink RX5 94 "GhostGameModel" "fragmentLength" "I", Cond.fieldLink RX5 51 "GhostGameModel" "words" "I", Cond.fieldLink RX5 16 "GhostGameModel" "length" "[I", Cond.fieldLink RX5 29 "GhostGameModel" "fragment" "[I", Cond.methodLink RX5 100 yX5_counts, Cond.instanceMethod yX5_counts, Cond.selects RX5 yX5_counts yX5_counts, Cond.code yX5_counts cX5_counts 2 (some .boolean), Cond.fieldLink RX5 19 "GhostGameModel" "least" "I", Cond.methodLink RX5 123 yX5_solves, Cond.instanceMethod yX5_solves, Cond.selects RX5 yX5_solves yX5_solves, Cond.code yX5_solves cX5_solves 8 none, Cond.fieldLink RX5 45 "GhostGameModel" "open" "[I", Cond.fieldLink RX5 42 "GhostGameModel" "good" "[I", Cond.fieldLink RX5 13 "GhostGameModel" "letters" "[I", Cond.fieldLink RX5 32 "GhostGameModel" "wins" "[Z"]
def wsX5_end_r2 : List Cond := [Cond.fieldLink RX5 39 "GhostGameModel" "chosen" "[I", Cond.methodLink RX5 80 yX5_areAlike, Cond.instanceMethod yX5_areAlike, Cond.selects RX5 yX5_areAlike yX5_areAlike, Cond.code yX5_areAlike cX5_areAlike 6 (some .boolean), Cond.methodLink RX5 116 yX5_isWhole, Cond.instanceMethod yX5_isWhole, Cond.selects RX5 yX5_isWhole yX5_isWhole, Cond.code yX5_isWhole cX5_isWhole 5 (some .boolean), Cond.methodLink RX5 119 yX5_endBehind, Cond.instanceMethod yX5_endBehind, Cond.selects RX5 yX5_endBehind yX5_endBehind, Cond.code yX5_endBehind cX5_endBehind 6 (some .int), Cond.methodLink RX5 57 yX5_begins, Cond.instanceMethod yX5_begins, Cond.selects RX5 yX5_begins yX5_begins, Cond.code yX5_begins cX5_begins 6 (some .boolean)]
def wsX5_end : List Cond := .code yX5_end cX5_end 2 (some .int) :: ((wsX5_end_r1 ++ wsX5_end_r2) ++ wsX50)
def wsX5_bestLetter_r1 : List Cond := [Cond.fieldLink RX5 39 "GhostGameModel" "chosen" "[I", Cond.methodLink RX5 127 yX5_looks, Cond.instanceMethod yX5_looks, Cond.selects RX5 yX5_looks yX5_looks, Cond.initialized RX5, Cond.code yX5_looks cX5_looks 4 (some .int), Cond.fieldLink RX5 48 "GhostGameModel" "thrown" "I", Cond.fieldLink RX5 94 "GhostGameModel" "fragmentLength" "I", Cond.fieldLink RX5 51 "GhostGameModel" "words" "I", Cond.fieldLink RX5 16 "GhostGameModel" "length" "[I", Cond.fieldLink RX5 29 "GhostGameModel" "fragment" "[I", Cond.methodLink RX5 100 yX5_counts, Cond.instanceMethod yX5_counts, Cond.selects RX5 yX5_counts yX5_counts, Cond.code yX5_counts cX5_counts 2 (some .boolean), Cond.fieldLink RX5 19 "GhostGameModel" "least" "I", Cond.methodLink RX5 123 yX5_solves, Cond.instanceMethod yX5_solves, Cond.selects RX5 yX5_solves yX5_solves, Cond.code yX5_solves cX5_solves 8 none, Cond.fieldLink RX5 45 "GhostGameModel" "open" "[I", Cond.fieldLink RX5 42 "GhostGameModel" "good" "[I", Cond.fieldLink RX5 13 "GhostGameModel" "letters" "[I", Cond.fieldLink RX5 32 "GhostGameModel" "wins" "[Z"]
def wsX5_bestLetter_r2 : List Cond := [Cond.fieldLink RX5 36 "GhostGameModel" "ends" "[I", Cond.methodLink RX5 80 yX5_areAlike, Cond.instanceMethod yX5_areAlike, Cond.selects RX5 yX5_areAlike yX5_areAlike, Cond.code yX5_areAlike cX5_areAlike 6 (some .boolean), Cond.methodLink RX5 116 yX5_isWhole, Cond.instanceMethod yX5_isWhole, Cond.selects RX5 yX5_isWhole yX5_isWhole, Cond.code yX5_isWhole cX5_isWhole 5 (some .boolean), Cond.methodLink RX5 119 yX5_endBehind, Cond.instanceMethod yX5_endBehind, Cond.selects RX5 yX5_endBehind yX5_endBehind, Cond.code yX5_endBehind cX5_endBehind 6 (some .int), Cond.methodLink RX5 57 yX5_begins, Cond.instanceMethod yX5_begins, Cond.selects RX5 yX5_begins yX5_begins, Cond.code yX5_begins cX5_begins 6 (some .boolean)]
def wsX5_bestLetter : List Cond := .code yX5_bestLetter cX5_bestLetter 2 (some .int) :: ((wsX5_bestLetter_r1 ++ wsX5_bestLetter_r2) ++ wsX50)
def wsX5_isWay : List Cond := .code yX5_isWay cX5_isWay 4 (some .boolean) :: ([.fieldLink RX5 16 "GhostGameModel" "length" "[I", .fieldLink RX5 94 "GhostGameModel" "fragmentLength" "I", .fieldLink RX5 29 "GhostGameModel" "fragment" "[I", .methodLink RX5 100 yX5_counts, .instanceMethod yX5_counts, .selects RX5 yX5_counts yX5_counts, .initialized RX5, .code yX5_counts cX5_counts 2 (some .boolean), .fieldLink RX5 19 "GhostGameModel" "least" "I", .methodLink RX5 57 yX5_begins, .instanceMethod yX5_begins, .selects RX5 yX5_begins yX5_begins, .code yX5_begins cX5_begins 6 (some .boolean), .fieldLink RX5 13 "GhostGameModel" "letters" "[I", .methodLink RX5 116 yX5_isWhole, .instanceMethod yX5_isWhole, .selects RX5 yX5_isWhole yX5_isWhole, .code yX5_isWhole cX5_isWhole 5 (some .boolean), .fieldLink RX5 51 "GhostGameModel" "words" "I", .methodLink RX5 80 yX5_areAlike, .instanceMethod yX5_areAlike, .selects RX5 yX5_areAlike yX5_areAlike, .code yX5_areAlike cX5_areAlike 6 (some .boolean)] ++ wsX50)
def wsX5_waysToPlay_r1 : List Cond := [Cond.fieldLink RX5 51 "GhostGameModel" "words" "I", Cond.methodLink RX5 130 yX5_isWay, Cond.instanceMethod yX5_isWay, Cond.selects RX5 yX5_isWay yX5_isWay, Cond.initialized RX5, Cond.code yX5_isWay cX5_isWay 4 (some .boolean), Cond.fieldLink RX5 16 "GhostGameModel" "length" "[I", Cond.fieldLink RX5 94 "GhostGameModel" "fragmentLength" "I", Cond.fieldLink RX5 29 "GhostGameModel" "fragment" "[I", Cond.methodLink RX5 100 yX5_counts, Cond.instanceMethod yX5_counts, Cond.selects RX5 yX5_counts yX5_counts, Cond.code yX5_counts cX5_counts 2 (some .boolean), Cond.fieldLink RX5 19 "GhostGameModel" "least" "I", Cond.methodLink RX5 57 yX5_begins, Cond.instanceMethod yX5_begins, Cond.selects RX5 yX5_begins yX5_begins, Cond.code yX5_begins cX5_begins 6 (some .boolean), Cond.fieldLink RX5 13 "GhostGameModel" "letters" "[I", Cond.methodLink RX5 116 yX5_isWhole, Cond.instanceMethod yX5_isWhole, Cond.selects RX5 yX5_isWhole yX5_isWhole, Cond.code yX5_isWhole cX5_isWhole 5 (some .boolean), Cond.methodLink RX5 80 yX5_areAlike]
def wsX5_waysToPlay_r2 : List Cond := [Cond.instanceMethod yX5_areAlike, Cond.selects RX5 yX5_areAlike yX5_areAlike, Cond.code yX5_areAlike cX5_areAlike 6 (some .boolean), Cond.methodLink RX5 69 yX5_told, Cond.instanceMethod yX5_told, Cond.selects RX5 yX5_told yX5_told, Cond.code yX5_told cX5_told 2 (some .int), Cond.fieldLink RX5 48 "GhostGameModel" "thrown" "I"]
def wsX5_waysToPlay : List Cond := .code yX5_waysToPlay cX5_waysToPlay 3 (some .int) :: ((wsX5_waysToPlay_r1 ++ wsX5_waysToPlay_r2) ++ wsX50)
def wsX5_waysToWin_r1 : List Cond := [Cond.fieldLink RX5 51 "GhostGameModel" "words" "I", Cond.fieldLink RX5 16 "GhostGameModel" "length" "[I", Cond.fieldLink RX5 94 "GhostGameModel" "fragmentLength" "I", Cond.methodLink RX5 130 yX5_isWay, Cond.instanceMethod yX5_isWay, Cond.selects RX5 yX5_isWay yX5_isWay, Cond.initialized RX5, Cond.code yX5_isWay cX5_isWay 4 (some .boolean), Cond.fieldLink RX5 29 "GhostGameModel" "fragment" "[I", Cond.methodLink RX5 100 yX5_counts, Cond.instanceMethod yX5_counts, Cond.selects RX5 yX5_counts yX5_counts, Cond.code yX5_counts cX5_counts 2 (some .boolean), Cond.fieldLink RX5 19 "GhostGameModel" "least" "I", Cond.methodLink RX5 57 yX5_begins, Cond.instanceMethod yX5_begins, Cond.selects RX5 yX5_begins yX5_begins, Cond.code yX5_begins cX5_begins 6 (some .boolean), Cond.fieldLink RX5 13 "GhostGameModel" "letters" "[I", Cond.methodLink RX5 116 yX5_isWhole, Cond.instanceMethod yX5_isWhole, Cond.selects RX5 yX5_isWhole yX5_isWhole, Cond.code yX5_isWhole cX5_isWhole 5 (some .boolean), Cond.methodLink RX5 80 yX5_areAlike]
def wsX5_waysToWin_r2 : List Cond := [Cond.instanceMethod yX5_areAlike, Cond.selects RX5 yX5_areAlike yX5_areAlike, Cond.code yX5_areAlike cX5_areAlike 6 (some .boolean), Cond.methodLink RX5 69 yX5_told, Cond.instanceMethod yX5_told, Cond.selects RX5 yX5_told yX5_told, Cond.code yX5_told cX5_told 2 (some .int), Cond.fieldLink RX5 48 "GhostGameModel" "thrown" "I"]
def wsX5_waysToWin : List Cond := .code yX5_waysToWin cX5_waysToWin 3 (some .int) :: ((wsX5_waysToWin_r1 ++ wsX5_waysToWin_r2) ++ wsX50)
def wsJ9_abs_0f7a4 : List Cond := .code yJ9_abs_0f7a4 cJ9_abs_0f7a4 1 (some .int) :: ([])
def wsJ9_max_7cf53 : List Cond := .code yJ9_max_7cf53 cJ9_max_7cf53 2 (some .int) :: ([])
def wsJ9_min_7cf53 : List Cond := .code yJ9_min_7cf53 cJ9_min_7cf53 2 (some .int) :: ([])
def wsL_write_r1 : List Cond := [Cond.classLink RL 13 "java/lang/IllegalArgumentException", Cond.classLink RL 15 "java/lang/IllegalStateException", Cond.methodLink RL 7 yX4_write, Cond.instanceMethod yX4_write, Cond.selects RX4 yX4_write yX4_write, Cond.initialized RX4, Cond.code yX4_write cX4_write 2 (some .int), Cond.classLink RX4 33 "java/lang/IllegalArgumentException", Cond.initialized "java/lang/IllegalArgumentException", Cond.classLink RX4 44 "java/lang/IllegalStateException", Cond.initialized "java/lang/IllegalStateException", Cond.fieldLink RX4 25 "GhostGame" "slip" "J", Cond.methodLink RX4 29 yX4_isLetter, Cond.static yX4_isLetter, Cond.code yX4_isLetter cX4_isLetter 1 (some .boolean), Cond.methodLink RX4 40 yX2_isFull, Cond.static yX2_isFull, Cond.initialized RX2, Cond.code yX2_isFull cX2_isFull 2 (some .boolean), Cond.methodLink RX2 11 yX2_lengthOf, Cond.static yX2_lengthOf, Cond.code yX2_lengthOf cX2_lengthOf 2 (some .int), Cond.methodLink RX4 49 yX2_with, Cond.static yX2_with]
def wsL_write_r2 : List Cond := [Cond.code yX2_with cX2_with 3 (some .long), Cond.constantLong RX2 15 (1125899906842623), Cond.methodLink RX2 17 yX2_pack, Cond.static yX2_pack, Cond.code yX2_pack cX2_pack 3 (some .long), Cond.methodLink RX4 53 yX2_lengthOf]
def wsL_write : List Cond := .codeWith yL_write cL_write 4 (some .int) [(0, 9, 12, 13), (0, 9, 15, 15)] :: ((wsL_write_r1 ++ wsL_write_r2) ++ wsX40 ++ (vx_atS RX4 37 "java/lang/IllegalArgumentException" ["java/lang/RuntimeException", "java/lang/Exception"]).filter goodWord ++ (vx_atS RX4 48 "java/lang/IllegalStateException" ["java/lang/RuntimeException", "java/lang/Exception"]).filter goodWord)
def wsL_slipAt : List Cond := .codeWith yL_slipAt cL_slipAt 4 (some .int) [(0, 9, 12, 20)] :: ([.classLink RL 20 "java/lang/IndexOutOfBoundsException", .methodLink RL 17 yX4_slipAt, .instanceMethod yX4_slipAt, .selects RX4 yX4_slipAt yX4_slipAt, .initialized RX4, .code yX4_slipAt cX4_slipAt 3 (some .int), .classLink RX4 61 "java/lang/IndexOutOfBoundsException", .initialized "java/lang/IndexOutOfBoundsException", .fieldLink RX4 25 "GhostGame" "slip" "J", .methodLink RX4 57 yX2_letterAt, .static yX2_letterAt, .initialized RX2, .code yX2_letterAt cX2_letterAt 4 (some .int), .methodLink RX2 11 yX2_lengthOf, .static yX2_lengthOf, .code yX2_lengthOf cX2_lengthOf 2 (some .int)] ++ wsX40 ++ (vx_atS RX4 65 "java/lang/IndexOutOfBoundsException" ["java/lang/RuntimeException", "java/lang/Exception"]).filter goodWord)
def wsL_addWord_r1 : List Cond := [Cond.classLink RL 13 "java/lang/IllegalArgumentException", Cond.classLink RL 15 "java/lang/IllegalStateException", Cond.methodLink RL 22 yX4_addWord, Cond.instanceMethod yX4_addWord, Cond.selects RX4 yX4_addWord yX4_addWord, Cond.initialized RX4, Cond.code yX4_addWord cX4_addWord 1 (some .int), Cond.classLink RX4 33 "java/lang/IllegalArgumentException", Cond.initialized "java/lang/IllegalArgumentException", Cond.classLink RX4 44 "java/lang/IllegalStateException", Cond.initialized "java/lang/IllegalStateException", Cond.fieldLink RX4 25 "GhostGame" "slip" "J", Cond.fieldLink RX4 10 "GhostGame" "dictionary" "LGhostGame$Dictionary;", Cond.methodLink RX4 53 yX2_lengthOf, Cond.static yX2_lengthOf, Cond.initialized RX2, Cond.code yX2_lengthOf cX2_lengthOf 2 (some .int), Cond.methodLink RX4 68 yX0_add, Cond.instanceMethod yX0_add, Cond.selects RX0 yX0_add yX0_add, Cond.initialized RX0, Cond.code yX0_add cX0_add 4 (some .boolean), Cond.fieldLink RX0 15 "GhostGame$Dictionary" "count" "I", Cond.fieldLink RX0 9 "GhostGame$Dictionary" "words" "[J"]
def wsL_addWord_r2 : List Cond := [Cond.methodLink RX0 28 yX0_has, Cond.instanceMethod yX0_has, Cond.selects RX0 yX0_has yX0_has, Cond.code yX0_has cX0_has 3 (some .boolean), Cond.methodLink RX0 22 yX0_placeOf, Cond.instanceMethod yX0_placeOf, Cond.selects RX0 yX0_placeOf yX0_placeOf, Cond.code yX0_placeOf cX0_placeOf 4 (some .int), Cond.methodLink RX4 73 yX0_size, Cond.instanceMethod yX0_size, Cond.selects RX0 yX0_size yX0_size, Cond.code yX0_size cX0_size 1 (some .int)]
def wsL_addWord : List Cond := .codeWith yL_addWord cL_addWord 3 (some .int) [(0, 8, 11, 13), (0, 8, 14, 15)] :: ((wsL_addWord_r1 ++ wsL_addWord_r2) ++ wsX40 ++ wsX00 ++ (vx_atS RX4 37 "java/lang/IllegalArgumentException" ["java/lang/RuntimeException", "java/lang/Exception"]).filter goodWord ++ (vx_atS RX4 48 "java/lang/IllegalStateException" ["java/lang/RuntimeException", "java/lang/Exception"]).filter goodWord)
def wsL_removeWord_r1 : List Cond := [Cond.classLink RL 15 "java/lang/IllegalStateException", Cond.methodLink RL 26 yX4_removeWord, Cond.instanceMethod yX4_removeWord, Cond.selects RX4 yX4_removeWord yX4_removeWord, Cond.initialized RX4, Cond.code yX4_removeWord cX4_removeWord 1 (some .int), Cond.classLink RX4 44 "java/lang/IllegalStateException", Cond.initialized "java/lang/IllegalStateException", Cond.fieldLink RX4 10 "GhostGame" "dictionary" "LGhostGame$Dictionary;", Cond.fieldLink RX4 25 "GhostGame" "slip" "J", Cond.methodLink RX4 77 yX0_remove, Cond.instanceMethod yX0_remove, Cond.selects RX0 yX0_remove yX0_remove, Cond.initialized RX0, Cond.code yX0_remove cX0_remove 5 (some .boolean), Cond.fieldLink RX0 15 "GhostGame$Dictionary" "count" "I", Cond.fieldLink RX0 9 "GhostGame$Dictionary" "words" "[J", Cond.methodLink RX0 22 yX0_placeOf, Cond.instanceMethod yX0_placeOf, Cond.selects RX0 yX0_placeOf yX0_placeOf, Cond.code yX0_placeOf cX0_placeOf 4 (some .int), Cond.methodLink RX4 73 yX0_size, Cond.instanceMethod yX0_size, Cond.selects RX0 yX0_size yX0_size]
def wsL_removeWord_r2 : List Cond := [Cond.code yX0_size cX0_size 1 (some .int)]
def wsL_removeWord : List Cond := .codeWith yL_removeWord cL_removeWord 3 (some .int) [(0, 8, 11, 15)] :: ((wsL_removeWord_r1 ++ wsL_removeWord_r2) ++ wsX40 ++ wsX00 ++ (vx_atS RX4 48 "java/lang/IllegalStateException" ["java/lang/RuntimeException", "java/lang/Exception"]).filter goodWord)
def wsL_copyWord : List Cond := .codeWith yL_copyWord cL_copyWord 4 (some .int) [(0, 9, 12, 20)] :: ([.classLink RL 20 "java/lang/IndexOutOfBoundsException", .methodLink RL 29 yX4_copyWord, .instanceMethod yX4_copyWord, .selects RX4 yX4_copyWord yX4_copyWord, .initialized RX4, .code yX4_copyWord cX4_copyWord 4 (some .int), .classLink RX4 61 "java/lang/IndexOutOfBoundsException", .initialized "java/lang/IndexOutOfBoundsException", .fieldLink RX4 10 "GhostGame" "dictionary" "LGhostGame$Dictionary;", .fieldLink RX4 25 "GhostGame" "slip" "J", .methodLink RX4 91 yX0_wordAt, .instanceMethod yX0_wordAt, .selects RX0 yX0_wordAt yX0_wordAt, .initialized RX0, .code yX0_wordAt cX0_wordAt 2 (some .long), .fieldLink RX0 15 "GhostGame$Dictionary" "count" "I", .fieldLink RX0 9 "GhostGame$Dictionary" "words" "[J", .methodLink RX4 53 yX2_lengthOf, .static yX2_lengthOf, .initialized RX2, .code yX2_lengthOf cX2_lengthOf 2 (some .int)] ++ wsX40 ++ wsX00 ++ (vx_atS RX4 65 "java/lang/IndexOutOfBoundsException" ["java/lang/RuntimeException", "java/lang/Exception"]).filter goodWord)
def wsL_setLeastLength : List Cond := .codeWith yL_setLeastLength cL_setLeastLength 4 (some .int) [(0, 9, 12, 13)] :: ([.classLink RL 13 "java/lang/IllegalArgumentException", .methodLink RL 32 yX4_setLeastLength, .instanceMethod yX4_setLeastLength, .selects RX4 yX4_setLeastLength yX4_setLeastLength, .initialized RX4, .code yX4_setLeastLength cX4_setLeastLength 2 (some .int), .classLink RX4 33 "java/lang/IllegalArgumentException", .initialized "java/lang/IllegalArgumentException", .fieldLink RX4 10 "GhostGame" "dictionary" "LGhostGame$Dictionary;", .methodLink RX4 99 yX0_changeLeastLength, .instanceMethod yX0_changeLeastLength, .selects RX0 yX0_changeLeastLength yX0_changeLeastLength, .initialized RX0, .code yX0_changeLeastLength cX0_changeLeastLength 3 (some .int), .fieldLink RX0 19 "GhostGame$Dictionary" "leastLength" "I"] ++ wsX40 ++ wsX00 ++ (vx_atS RX4 37 "java/lang/IllegalArgumentException" ["java/lang/RuntimeException", "java/lang/Exception"]).filter goodWord)
def wsL_start : List Cond := .codeWith yL_start cL_start 3 (some .int) [(0, 5, 8, 13)] :: ([.classLink RL 13 "java/lang/IllegalArgumentException", .methodLink RL 35 yX4_start, .instanceMethod yX4_start, .selects RX4 yX4_start yX4_start, .initialized RX4, .code yX4_start cX4_start 2 none, .classLink RX4 33 "java/lang/IllegalArgumentException", .initialized "java/lang/IllegalArgumentException", .fieldLink RX4 19 "GhostGame" "game" "LGhostGame$Game;", .methodLink RX4 105 yX1_begin, .instanceMethod yX1_begin, .selects RX1 yX1_begin yX1_begin, .initialized RX1, .code yX1_begin cX1_begin 3 none, .fieldLink RX1 9 "GhostGame$Game" "strikes" "[I", .fieldLink RX1 15 "GhostGame$Game" "playerCount" "I", .fieldLink RX1 19 "GhostGame$Game" "mover" "I", .fieldLink RX1 22 "GhostGame$Game" "lastMover" "I", .fieldLink RX1 25 "GhostGame$Game" "champion" "I", .fieldLink RX1 30 "GhostGame$Game" "fragment" "J"] ++ wsX40 ++ wsX10 ++ (vx_atS RX4 37 "java/lang/IllegalArgumentException" ["java/lang/RuntimeException", "java/lang/Exception"]).filter goodWord)
def wsL_play_r1 : List Cond := [Cond.classLink RL 13 "java/lang/IllegalArgumentException", Cond.classLink RL 15 "java/lang/IllegalStateException", Cond.methodLink RL 39 yX4_play, Cond.instanceMethod yX4_play, Cond.selects RX4 yX4_play yX4_play, Cond.initialized RX4, Cond.code yX4_play cX4_play 2 (some .int), Cond.classLink RX4 33 "java/lang/IllegalArgumentException", Cond.initialized "java/lang/IllegalArgumentException", Cond.classLink RX4 44 "java/lang/IllegalStateException", Cond.initialized "java/lang/IllegalStateException", Cond.fieldLink RX4 19 "GhostGame" "game" "LGhostGame$Game;", Cond.fieldLink RX4 10 "GhostGame" "dictionary" "LGhostGame$Dictionary;", Cond.methodLink RX4 29 yX4_isLetter, Cond.static yX4_isLetter, Cond.code yX4_isLetter cX4_isLetter 1 (some .boolean), Cond.methodLink RX4 109 yX1_isOn, Cond.instanceMethod yX1_isOn, Cond.selects RX1 yX1_isOn yX1_isOn, Cond.initialized RX1, Cond.code yX1_isOn cX1_isOn 1 (some .boolean), Cond.fieldLink RX1 19 "GhostGame$Game" "mover" "I", Cond.methodLink RX4 113 yX1_fragment, Cond.instanceMethod yX1_fragment]
def wsL_play_r2 : List Cond := [Cond.selects RX1 yX1_fragment yX1_fragment, Cond.code yX1_fragment cX1_fragment 1 (some .long), Cond.fieldLink RX1 30 "GhostGame$Game" "fragment" "J", Cond.methodLink RX4 40 yX2_isFull, Cond.static yX2_isFull, Cond.initialized RX2, Cond.code yX2_isFull cX2_isFull 2 (some .boolean), Cond.methodLink RX2 11 yX2_lengthOf, Cond.static yX2_lengthOf, Cond.code yX2_lengthOf cX2_lengthOf 2 (some .int), Cond.methodLink RX4 119 yX1_addLetter, Cond.instanceMethod yX1_addLetter, Cond.selects RX1 yX1_addLetter yX1_addLetter, Cond.code yX1_addLetter cX1_addLetter 3 (some .int), Cond.fieldLink RX1 22 "GhostGame$Game" "lastMover" "I", Cond.methodLink RX1 38 yX2_with, Cond.static yX2_with, Cond.code yX2_with cX2_with 3 (some .long), Cond.constantLong RX2 15 (1125899906842623), Cond.methodLink RX2 17 yX2_pack, Cond.static yX2_pack, Cond.code yX2_pack cX2_pack 3 (some .long), Cond.methodLink RX1 42 yX0_hasCounting, Cond.instanceMethod yX0_hasCounting]
def wsL_play_r3 : List Cond := [Cond.selects RX0 yX0_hasCounting yX0_hasCounting, Cond.initialized RX0, Cond.code yX0_hasCounting cX0_hasCounting 3 (some .boolean), Cond.methodLink RX0 43 yX0_isLongEnough, Cond.instanceMethod yX0_isLongEnough, Cond.selects RX0 yX0_isLongEnough yX0_isLongEnough, Cond.code yX0_isLongEnough cX0_isLongEnough 3 (some .boolean), Cond.fieldLink RX0 19 "GhostGame$Dictionary" "leastLength" "I", Cond.methodLink RX0 36 yX2_lengthOf, Cond.methodLink RX0 28 yX0_has, Cond.instanceMethod yX0_has, Cond.selects RX0 yX0_has yX0_has, Cond.code yX0_has cX0_has 3 (some .boolean), Cond.methodLink RX0 22 yX0_placeOf, Cond.instanceMethod yX0_placeOf, Cond.selects RX0 yX0_placeOf yX0_placeOf, Cond.code yX0_placeOf cX0_placeOf 4 (some .int), Cond.fieldLink RX0 15 "GhostGame$Dictionary" "count" "I", Cond.fieldLink RX0 9 "GhostGame$Dictionary" "words" "[J", Cond.methodLink RX1 48 yX1_endRound, Cond.instanceMethod yX1_endRound, Cond.selects RX1 yX1_endRound yX1_endRound, Cond.code yX1_endRound cX1_endRound 2 (some .int), Cond.fieldLink RX1 9 "GhostGame$Game" "strikes" "[I"]
def wsL_play_r4 : List Cond := [Cond.fieldLink RX1 25 "GhostGame$Game" "champion" "I", Cond.methodLink RX1 34 yX1_hasPlayer, Cond.instanceMethod yX1_hasPlayer, Cond.selects RX1 yX1_hasPlayer yX1_hasPlayer, Cond.code yX1_hasPlayer cX1_hasPlayer 2 (some .boolean), Cond.fieldLink RX1 15 "GhostGame$Game" "playerCount" "I", Cond.methodLink RX1 58 yX1_playersLeft, Cond.instanceMethod yX1_playersLeft, Cond.selects RX1 yX1_playersLeft yX1_playersLeft, Cond.code yX1_playersLeft cX1_playersLeft 3 (some .int), Cond.methodLink RX1 62 yX1_isOut, Cond.instanceMethod yX1_isOut, Cond.selects RX1 yX1_isOut yX1_isOut, Cond.code yX1_isOut cX1_isOut 2 (some .boolean), Cond.methodLink RX1 65 yX1_strikesOf, Cond.instanceMethod yX1_strikesOf, Cond.selects RX1 yX1_strikesOf yX1_strikesOf, Cond.code yX1_strikesOf cX1_strikesOf 2 (some .int), Cond.methodLink RX1 52 yX1_nextBehind, Cond.instanceMethod yX1_nextBehind, Cond.selects RX1 yX1_nextBehind yX1_nextBehind, Cond.code yX1_nextBehind cX1_nextBehind 4 (some .int)]
def wsL_play : List Cond := .codeWith yL_play cL_play 4 (some .int) [(0, 9, 12, 13), (0, 9, 15, 15)] :: ((wsL_play_r1 ++ (wsL_play_r2 ++ (wsL_play_r3 ++ wsL_play_r4))) ++ wsX40 ++ wsX10 ++ wsX00 ++ (vx_atS RX4 37 "java/lang/IllegalArgumentException" ["java/lang/RuntimeException", "java/lang/Exception"]).filter goodWord ++ (vx_atS RX4 48 "java/lang/IllegalStateException" ["java/lang/RuntimeException", "java/lang/Exception"]).filter goodWord)
def wsL_challenge_r1 : List Cond := [Cond.classLink RL 15 "java/lang/IllegalStateException", Cond.methodLink RL 42 yX4_challenge, Cond.instanceMethod yX4_challenge, Cond.selects RX4 yX4_challenge yX4_challenge, Cond.initialized RX4, Cond.code yX4_challenge cX4_challenge 1 (some .int), Cond.classLink RX4 44 "java/lang/IllegalStateException", Cond.initialized "java/lang/IllegalStateException", Cond.fieldLink RX4 19 "GhostGame" "game" "LGhostGame$Game;", Cond.fieldLink RX4 10 "GhostGame" "dictionary" "LGhostGame$Dictionary;", Cond.methodLink RX4 109 yX1_isOn, Cond.instanceMethod yX1_isOn, Cond.selects RX1 yX1_isOn yX1_isOn, Cond.initialized RX1, Cond.code yX1_isOn cX1_isOn 1 (some .boolean), Cond.fieldLink RX1 19 "GhostGame$Game" "mover" "I", Cond.methodLink RX4 113 yX1_fragment, Cond.instanceMethod yX1_fragment, Cond.selects RX1 yX1_fragment yX1_fragment, Cond.code yX1_fragment cX1_fragment 1 (some .long), Cond.fieldLink RX1 30 "GhostGame$Game" "fragment" "J", Cond.methodLink RX4 125 yX1_settleChallenge, Cond.instanceMethod yX1_settleChallenge, Cond.selects RX1 yX1_settleChallenge yX1_settleChallenge]
def wsL_challenge_r2 : List Cond := [Cond.code yX1_settleChallenge cX1_settleChallenge 2 (some .int), Cond.fieldLink RX1 22 "GhostGame$Game" "lastMover" "I", Cond.methodLink RX1 55 yX0_hasCountingFrom, Cond.instanceMethod yX0_hasCountingFrom, Cond.selects RX0 yX0_hasCountingFrom yX0_hasCountingFrom, Cond.initialized RX0, Cond.code yX0_hasCountingFrom cX0_hasCountingFrom 4 (some .boolean), Cond.fieldLink RX0 15 "GhostGame$Dictionary" "count" "I", Cond.fieldLink RX0 9 "GhostGame$Dictionary" "words" "[J", Cond.methodLink RX0 43 yX0_isLongEnough, Cond.instanceMethod yX0_isLongEnough, Cond.selects RX0 yX0_isLongEnough yX0_isLongEnough, Cond.code yX0_isLongEnough cX0_isLongEnough 3 (some .boolean), Cond.fieldLink RX0 19 "GhostGame$Dictionary" "leastLength" "I", Cond.methodLink RX0 36 yX2_lengthOf, Cond.static yX2_lengthOf, Cond.initialized RX2, Cond.code yX2_lengthOf cX2_lengthOf 2 (some .int), Cond.methodLink RX0 32 yX2_beginsWith, Cond.static yX2_beginsWith, Cond.code yX2_beginsWith cX2_beginsWith 5 (some .boolean), Cond.methodLink RX2 11 yX2_lengthOf, Cond.methodLink RX2 21 yX2_beginning, Cond.static yX2_beginning]
def wsL_challenge_r3 : List Cond := [Cond.code yX2_beginning cX2_beginning 4 (some .long), Cond.constantLong RX2 15 (1125899906842623), Cond.methodLink RX2 17 yX2_pack, Cond.static yX2_pack, Cond.code yX2_pack cX2_pack 3 (some .long), Cond.methodLink RX1 48 yX1_endRound, Cond.instanceMethod yX1_endRound, Cond.selects RX1 yX1_endRound yX1_endRound, Cond.code yX1_endRound cX1_endRound 2 (some .int), Cond.fieldLink RX1 9 "GhostGame$Game" "strikes" "[I", Cond.fieldLink RX1 25 "GhostGame$Game" "champion" "I", Cond.methodLink RX1 34 yX1_hasPlayer, Cond.instanceMethod yX1_hasPlayer, Cond.selects RX1 yX1_hasPlayer yX1_hasPlayer, Cond.code yX1_hasPlayer cX1_hasPlayer 2 (some .boolean), Cond.fieldLink RX1 15 "GhostGame$Game" "playerCount" "I", Cond.methodLink RX1 58 yX1_playersLeft, Cond.instanceMethod yX1_playersLeft, Cond.selects RX1 yX1_playersLeft yX1_playersLeft, Cond.code yX1_playersLeft cX1_playersLeft 3 (some .int), Cond.methodLink RX1 62 yX1_isOut, Cond.instanceMethod yX1_isOut, Cond.selects RX1 yX1_isOut yX1_isOut, Cond.code yX1_isOut cX1_isOut 2 (some .boolean)]
def wsL_challenge_r4 : List Cond := [Cond.methodLink RX1 65 yX1_strikesOf, Cond.instanceMethod yX1_strikesOf, Cond.selects RX1 yX1_strikesOf yX1_strikesOf, Cond.code yX1_strikesOf cX1_strikesOf 2 (some .int), Cond.methodLink RX1 52 yX1_nextBehind, Cond.instanceMethod yX1_nextBehind, Cond.selects RX1 yX1_nextBehind yX1_nextBehind, Cond.code yX1_nextBehind cX1_nextBehind 4 (some .int)]
def wsL_challenge : List Cond := .codeWith yL_challenge cL_challenge 3 (some .int) [(0, 8, 11, 15)] :: ((wsL_challenge_r1 ++ (wsL_challenge_r2 ++ (wsL_challenge_r3 ++ wsL_challenge_r4))) ++ wsX40 ++ wsX10 ++ wsX00 ++ (vx_atS RX4 48 "java/lang/IllegalStateException" ["java/lang/RuntimeException", "java/lang/Exception"]).filter goodWord)
def wsL_strikes : List Cond := .codeWith yL_strikes cL_strikes 4 (some .int) [(0, 9, 12, 20)] :: ([.classLink RL 20 "java/lang/IndexOutOfBoundsException", .methodLink RL 45 yX4_strikes, .instanceMethod yX4_strikes, .selects RX4 yX4_strikes yX4_strikes, .initialized RX4, .code yX4_strikes cX4_strikes 3 (some .int), .classLink RX4 61 "java/lang/IndexOutOfBoundsException", .initialized "java/lang/IndexOutOfBoundsException", .fieldLink RX4 19 "GhostGame" "game" "LGhostGame$Game;", .methodLink RX4 138 yX1_strikesOf, .instanceMethod yX1_strikesOf, .selects RX1 yX1_strikesOf yX1_strikesOf, .initialized RX1, .code yX1_strikesOf cX1_strikesOf 2 (some .int), .fieldLink RX1 9 "GhostGame$Game" "strikes" "[I", .methodLink RX1 34 yX1_hasPlayer, .instanceMethod yX1_hasPlayer, .selects RX1 yX1_hasPlayer yX1_hasPlayer, .code yX1_hasPlayer cX1_hasPlayer 2 (some .boolean), .fieldLink RX1 15 "GhostGame$Game" "playerCount" "I"] ++ wsX40 ++ wsX10 ++ (vx_atS RX4 65 "java/lang/IndexOutOfBoundsException" ["java/lang/RuntimeException", "java/lang/Exception"]).filter goodWord)
def wsL_fragmentAt : List Cond := .codeWith yL_fragmentAt cL_fragmentAt 4 (some .int) [(0, 9, 12, 20)] :: ([.classLink RL 20 "java/lang/IndexOutOfBoundsException", .methodLink RL 48 yX4_fragmentAt, .instanceMethod yX4_fragmentAt, .selects RX4 yX4_fragmentAt yX4_fragmentAt, .initialized RX4, .code yX4_fragmentAt cX4_fragmentAt 3 (some .int), .classLink RX4 61 "java/lang/IndexOutOfBoundsException", .initialized "java/lang/IndexOutOfBoundsException", .fieldLink RX4 19 "GhostGame" "game" "LGhostGame$Game;", .methodLink RX4 113 yX1_fragment, .instanceMethod yX1_fragment, .selects RX1 yX1_fragment yX1_fragment, .initialized RX1, .code yX1_fragment cX1_fragment 1 (some .long), .fieldLink RX1 30 "GhostGame$Game" "fragment" "J", .methodLink RX4 57 yX2_letterAt, .static yX2_letterAt, .initialized RX2, .code yX2_letterAt cX2_letterAt 4 (some .int), .methodLink RX2 11 yX2_lengthOf, .static yX2_lengthOf, .code yX2_lengthOf cX2_lengthOf 2 (some .int)] ++ wsX40 ++ wsX10 ++ (vx_atS RX4 65 "java/lang/IndexOutOfBoundsException" ["java/lang/RuntimeException", "java/lang/Exception"]).filter goodWord)
def wsL_law0_r1 : List Cond := [Cond.classLink RL 8 RX4, Cond.instantiable RX4 3, Cond.initialized RX4, Cond.classLink RL 52 RX5, Cond.instantiable RX5 19, Cond.initialized RX5, Cond.arrayClass .long, Cond.methodLink RL 51 yX4_init, Cond.instanceMethod yX4_init, Cond.code yX4_init cX4_init 1 none, Cond.methodLink RX4 1 objectInit, Cond.instanceMethod objectInit, Cond.code objectInit ⟨#[0xb1]⟩ 1 none, Cond.classLink RX4 7 RX0, Cond.instantiable RX0 3, Cond.initialized RX0, Cond.fieldLink RX4 10 "GhostGame" "dictionary" "LGhostGame$Dictionary;", Cond.classLink RX4 16 RX1, Cond.instantiable RX1 6, Cond.initialized RX1, Cond.fieldLink RX4 19 "GhostGame" "game" "LGhostGame$Game;", Cond.fieldLink RX4 25 "GhostGame" "slip" "J", Cond.methodLink RX4 9 yX0_init, Cond.instanceMethod yX0_init]
def wsL_law0_r2 : List Cond := [Cond.code yX0_init cX0_init 1 none, Cond.methodLink RX0 3 objectInit, Cond.fieldLink RX0 9 "GhostGame$Dictionary" "words" "[J", Cond.fieldLink RX0 15 "GhostGame$Dictionary" "count" "I", Cond.fieldLink RX0 19 "GhostGame$Dictionary" "leastLength" "I", Cond.methodLink RX4 18 yX1_init, Cond.instanceMethod yX1_init, Cond.code yX1_init cX1_init 1 none, Cond.methodLink RX1 3 objectInit, Cond.arrayClass .int, Cond.fieldLink RX1 9 "GhostGame$Game" "strikes" "[I", Cond.fieldLink RX1 15 "GhostGame$Game" "playerCount" "I", Cond.fieldLink RX1 19 "GhostGame$Game" "mover" "I", Cond.fieldLink RX1 22 "GhostGame$Game" "lastMover" "I", Cond.fieldLink RX1 25 "GhostGame$Game" "champion" "I", Cond.fieldLink RX1 30 "GhostGame$Game" "fragment" "J", Cond.methodLink RL 54 yX5_init, Cond.instanceMethod yX5_init, Cond.code yX5_init cX5_init 1 none, Cond.methodLink RX5 1 objectInit, Cond.fieldLink RX5 7 "GhostGameModel" "slip" "[I", Cond.fieldLink RX5 13 "GhostGameModel" "letters" "[I", Cond.fieldLink RX5 16 "GhostGameModel" "length" "[I", Cond.fieldLink RX5 19 "GhostGameModel" "least" "I"]
def wsL_law0_r3 : List Cond := [Cond.fieldLink RX5 23 "GhostGameModel" "strikes" "[I", Cond.fieldLink RX5 26 "GhostGameModel" "winner" "I", Cond.fieldLink RX5 29 "GhostGameModel" "fragment" "[I", Cond.arrayClass .boolean, Cond.fieldLink RX5 32 "GhostGameModel" "wins" "[Z", Cond.fieldLink RX5 36 "GhostGameModel" "ends" "[I", Cond.fieldLink RX5 39 "GhostGameModel" "chosen" "[I", Cond.fieldLink RX5 42 "GhostGameModel" "good" "[I", Cond.fieldLink RX5 45 "GhostGameModel" "open" "[I", Cond.methodLink RL 55 yL_write, Cond.static yL_write, Cond.initialized RL, Cond.codeWith yL_write cL_write 4 (some .int) [(0, 9, 12, 13), (0, 9, 15, 15)], Cond.classLink RL 13 "java/lang/IllegalArgumentException", Cond.classLink RL 15 "java/lang/IllegalStateException", Cond.methodLink RL 7 yX4_write, Cond.instanceMethod yX4_write, Cond.selects RX4 yX4_write yX4_write, Cond.code yX4_write cX4_write 2 (some .int), Cond.classLink RX4 33 "java/lang/IllegalArgumentException", Cond.initialized "java/lang/IllegalArgumentException", Cond.classLink RX4 44 "java/lang/IllegalStateException", Cond.initialized "java/lang/IllegalStateException", Cond.methodLink RX4 29 yX4_isLetter]
def wsL_law0_r4 : List Cond := [Cond.static yX4_isLetter, Cond.code yX4_isLetter cX4_isLetter 1 (some .boolean), Cond.methodLink RX4 40 yX2_isFull, Cond.static yX2_isFull, Cond.initialized RX2, Cond.code yX2_isFull cX2_isFull 2 (some .boolean), Cond.methodLink RX2 11 yX2_lengthOf, Cond.static yX2_lengthOf, Cond.code yX2_lengthOf cX2_lengthOf 2 (some .int), Cond.methodLink RX4 49 yX2_with, Cond.static yX2_with, Cond.code yX2_with cX2_with 3 (some .long), Cond.constantLong RX2 15 (1125899906842623), Cond.methodLink RX2 17 yX2_pack, Cond.static yX2_pack, Cond.code yX2_pack cX2_pack 3 (some .long), Cond.methodLink RX4 53 yX2_lengthOf, Cond.methodLink RL 60 yX5_write, Cond.instanceMethod yX5_write, Cond.selects RX5 yX5_write yX5_write, Cond.code yX5_write cX5_write 2 (some .int), Cond.fieldLink RX5 54 "GhostGameModel" "slipLength" "I", Cond.methodLink RX5 61 yX5_isLetter, Cond.static yX5_isLetter]
def wsL_law0_r5 : List Cond := [Cond.code yX5_isLetter cX5_isLetter 1 (some .boolean), Cond.methodLink RX5 65 yX5_asked_, Cond.instanceMethod yX5_asked_, Cond.selects RX5 yX5_asked_ yX5_asked_, Cond.code yX5_asked_ cX5_asked_ 3 (some .boolean), Cond.fieldLink RX5 48 "GhostGameModel" "thrown" "I", Cond.methodLink RL 61 yX5_thrown, Cond.instanceMethod yX5_thrown, Cond.selects RX5 yX5_thrown yX5_thrown, Cond.code yX5_thrown cX5_thrown 1 (some .int), Cond.methodLink RL 64 yX4_wipe, Cond.instanceMethod yX4_wipe, Cond.selects RX4 yX4_wipe yX4_wipe, Cond.code yX4_wipe cX4_wipe 2 (some .int), Cond.methodLink RL 67 yX5_wipe, Cond.instanceMethod yX5_wipe, Cond.selects RX5 yX5_wipe yX5_wipe, Cond.code yX5_wipe cX5_wipe 2 (some .int), Cond.methodLink RX5 69 yX5_told, Cond.instanceMethod yX5_told, Cond.selects RX5 yX5_told yX5_told, Cond.code yX5_told cX5_told 2 (some .int), Cond.methodLink RL 68 yX4_slipLength, Cond.instanceMethod yX4_slipLength]
def wsL_law0_r6 : List Cond := [Cond.selects RX4 yX4_slipLength yX4_slipLength, Cond.code yX4_slipLength cX4_slipLength 1 (some .int), Cond.methodLink RL 71 yX5_slipLength, Cond.instanceMethod yX5_slipLength, Cond.selects RX5 yX5_slipLength yX5_slipLength, Cond.code yX5_slipLength cX5_slipLength 1 (some .int), Cond.methodLink RL 72 yL_slipAt, Cond.static yL_slipAt, Cond.codeWith yL_slipAt cL_slipAt 4 (some .int) [(0, 9, 12, 20)], Cond.classLink RL 20 "java/lang/IndexOutOfBoundsException", Cond.methodLink RL 17 yX4_slipAt, Cond.instanceMethod yX4_slipAt, Cond.selects RX4 yX4_slipAt yX4_slipAt, Cond.code yX4_slipAt cX4_slipAt 3 (some .int), Cond.classLink RX4 61 "java/lang/IndexOutOfBoundsException", Cond.initialized "java/lang/IndexOutOfBoundsException", Cond.methodLink RX4 57 yX2_letterAt, Cond.static yX2_letterAt, Cond.code yX2_letterAt cX2_letterAt 4 (some .int), Cond.methodLink RL 74 yX5_slipAt, Cond.instanceMethod yX5_slipAt, Cond.selects RX5 yX5_slipAt yX5_slipAt, Cond.code yX5_slipAt cX5_slipAt 2 (some .int), Cond.methodLink RX5 73 yX5_asked]
def wsL_law0_r7 : List Cond := [Cond.instanceMethod yX5_asked, Cond.selects RX5 yX5_asked yX5_asked, Cond.code yX5_asked cX5_asked 2 (some .boolean), Cond.methodLink RL 75 yL_addWord, Cond.static yL_addWord, Cond.codeWith yL_addWord cL_addWord 3 (some .int) [(0, 8, 11, 13), (0, 8, 14, 15)], Cond.methodLink RL 22 yX4_addWord, Cond.instanceMethod yX4_addWord, Cond.selects RX4 yX4_addWord yX4_addWord, Cond.code yX4_addWord cX4_addWord 1 (some .int), Cond.methodLink RX4 68 yX0_add, Cond.instanceMethod yX0_add, Cond.selects RX0 yX0_add yX0_add, Cond.code yX0_add cX0_add 4 (some .boolean), Cond.methodLink RX0 28 yX0_has, Cond.instanceMethod yX0_has, Cond.selects RX0 yX0_has yX0_has, Cond.code yX0_has cX0_has 3 (some .boolean), Cond.methodLink RX0 22 yX0_placeOf, Cond.instanceMethod yX0_placeOf, Cond.selects RX0 yX0_placeOf yX0_placeOf, Cond.code yX0_placeOf cX0_placeOf 4 (some .int), Cond.methodLink RX4 73 yX0_size, Cond.instanceMethod yX0_size]
def wsL_law0_r8 : List Cond := [Cond.selects RX0 yX0_size yX0_size, Cond.code yX0_size cX0_size 1 (some .int), Cond.methodLink RL 78 yX5_addWord, Cond.instanceMethod yX5_addWord, Cond.selects RX5 yX5_addWord yX5_addWord, Cond.code yX5_addWord cX5_addWord 2 (some .int), Cond.fieldLink RX5 51 "GhostGameModel" "words" "I", Cond.methodLink RX5 76 yX5_found, Cond.instanceMethod yX5_found, Cond.selects RX5 yX5_found yX5_found, Cond.code yX5_found cX5_found 3 (some .int), Cond.methodLink RX5 57 yX5_begins, Cond.instanceMethod yX5_begins, Cond.selects RX5 yX5_begins yX5_begins, Cond.code yX5_begins cX5_begins 6 (some .boolean), Cond.methodLink RL 79 yL_removeWord, Cond.static yL_removeWord, Cond.codeWith yL_removeWord cL_removeWord 3 (some .int) [(0, 8, 11, 15)], Cond.methodLink RL 26 yX4_removeWord, Cond.instanceMethod yX4_removeWord, Cond.selects RX4 yX4_removeWord yX4_removeWord, Cond.code yX4_removeWord cX4_removeWord 1 (some .int), Cond.methodLink RX4 77 yX0_remove, Cond.instanceMethod yX0_remove]
def wsL_law0_r9 : List Cond := [Cond.selects RX0 yX0_remove yX0_remove, Cond.code yX0_remove cX0_remove 5 (some .boolean), Cond.methodLink RL 81 yX5_removeWord, Cond.instanceMethod yX5_removeWord, Cond.selects RX5 yX5_removeWord yX5_removeWord, Cond.code yX5_removeWord cX5_removeWord 3 (some .int), Cond.methodLink RL 82 yX4_isWord, Cond.instanceMethod yX4_isWord, Cond.selects RX4 yX4_isWord yX4_isWord, Cond.code yX4_isWord cX4_isWord 1 (some .boolean), Cond.methodLink RX4 82 yX0_has, Cond.methodLink RL 86 yX5_isWord, Cond.instanceMethod yX5_isWord, Cond.selects RX5 yX5_isWord yX5_isWord, Cond.code yX5_isWord cX5_isWord 1 (some .boolean), Cond.methodLink RL 87 yX4_words, Cond.instanceMethod yX4_words, Cond.selects RX4 yX4_words yX4_words, Cond.code yX4_words cX4_words 1 (some .int), Cond.methodLink RL 90 yX5_words, Cond.instanceMethod yX5_words, Cond.selects RX5 yX5_words yX5_words, Cond.code yX5_words cX5_words 1 (some .int), Cond.methodLink RL 91 yX4_wordsFromSlip]
def wsL_law0_r10 : List Cond := [Cond.instanceMethod yX4_wordsFromSlip, Cond.selects RX4 yX4_wordsFromSlip yX4_wordsFromSlip, Cond.code yX4_wordsFromSlip cX4_wordsFromSlip 1 (some .int), Cond.methodLink RX4 85 yX0_countFrom, Cond.instanceMethod yX0_countFrom, Cond.selects RX0 yX0_countFrom yX0_countFrom, Cond.code yX0_countFrom cX0_countFrom 5 (some .int), Cond.methodLink RX0 32 yX2_beginsWith, Cond.static yX2_beginsWith, Cond.code yX2_beginsWith cX2_beginsWith 5 (some .boolean), Cond.methodLink RX2 21 yX2_beginning, Cond.static yX2_beginning, Cond.code yX2_beginning cX2_beginning 4 (some .long), Cond.methodLink RL 94 yX5_wordsFromSlip, Cond.instanceMethod yX5_wordsFromSlip, Cond.selects RX5 yX5_wordsFromSlip yX5_wordsFromSlip, Cond.code yX5_wordsFromSlip cX5_wordsFromSlip 3 (some .int), Cond.methodLink RL 95 yX4_beginnings, Cond.instanceMethod yX4_beginnings, Cond.selects RX4 yX4_beginnings yX4_beginnings, Cond.code yX4_beginnings cX4_beginnings 1 (some .int), Cond.methodLink RX4 88 yX0_countBeginnings, Cond.instanceMethod yX0_countBeginnings, Cond.selects RX0 yX0_countBeginnings yX0_countBeginnings]
def wsL_law0_r11 : List Cond := [Cond.code yX0_countBeginnings cX0_countBeginnings 3 (some .int), Cond.methodLink RX0 36 yX2_lengthOf, Cond.methodLink RX0 39 yX0_lengthSharedBefore, Cond.instanceMethod yX0_lengthSharedBefore, Cond.selects RX0 yX0_lengthSharedBefore yX0_lengthSharedBefore, Cond.code yX0_lengthSharedBefore cX0_lengthSharedBefore 4 (some .int), Cond.methodLink RX0 50 Lib.Math.max.name, Cond.static Lib.Math.max.name, Cond.initialized "java/lang/Math", Cond.code Lib.Math.max.name Lib.Math.max.code 2 (some .int), Cond.methodLink RX0 46 yX2_lengthShared, Cond.static yX2_lengthShared, Cond.code yX2_lengthShared cX2_lengthShared 5 (some .int), Cond.methodLink RX2 29 Lib.Math.min.name, Cond.static Lib.Math.min.name, Cond.code Lib.Math.min.name Lib.Math.min.code 2 (some .int), Cond.methodLink RL 98 yX5_beginnings, Cond.instanceMethod yX5_beginnings, Cond.selects RX5 yX5_beginnings yX5_beginnings, Cond.code yX5_beginnings cX5_beginnings 6 (some .int), Cond.methodLink RX5 80 yX5_areAlike, Cond.instanceMethod yX5_areAlike, Cond.selects RX5 yX5_areAlike yX5_areAlike, Cond.code yX5_areAlike cX5_areAlike 6 (some .boolean)]
def wsL_law0_r12 : List Cond := [Cond.methodLink RL 99 yL_copyWord, Cond.static yL_copyWord, Cond.codeWith yL_copyWord cL_copyWord 4 (some .int) [(0, 9, 12, 20)], Cond.methodLink RL 29 yX4_copyWord, Cond.instanceMethod yX4_copyWord, Cond.selects RX4 yX4_copyWord yX4_copyWord, Cond.code yX4_copyWord cX4_copyWord 4 (some .int), Cond.methodLink RX4 91 yX0_wordAt, Cond.instanceMethod yX0_wordAt, Cond.selects RX0 yX0_wordAt yX0_wordAt, Cond.code yX0_wordAt cX0_wordAt 2 (some .long), Cond.methodLink RL 101 yX5_copyWord, Cond.instanceMethod yX5_copyWord, Cond.selects RX5 yX5_copyWord yX5_copyWord, Cond.code yX5_copyWord cX5_copyWord 6 (some .int), Cond.methodLink RX5 84 yX5_isBefore, Cond.instanceMethod yX5_isBefore, Cond.selects RX5 yX5_isBefore yX5_isBefore, Cond.code yX5_isBefore cX5_isBefore 6 (some .boolean), Cond.methodLink RL 102 yL_setLeastLength, Cond.static yL_setLeastLength, Cond.codeWith yL_setLeastLength cL_setLeastLength 4 (some .int) [(0, 9, 12, 13)], Cond.methodLink RL 32 yX4_setLeastLength, Cond.instanceMethod yX4_setLeastLength]
def wsL_law0_r13 : List Cond := [Cond.selects RX4 yX4_setLeastLength yX4_setLeastLength, Cond.code yX4_setLeastLength cX4_setLeastLength 2 (some .int), Cond.methodLink RX4 99 yX0_changeLeastLength, Cond.instanceMethod yX0_changeLeastLength, Cond.selects RX0 yX0_changeLeastLength yX0_changeLeastLength, Cond.code yX0_changeLeastLength cX0_changeLeastLength 3 (some .int), Cond.methodLink RL 104 yX5_setLeastLength, Cond.instanceMethod yX5_setLeastLength, Cond.selects RX5 yX5_setLeastLength yX5_setLeastLength, Cond.code yX5_setLeastLength cX5_setLeastLength 3 (some .int), Cond.methodLink RL 105 yL_start, Cond.static yL_start, Cond.codeWith yL_start cL_start 3 (some .int) [(0, 5, 8, 13)], Cond.methodLink RL 35 yX4_start, Cond.instanceMethod yX4_start, Cond.selects RX4 yX4_start yX4_start, Cond.code yX4_start cX4_start 2 none, Cond.methodLink RX4 105 yX1_begin, Cond.instanceMethod yX1_begin, Cond.selects RX1 yX1_begin yX1_begin, Cond.code yX1_begin cX1_begin 3 none, Cond.methodLink RL 108 yX5_start, Cond.instanceMethod yX5_start, Cond.selects RX5 yX5_start yX5_start]
def wsL_law0_r14 : List Cond := [Cond.code yX5_start cX5_start 3 none, Cond.fieldLink RX5 88 "GhostGameModel" "players" "I", Cond.fieldLink RX5 91 "GhostGameModel" "turn" "I", Cond.fieldLink RX5 94 "GhostGameModel" "fragmentLength" "I", Cond.methodLink RL 109 yL_play, Cond.static yL_play, Cond.codeWith yL_play cL_play 4 (some .int) [(0, 9, 12, 13), (0, 9, 15, 15)], Cond.methodLink RL 39 yX4_play, Cond.instanceMethod yX4_play, Cond.selects RX4 yX4_play yX4_play, Cond.code yX4_play cX4_play 2 (some .int), Cond.methodLink RX4 109 yX1_isOn, Cond.instanceMethod yX1_isOn, Cond.selects RX1 yX1_isOn yX1_isOn, Cond.code yX1_isOn cX1_isOn 1 (some .boolean), Cond.methodLink RX4 113 yX1_fragment, Cond.instanceMethod yX1_fragment, Cond.selects RX1 yX1_fragment yX1_fragment, Cond.code yX1_fragment cX1_fragment 1 (some .long), Cond.methodLink RX4 119 yX1_addLetter, Cond.instanceMethod yX1_addLetter, Cond.selects RX1 yX1_addLetter yX1_addLetter, Cond.code yX1_addLetter cX1_addLetter 3 (some .int), Cond.methodLink RX1 38 yX2_with]
def wsL_law0_r15 : List Cond := [Cond.methodLink RX1 42 yX0_hasCounting, Cond.instanceMethod yX0_hasCounting, Cond.selects RX0 yX0_hasCounting yX0_hasCounting, Cond.code yX0_hasCounting cX0_hasCounting 3 (some .boolean), Cond.methodLink RX0 43 yX0_isLongEnough, Cond.instanceMethod yX0_isLongEnough, Cond.selects RX0 yX0_isLongEnough yX0_isLongEnough, Cond.code yX0_isLongEnough cX0_isLongEnough 3 (some .boolean), Cond.methodLink RX1 48 yX1_endRound, Cond.instanceMethod yX1_endRound, Cond.selects RX1 yX1_endRound yX1_endRound, Cond.code yX1_endRound cX1_endRound 2 (some .int), Cond.methodLink RX1 34 yX1_hasPlayer, Cond.instanceMethod yX1_hasPlayer, Cond.selects RX1 yX1_hasPlayer yX1_hasPlayer, Cond.code yX1_hasPlayer cX1_hasPlayer 2 (some .boolean), Cond.methodLink RX1 58 yX1_playersLeft, Cond.instanceMethod yX1_playersLeft, Cond.selects RX1 yX1_playersLeft yX1_playersLeft, Cond.code yX1_playersLeft cX1_playersLeft 3 (some .int), Cond.methodLink RX1 62 yX1_isOut, Cond.instanceMethod yX1_isOut, Cond.selects RX1 yX1_isOut yX1_isOut, Cond.code yX1_isOut cX1_isOut 2 (some .boolean)]
def wsL_law0_r16 : List Cond := [Cond.methodLink RX1 65 yX1_strikesOf, Cond.instanceMethod yX1_strikesOf, Cond.selects RX1 yX1_strikesOf yX1_strikesOf, Cond.code yX1_strikesOf cX1_strikesOf 2 (some .int), Cond.methodLink RX1 52 yX1_nextBehind, Cond.instanceMethod yX1_nextBehind, Cond.selects RX1 yX1_nextBehind yX1_nextBehind, Cond.code yX1_nextBehind cX1_nextBehind 4 (some .int), Cond.methodLink RL 111 yX5_play, Cond.instanceMethod yX5_play, Cond.selects RX5 yX5_play yX5_play, Cond.code yX5_play cX5_play 2 (some .int), Cond.fieldLink RX5 113 "GhostGameModel" "latest" "I", Cond.methodLink RX5 103 yX5_goesOn, Cond.instanceMethod yX5_goesOn, Cond.selects RX5 yX5_goesOn yX5_goesOn, Cond.code yX5_goesOn cX5_goesOn 1 (some .boolean), Cond.methodLink RX5 107 yX5_hasWord, Cond.instanceMethod yX5_hasWord, Cond.selects RX5 yX5_hasWord yX5_hasWord, Cond.code yX5_hasWord cX5_hasWord 4 (some .boolean), Cond.methodLink RX5 100 yX5_counts, Cond.instanceMethod yX5_counts, Cond.selects RX5 yX5_counts yX5_counts]
def wsL_law0_r17 : List Cond := [Cond.code yX5_counts cX5_counts 2 (some .boolean), Cond.methodLink RX5 110 yX5_loses, Cond.instanceMethod yX5_loses, Cond.selects RX5 yX5_loses yX5_loses, Cond.code yX5_loses cX5_loses 4 (some .int), Cond.methodLink RX5 97 yX5_behind, Cond.instanceMethod yX5_behind, Cond.selects RX5 yX5_behind yX5_behind, Cond.code yX5_behind cX5_behind 3 (some .int), Cond.methodLink RL 112 yL_challenge, Cond.static yL_challenge, Cond.codeWith yL_challenge cL_challenge 3 (some .int) [(0, 8, 11, 15)], Cond.methodLink RL 42 yX4_challenge, Cond.instanceMethod yX4_challenge, Cond.selects RX4 yX4_challenge yX4_challenge, Cond.code yX4_challenge cX4_challenge 1 (some .int), Cond.methodLink RX4 125 yX1_settleChallenge, Cond.instanceMethod yX1_settleChallenge, Cond.selects RX1 yX1_settleChallenge yX1_settleChallenge, Cond.code yX1_settleChallenge cX1_settleChallenge 2 (some .int), Cond.methodLink RX1 55 yX0_hasCountingFrom, Cond.instanceMethod yX0_hasCountingFrom, Cond.selects RX0 yX0_hasCountingFrom yX0_hasCountingFrom, Cond.code yX0_hasCountingFrom cX0_hasCountingFrom 4 (some .boolean)]
def wsL_law0_r18 : List Cond := [Cond.methodLink RL 114 yX5_challenge, Cond.instanceMethod yX5_challenge, Cond.selects RX5 yX5_challenge yX5_challenge, Cond.code yX5_challenge cX5_challenge 1 (some .int), Cond.methodLink RL 115 yX4_turn, Cond.instanceMethod yX4_turn, Cond.selects RX4 yX4_turn yX4_turn, Cond.code yX4_turn cX4_turn 1 (some .int), Cond.methodLink RX4 129 yX1_mover, Cond.instanceMethod yX1_mover, Cond.selects RX1 yX1_mover yX1_mover, Cond.code yX1_mover cX1_mover 1 (some .int), Cond.methodLink RL 118 yX5_turn, Cond.instanceMethod yX5_turn, Cond.selects RX5 yX5_turn yX5_turn, Cond.code yX5_turn cX5_turn 1 (some .int), Cond.methodLink RL 119 yX4_winner, Cond.instanceMethod yX4_winner, Cond.selects RX4 yX4_winner yX4_winner, Cond.code yX4_winner cX4_winner 1 (some .int), Cond.methodLink RX4 132 yX1_champion, Cond.instanceMethod yX1_champion, Cond.selects RX1 yX1_champion yX1_champion, Cond.code yX1_champion cX1_champion 1 (some .int)]
def wsL_law0_r19 : List Cond := [Cond.methodLink RL 122 yX5_winner, Cond.instanceMethod yX5_winner, Cond.selects RX5 yX5_winner yX5_winner, Cond.code yX5_winner cX5_winner 1 (some .int), Cond.methodLink RL 123 yX4_players, Cond.instanceMethod yX4_players, Cond.selects RX4 yX4_players yX4_players, Cond.code yX4_players cX4_players 1 (some .int), Cond.methodLink RX4 135 yX1_playerCount, Cond.instanceMethod yX1_playerCount, Cond.selects RX1 yX1_playerCount yX1_playerCount, Cond.code yX1_playerCount cX1_playerCount 1 (some .int), Cond.methodLink RL 126 yX5_players, Cond.instanceMethod yX5_players, Cond.selects RX5 yX5_players yX5_players, Cond.code yX5_players cX5_players 1 (some .int), Cond.methodLink RL 127 yL_strikes, Cond.static yL_strikes, Cond.codeWith yL_strikes cL_strikes 4 (some .int) [(0, 9, 12, 20)], Cond.methodLink RL 45 yX4_strikes, Cond.instanceMethod yX4_strikes, Cond.selects RX4 yX4_strikes yX4_strikes, Cond.code yX4_strikes cX4_strikes 3 (some .int), Cond.methodLink RX4 138 yX1_strikesOf]
def wsL_law0_r20 : List Cond := [Cond.methodLink RL 129 yX5_strikes, Cond.instanceMethod yX5_strikes, Cond.selects RX5 yX5_strikes yX5_strikes, Cond.code yX5_strikes cX5_strikes 2 (some .int), Cond.methodLink RL 130 yX4_fragmentLength, Cond.instanceMethod yX4_fragmentLength, Cond.selects RX4 yX4_fragmentLength yX4_fragmentLength, Cond.code yX4_fragmentLength cX4_fragmentLength 1 (some .int), Cond.methodLink RL 133 yX5_fragmentLength, Cond.instanceMethod yX5_fragmentLength, Cond.selects RX5 yX5_fragmentLength yX5_fragmentLength, Cond.code yX5_fragmentLength cX5_fragmentLength 1 (some .int), Cond.methodLink RL 134 yL_fragmentAt, Cond.static yL_fragmentAt, Cond.codeWith yL_fragmentAt cL_fragmentAt 4 (some .int) [(0, 9, 12, 20)], Cond.methodLink RL 48 yX4_fragmentAt, Cond.instanceMethod yX4_fragmentAt, Cond.selects RX4 yX4_fragmentAt yX4_fragmentAt, Cond.code yX4_fragmentAt cX4_fragmentAt 3 (some .int), Cond.methodLink RL 136 yX5_fragmentAt, Cond.instanceMethod yX5_fragmentAt, Cond.selects RX5 yX5_fragmentAt yX5_fragmentAt, Cond.code yX5_fragmentAt cX5_fragmentAt 2 (some .int), Cond.methodLink RL 137 yX4_openLetters]
def wsL_law0_r21 : List Cond := [Cond.instanceMethod yX4_openLetters, Cond.selects RX4 yX4_openLetters yX4_openLetters, Cond.code yX4_openLetters cX4_openLetters 1 (some .int), Cond.methodLink RX4 145 yX3_lettersOpenBehind, Cond.static yX3_lettersOpenBehind, Cond.initialized RX3, Cond.code yX3_lettersOpenBehind cX3_lettersOpenBehind 7 (some .int), Cond.methodLink RX3 9 yX0_size, Cond.methodLink RX3 15 yX0_wordAt, Cond.methodLink RX3 19 yX3_leadsOn, Cond.static yX3_leadsOn, Cond.code yX3_leadsOn cX3_leadsOn 5 (some .boolean), Cond.methodLink RX3 78 yX0_isLongEnough, Cond.methodLink RX3 81 yX2_goesOnBehind, Cond.static yX2_goesOnBehind, Cond.code yX2_goesOnBehind cX2_goesOnBehind 4 (some .boolean), Cond.methodLink RX2 25 yX2_beginsWith, Cond.methodLink RX3 25 yX2_lengthOf, Cond.methodLink RX3 31 yX2_letterAt, Cond.methodLink RL 140 yX5_openLetters, Cond.instanceMethod yX5_openLetters, Cond.selects RX5 yX5_openLetters yX5_openLetters, Cond.code yX5_openLetters cX5_openLetters 2 (some .int), Cond.methodLink RX5 127 yX5_looks]
def wsL_law0_r22 : List Cond := [Cond.instanceMethod yX5_looks, Cond.selects RX5 yX5_looks yX5_looks, Cond.code yX5_looks cX5_looks 4 (some .int), Cond.methodLink RX5 123 yX5_solves, Cond.instanceMethod yX5_solves, Cond.selects RX5 yX5_solves yX5_solves, Cond.code yX5_solves cX5_solves 8 none, Cond.methodLink RX5 116 yX5_isWhole, Cond.instanceMethod yX5_isWhole, Cond.selects RX5 yX5_isWhole yX5_isWhole, Cond.code yX5_isWhole cX5_isWhole 5 (some .boolean), Cond.methodLink RX5 119 yX5_endBehind, Cond.instanceMethod yX5_endBehind, Cond.selects RX5 yX5_endBehind yX5_endBehind, Cond.code yX5_endBehind cX5_endBehind 6 (some .int), Cond.methodLink RL 141 yX4_winningLetters, Cond.instanceMethod yX4_winningLetters, Cond.selects RX4 yX4_winningLetters yX4_winningLetters, Cond.code yX4_winningLetters cX4_winningLetters 1 (some .int), Cond.methodLink RX4 151 yX3_lettersWinningBehind, Cond.static yX3_lettersWinningBehind, Cond.code yX3_lettersWinningBehind cX3_lettersWinningBehind 6 (some .int), Cond.methodLink RX3 35 yX3_lettersOpenBehind, Cond.methodLink RX3 39 yX3_isIn]
def wsL_law0_r23 : List Cond := [Cond.static yX3_isIn, Cond.code yX3_isIn cX3_isIn 2 (some .boolean), Cond.methodLink RX3 43 yX3_scoreOfLetter, Cond.static yX3_scoreOfLetter, Cond.code yX3_scoreOfLetter cX3_scoreOfLetter 7 (some .int), Cond.methodLink RX3 71 yX2_with, Cond.methodLink RX3 75 yX0_hasCounting, Cond.methodLink RX3 47 yX3_score, Cond.static yX3_score, Cond.code yX3_score cX3_score 6 (some .int), Cond.methodLink RX3 67 Lib.Math.max.name, Cond.methodLink RX3 63 yX2_isFull, Cond.methodLink RL 144 yX5_winningLetters, Cond.instanceMethod yX5_winningLetters, Cond.selects RX5 yX5_winningLetters yX5_winningLetters, Cond.code yX5_winningLetters cX5_winningLetters 2 (some .int), Cond.methodLink RL 145 yX4_canWin, Cond.instanceMethod yX4_canWin, Cond.selects RX4 yX4_canWin yX4_canWin, Cond.code yX4_canWin cX4_canWin 1 (some .boolean), Cond.methodLink RX4 154 yX3_moverWins, Cond.static yX3_moverWins, Cond.code yX3_moverWins cX3_moverWins 3 (some .boolean), Cond.methodLink RL 148 yX5_canWin]
def wsL_law0_r24 : List Cond := [Cond.instanceMethod yX5_canWin, Cond.selects RX5 yX5_canWin yX5_canWin, Cond.code yX5_canWin cX5_canWin 2 (some .boolean), Cond.methodLink RL 149 yX4_end, Cond.instanceMethod yX4_end, Cond.selects RX4 yX4_end yX4_end, Cond.code yX4_end cX4_end 1 (some .int), Cond.methodLink RX4 158 yX3_endBehind, Cond.static yX3_endBehind, Cond.code yX3_endBehind cX3_endBehind 3 (some .int), Cond.methodLink RX3 50 Lib.Math.abs.name, Cond.static Lib.Math.abs.name, Cond.code Lib.Math.abs.name Lib.Math.abs.code 1 (some .int), Cond.methodLink RL 152 yX5_end, Cond.instanceMethod yX5_end, Cond.selects RX5 yX5_end yX5_end, Cond.code yX5_end cX5_end 2 (some .int), Cond.methodLink RL 153 yX4_bestLetter, Cond.instanceMethod yX4_bestLetter, Cond.selects RX4 yX4_bestLetter yX4_bestLetter, Cond.code yX4_bestLetter cX4_bestLetter 1 (some .int), Cond.methodLink RX4 161 yX3_letterChosenBehind, Cond.static yX3_letterChosenBehind, Cond.code yX3_letterChosenBehind cX3_letterChosenBehind 6 (some .int)]
def wsL_law0_r25 : List Cond := [Cond.methodLink RL 156 yX5_bestLetter, Cond.instanceMethod yX5_bestLetter, Cond.selects RX5 yX5_bestLetter yX5_bestLetter, Cond.code yX5_bestLetter cX5_bestLetter 2 (some .int), Cond.methodLink RL 157 yX4_waysToPlay, Cond.instanceMethod yX4_waysToPlay, Cond.selects RX4 yX4_waysToPlay yX4_waysToPlay, Cond.code yX4_waysToPlay cX4_waysToPlay 1 (some .int), Cond.methodLink RX4 164 yX3_countWays, Cond.static yX3_countWays, Cond.code yX3_countWays cX3_countWays 5 (some .int), Cond.methodLink RX3 56 yX3_isWay, Cond.static yX3_isWay, Cond.code yX3_isWay cX3_isWay 6 (some .boolean), Cond.methodLink RX3 84 yX2_beginning, Cond.methodLink RL 160 yX5_waysToPlay, Cond.instanceMethod yX5_waysToPlay, Cond.selects RX5 yX5_waysToPlay yX5_waysToPlay, Cond.code yX5_waysToPlay cX5_waysToPlay 3 (some .int), Cond.methodLink RX5 130 yX5_isWay, Cond.instanceMethod yX5_isWay, Cond.selects RX5 yX5_isWay yX5_isWay, Cond.code yX5_isWay cX5_isWay 4 (some .boolean), Cond.methodLink RL 161 yX4_waysToWin]
def wsL_law0_r26 : List Cond := [Cond.instanceMethod yX4_waysToWin, Cond.selects RX4 yX4_waysToWin yX4_waysToWin, Cond.code yX4_waysToWin cX4_waysToWin 1 (some .int), Cond.methodLink RX4 167 yX3_countWonWays, Cond.static yX3_countWonWays, Cond.code yX3_countWonWays cX3_countWonWays 7 (some .int), Cond.methodLink RX3 59 yX3_otherSideCompletes, Cond.static yX3_otherSideCompletes, Cond.code yX3_otherSideCompletes cX3_otherSideCompletes 4 (some .boolean), Cond.methodLink RL 164 yX5_waysToWin, Cond.instanceMethod yX5_waysToWin, Cond.selects RX5 yX5_waysToWin yX5_waysToWin, Cond.code yX5_waysToWin cX5_waysToWin 3 (some .int)]
def wsL_law0 : List Cond := (wsL_law0_r1 ++ (wsL_law0_r2 ++ (wsL_law0_r3 ++ (wsL_law0_r4 ++ (wsL_law0_r5 ++ (wsL_law0_r6 ++ (wsL_law0_r7 ++ (wsL_law0_r8 ++ (wsL_law0_r9 ++ (wsL_law0_r10 ++ (wsL_law0_r11 ++ (wsL_law0_r12 ++ (wsL_law0_r13 ++ (wsL_law0_r14 ++ (wsL_law0_r15 ++ (wsL_law0_r16 ++ (wsL_law0_r17 ++ (wsL_law0_r18 ++ (wsL_law0_r19 ++ (wsL_law0_r20 ++ (wsL_law0_r21 ++ (wsL_law0_r22 ++ (wsL_law0_r23 ++ (wsL_law0_r24 ++ (wsL_law0_r25 ++ wsL_law0_r26))))))))))))))))))))))))) ++ wsX40 ++ wsX50 ++ wsX00 ++ wsX10 ++ ([] : List Cond)
def wsL_law : List Cond := wsL_law0 ++ (vx_atS RX4 37 "java/lang/IllegalArgumentException" ["java/lang/RuntimeException", "java/lang/Exception"]).filter goodWord ++ (vx_atS RX4 48 "java/lang/IllegalStateException" ["java/lang/RuntimeException", "java/lang/Exception"]).filter goodWord ++ (vx_atS RX4 65 "java/lang/IndexOutOfBoundsException" ["java/lang/RuntimeException", "java/lang/Exception"]).filter goodWord
set_option maxRecDepth 20000 in
theorem wsL_law_in0 : ∀ w ∈ wsL_law0, w ∈ lw_tbl := fun w h => (goodIn_p wsL_law0 [43, 46, 51, 68, 566, 314, 317, 259, 106, 247, 149, 634, 637, 641, 630, 103, 645, 649, 110, 653, 411, 230, 657, 661, 435, 440, 118, 122, 130, 665, 669, 673, 448, 452, 677, 114, 681, 126, 685, 134, 138, 141, 145, 689, 153, 157, 162, 171, 165, 168, 693, 697, 460, 215, 701, 705, 469, 474, 709, 481, 486, 713, 493, 497, 203, 502, 251, 222, 508, 512, 516, 520, 524, 528, 717, 721, 725, 729, 733, 737, 535, 540, 544, 741, 175, 179, 745, 183, 187, 749, 191, 195, 753, 551, 757, 199, 761, 560, 765, 207, 210, 218, 225, 769, 773, 777, 781, 785, 234, 237, 241, 244, 256, 789, 264, 267, 793, 271, 274, 277, 797, 281, 284, 801, 288, 291, 294, 805, 809, 299, 302, 305, 813] (by decide +kernel) (by decide +kernel) w h).1
theorem wsL_law_x0 : ∀ w ∈ (vx_atS RX4 37 "java/lang/IllegalArgumentException" ["java/lang/RuntimeException", "java/lang/Exception"]).filter goodWord, w ∈ lw_tbl := by decide +kernel
theorem wsL_law_x1 : ∀ w ∈ (vx_atS RX4 48 "java/lang/IllegalStateException" ["java/lang/RuntimeException", "java/lang/Exception"]).filter goodWord, w ∈ lw_tbl := by decide +kernel
theorem wsL_law_x2 : ∀ w ∈ (vx_atS RX4 65 "java/lang/IndexOutOfBoundsException" ["java/lang/RuntimeException", "java/lang/Exception"]).filter goodWord, w ∈ lw_tbl := by decide +kernel
theorem wsL_law_in : ∀ w ∈ wsL_law, w ∈ lw_tbl := fun w h => (List.mem_append.mp h).elim (fun h => (List.mem_append.mp h).elim (fun h => (List.mem_append.mp h).elim (fun h => wsL_law_in0 w h) (fun h => wsL_law_x0 w h)) (fun h => wsL_law_x1 w h)) (fun h => wsL_law_x2 w h)
theorem inlX0 : ∀ w ∈ wsX00, w ∈ wsL_law := fun _ h => List.mem_append_left _ (List.mem_append_left _ (List.mem_append_left _ (List.mem_append_left _ (List.mem_append_left _ (List.mem_append_right _ h)))))
theorem inX0 : ∀ w ∈ wsX00, w ∈ lw_tbl := fun w h => wsL_law_in w (inlX0 w h)
theorem inlX1 : ∀ w ∈ wsX10, w ∈ wsL_law := fun _ h => List.mem_append_left _ (List.mem_append_left _ (List.mem_append_left _ (List.mem_append_left _ (List.mem_append_right _ h))))
theorem inX1 : ∀ w ∈ wsX10, w ∈ lw_tbl := fun w h => wsL_law_in w (inlX1 w h)
theorem inX2 : ∀ w ∈ wsX20, w ∈ lw_tbl := by decide +kernel
theorem inX3 : ∀ w ∈ wsX30, w ∈ lw_tbl := by decide +kernel
theorem inlX4 : ∀ w ∈ wsX40, w ∈ wsL_law := fun _ h => List.mem_append_left _ (List.mem_append_left _ (List.mem_append_left _ (List.mem_append_left _ (List.mem_append_left _ (List.mem_append_left _ (List.mem_append_left _ (List.mem_append_right _ h)))))))
theorem inX4 : ∀ w ∈ wsX40, w ∈ lw_tbl := fun w h => wsL_law_in w (inlX4 w h)
theorem inlX5 : ∀ w ∈ wsX50, w ∈ wsL_law := fun _ h => List.mem_append_left _ (List.mem_append_left _ (List.mem_append_left _ (List.mem_append_left _ (List.mem_append_left _ (List.mem_append_left _ (List.mem_append_right _ h))))))
theorem inX5 : ∀ w ∈ wsX50, w ∈ lw_tbl := fun w h => wsL_law_in w (inlX5 w h)
theorem inJ9 : ∀ w ∈ wsJ90, w ∈ lw_tbl := by decide +kernel
theorem inJ0 : ∀ w ∈ wsJ00, w ∈ lw_tbl := by decide +kernel
theorem dX0_init_0 : decode cX0_init 0 = .ok (.aload_n 0, 1) := by decide +kernel
theorem dX0_init_1 : decode cX0_init 1 = .ok (.invokespecial 3, 3) := by decide +kernel
theorem dX0_init_4 : decode cX0_init 4 = .ok (.aload_n 0, 1) := by decide +kernel
theorem dX0_init_5 : decode cX0_init 5 = .ok (.bipush 50, 2) := by decide +kernel
theorem dX0_init_7 : decode cX0_init 7 = .ok (.newarray .long, 2) := by decide +kernel
theorem dX0_init_9 : decode cX0_init 9 = .ok (.putfield 9, 3) := by decide +kernel
theorem dX0_init_12 : decode cX0_init 12 = .ok (.aload_n 0, 1) := by decide +kernel
theorem dX0_init_13 : decode cX0_init 13 = .ok (.iconst 0, 1) := by decide +kernel
theorem dX0_init_14 : decode cX0_init 14 = .ok (.putfield 15, 3) := by decide +kernel
theorem dX0_init_17 : decode cX0_init 17 = .ok (.aload_n 0, 1) := by decide +kernel
theorem dX0_init_18 : decode cX0_init 18 = .ok (.iconst 3, 1) := by decide +kernel
theorem dX0_init_19 : decode cX0_init 19 = .ok (.putfield 19, 3) := by decide +kernel
theorem dX0_init_22 : decode cX0_init 22 = .ok (.return_, 1) := by decide +kernel
theorem dX0_size_0 : decode cX0_size 0 = .ok (.aload_n 0, 1) := by decide +kernel
theorem dX0_size_1 : decode cX0_size 1 = .ok (.getfield 15, 3) := by decide +kernel
theorem dX0_size_4 : decode cX0_size 4 = .ok (.ireturn, 1) := by decide +kernel
set_option maxRecDepth 20000 in
theorem ggX0_has_X0_placeOf : GoodIn wsX0_has wsX0_placeOf := goodIn_r _ [5, 6, 7, 8, 9, 10] (by decide +kernel) (by decide +kernel)
set_option maxRecDepth 20000 in
theorem gX0_has_X0_placeOf : GoodIn wsX0_has (wsV RX0 22 RX0 yX0_placeOf wsX0_placeOf) := goodIn_app (goodIn_of _ (by decide +kernel)) ggX0_has_X0_placeOf
theorem dX0_has_0 : decode cX0_has 0 = .ok (.aload_n 0, 1) := by decide +kernel
theorem dX0_has_1 : decode cX0_has 1 = .ok (.lload_n 1, 1) := by decide +kernel
theorem dX0_has_2 : decode cX0_has 2 = .ok (.invokevirtual 22, 3) := by decide +kernel
theorem dX0_has_5 : decode cX0_has 5 = .ok (.iconst (-1), 1) := by decide +kernel
theorem dX0_has_6 : decode cX0_has 6 = .ok (.if_icmp .eq 7, 3) := by decide +kernel
theorem dX0_has_9 : decode cX0_has 9 = .ok (.iconst 1, 1) := by decide +kernel
theorem dX0_has_10 : decode cX0_has 10 = .ok (.goto 4, 3) := by decide +kernel
theorem dX0_has_13 : decode cX0_has 13 = .ok (.iconst 0, 1) := by decide +kernel
theorem dX0_has_14 : decode cX0_has 14 = .ok (.ireturn, 1) := by decide +kernel
theorem dX0_wordAt_0 : decode cX0_wordAt 0 = .ok (.iload_n 1, 1) := by decide +kernel
theorem dX0_wordAt_1 : decode cX0_wordAt 1 = .ok (.ifCond .lt 20, 3) := by decide +kernel
theorem dX0_wordAt_4 : decode cX0_wordAt 4 = .ok (.iload_n 1, 1) := by decide +kernel
theorem dX0_wordAt_5 : decode cX0_wordAt 5 = .ok (.aload_n 0, 1) := by decide +kernel
theorem dX0_wordAt_6 : decode cX0_wordAt 6 = .ok (.getfield 15, 3) := by decide +kernel
theorem dX0_wordAt_9 : decode cX0_wordAt 9 = .ok (.if_icmp .ge 12, 3) := by decide +kernel
theorem dX0_wordAt_12 : decode cX0_wordAt 12 = .ok (.aload_n 0, 1) := by decide +kernel
theorem dX0_wordAt_13 : decode cX0_wordAt 13 = .ok (.getfield 9, 3) := by decide +kernel
theorem dX0_wordAt_16 : decode cX0_wordAt 16 = .ok (.iload_n 1, 1) := by decide +kernel
theorem dX0_wordAt_17 : decode cX0_wordAt 17 = .ok (.laload, 1) := by decide +kernel
theorem dX0_wordAt_18 : decode cX0_wordAt 18 = .ok (.goto 4, 3) := by decide +kernel
theorem dX0_wordAt_21 : decode cX0_wordAt 21 = .ok (.lconst 0, 1) := by decide +kernel
theorem dX0_wordAt_22 : decode cX0_wordAt 22 = .ok (.lreturn, 1) := by decide +kernel
set_option maxRecDepth 20000 in
theorem ggX0_add_X0_has : GoodIn wsX0_add wsX0_has := goodIn_r _ [7, 8, 9, 10, 6, 11, 1, 2, 12, 13, 14] (by decide +kernel) (by decide +kernel)
set_option maxRecDepth 20000 in
theorem gX0_add_X0_has : GoodIn wsX0_add (wsV RX0 28 RX0 yX0_has wsX0_has) := goodIn_app (goodIn_of _ (by decide +kernel)) ggX0_add_X0_has
theorem dX0_add_0 : decode cX0_add 0 = .ok (.aload_n 0, 1) := by decide +kernel
theorem dX0_add_1 : decode cX0_add 1 = .ok (.getfield 15, 3) := by decide +kernel
theorem dX0_add_4 : decode cX0_add 4 = .ok (.aload_n 0, 1) := by decide +kernel
theorem dX0_add_5 : decode cX0_add 5 = .ok (.getfield 9, 3) := by decide +kernel
theorem dX0_add_8 : decode cX0_add 8 = .ok (.arraylength, 1) := by decide +kernel
theorem dX0_add_9 : decode cX0_add 9 = .ok (.if_icmp .ge 11, 3) := by decide +kernel
theorem dX0_add_12 : decode cX0_add 12 = .ok (.aload_n 0, 1) := by decide +kernel
theorem dX0_add_13 : decode cX0_add 13 = .ok (.lload_n 1, 1) := by decide +kernel
theorem dX0_add_14 : decode cX0_add 14 = .ok (.invokevirtual 28, 3) := by decide +kernel
theorem dX0_add_17 : decode cX0_add 17 = .ok (.ifCond .eq 5, 3) := by decide +kernel
theorem dX0_add_20 : decode cX0_add 20 = .ok (.iconst 0, 1) := by decide +kernel
theorem dX0_add_21 : decode cX0_add 21 = .ok (.ireturn, 1) := by decide +kernel
theorem dX0_add_22 : decode cX0_add 22 = .ok (.aload_n 0, 1) := by decide +kernel
theorem dX0_add_23 : decode cX0_add 23 = .ok (.getfield 15, 3) := by decide +kernel
theorem dX0_add_26 : decode cX0_add 26 = .ok (.istore_n 3, 1) := by decide +kernel
theorem dX0_add_27 : decode cX0_add 27 = .ok (.iload_n 3, 1) := by decide +kernel
theorem dX0_add_28 : decode cX0_add 28 = .ok (.ifCond .le 36, 3) := by decide +kernel
theorem dX0_add_31 : decode cX0_add 31 = .ok (.aload_n 0, 1) := by decide +kernel
theorem dX0_add_32 : decode cX0_add 32 = .ok (.getfield 9, 3) := by decide +kernel
theorem dX0_add_35 : decode cX0_add 35 = .ok (.iload_n 3, 1) := by decide +kernel
theorem dX0_add_36 : decode cX0_add 36 = .ok (.iconst 1, 1) := by decide +kernel
theorem dX0_add_37 : decode cX0_add 37 = .ok (.isub, 1) := by decide +kernel
theorem dX0_add_38 : decode cX0_add 38 = .ok (.laload, 1) := by decide +kernel
theorem dX0_add_39 : decode cX0_add 39 = .ok (.lload_n 1, 1) := by decide +kernel
theorem dX0_add_40 : decode cX0_add 40 = .ok (.lcmp, 1) := by decide +kernel
theorem dX0_add_41 : decode cX0_add 41 = .ok (.ifCond .le 23, 3) := by decide +kernel
theorem dX0_add_44 : decode cX0_add 44 = .ok (.aload_n 0, 1) := by decide +kernel
theorem dX0_add_45 : decode cX0_add 45 = .ok (.getfield 9, 3) := by decide +kernel
theorem dX0_add_48 : decode cX0_add 48 = .ok (.iload_n 3, 1) := by decide +kernel
theorem dX0_add_49 : decode cX0_add 49 = .ok (.aload_n 0, 1) := by decide +kernel
theorem dX0_add_50 : decode cX0_add 50 = .ok (.getfield 9, 3) := by decide +kernel
theorem dX0_add_53 : decode cX0_add 53 = .ok (.iload_n 3, 1) := by decide +kernel
theorem dX0_add_54 : decode cX0_add 54 = .ok (.iconst 1, 1) := by decide +kernel
theorem dX0_add_55 : decode cX0_add 55 = .ok (.isub, 1) := by decide +kernel
theorem dX0_add_56 : decode cX0_add 56 = .ok (.laload, 1) := by decide +kernel
theorem dX0_add_57 : decode cX0_add 57 = .ok (.lastore, 1) := by decide +kernel
theorem dX0_add_58 : decode cX0_add 58 = .ok (.iinc 3 (-1), 3) := by decide +kernel
theorem dX0_add_61 : decode cX0_add 61 = .ok (.goto (-34), 3) := by decide +kernel
theorem dX0_add_64 : decode cX0_add 64 = .ok (.aload_n 0, 1) := by decide +kernel
theorem dX0_add_65 : decode cX0_add 65 = .ok (.getfield 9, 3) := by decide +kernel
theorem dX0_add_68 : decode cX0_add 68 = .ok (.iload_n 3, 1) := by decide +kernel
theorem dX0_add_69 : decode cX0_add 69 = .ok (.lload_n 1, 1) := by decide +kernel
theorem dX0_add_70 : decode cX0_add 70 = .ok (.lastore, 1) := by decide +kernel
theorem dX0_add_71 : decode cX0_add 71 = .ok (.aload_n 0, 1) := by decide +kernel
theorem dX0_add_72 : decode cX0_add 72 = .ok (.dup, 1) := by decide +kernel
theorem dX0_add_73 : decode cX0_add 73 = .ok (.getfield 15, 3) := by decide +kernel
theorem dX0_add_76 : decode cX0_add 76 = .ok (.iconst 1, 1) := by decide +kernel
theorem dX0_add_77 : decode cX0_add 77 = .ok (.iadd, 1) := by decide +kernel
theorem dX0_add_78 : decode cX0_add 78 = .ok (.putfield 15, 3) := by decide +kernel
theorem dX0_add_81 : decode cX0_add 81 = .ok (.iconst 1, 1) := by decide +kernel
theorem dX0_add_82 : decode cX0_add 82 = .ok (.ireturn, 1) := by decide +kernel
set_option maxRecDepth 20000 in
theorem ggX0_remove_X0_placeOf : GoodIn wsX0_remove wsX0_placeOf := goodIn_r _ [7, 1, 2, 8, 9, 10] (by decide +kernel) (by decide +kernel)
set_option maxRecDepth 20000 in
theorem gX0_remove_X0_placeOf : GoodIn wsX0_remove (wsV RX0 22 RX0 yX0_placeOf wsX0_placeOf) := goodIn_app (goodIn_of _ (by decide +kernel)) ggX0_remove_X0_placeOf
theorem dX0_remove_0 : decode cX0_remove 0 = .ok (.aload_n 0, 1) := by decide +kernel
theorem dX0_remove_1 : decode cX0_remove 1 = .ok (.lload_n 1, 1) := by decide +kernel
theorem dX0_remove_2 : decode cX0_remove 2 = .ok (.invokevirtual 22, 3) := by decide +kernel
theorem dX0_remove_5 : decode cX0_remove 5 = .ok (.istore_n 3, 1) := by decide +kernel
theorem dX0_remove_6 : decode cX0_remove 6 = .ok (.iload_n 3, 1) := by decide +kernel
theorem dX0_remove_7 : decode cX0_remove 7 = .ok (.iconst (-1), 1) := by decide +kernel
theorem dX0_remove_8 : decode cX0_remove 8 = .ok (.if_icmp .ne 5, 3) := by decide +kernel
theorem dX0_remove_11 : decode cX0_remove 11 = .ok (.iconst 0, 1) := by decide +kernel
theorem dX0_remove_12 : decode cX0_remove 12 = .ok (.ireturn, 1) := by decide +kernel
theorem dX0_remove_13 : decode cX0_remove 13 = .ok (.aload_n 0, 1) := by decide +kernel
theorem dX0_remove_14 : decode cX0_remove 14 = .ok (.dup, 1) := by decide +kernel
theorem dX0_remove_15 : decode cX0_remove 15 = .ok (.getfield 15, 3) := by decide +kernel
theorem dX0_remove_18 : decode cX0_remove 18 = .ok (.iconst 1, 1) := by decide +kernel
theorem dX0_remove_19 : decode cX0_remove 19 = .ok (.isub, 1) := by decide +kernel
theorem dX0_remove_20 : decode cX0_remove 20 = .ok (.putfield 15, 3) := by decide +kernel
theorem dX0_remove_23 : decode cX0_remove 23 = .ok (.iload_n 3, 1) := by decide +kernel
theorem dX0_remove_24 : decode cX0_remove 24 = .ok (.istore 4, 2) := by decide +kernel
theorem dX0_remove_26 : decode cX0_remove 26 = .ok (.iload 4, 2) := by decide +kernel
theorem dX0_remove_28 : decode cX0_remove 28 = .ok (.aload_n 0, 1) := by decide +kernel
theorem dX0_remove_29 : decode cX0_remove 29 = .ok (.getfield 15, 3) := by decide +kernel
theorem dX0_remove_32 : decode cX0_remove 32 = .ok (.if_icmp .ge 25, 3) := by decide +kernel
theorem dX0_remove_35 : decode cX0_remove 35 = .ok (.aload_n 0, 1) := by decide +kernel
theorem dX0_remove_36 : decode cX0_remove 36 = .ok (.getfield 9, 3) := by decide +kernel
theorem dX0_remove_39 : decode cX0_remove 39 = .ok (.iload 4, 2) := by decide +kernel
theorem dX0_remove_41 : decode cX0_remove 41 = .ok (.aload_n 0, 1) := by decide +kernel
theorem dX0_remove_42 : decode cX0_remove 42 = .ok (.getfield 9, 3) := by decide +kernel
theorem dX0_remove_45 : decode cX0_remove 45 = .ok (.iload 4, 2) := by decide +kernel
theorem dX0_remove_47 : decode cX0_remove 47 = .ok (.iconst 1, 1) := by decide +kernel
theorem dX0_remove_48 : decode cX0_remove 48 = .ok (.iadd, 1) := by decide +kernel
theorem dX0_remove_49 : decode cX0_remove 49 = .ok (.laload, 1) := by decide +kernel
theorem dX0_remove_50 : decode cX0_remove 50 = .ok (.lastore, 1) := by decide +kernel
theorem dX0_remove_51 : decode cX0_remove 51 = .ok (.iinc 4 1, 3) := by decide +kernel
theorem dX0_remove_54 : decode cX0_remove 54 = .ok (.goto (-28), 3) := by decide +kernel
theorem dX0_remove_57 : decode cX0_remove 57 = .ok (.iconst 1, 1) := by decide +kernel
theorem dX0_remove_58 : decode cX0_remove 58 = .ok (.ireturn, 1) := by decide +kernel
set_option maxRecDepth 20000 in
theorem ggX0_countFrom_X2_beginsWith : GoodIn wsX0_countFrom wsX2_beginsWith := goodIn_r _ [6, 7, 8, 5, 9, 10, 11, 12, 13, 14, 15, 16] (by decide +kernel) (by decide +kernel)
set_option maxRecDepth 20000 in
theorem gX0_countFrom_X2_beginsWith : GoodIn wsX0_countFrom (va_wsS RX0 32 yX2_beginsWith wsX2_beginsWith) := goodIn_app (goodIn_of _ (by decide +kernel)) ggX0_countFrom_X2_beginsWith
theorem dX0_countFrom_0 : decode cX0_countFrom 0 = .ok (.iconst 0, 1) := by decide +kernel
theorem dX0_countFrom_1 : decode cX0_countFrom 1 = .ok (.istore_n 3, 1) := by decide +kernel
theorem dX0_countFrom_2 : decode cX0_countFrom 2 = .ok (.iconst 0, 1) := by decide +kernel
theorem dX0_countFrom_3 : decode cX0_countFrom 3 = .ok (.istore 4, 2) := by decide +kernel
theorem dX0_countFrom_5 : decode cX0_countFrom 5 = .ok (.iload 4, 2) := by decide +kernel
theorem dX0_countFrom_7 : decode cX0_countFrom 7 = .ok (.aload_n 0, 1) := by decide +kernel
theorem dX0_countFrom_8 : decode cX0_countFrom 8 = .ok (.getfield 15, 3) := by decide +kernel
theorem dX0_countFrom_11 : decode cX0_countFrom 11 = .ok (.if_icmp .ge 26, 3) := by decide +kernel
theorem dX0_countFrom_14 : decode cX0_countFrom 14 = .ok (.aload_n 0, 1) := by decide +kernel
theorem dX0_countFrom_15 : decode cX0_countFrom 15 = .ok (.getfield 9, 3) := by decide +kernel
theorem dX0_countFrom_18 : decode cX0_countFrom 18 = .ok (.iload 4, 2) := by decide +kernel
theorem dX0_countFrom_20 : decode cX0_countFrom 20 = .ok (.laload, 1) := by decide +kernel
theorem dX0_countFrom_21 : decode cX0_countFrom 21 = .ok (.lload_n 1, 1) := by decide +kernel
theorem dX0_countFrom_22 : decode cX0_countFrom 22 = .ok (.invokestatic 32, 3) := by decide +kernel
theorem dX0_countFrom_25 : decode cX0_countFrom 25 = .ok (.ifCond .eq 6, 3) := by decide +kernel
theorem dX0_countFrom_28 : decode cX0_countFrom 28 = .ok (.iinc 3 1, 3) := by decide +kernel
theorem dX0_countFrom_31 : decode cX0_countFrom 31 = .ok (.iinc 4 1, 3) := by decide +kernel
theorem dX0_countFrom_34 : decode cX0_countFrom 34 = .ok (.goto (-29), 3) := by decide +kernel
theorem dX0_countFrom_37 : decode cX0_countFrom 37 = .ok (.iload_n 3, 1) := by decide +kernel
theorem dX0_countFrom_38 : decode cX0_countFrom 38 = .ok (.ireturn, 1) := by decide +kernel
set_option maxRecDepth 20000 in
theorem ggX0_countBeginnings_X2_lengthOf : GoodIn wsX0_countBeginnings wsX2_lengthOf := goodIn_r _ [6] (by decide +kernel) (by decide +kernel)
set_option maxRecDepth 20000 in
theorem gX0_countBeginnings_X2_lengthOf : GoodIn wsX0_countBeginnings (va_wsS RX0 36 yX2_lengthOf wsX2_lengthOf) := goodIn_app (goodIn_of _ (by decide +kernel)) ggX0_countBeginnings_X2_lengthOf
set_option maxRecDepth 20000 in
theorem ggX0_countBeginnings_X0_lengthSharedBefore : GoodIn wsX0_countBeginnings wsX0_lengthSharedBefore := goodIn_r _ [11, 2, 12, 13, 14, 15, 16, 17, 5, 18, 19, 20, 21, 22, 4, 6, 23, 24, 25, 26, 27, 28, 29, 30, 31, 32] (by decide +kernel) (by decide +kernel)
set_option maxRecDepth 20000 in
theorem gX0_countBeginnings_X0_lengthSharedBefore : GoodIn wsX0_countBeginnings (wsV RX0 39 RX0 yX0_lengthSharedBefore wsX0_lengthSharedBefore) := goodIn_app (goodIn_of _ (by decide +kernel)) ggX0_countBeginnings_X0_lengthSharedBefore
theorem dX0_countBeginnings_0 : decode cX0_countBeginnings 0 = .ok (.iconst 1, 1) := by decide +kernel
theorem dX0_countBeginnings_1 : decode cX0_countBeginnings 1 = .ok (.istore_n 1, 1) := by decide +kernel
theorem dX0_countBeginnings_2 : decode cX0_countBeginnings 2 = .ok (.iconst 0, 1) := by decide +kernel
theorem dX0_countBeginnings_3 : decode cX0_countBeginnings 3 = .ok (.istore_n 2, 1) := by decide +kernel
theorem dX0_countBeginnings_4 : decode cX0_countBeginnings 4 = .ok (.iload_n 2, 1) := by decide +kernel
theorem dX0_countBeginnings_5 : decode cX0_countBeginnings 5 = .ok (.aload_n 0, 1) := by decide +kernel
theorem dX0_countBeginnings_6 : decode cX0_countBeginnings 6 = .ok (.getfield 15, 3) := by decide +kernel
theorem dX0_countBeginnings_9 : decode cX0_countBeginnings 9 = .ok (.if_icmp .ge 27, 3) := by decide +kernel
theorem dX0_countBeginnings_12 : decode cX0_countBeginnings 12 = .ok (.iload_n 1, 1) := by decide +kernel
theorem dX0_countBeginnings_13 : decode cX0_countBeginnings 13 = .ok (.aload_n 0, 1) := by decide +kernel
theorem dX0_countBeginnings_14 : decode cX0_countBeginnings 14 = .ok (.getfield 9, 3) := by decide +kernel
theorem dX0_countBeginnings_17 : decode cX0_countBeginnings 17 = .ok (.iload_n 2, 1) := by decide +kernel
theorem dX0_countBeginnings_18 : decode cX0_countBeginnings 18 = .ok (.laload, 1) := by decide +kernel
theorem dX0_countBeginnings_19 : decode cX0_countBeginnings 19 = .ok (.invokestatic 36, 3) := by decide +kernel
theorem dX0_countBeginnings_22 : decode cX0_countBeginnings 22 = .ok (.aload_n 0, 1) := by decide +kernel
theorem dX0_countBeginnings_23 : decode cX0_countBeginnings 23 = .ok (.iload_n 2, 1) := by decide +kernel
theorem dX0_countBeginnings_24 : decode cX0_countBeginnings 24 = .ok (.invokevirtual 39, 3) := by decide +kernel
theorem dX0_countBeginnings_27 : decode cX0_countBeginnings 27 = .ok (.isub, 1) := by decide +kernel
theorem dX0_countBeginnings_28 : decode cX0_countBeginnings 28 = .ok (.iadd, 1) := by decide +kernel
theorem dX0_countBeginnings_29 : decode cX0_countBeginnings 29 = .ok (.istore_n 1, 1) := by decide +kernel
theorem dX0_countBeginnings_30 : decode cX0_countBeginnings 30 = .ok (.iinc 2 1, 3) := by decide +kernel
theorem dX0_countBeginnings_33 : decode cX0_countBeginnings 33 = .ok (.goto (-29), 3) := by decide +kernel
theorem dX0_countBeginnings_36 : decode cX0_countBeginnings 36 = .ok (.iload_n 1, 1) := by decide +kernel
theorem dX0_countBeginnings_37 : decode cX0_countBeginnings 37 = .ok (.ireturn, 1) := by decide +kernel
theorem dX0_changeLeastLength_0 : decode cX0_changeLeastLength 0 = .ok (.aload_n 0, 1) := by decide +kernel
theorem dX0_changeLeastLength_1 : decode cX0_changeLeastLength 1 = .ok (.getfield 19, 3) := by decide +kernel
theorem dX0_changeLeastLength_4 : decode cX0_changeLeastLength 4 = .ok (.istore_n 2, 1) := by decide +kernel
theorem dX0_changeLeastLength_5 : decode cX0_changeLeastLength 5 = .ok (.aload_n 0, 1) := by decide +kernel
theorem dX0_changeLeastLength_6 : decode cX0_changeLeastLength 6 = .ok (.iload_n 1, 1) := by decide +kernel
theorem dX0_changeLeastLength_7 : decode cX0_changeLeastLength 7 = .ok (.putfield 19, 3) := by decide +kernel
theorem dX0_changeLeastLength_10 : decode cX0_changeLeastLength 10 = .ok (.iload_n 2, 1) := by decide +kernel
theorem dX0_changeLeastLength_11 : decode cX0_changeLeastLength 11 = .ok (.ireturn, 1) := by decide +kernel
set_option maxRecDepth 20000 in
theorem ggX0_isLongEnough_X2_lengthOf : GoodIn wsX0_isLongEnough wsX2_lengthOf := goodIn_r _ [5] (by decide +kernel) (by decide +kernel)
set_option maxRecDepth 20000 in
theorem gX0_isLongEnough_X2_lengthOf : GoodIn wsX0_isLongEnough (va_wsS RX0 36 yX2_lengthOf wsX2_lengthOf) := goodIn_app (goodIn_of _ (by decide +kernel)) ggX0_isLongEnough_X2_lengthOf
theorem dX0_isLongEnough_0 : decode cX0_isLongEnough 0 = .ok (.lload_n 1, 1) := by decide +kernel
theorem dX0_isLongEnough_1 : decode cX0_isLongEnough 1 = .ok (.invokestatic 36, 3) := by decide +kernel
theorem dX0_isLongEnough_4 : decode cX0_isLongEnough 4 = .ok (.aload_n 0, 1) := by decide +kernel
theorem dX0_isLongEnough_5 : decode cX0_isLongEnough 5 = .ok (.getfield 19, 3) := by decide +kernel
theorem dX0_isLongEnough_8 : decode cX0_isLongEnough 8 = .ok (.if_icmp .lt 7, 3) := by decide +kernel
theorem dX0_isLongEnough_11 : decode cX0_isLongEnough 11 = .ok (.iconst 1, 1) := by decide +kernel
theorem dX0_isLongEnough_12 : decode cX0_isLongEnough 12 = .ok (.goto 4, 3) := by decide +kernel
theorem dX0_isLongEnough_15 : decode cX0_isLongEnough 15 = .ok (.iconst 0, 1) := by decide +kernel
theorem dX0_isLongEnough_16 : decode cX0_isLongEnough 16 = .ok (.ireturn, 1) := by decide +kernel
set_option maxRecDepth 20000 in
theorem ggX0_hasCounting_X0_isLongEnough : GoodIn wsX0_hasCounting wsX0_isLongEnough := goodIn_r _ [5, 6, 7, 8, 9, 10, 21, 22, 23] (by decide +kernel) (by decide +kernel)
set_option maxRecDepth 20000 in
theorem gX0_hasCounting_X0_isLongEnough : GoodIn wsX0_hasCounting (wsV RX0 43 RX0 yX0_isLongEnough wsX0_isLongEnough) := goodIn_app (goodIn_of _ (by decide +kernel)) ggX0_hasCounting_X0_isLongEnough
set_option maxRecDepth 20000 in
theorem ggX0_hasCounting_X0_has : GoodIn wsX0_hasCounting wsX0_has := goodIn_r _ [14, 15, 16, 17, 4, 18, 19, 20, 21, 22, 23] (by decide +kernel) (by decide +kernel)
set_option maxRecDepth 20000 in
theorem gX0_hasCounting_X0_has : GoodIn wsX0_hasCounting (wsV RX0 28 RX0 yX0_has wsX0_has) := goodIn_app (goodIn_of _ (by decide +kernel)) ggX0_hasCounting_X0_has
theorem dX0_hasCounting_0 : decode cX0_hasCounting 0 = .ok (.aload_n 0, 1) := by decide +kernel
theorem dX0_hasCounting_1 : decode cX0_hasCounting 1 = .ok (.lload_n 1, 1) := by decide +kernel
theorem dX0_hasCounting_2 : decode cX0_hasCounting 2 = .ok (.invokevirtual 43, 3) := by decide +kernel
theorem dX0_hasCounting_5 : decode cX0_hasCounting 5 = .ok (.ifCond .eq 15, 3) := by decide +kernel
theorem dX0_hasCounting_8 : decode cX0_hasCounting 8 = .ok (.aload_n 0, 1) := by decide +kernel
theorem dX0_hasCounting_9 : decode cX0_hasCounting 9 = .ok (.lload_n 1, 1) := by decide +kernel
theorem dX0_hasCounting_10 : decode cX0_hasCounting 10 = .ok (.invokevirtual 28, 3) := by decide +kernel
theorem dX0_hasCounting_13 : decode cX0_hasCounting 13 = .ok (.ifCond .eq 7, 3) := by decide +kernel
theorem dX0_hasCounting_16 : decode cX0_hasCounting 16 = .ok (.iconst 1, 1) := by decide +kernel
theorem dX0_hasCounting_17 : decode cX0_hasCounting 17 = .ok (.goto 4, 3) := by decide +kernel
theorem dX0_hasCounting_20 : decode cX0_hasCounting 20 = .ok (.iconst 0, 1) := by decide +kernel
theorem dX0_hasCounting_21 : decode cX0_hasCounting 21 = .ok (.ireturn, 1) := by decide +kernel
set_option maxRecDepth 20000 in
theorem ggX0_hasCountingFrom_X0_isLongEnough : GoodIn wsX0_hasCountingFrom wsX0_isLongEnough := goodIn_r _ [7, 8, 9, 10, 11, 12, 24, 25, 26] (by decide +kernel) (by decide +kernel)
set_option maxRecDepth 20000 in
theorem gX0_hasCountingFrom_X0_isLongEnough : GoodIn wsX0_hasCountingFrom (wsV RX0 43 RX0 yX0_isLongEnough wsX0_isLongEnough) := goodIn_app (goodIn_of _ (by decide +kernel)) ggX0_hasCountingFrom_X0_isLongEnough
set_option maxRecDepth 20000 in
theorem ggX0_hasCountingFrom_X2_beginsWith : GoodIn wsX0_hasCountingFrom wsX2_beginsWith := goodIn_r _ [15, 16, 10, 11, 12, 17, 18, 19, 20, 21, 22, 23] (by decide +kernel) (by decide +kernel)
set_option maxRecDepth 20000 in
theorem gX0_hasCountingFrom_X2_beginsWith : GoodIn wsX0_hasCountingFrom (va_wsS RX0 32 yX2_beginsWith wsX2_beginsWith) := goodIn_app (goodIn_of _ (by decide +kernel)) ggX0_hasCountingFrom_X2_beginsWith
theorem dX0_hasCountingFrom_0 : decode cX0_hasCountingFrom 0 = .ok (.iconst 0, 1) := by decide +kernel
theorem dX0_hasCountingFrom_1 : decode cX0_hasCountingFrom 1 = .ok (.istore_n 3, 1) := by decide +kernel
theorem dX0_hasCountingFrom_2 : decode cX0_hasCountingFrom 2 = .ok (.iload_n 3, 1) := by decide +kernel
theorem dX0_hasCountingFrom_3 : decode cX0_hasCountingFrom 3 = .ok (.aload_n 0, 1) := by decide +kernel
theorem dX0_hasCountingFrom_4 : decode cX0_hasCountingFrom 4 = .ok (.getfield 15, 3) := by decide +kernel
theorem dX0_hasCountingFrom_7 : decode cX0_hasCountingFrom 7 = .ok (.if_icmp .ge 37, 3) := by decide +kernel
theorem dX0_hasCountingFrom_10 : decode cX0_hasCountingFrom 10 = .ok (.aload_n 0, 1) := by decide +kernel
theorem dX0_hasCountingFrom_11 : decode cX0_hasCountingFrom 11 = .ok (.aload_n 0, 1) := by decide +kernel
theorem dX0_hasCountingFrom_12 : decode cX0_hasCountingFrom 12 = .ok (.getfield 9, 3) := by decide +kernel
theorem dX0_hasCountingFrom_15 : decode cX0_hasCountingFrom 15 = .ok (.iload_n 3, 1) := by decide +kernel
theorem dX0_hasCountingFrom_16 : decode cX0_hasCountingFrom 16 = .ok (.laload, 1) := by decide +kernel
theorem dX0_hasCountingFrom_17 : decode cX0_hasCountingFrom 17 = .ok (.invokevirtual 43, 3) := by decide +kernel
theorem dX0_hasCountingFrom_20 : decode cX0_hasCountingFrom 20 = .ok (.ifCond .eq 18, 3) := by decide +kernel
theorem dX0_hasCountingFrom_23 : decode cX0_hasCountingFrom 23 = .ok (.aload_n 0, 1) := by decide +kernel
theorem dX0_hasCountingFrom_24 : decode cX0_hasCountingFrom 24 = .ok (.getfield 9, 3) := by decide +kernel
theorem dX0_hasCountingFrom_27 : decode cX0_hasCountingFrom 27 = .ok (.iload_n 3, 1) := by decide +kernel
theorem dX0_hasCountingFrom_28 : decode cX0_hasCountingFrom 28 = .ok (.laload, 1) := by decide +kernel
theorem dX0_hasCountingFrom_29 : decode cX0_hasCountingFrom 29 = .ok (.lload_n 1, 1) := by decide +kernel
theorem dX0_hasCountingFrom_30 : decode cX0_hasCountingFrom 30 = .ok (.invokestatic 32, 3) := by decide +kernel
theorem dX0_hasCountingFrom_33 : decode cX0_hasCountingFrom 33 = .ok (.ifCond .eq 5, 3) := by decide +kernel
theorem dX0_hasCountingFrom_36 : decode cX0_hasCountingFrom 36 = .ok (.iconst 1, 1) := by decide +kernel
theorem dX0_hasCountingFrom_37 : decode cX0_hasCountingFrom 37 = .ok (.ireturn, 1) := by decide +kernel
theorem dX0_hasCountingFrom_38 : decode cX0_hasCountingFrom 38 = .ok (.iinc 3 1, 3) := by decide +kernel
theorem dX0_hasCountingFrom_41 : decode cX0_hasCountingFrom 41 = .ok (.goto (-39), 3) := by decide +kernel
theorem dX0_hasCountingFrom_44 : decode cX0_hasCountingFrom 44 = .ok (.iconst 0, 1) := by decide +kernel
theorem dX0_hasCountingFrom_45 : decode cX0_hasCountingFrom 45 = .ok (.ireturn, 1) := by decide +kernel
theorem dX0_placeOf_0 : decode cX0_placeOf 0 = .ok (.iconst 0, 1) := by decide +kernel
theorem dX0_placeOf_1 : decode cX0_placeOf 1 = .ok (.istore_n 3, 1) := by decide +kernel
theorem dX0_placeOf_2 : decode cX0_placeOf 2 = .ok (.iload_n 3, 1) := by decide +kernel
theorem dX0_placeOf_3 : decode cX0_placeOf 3 = .ok (.aload_n 0, 1) := by decide +kernel
theorem dX0_placeOf_4 : decode cX0_placeOf 4 = .ok (.getfield 15, 3) := by decide +kernel
theorem dX0_placeOf_7 : decode cX0_placeOf 7 = .ok (.if_icmp .ge 22, 3) := by decide +kernel
theorem dX0_placeOf_10 : decode cX0_placeOf 10 = .ok (.aload_n 0, 1) := by decide +kernel
theorem dX0_placeOf_11 : decode cX0_placeOf 11 = .ok (.getfield 9, 3) := by decide +kernel
theorem dX0_placeOf_14 : decode cX0_placeOf 14 = .ok (.iload_n 3, 1) := by decide +kernel
theorem dX0_placeOf_15 : decode cX0_placeOf 15 = .ok (.laload, 1) := by decide +kernel
theorem dX0_placeOf_16 : decode cX0_placeOf 16 = .ok (.lload_n 1, 1) := by decide +kernel
theorem dX0_placeOf_17 : decode cX0_placeOf 17 = .ok (.lcmp, 1) := by decide +kernel
theorem dX0_placeOf_18 : decode cX0_placeOf 18 = .ok (.ifCond .ne 5, 3) := by decide +kernel
theorem dX0_placeOf_21 : decode cX0_placeOf 21 = .ok (.iload_n 3, 1) := by decide +kernel
theorem dX0_placeOf_22 : decode cX0_placeOf 22 = .ok (.ireturn, 1) := by decide +kernel
theorem dX0_placeOf_23 : decode cX0_placeOf 23 = .ok (.iinc 3 1, 3) := by decide +kernel
theorem dX0_placeOf_26 : decode cX0_placeOf 26 = .ok (.goto (-24), 3) := by decide +kernel
theorem dX0_placeOf_29 : decode cX0_placeOf 29 = .ok (.iconst (-1), 1) := by decide +kernel
theorem dX0_placeOf_30 : decode cX0_placeOf 30 = .ok (.ireturn, 1) := by decide +kernel
set_option maxRecDepth 20000 in
theorem ggX0_lengthSharedBefore_X2_lengthShared : GoodIn wsX0_lengthSharedBefore wsX2_lengthShared := goodIn_r _ [9, 10, 11, 4, 12, 13, 14, 8, 15, 16, 17, 18, 19, 20, 21, 22] (by decide +kernel) (by decide +kernel)
set_option maxRecDepth 20000 in
theorem gX0_lengthSharedBefore_X2_lengthShared : GoodIn wsX0_lengthSharedBefore (va_wsS RX0 46 yX2_lengthShared wsX2_lengthShared) := goodIn_app (goodIn_of _ (by decide +kernel)) ggX0_lengthSharedBefore_X2_lengthShared
theorem dX0_lengthSharedBefore_0 : decode cX0_lengthSharedBefore 0 = .ok (.iconst 0, 1) := by decide +kernel
theorem dX0_lengthSharedBefore_1 : decode cX0_lengthSharedBefore 1 = .ok (.istore_n 2, 1) := by decide +kernel
theorem dX0_lengthSharedBefore_2 : decode cX0_lengthSharedBefore 2 = .ok (.iconst 0, 1) := by decide +kernel
theorem dX0_lengthSharedBefore_3 : decode cX0_lengthSharedBefore 3 = .ok (.istore_n 3, 1) := by decide +kernel
theorem dX0_lengthSharedBefore_4 : decode cX0_lengthSharedBefore 4 = .ok (.iload_n 3, 1) := by decide +kernel
theorem dX0_lengthSharedBefore_5 : decode cX0_lengthSharedBefore 5 = .ok (.iload_n 1, 1) := by decide +kernel
theorem dX0_lengthSharedBefore_6 : decode cX0_lengthSharedBefore 6 = .ok (.if_icmp .ge 29, 3) := by decide +kernel
theorem dX0_lengthSharedBefore_9 : decode cX0_lengthSharedBefore 9 = .ok (.iload_n 2, 1) := by decide +kernel
theorem dX0_lengthSharedBefore_10 : decode cX0_lengthSharedBefore 10 = .ok (.aload_n 0, 1) := by decide +kernel
theorem dX0_lengthSharedBefore_11 : decode cX0_lengthSharedBefore 11 = .ok (.getfield 9, 3) := by decide +kernel
theorem dX0_lengthSharedBefore_14 : decode cX0_lengthSharedBefore 14 = .ok (.iload_n 3, 1) := by decide +kernel
theorem dX0_lengthSharedBefore_15 : decode cX0_lengthSharedBefore 15 = .ok (.laload, 1) := by decide +kernel
theorem dX0_lengthSharedBefore_16 : decode cX0_lengthSharedBefore 16 = .ok (.aload_n 0, 1) := by decide +kernel
theorem dX0_lengthSharedBefore_17 : decode cX0_lengthSharedBefore 17 = .ok (.getfield 9, 3) := by decide +kernel
theorem dX0_lengthSharedBefore_20 : decode cX0_lengthSharedBefore 20 = .ok (.iload_n 1, 1) := by decide +kernel
theorem dX0_lengthSharedBefore_21 : decode cX0_lengthSharedBefore 21 = .ok (.laload, 1) := by decide +kernel
theorem dX0_lengthSharedBefore_22 : decode cX0_lengthSharedBefore 22 = .ok (.invokestatic 46, 3) := by decide +kernel
theorem dX0_lengthSharedBefore_25 : decode cX0_lengthSharedBefore 25 = .ok (.invokestatic 50, 3) := by decide +kernel
theorem dX0_lengthSharedBefore_28 : decode cX0_lengthSharedBefore 28 = .ok (.istore_n 2, 1) := by decide +kernel
theorem dX0_lengthSharedBefore_29 : decode cX0_lengthSharedBefore 29 = .ok (.iinc 3 1, 3) := by decide +kernel
theorem dX0_lengthSharedBefore_32 : decode cX0_lengthSharedBefore 32 = .ok (.goto (-28), 3) := by decide +kernel
theorem dX0_lengthSharedBefore_35 : decode cX0_lengthSharedBefore 35 = .ok (.iload_n 2, 1) := by decide +kernel
theorem dX0_lengthSharedBefore_36 : decode cX0_lengthSharedBefore 36 = .ok (.ireturn, 1) := by decide +kernel
theorem dX1_init_0 : decode cX1_init 0 = .ok (.aload_n 0, 1) := by decide +kernel
theorem dX1_init_1 : decode cX1_init 1 = .ok (.invokespecial 3, 3) := by decide +kernel
theorem dX1_init_4 : decode cX1_init 4 = .ok (.aload_n 0, 1) := by decide +kernel
theorem dX1_init_5 : decode cX1_init 5 = .ok (.iconst 4, 1) := by decide +kernel
theorem dX1_init_6 : decode cX1_init 6 = .ok (.newarray .int, 2) := by decide +kernel
theorem dX1_init_8 : decode cX1_init 8 = .ok (.putfield 9, 3) := by decide +kernel
theorem dX1_init_11 : decode cX1_init 11 = .ok (.aload_n 0, 1) := by decide +kernel
theorem dX1_init_12 : decode cX1_init 12 = .ok (.iconst 0, 1) := by decide +kernel
theorem dX1_init_13 : decode cX1_init 13 = .ok (.putfield 15, 3) := by decide +kernel
theorem dX1_init_16 : decode cX1_init 16 = .ok (.aload_n 0, 1) := by decide +kernel
theorem dX1_init_17 : decode cX1_init 17 = .ok (.iconst (-1), 1) := by decide +kernel
theorem dX1_init_18 : decode cX1_init 18 = .ok (.putfield 19, 3) := by decide +kernel
theorem dX1_init_21 : decode cX1_init 21 = .ok (.aload_n 0, 1) := by decide +kernel
theorem dX1_init_22 : decode cX1_init 22 = .ok (.iconst (-1), 1) := by decide +kernel
theorem dX1_init_23 : decode cX1_init 23 = .ok (.putfield 22, 3) := by decide +kernel
theorem dX1_init_26 : decode cX1_init 26 = .ok (.aload_n 0, 1) := by decide +kernel
theorem dX1_init_27 : decode cX1_init 27 = .ok (.iconst (-1), 1) := by decide +kernel
theorem dX1_init_28 : decode cX1_init 28 = .ok (.putfield 25, 3) := by decide +kernel
theorem dX1_init_31 : decode cX1_init 31 = .ok (.aload_n 0, 1) := by decide +kernel
theorem dX1_init_32 : decode cX1_init 32 = .ok (.lconst 0, 1) := by decide +kernel
theorem dX1_init_33 : decode cX1_init 33 = .ok (.putfield 30, 3) := by decide +kernel
theorem dX1_init_36 : decode cX1_init 36 = .ok (.return_, 1) := by decide +kernel
theorem dX1_begin_0 : decode cX1_begin 0 = .ok (.iconst 0, 1) := by decide +kernel
theorem dX1_begin_1 : decode cX1_begin 1 = .ok (.istore_n 2, 1) := by decide +kernel
theorem dX1_begin_2 : decode cX1_begin 2 = .ok (.iload_n 2, 1) := by decide +kernel
theorem dX1_begin_3 : decode cX1_begin 3 = .ok (.aload_n 0, 1) := by decide +kernel
theorem dX1_begin_4 : decode cX1_begin 4 = .ok (.getfield 9, 3) := by decide +kernel
theorem dX1_begin_7 : decode cX1_begin 7 = .ok (.arraylength, 1) := by decide +kernel
theorem dX1_begin_8 : decode cX1_begin 8 = .ok (.if_icmp .ge 16, 3) := by decide +kernel
theorem dX1_begin_11 : decode cX1_begin 11 = .ok (.aload_n 0, 1) := by decide +kernel
theorem dX1_begin_12 : decode cX1_begin 12 = .ok (.getfield 9, 3) := by decide +kernel
theorem dX1_begin_15 : decode cX1_begin 15 = .ok (.iload_n 2, 1) := by decide +kernel
theorem dX1_begin_16 : decode cX1_begin 16 = .ok (.iconst 0, 1) := by decide +kernel
theorem dX1_begin_17 : decode cX1_begin 17 = .ok (.iastore, 1) := by decide +kernel
theorem dX1_begin_18 : decode cX1_begin 18 = .ok (.iinc 2 1, 3) := by decide +kernel
theorem dX1_begin_21 : decode cX1_begin 21 = .ok (.goto (-19), 3) := by decide +kernel
theorem dX1_begin_24 : decode cX1_begin 24 = .ok (.aload_n 0, 1) := by decide +kernel
theorem dX1_begin_25 : decode cX1_begin 25 = .ok (.iload_n 1, 1) := by decide +kernel
theorem dX1_begin_26 : decode cX1_begin 26 = .ok (.putfield 15, 3) := by decide +kernel
theorem dX1_begin_29 : decode cX1_begin 29 = .ok (.aload_n 0, 1) := by decide +kernel
theorem dX1_begin_30 : decode cX1_begin 30 = .ok (.iconst 0, 1) := by decide +kernel
theorem dX1_begin_31 : decode cX1_begin 31 = .ok (.putfield 19, 3) := by decide +kernel
theorem dX1_begin_34 : decode cX1_begin 34 = .ok (.aload_n 0, 1) := by decide +kernel
theorem dX1_begin_35 : decode cX1_begin 35 = .ok (.iconst (-1), 1) := by decide +kernel
theorem dX1_begin_36 : decode cX1_begin 36 = .ok (.putfield 22, 3) := by decide +kernel
theorem dX1_begin_39 : decode cX1_begin 39 = .ok (.aload_n 0, 1) := by decide +kernel
theorem dX1_begin_40 : decode cX1_begin 40 = .ok (.iconst (-1), 1) := by decide +kernel
theorem dX1_begin_41 : decode cX1_begin 41 = .ok (.putfield 25, 3) := by decide +kernel
theorem dX1_begin_44 : decode cX1_begin 44 = .ok (.aload_n 0, 1) := by decide +kernel
theorem dX1_begin_45 : decode cX1_begin 45 = .ok (.lconst 0, 1) := by decide +kernel
theorem dX1_begin_46 : decode cX1_begin 46 = .ok (.putfield 30, 3) := by decide +kernel
theorem dX1_begin_49 : decode cX1_begin 49 = .ok (.return_, 1) := by decide +kernel
theorem dX1_isOn_0 : decode cX1_isOn 0 = .ok (.aload_n 0, 1) := by decide +kernel
theorem dX1_isOn_1 : decode cX1_isOn 1 = .ok (.getfield 19, 3) := by decide +kernel
theorem dX1_isOn_4 : decode cX1_isOn 4 = .ok (.iconst (-1), 1) := by decide +kernel
theorem dX1_isOn_5 : decode cX1_isOn 5 = .ok (.if_icmp .eq 7, 3) := by decide +kernel
theorem dX1_isOn_8 : decode cX1_isOn 8 = .ok (.iconst 1, 1) := by decide +kernel
theorem dX1_isOn_9 : decode cX1_isOn 9 = .ok (.goto 4, 3) := by decide +kernel
theorem dX1_isOn_12 : decode cX1_isOn 12 = .ok (.iconst 0, 1) := by decide +kernel
theorem dX1_isOn_13 : decode cX1_isOn 13 = .ok (.ireturn, 1) := by decide +kernel
theorem dX1_mover_0 : decode cX1_mover 0 = .ok (.aload_n 0, 1) := by decide +kernel
theorem dX1_mover_1 : decode cX1_mover 1 = .ok (.getfield 19, 3) := by decide +kernel
theorem dX1_mover_4 : decode cX1_mover 4 = .ok (.ireturn, 1) := by decide +kernel
theorem dX1_champion_0 : decode cX1_champion 0 = .ok (.aload_n 0, 1) := by decide +kernel
theorem dX1_champion_1 : decode cX1_champion 1 = .ok (.getfield 25, 3) := by decide +kernel
theorem dX1_champion_4 : decode cX1_champion 4 = .ok (.ireturn, 1) := by decide +kernel
theorem dX1_playerCount_0 : decode cX1_playerCount 0 = .ok (.aload_n 0, 1) := by decide +kernel
theorem dX1_playerCount_1 : decode cX1_playerCount 1 = .ok (.getfield 15, 3) := by decide +kernel
theorem dX1_playerCount_4 : decode cX1_playerCount 4 = .ok (.ireturn, 1) := by decide +kernel
theorem dX1_fragment_0 : decode cX1_fragment 0 = .ok (.aload_n 0, 1) := by decide +kernel
theorem dX1_fragment_1 : decode cX1_fragment 1 = .ok (.getfield 30, 3) := by decide +kernel
theorem dX1_fragment_4 : decode cX1_fragment 4 = .ok (.lreturn, 1) := by decide +kernel
set_option maxRecDepth 20000 in
theorem ggX1_strikesOf_X1_hasPlayer : GoodIn wsX1_strikesOf wsX1_hasPlayer := goodIn_r _ [6, 7, 1, 8, 9, 10, 11, 12, 13] (by decide +kernel) (by decide +kernel)
set_option maxRecDepth 20000 in
theorem gX1_strikesOf_X1_hasPlayer : GoodIn wsX1_strikesOf (wsV RX1 34 RX1 yX1_hasPlayer wsX1_hasPlayer) := goodIn_app (goodIn_of _ (by decide +kernel)) ggX1_strikesOf_X1_hasPlayer
theorem dX1_strikesOf_0 : decode cX1_strikesOf 0 = .ok (.aload_n 0, 1) := by decide +kernel
theorem dX1_strikesOf_1 : decode cX1_strikesOf 1 = .ok (.iload_n 1, 1) := by decide +kernel
theorem dX1_strikesOf_2 : decode cX1_strikesOf 2 = .ok (.invokevirtual 34, 3) := by decide +kernel
theorem dX1_strikesOf_5 : decode cX1_strikesOf 5 = .ok (.ifCond .eq 12, 3) := by decide +kernel
theorem dX1_strikesOf_8 : decode cX1_strikesOf 8 = .ok (.aload_n 0, 1) := by decide +kernel
theorem dX1_strikesOf_9 : decode cX1_strikesOf 9 = .ok (.getfield 9, 3) := by decide +kernel
theorem dX1_strikesOf_12 : decode cX1_strikesOf 12 = .ok (.iload_n 1, 1) := by decide +kernel
theorem dX1_strikesOf_13 : decode cX1_strikesOf 13 = .ok (.iaload, 1) := by decide +kernel
theorem dX1_strikesOf_14 : decode cX1_strikesOf 14 = .ok (.goto 4, 3) := by decide +kernel
theorem dX1_strikesOf_17 : decode cX1_strikesOf 17 = .ok (.iconst (-1), 1) := by decide +kernel
theorem dX1_strikesOf_18 : decode cX1_strikesOf 18 = .ok (.ireturn, 1) := by decide +kernel
set_option maxRecDepth 20000 in
theorem ggX1_addLetter_X2_with : GoodIn wsX1_addLetter wsX2_with := goodIn_r _ [7, 8, 9, 10, 6, 11, 12, 13, 14] (by decide +kernel) (by decide +kernel)
set_option maxRecDepth 20000 in
theorem gX1_addLetter_X2_with : GoodIn wsX1_addLetter (va_wsS RX1 38 yX2_with wsX2_with) := goodIn_app (goodIn_of _ (by decide +kernel)) ggX1_addLetter_X2_with
set_option maxRecDepth 20000 in
theorem ggX1_addLetter_X0_hasCounting : GoodIn wsX1_addLetter wsX0_hasCounting := goodIn_r _ [19, 20, 21, 22, 18, 23, 24, 25, 10, 6, 11, 26, 27, 28, 29, 30, 31, 32, 33, 34, 35, 70, 71, 72] (by decide +kernel) (by decide +kernel)
set_option maxRecDepth 20000 in
theorem gX1_addLetter_X0_hasCounting : GoodIn wsX1_addLetter (wsV RX1 42 RX0 yX0_hasCounting wsX0_hasCounting) := goodIn_app (goodIn_of _ (by decide +kernel)) ggX1_addLetter_X0_hasCounting
set_option maxRecDepth 20000 in
theorem ggX1_addLetter_X1_endRound : GoodIn wsX1_addLetter wsX1_endRound := goodIn_r _ [40, 41, 1, 42, 2, 43, 44, 45, 39, 46, 47, 48, 49, 50, 51, 52, 53, 54, 55, 56, 57, 58, 59, 60, 61, 62, 63, 64, 65, 66, 67, 68, 69] (by decide +kernel) (by decide +kernel)
set_option maxRecDepth 20000 in
theorem gX1_addLetter_X1_endRound : GoodIn wsX1_addLetter (wsV RX1 48 RX1 yX1_endRound wsX1_endRound) := goodIn_app (goodIn_of _ (by decide +kernel)) ggX1_addLetter_X1_endRound
set_option maxRecDepth 20000 in
theorem ggX1_addLetter_X1_nextBehind : GoodIn wsX1_addLetter wsX1_nextBehind := goodIn_r _ [63, 47, 52, 53, 54, 39, 55, 56, 57, 58, 59, 41, 43, 44, 45, 46, 64, 65, 66, 67, 68, 69] (by decide +kernel) (by decide +kernel)
set_option maxRecDepth 20000 in
theorem gX1_addLetter_X1_nextBehind : GoodIn wsX1_addLetter (wsV RX1 52 RX1 yX1_nextBehind wsX1_nextBehind) := goodIn_app (goodIn_of _ (by decide +kernel)) ggX1_addLetter_X1_nextBehind
theorem dX1_addLetter_0 : decode cX1_addLetter 0 = .ok (.aload_n 0, 1) := by decide +kernel
theorem dX1_addLetter_1 : decode cX1_addLetter 1 = .ok (.aload_n 0, 1) := by decide +kernel
theorem dX1_addLetter_2 : decode cX1_addLetter 2 = .ok (.getfield 30, 3) := by decide +kernel
theorem dX1_addLetter_5 : decode cX1_addLetter 5 = .ok (.iload_n 1, 1) := by decide +kernel
theorem dX1_addLetter_6 : decode cX1_addLetter 6 = .ok (.invokestatic 38, 3) := by decide +kernel
theorem dX1_addLetter_9 : decode cX1_addLetter 9 = .ok (.putfield 30, 3) := by decide +kernel
theorem dX1_addLetter_12 : decode cX1_addLetter 12 = .ok (.aload_n 2, 1) := by decide +kernel
theorem dX1_addLetter_13 : decode cX1_addLetter 13 = .ok (.aload_n 0, 1) := by decide +kernel
theorem dX1_addLetter_14 : decode cX1_addLetter 14 = .ok (.getfield 30, 3) := by decide +kernel
theorem dX1_addLetter_17 : decode cX1_addLetter 17 = .ok (.invokevirtual 42, 3) := by decide +kernel
theorem dX1_addLetter_20 : decode cX1_addLetter 20 = .ok (.ifCond .eq 12, 3) := by decide +kernel
theorem dX1_addLetter_23 : decode cX1_addLetter 23 = .ok (.aload_n 0, 1) := by decide +kernel
theorem dX1_addLetter_24 : decode cX1_addLetter 24 = .ok (.aload_n 0, 1) := by decide +kernel
theorem dX1_addLetter_25 : decode cX1_addLetter 25 = .ok (.getfield 19, 3) := by decide +kernel
theorem dX1_addLetter_28 : decode cX1_addLetter 28 = .ok (.invokevirtual 48, 3) := by decide +kernel
theorem dX1_addLetter_31 : decode cX1_addLetter 31 = .ok (.ireturn, 1) := by decide +kernel
theorem dX1_addLetter_32 : decode cX1_addLetter 32 = .ok (.aload_n 0, 1) := by decide +kernel
theorem dX1_addLetter_33 : decode cX1_addLetter 33 = .ok (.aload_n 0, 1) := by decide +kernel
theorem dX1_addLetter_34 : decode cX1_addLetter 34 = .ok (.getfield 19, 3) := by decide +kernel
theorem dX1_addLetter_37 : decode cX1_addLetter 37 = .ok (.putfield 22, 3) := by decide +kernel
theorem dX1_addLetter_40 : decode cX1_addLetter 40 = .ok (.aload_n 0, 1) := by decide +kernel
theorem dX1_addLetter_41 : decode cX1_addLetter 41 = .ok (.aload_n 0, 1) := by decide +kernel
theorem dX1_addLetter_42 : decode cX1_addLetter 42 = .ok (.aload_n 0, 1) := by decide +kernel
theorem dX1_addLetter_43 : decode cX1_addLetter 43 = .ok (.getfield 19, 3) := by decide +kernel
theorem dX1_addLetter_46 : decode cX1_addLetter 46 = .ok (.invokevirtual 52, 3) := by decide +kernel
theorem dX1_addLetter_49 : decode cX1_addLetter 49 = .ok (.putfield 19, 3) := by decide +kernel
theorem dX1_addLetter_52 : decode cX1_addLetter 52 = .ok (.iconst (-1), 1) := by decide +kernel
theorem dX1_addLetter_53 : decode cX1_addLetter 53 = .ok (.ireturn, 1) := by decide +kernel
set_option maxRecDepth 20000 in
theorem ggX1_settleChallenge_X0_hasCountingFrom : GoodIn wsX1_settleChallenge wsX0_hasCountingFrom := goodIn_r _ [8, 9, 10, 11, 12, 13, 7, 14, 15, 16, 17, 18, 19, 20, 21, 22, 23, 24, 25, 26, 27, 28, 29, 30, 65, 66, 67] (by decide +kernel) (by decide +kernel)
set_option maxRecDepth 20000 in
theorem gX1_settleChallenge_X0_hasCountingFrom : GoodIn wsX1_settleChallenge (wsV RX1 55 RX0 yX0_hasCountingFrom wsX0_hasCountingFrom) := goodIn_app (goodIn_of _ (by decide +kernel)) ggX1_settleChallenge_X0_hasCountingFrom
set_option maxRecDepth 20000 in
theorem ggX1_settleChallenge_X1_endRound : GoodIn wsX1_settleChallenge wsX1_endRound := goodIn_r _ [35, 36, 1, 37, 2, 38, 39, 40, 34, 41, 42, 43, 44, 45, 46, 47, 48, 49, 50, 51, 52, 53, 54, 55, 56, 57, 58, 59, 60, 61, 62, 63, 64] (by decide +kernel) (by decide +kernel)
set_option maxRecDepth 20000 in
theorem gX1_settleChallenge_X1_endRound : GoodIn wsX1_settleChallenge (wsV RX1 48 RX1 yX1_endRound wsX1_endRound) := goodIn_app (goodIn_of _ (by decide +kernel)) ggX1_settleChallenge_X1_endRound
theorem dX1_settleChallenge_0 : decode cX1_settleChallenge 0 = .ok (.aload_n 0, 1) := by decide +kernel
theorem dX1_settleChallenge_1 : decode cX1_settleChallenge 1 = .ok (.aload_n 1, 1) := by decide +kernel
theorem dX1_settleChallenge_2 : decode cX1_settleChallenge 2 = .ok (.aload_n 0, 1) := by decide +kernel
theorem dX1_settleChallenge_3 : decode cX1_settleChallenge 3 = .ok (.getfield 30, 3) := by decide +kernel
theorem dX1_settleChallenge_6 : decode cX1_settleChallenge 6 = .ok (.invokevirtual 55, 3) := by decide +kernel
theorem dX1_settleChallenge_9 : decode cX1_settleChallenge 9 = .ok (.ifCond .eq 10, 3) := by decide +kernel
theorem dX1_settleChallenge_12 : decode cX1_settleChallenge 12 = .ok (.aload_n 0, 1) := by decide +kernel
theorem dX1_settleChallenge_13 : decode cX1_settleChallenge 13 = .ok (.getfield 19, 3) := by decide +kernel
theorem dX1_settleChallenge_16 : decode cX1_settleChallenge 16 = .ok (.goto 7, 3) := by decide +kernel
theorem dX1_settleChallenge_19 : decode cX1_settleChallenge 19 = .ok (.aload_n 0, 1) := by decide +kernel
theorem dX1_settleChallenge_20 : decode cX1_settleChallenge 20 = .ok (.getfield 22, 3) := by decide +kernel
theorem dX1_settleChallenge_23 : decode cX1_settleChallenge 23 = .ok (.invokevirtual 48, 3) := by decide +kernel
theorem dX1_settleChallenge_26 : decode cX1_settleChallenge 26 = .ok (.ireturn, 1) := by decide +kernel
set_option maxRecDepth 20000 in
theorem ggX1_endRound_X1_hasPlayer : GoodIn wsX1_endRound wsX1_hasPlayer := goodIn_r _ [9, 10, 1, 27, 28, 29, 30, 31, 32] (by decide +kernel) (by decide +kernel)
set_option maxRecDepth 20000 in
theorem gX1_endRound_X1_hasPlayer : GoodIn wsX1_endRound (wsV RX1 34 RX1 yX1_hasPlayer wsX1_hasPlayer) := goodIn_app (goodIn_of _ (by decide +kernel)) ggX1_endRound_X1_hasPlayer
set_option maxRecDepth 20000 in
theorem ggX1_endRound_X1_playersLeft : GoodIn wsX1_endRound wsX1_playersLeft := goodIn_r _ [14, 10, 15, 16, 17, 8, 18, 19, 20, 21, 22, 1, 5, 6, 7, 9, 27, 28, 29, 30, 31, 32] (by decide +kernel) (by decide +kernel)
set_option maxRecDepth 20000 in
theorem gX1_endRound_X1_playersLeft : GoodIn wsX1_endRound (wsV RX1 58 RX1 yX1_playersLeft wsX1_playersLeft) := goodIn_app (goodIn_of _ (by decide +kernel)) ggX1_endRound_X1_playersLeft
set_option maxRecDepth 20000 in
theorem ggX1_endRound_X1_nextBehind : GoodIn wsX1_endRound wsX1_nextBehind := goodIn_r _ [26, 10, 15, 16, 17, 8, 18, 19, 20, 21, 22, 1, 5, 6, 7, 9, 27, 28, 29, 30, 31, 32] (by decide +kernel) (by decide +kernel)
set_option maxRecDepth 20000 in
theorem gX1_endRound_X1_nextBehind : GoodIn wsX1_endRound (wsV RX1 52 RX1 yX1_nextBehind wsX1_nextBehind) := goodIn_app (goodIn_of _ (by decide +kernel)) ggX1_endRound_X1_nextBehind
set_option maxRecDepth 20000 in
theorem ggX1_endRound_X1_isOut : GoodIn wsX1_endRound wsX1_isOut := goodIn_r _ [18, 19, 20, 21, 8, 22, 1, 5, 6, 7, 9, 10, 27, 28, 29, 30, 31, 32] (by decide +kernel) (by decide +kernel)
set_option maxRecDepth 20000 in
theorem gX1_endRound_X1_isOut : GoodIn wsX1_endRound (wsV RX1 62 RX1 yX1_isOut wsX1_isOut) := goodIn_app (goodIn_of _ (by decide +kernel)) ggX1_endRound_X1_isOut
theorem dX1_endRound_0 : decode cX1_endRound 0 = .ok (.aload_n 0, 1) := by decide +kernel
theorem dX1_endRound_1 : decode cX1_endRound 1 = .ok (.iload_n 1, 1) := by decide +kernel
theorem dX1_endRound_2 : decode cX1_endRound 2 = .ok (.invokevirtual 34, 3) := by decide +kernel
theorem dX1_endRound_5 : decode cX1_endRound 5 = .ok (.ifCond .eq 13, 3) := by decide +kernel
theorem dX1_endRound_8 : decode cX1_endRound 8 = .ok (.aload_n 0, 1) := by decide +kernel
theorem dX1_endRound_9 : decode cX1_endRound 9 = .ok (.getfield 9, 3) := by decide +kernel
theorem dX1_endRound_12 : decode cX1_endRound 12 = .ok (.iload_n 1, 1) := by decide +kernel
theorem dX1_endRound_13 : decode cX1_endRound 13 = .ok (.dup2, 1) := by decide +kernel
theorem dX1_endRound_14 : decode cX1_endRound 14 = .ok (.iaload, 1) := by decide +kernel
theorem dX1_endRound_15 : decode cX1_endRound 15 = .ok (.iconst 1, 1) := by decide +kernel
theorem dX1_endRound_16 : decode cX1_endRound 16 = .ok (.iadd, 1) := by decide +kernel
theorem dX1_endRound_17 : decode cX1_endRound 17 = .ok (.iastore, 1) := by decide +kernel
theorem dX1_endRound_18 : decode cX1_endRound 18 = .ok (.aload_n 0, 1) := by decide +kernel
theorem dX1_endRound_19 : decode cX1_endRound 19 = .ok (.lconst 0, 1) := by decide +kernel
theorem dX1_endRound_20 : decode cX1_endRound 20 = .ok (.putfield 30, 3) := by decide +kernel
theorem dX1_endRound_23 : decode cX1_endRound 23 = .ok (.aload_n 0, 1) := by decide +kernel
theorem dX1_endRound_24 : decode cX1_endRound 24 = .ok (.invokevirtual 58, 3) := by decide +kernel
theorem dX1_endRound_27 : decode cX1_endRound 27 = .ok (.iconst 1, 1) := by decide +kernel
theorem dX1_endRound_28 : decode cX1_endRound 28 = .ok (.if_icmp .ne 20, 3) := by decide +kernel
theorem dX1_endRound_31 : decode cX1_endRound 31 = .ok (.aload_n 0, 1) := by decide +kernel
theorem dX1_endRound_32 : decode cX1_endRound 32 = .ok (.aload_n 0, 1) := by decide +kernel
theorem dX1_endRound_33 : decode cX1_endRound 33 = .ok (.iload_n 1, 1) := by decide +kernel
theorem dX1_endRound_34 : decode cX1_endRound 34 = .ok (.invokevirtual 52, 3) := by decide +kernel
theorem dX1_endRound_37 : decode cX1_endRound 37 = .ok (.putfield 25, 3) := by decide +kernel
theorem dX1_endRound_40 : decode cX1_endRound 40 = .ok (.aload_n 0, 1) := by decide +kernel
theorem dX1_endRound_41 : decode cX1_endRound 41 = .ok (.iconst (-1), 1) := by decide +kernel
theorem dX1_endRound_42 : decode cX1_endRound 42 = .ok (.putfield 19, 3) := by decide +kernel
theorem dX1_endRound_45 : decode cX1_endRound 45 = .ok (.goto 24, 3) := by decide +kernel
theorem dX1_endRound_48 : decode cX1_endRound 48 = .ok (.aload_n 0, 1) := by decide +kernel
theorem dX1_endRound_49 : decode cX1_endRound 49 = .ok (.aload_n 0, 1) := by decide +kernel
theorem dX1_endRound_50 : decode cX1_endRound 50 = .ok (.iload_n 1, 1) := by decide +kernel
theorem dX1_endRound_51 : decode cX1_endRound 51 = .ok (.invokevirtual 62, 3) := by decide +kernel
theorem dX1_endRound_54 : decode cX1_endRound 54 = .ok (.ifCond .eq 11, 3) := by decide +kernel
theorem dX1_endRound_57 : decode cX1_endRound 57 = .ok (.aload_n 0, 1) := by decide +kernel
theorem dX1_endRound_58 : decode cX1_endRound 58 = .ok (.iload_n 1, 1) := by decide +kernel
theorem dX1_endRound_59 : decode cX1_endRound 59 = .ok (.invokevirtual 52, 3) := by decide +kernel
theorem dX1_endRound_62 : decode cX1_endRound 62 = .ok (.goto 4, 3) := by decide +kernel
theorem dX1_endRound_65 : decode cX1_endRound 65 = .ok (.iload_n 1, 1) := by decide +kernel
theorem dX1_endRound_66 : decode cX1_endRound 66 = .ok (.putfield 19, 3) := by decide +kernel
theorem dX1_endRound_69 : decode cX1_endRound 69 = .ok (.iload_n 1, 1) := by decide +kernel
theorem dX1_endRound_70 : decode cX1_endRound 70 = .ok (.ireturn, 1) := by decide +kernel
theorem dX1_hasPlayer_0 : decode cX1_hasPlayer 0 = .ok (.iload_n 1, 1) := by decide +kernel
theorem dX1_hasPlayer_1 : decode cX1_hasPlayer 1 = .ok (.ifCond .lt 24, 3) := by decide +kernel
theorem dX1_hasPlayer_4 : decode cX1_hasPlayer 4 = .ok (.iload_n 1, 1) := by decide +kernel
theorem dX1_hasPlayer_5 : decode cX1_hasPlayer 5 = .ok (.aload_n 0, 1) := by decide +kernel
theorem dX1_hasPlayer_6 : decode cX1_hasPlayer 6 = .ok (.getfield 15, 3) := by decide +kernel
theorem dX1_hasPlayer_9 : decode cX1_hasPlayer 9 = .ok (.if_icmp .ge 16, 3) := by decide +kernel
theorem dX1_hasPlayer_12 : decode cX1_hasPlayer 12 = .ok (.iload_n 1, 1) := by decide +kernel
theorem dX1_hasPlayer_13 : decode cX1_hasPlayer 13 = .ok (.aload_n 0, 1) := by decide +kernel
theorem dX1_hasPlayer_14 : decode cX1_hasPlayer 14 = .ok (.getfield 9, 3) := by decide +kernel
theorem dX1_hasPlayer_17 : decode cX1_hasPlayer 17 = .ok (.arraylength, 1) := by decide +kernel
theorem dX1_hasPlayer_18 : decode cX1_hasPlayer 18 = .ok (.if_icmp .ge 7, 3) := by decide +kernel
theorem dX1_hasPlayer_21 : decode cX1_hasPlayer 21 = .ok (.iconst 1, 1) := by decide +kernel
theorem dX1_hasPlayer_22 : decode cX1_hasPlayer 22 = .ok (.goto 4, 3) := by decide +kernel
theorem dX1_hasPlayer_25 : decode cX1_hasPlayer 25 = .ok (.iconst 0, 1) := by decide +kernel
theorem dX1_hasPlayer_26 : decode cX1_hasPlayer 26 = .ok (.ireturn, 1) := by decide +kernel
set_option maxRecDepth 20000 in
theorem ggX1_isOut_X1_strikesOf : GoodIn wsX1_isOut wsX1_strikesOf := goodIn_r _ [5, 6, 7, 8, 9, 4, 10, 11, 12, 13, 14, 15, 16, 17] (by decide +kernel) (by decide +kernel)
set_option maxRecDepth 20000 in
theorem gX1_isOut_X1_strikesOf : GoodIn wsX1_isOut (wsV RX1 65 RX1 yX1_strikesOf wsX1_strikesOf) := goodIn_app (goodIn_of _ (by decide +kernel)) ggX1_isOut_X1_strikesOf
theorem dX1_isOut_0 : decode cX1_isOut 0 = .ok (.aload_n 0, 1) := by decide +kernel
theorem dX1_isOut_1 : decode cX1_isOut 1 = .ok (.iload_n 1, 1) := by decide +kernel
theorem dX1_isOut_2 : decode cX1_isOut 2 = .ok (.invokevirtual 65, 3) := by decide +kernel
theorem dX1_isOut_5 : decode cX1_isOut 5 = .ok (.iconst 5, 1) := by decide +kernel
theorem dX1_isOut_6 : decode cX1_isOut 6 = .ok (.if_icmp .lt 7, 3) := by decide +kernel
theorem dX1_isOut_9 : decode cX1_isOut 9 = .ok (.iconst 1, 1) := by decide +kernel
theorem dX1_isOut_10 : decode cX1_isOut 10 = .ok (.goto 4, 3) := by decide +kernel
theorem dX1_isOut_13 : decode cX1_isOut 13 = .ok (.iconst 0, 1) := by decide +kernel
theorem dX1_isOut_14 : decode cX1_isOut 14 = .ok (.ireturn, 1) := by decide +kernel
set_option maxRecDepth 20000 in
theorem ggX1_playersLeft_X1_isOut : GoodIn wsX1_playersLeft wsX1_isOut := goodIn_r _ [6, 7, 8, 9, 5, 10, 11, 12, 13, 14, 15, 1, 16, 17, 18, 19, 20, 21] (by decide +kernel) (by decide +kernel)
set_option maxRecDepth 20000 in
theorem gX1_playersLeft_X1_isOut : GoodIn wsX1_playersLeft (wsV RX1 62 RX1 yX1_isOut wsX1_isOut) := goodIn_app (goodIn_of _ (by decide +kernel)) ggX1_playersLeft_X1_isOut
theorem dX1_playersLeft_0 : decode cX1_playersLeft 0 = .ok (.iconst 0, 1) := by decide +kernel
theorem dX1_playersLeft_1 : decode cX1_playersLeft 1 = .ok (.istore_n 1, 1) := by decide +kernel
theorem dX1_playersLeft_2 : decode cX1_playersLeft 2 = .ok (.iconst 0, 1) := by decide +kernel
theorem dX1_playersLeft_3 : decode cX1_playersLeft 3 = .ok (.istore_n 2, 1) := by decide +kernel
theorem dX1_playersLeft_4 : decode cX1_playersLeft 4 = .ok (.iload_n 2, 1) := by decide +kernel
theorem dX1_playersLeft_5 : decode cX1_playersLeft 5 = .ok (.aload_n 0, 1) := by decide +kernel
theorem dX1_playersLeft_6 : decode cX1_playersLeft 6 = .ok (.getfield 15, 3) := by decide +kernel
theorem dX1_playersLeft_9 : decode cX1_playersLeft 9 = .ok (.if_icmp .ge 20, 3) := by decide +kernel
theorem dX1_playersLeft_12 : decode cX1_playersLeft 12 = .ok (.aload_n 0, 1) := by decide +kernel
theorem dX1_playersLeft_13 : decode cX1_playersLeft 13 = .ok (.iload_n 2, 1) := by decide +kernel
theorem dX1_playersLeft_14 : decode cX1_playersLeft 14 = .ok (.invokevirtual 62, 3) := by decide +kernel
theorem dX1_playersLeft_17 : decode cX1_playersLeft 17 = .ok (.ifCond .ne 6, 3) := by decide +kernel
theorem dX1_playersLeft_20 : decode cX1_playersLeft 20 = .ok (.iinc 1 1, 3) := by decide +kernel
theorem dX1_playersLeft_23 : decode cX1_playersLeft 23 = .ok (.iinc 2 1, 3) := by decide +kernel
theorem dX1_playersLeft_26 : decode cX1_playersLeft 26 = .ok (.goto (-22), 3) := by decide +kernel
theorem dX1_playersLeft_29 : decode cX1_playersLeft 29 = .ok (.iload_n 1, 1) := by decide +kernel
theorem dX1_playersLeft_30 : decode cX1_playersLeft 30 = .ok (.ireturn, 1) := by decide +kernel
set_option maxRecDepth 20000 in
theorem ggX1_nextBehind_X1_isOut : GoodIn wsX1_nextBehind wsX1_isOut := goodIn_r _ [6, 7, 8, 9, 5, 10, 11, 12, 13, 14, 15, 1, 16, 17, 18, 19, 20, 21] (by decide +kernel) (by decide +kernel)
set_option maxRecDepth 20000 in
theorem gX1_nextBehind_X1_isOut : GoodIn wsX1_nextBehind (wsV RX1 62 RX1 yX1_isOut wsX1_isOut) := goodIn_app (goodIn_of _ (by decide +kernel)) ggX1_nextBehind_X1_isOut
theorem dX1_nextBehind_0 : decode cX1_nextBehind 0 = .ok (.iload_n 1, 1) := by decide +kernel
theorem dX1_nextBehind_1 : decode cX1_nextBehind 1 = .ok (.istore_n 2, 1) := by decide +kernel
theorem dX1_nextBehind_2 : decode cX1_nextBehind 2 = .ok (.iconst 0, 1) := by decide +kernel
theorem dX1_nextBehind_3 : decode cX1_nextBehind 3 = .ok (.istore_n 3, 1) := by decide +kernel
theorem dX1_nextBehind_4 : decode cX1_nextBehind 4 = .ok (.iload_n 3, 1) := by decide +kernel
theorem dX1_nextBehind_5 : decode cX1_nextBehind 5 = .ok (.aload_n 0, 1) := by decide +kernel
theorem dX1_nextBehind_6 : decode cX1_nextBehind 6 = .ok (.getfield 15, 3) := by decide +kernel
theorem dX1_nextBehind_9 : decode cX1_nextBehind 9 = .ok (.if_icmp .ge 37, 3) := by decide +kernel
theorem dX1_nextBehind_12 : decode cX1_nextBehind 12 = .ok (.iload_n 2, 1) := by decide +kernel
theorem dX1_nextBehind_13 : decode cX1_nextBehind 13 = .ok (.iconst 1, 1) := by decide +kernel
theorem dX1_nextBehind_14 : decode cX1_nextBehind 14 = .ok (.iadd, 1) := by decide +kernel
theorem dX1_nextBehind_15 : decode cX1_nextBehind 15 = .ok (.aload_n 0, 1) := by decide +kernel
theorem dX1_nextBehind_16 : decode cX1_nextBehind 16 = .ok (.getfield 15, 3) := by decide +kernel
theorem dX1_nextBehind_19 : decode cX1_nextBehind 19 = .ok (.if_icmp .ge 9, 3) := by decide +kernel
theorem dX1_nextBehind_22 : decode cX1_nextBehind 22 = .ok (.iload_n 2, 1) := by decide +kernel
theorem dX1_nextBehind_23 : decode cX1_nextBehind 23 = .ok (.iconst 1, 1) := by decide +kernel
theorem dX1_nextBehind_24 : decode cX1_nextBehind 24 = .ok (.iadd, 1) := by decide +kernel
theorem dX1_nextBehind_25 : decode cX1_nextBehind 25 = .ok (.goto 4, 3) := by decide +kernel
theorem dX1_nextBehind_28 : decode cX1_nextBehind 28 = .ok (.iconst 0, 1) := by decide +kernel
theorem dX1_nextBehind_29 : decode cX1_nextBehind 29 = .ok (.istore_n 2, 1) := by decide +kernel
theorem dX1_nextBehind_30 : decode cX1_nextBehind 30 = .ok (.aload_n 0, 1) := by decide +kernel
theorem dX1_nextBehind_31 : decode cX1_nextBehind 31 = .ok (.iload_n 2, 1) := by decide +kernel
theorem dX1_nextBehind_32 : decode cX1_nextBehind 32 = .ok (.invokevirtual 62, 3) := by decide +kernel
theorem dX1_nextBehind_35 : decode cX1_nextBehind 35 = .ok (.ifCond .ne 5, 3) := by decide +kernel
theorem dX1_nextBehind_38 : decode cX1_nextBehind 38 = .ok (.iload_n 2, 1) := by decide +kernel
theorem dX1_nextBehind_39 : decode cX1_nextBehind 39 = .ok (.ireturn, 1) := by decide +kernel
theorem dX1_nextBehind_40 : decode cX1_nextBehind 40 = .ok (.iinc 3 1, 3) := by decide +kernel
theorem dX1_nextBehind_43 : decode cX1_nextBehind 43 = .ok (.goto (-39), 3) := by decide +kernel
theorem dX1_nextBehind_46 : decode cX1_nextBehind 46 = .ok (.iconst (-1), 1) := by decide +kernel
theorem dX1_nextBehind_47 : decode cX1_nextBehind 47 = .ok (.ireturn, 1) := by decide +kernel
theorem dX2_lengthOf_0 : decode cX2_lengthOf 0 = .ok (.lload_n 0, 1) := by decide +kernel
theorem dX2_lengthOf_1 : decode cX2_lengthOf 1 = .ok (.bipush 50, 2) := by decide +kernel
theorem dX2_lengthOf_3 : decode cX2_lengthOf 3 = .ok (.lushr, 1) := by decide +kernel
theorem dX2_lengthOf_4 : decode cX2_lengthOf 4 = .ok (.l2i, 1) := by decide +kernel
theorem dX2_lengthOf_5 : decode cX2_lengthOf 5 = .ok (.ireturn, 1) := by decide +kernel
set_option maxRecDepth 20000 in
theorem ggX2_isFull_X2_lengthOf : GoodIn wsX2_isFull wsX2_lengthOf := goodIn_r _ [4] (by decide +kernel) (by decide +kernel)
set_option maxRecDepth 20000 in
theorem gX2_isFull_X2_lengthOf : GoodIn wsX2_isFull (va_wsS RX2 11 yX2_lengthOf wsX2_lengthOf) := goodIn_app (goodIn_of _ (by decide +kernel)) ggX2_isFull_X2_lengthOf
theorem dX2_isFull_0 : decode cX2_isFull 0 = .ok (.lload_n 0, 1) := by decide +kernel
theorem dX2_isFull_1 : decode cX2_isFull 1 = .ok (.invokestatic 11, 3) := by decide +kernel
theorem dX2_isFull_4 : decode cX2_isFull 4 = .ok (.bipush 10, 2) := by decide +kernel
theorem dX2_isFull_6 : decode cX2_isFull 6 = .ok (.if_icmp .lt 7, 3) := by decide +kernel
theorem dX2_isFull_9 : decode cX2_isFull 9 = .ok (.iconst 1, 1) := by decide +kernel
theorem dX2_isFull_10 : decode cX2_isFull 10 = .ok (.goto 4, 3) := by decide +kernel
theorem dX2_isFull_13 : decode cX2_isFull 13 = .ok (.iconst 0, 1) := by decide +kernel
theorem dX2_isFull_14 : decode cX2_isFull 14 = .ok (.ireturn, 1) := by decide +kernel
set_option maxRecDepth 20000 in
theorem ggX2_letterAt_X2_lengthOf : GoodIn wsX2_letterAt wsX2_lengthOf := goodIn_r _ [4] (by decide +kernel) (by decide +kernel)
set_option maxRecDepth 20000 in
theorem gX2_letterAt_X2_lengthOf : GoodIn wsX2_letterAt (va_wsS RX2 11 yX2_lengthOf wsX2_lengthOf) := goodIn_app (goodIn_of _ (by decide +kernel)) ggX2_letterAt_X2_lengthOf
theorem dX2_letterAt_0 : decode cX2_letterAt 0 = .ok (.lload_n 0, 1) := by decide +kernel
theorem dX2_letterAt_1 : decode cX2_letterAt 1 = .ok (.invokestatic 11, 3) := by decide +kernel
theorem dX2_letterAt_4 : decode cX2_letterAt 4 = .ok (.istore_n 3, 1) := by decide +kernel
theorem dX2_letterAt_5 : decode cX2_letterAt 5 = .ok (.iload_n 2, 1) := by decide +kernel
theorem dX2_letterAt_6 : decode cX2_letterAt 6 = .ok (.ifCond .lt 8, 3) := by decide +kernel
theorem dX2_letterAt_9 : decode cX2_letterAt 9 = .ok (.iload_n 2, 1) := by decide +kernel
theorem dX2_letterAt_10 : decode cX2_letterAt 10 = .ok (.iload_n 3, 1) := by decide +kernel
theorem dX2_letterAt_11 : decode cX2_letterAt 11 = .ok (.if_icmp .lt 5, 3) := by decide +kernel
theorem dX2_letterAt_14 : decode cX2_letterAt 14 = .ok (.iconst (-1), 1) := by decide +kernel
theorem dX2_letterAt_15 : decode cX2_letterAt 15 = .ok (.ireturn, 1) := by decide +kernel
theorem dX2_letterAt_16 : decode cX2_letterAt 16 = .ok (.lload_n 0, 1) := by decide +kernel
theorem dX2_letterAt_17 : decode cX2_letterAt 17 = .ok (.iconst 5, 1) := by decide +kernel
theorem dX2_letterAt_18 : decode cX2_letterAt 18 = .ok (.iload_n 3, 1) := by decide +kernel
theorem dX2_letterAt_19 : decode cX2_letterAt 19 = .ok (.iconst 1, 1) := by decide +kernel
theorem dX2_letterAt_20 : decode cX2_letterAt 20 = .ok (.isub, 1) := by decide +kernel
theorem dX2_letterAt_21 : decode cX2_letterAt 21 = .ok (.iload_n 2, 1) := by decide +kernel
theorem dX2_letterAt_22 : decode cX2_letterAt 22 = .ok (.isub, 1) := by decide +kernel
theorem dX2_letterAt_23 : decode cX2_letterAt 23 = .ok (.imul, 1) := by decide +kernel
theorem dX2_letterAt_24 : decode cX2_letterAt 24 = .ok (.lushr, 1) := by decide +kernel
theorem dX2_letterAt_25 : decode cX2_letterAt 25 = .ok (.l2i, 1) := by decide +kernel
theorem dX2_letterAt_26 : decode cX2_letterAt 26 = .ok (.bipush 31, 2) := by decide +kernel
theorem dX2_letterAt_28 : decode cX2_letterAt 28 = .ok (.iand, 1) := by decide +kernel
theorem dX2_letterAt_29 : decode cX2_letterAt 29 = .ok (.ireturn, 1) := by decide +kernel
set_option maxRecDepth 20000 in
theorem ggX2_with_X2_lengthOf : GoodIn wsX2_with wsX2_lengthOf := goodIn_r _ [5] (by decide +kernel) (by decide +kernel)
set_option maxRecDepth 20000 in
theorem gX2_with_X2_lengthOf : GoodIn wsX2_with (va_wsS RX2 11 yX2_lengthOf wsX2_lengthOf) := goodIn_app (goodIn_of _ (by decide +kernel)) ggX2_with_X2_lengthOf
set_option maxRecDepth 20000 in
theorem ggX2_with_X2_pack : GoodIn wsX2_with wsX2_pack := goodIn_r _ [8] (by decide +kernel) (by decide +kernel)
set_option maxRecDepth 20000 in
theorem gX2_with_X2_pack : GoodIn wsX2_with (va_wsS RX2 17 yX2_pack wsX2_pack) := goodIn_app (goodIn_of _ (by decide +kernel)) ggX2_with_X2_pack
theorem dX2_with_0 : decode cX2_with 0 = .ok (.lload_n 0, 1) := by decide +kernel
theorem dX2_with_1 : decode cX2_with 1 = .ok (.invokestatic 11, 3) := by decide +kernel
theorem dX2_with_4 : decode cX2_with 4 = .ok (.iconst 1, 1) := by decide +kernel
theorem dX2_with_5 : decode cX2_with 5 = .ok (.iadd, 1) := by decide +kernel
theorem dX2_with_6 : decode cX2_with 6 = .ok (.lload_n 0, 1) := by decide +kernel
theorem dX2_with_7 : decode cX2_with 7 = .ok (.ldc2_w 15, 3) := by decide +kernel
theorem dX2_with_10 : decode cX2_with 10 = .ok (.land, 1) := by decide +kernel
theorem dX2_with_11 : decode cX2_with 11 = .ok (.iconst 5, 1) := by decide +kernel
theorem dX2_with_12 : decode cX2_with 12 = .ok (.lshl, 1) := by decide +kernel
theorem dX2_with_13 : decode cX2_with 13 = .ok (.iload_n 2, 1) := by decide +kernel
theorem dX2_with_14 : decode cX2_with 14 = .ok (.i2l, 1) := by decide +kernel
theorem dX2_with_15 : decode cX2_with 15 = .ok (.lor, 1) := by decide +kernel
theorem dX2_with_16 : decode cX2_with 16 = .ok (.invokestatic 17, 3) := by decide +kernel
theorem dX2_with_19 : decode cX2_with 19 = .ok (.lreturn, 1) := by decide +kernel
set_option maxRecDepth 20000 in
theorem ggX2_beginning_X2_lengthOf : GoodIn wsX2_beginning wsX2_lengthOf := goodIn_r _ [5] (by decide +kernel) (by decide +kernel)
set_option maxRecDepth 20000 in
theorem gX2_beginning_X2_lengthOf : GoodIn wsX2_beginning (va_wsS RX2 11 yX2_lengthOf wsX2_lengthOf) := goodIn_app (goodIn_of _ (by decide +kernel)) ggX2_beginning_X2_lengthOf
set_option maxRecDepth 20000 in
theorem ggX2_beginning_X2_pack : GoodIn wsX2_beginning wsX2_pack := goodIn_r _ [8] (by decide +kernel) (by decide +kernel)
set_option maxRecDepth 20000 in
theorem gX2_beginning_X2_pack : GoodIn wsX2_beginning (va_wsS RX2 17 yX2_pack wsX2_pack) := goodIn_app (goodIn_of _ (by decide +kernel)) ggX2_beginning_X2_pack
theorem dX2_beginning_0 : decode cX2_beginning 0 = .ok (.lload_n 0, 1) := by decide +kernel
theorem dX2_beginning_1 : decode cX2_beginning 1 = .ok (.invokestatic 11, 3) := by decide +kernel
theorem dX2_beginning_4 : decode cX2_beginning 4 = .ok (.iload_n 2, 1) := by decide +kernel
theorem dX2_beginning_5 : decode cX2_beginning 5 = .ok (.isub, 1) := by decide +kernel
theorem dX2_beginning_6 : decode cX2_beginning 6 = .ok (.istore_n 3, 1) := by decide +kernel
theorem dX2_beginning_7 : decode cX2_beginning 7 = .ok (.iload_n 2, 1) := by decide +kernel
theorem dX2_beginning_8 : decode cX2_beginning 8 = .ok (.lload_n 0, 1) := by decide +kernel
theorem dX2_beginning_9 : decode cX2_beginning 9 = .ok (.ldc2_w 15, 3) := by decide +kernel
theorem dX2_beginning_12 : decode cX2_beginning 12 = .ok (.land, 1) := by decide +kernel
theorem dX2_beginning_13 : decode cX2_beginning 13 = .ok (.iconst 5, 1) := by decide +kernel
theorem dX2_beginning_14 : decode cX2_beginning 14 = .ok (.iload_n 3, 1) := by decide +kernel
theorem dX2_beginning_15 : decode cX2_beginning 15 = .ok (.imul, 1) := by decide +kernel
theorem dX2_beginning_16 : decode cX2_beginning 16 = .ok (.lushr, 1) := by decide +kernel
theorem dX2_beginning_17 : decode cX2_beginning 17 = .ok (.invokestatic 17, 3) := by decide +kernel
theorem dX2_beginning_20 : decode cX2_beginning 20 = .ok (.lreturn, 1) := by decide +kernel
set_option maxRecDepth 20000 in
theorem ggX2_beginsWith_X2_lengthOf : GoodIn wsX2_beginsWith wsX2_lengthOf := goodIn_r _ [4] (by decide +kernel) (by decide +kernel)
set_option maxRecDepth 20000 in
theorem gX2_beginsWith_X2_lengthOf : GoodIn wsX2_beginsWith (va_wsS RX2 11 yX2_lengthOf wsX2_lengthOf) := goodIn_app (goodIn_of _ (by decide +kernel)) ggX2_beginsWith_X2_lengthOf
set_option maxRecDepth 20000 in
theorem ggX2_beginsWith_X2_beginning : GoodIn wsX2_beginsWith wsX2_beginning := goodIn_r _ [7, 8, 1, 2, 3, 4, 9, 10, 11] (by decide +kernel) (by decide +kernel)
set_option maxRecDepth 20000 in
theorem gX2_beginsWith_X2_beginning : GoodIn wsX2_beginsWith (va_wsS RX2 21 yX2_beginning wsX2_beginning) := goodIn_app (goodIn_of _ (by decide +kernel)) ggX2_beginsWith_X2_beginning
theorem dX2_beginsWith_0 : decode cX2_beginsWith 0 = .ok (.lload_n 2, 1) := by decide +kernel
theorem dX2_beginsWith_1 : decode cX2_beginsWith 1 = .ok (.invokestatic 11, 3) := by decide +kernel
theorem dX2_beginsWith_4 : decode cX2_beginsWith 4 = .ok (.istore 4, 2) := by decide +kernel
theorem dX2_beginsWith_6 : decode cX2_beginsWith 6 = .ok (.lload_n 0, 1) := by decide +kernel
theorem dX2_beginsWith_7 : decode cX2_beginsWith 7 = .ok (.invokestatic 11, 3) := by decide +kernel
theorem dX2_beginsWith_10 : decode cX2_beginsWith 10 = .ok (.iload 4, 2) := by decide +kernel
theorem dX2_beginsWith_12 : decode cX2_beginsWith 12 = .ok (.if_icmp .lt 18, 3) := by decide +kernel
theorem dX2_beginsWith_15 : decode cX2_beginsWith 15 = .ok (.lload_n 0, 1) := by decide +kernel
theorem dX2_beginsWith_16 : decode cX2_beginsWith 16 = .ok (.iload 4, 2) := by decide +kernel
theorem dX2_beginsWith_18 : decode cX2_beginsWith 18 = .ok (.invokestatic 21, 3) := by decide +kernel
theorem dX2_beginsWith_21 : decode cX2_beginsWith 21 = .ok (.lload_n 2, 1) := by decide +kernel
theorem dX2_beginsWith_22 : decode cX2_beginsWith 22 = .ok (.lcmp, 1) := by decide +kernel
theorem dX2_beginsWith_23 : decode cX2_beginsWith 23 = .ok (.ifCond .ne 7, 3) := by decide +kernel
theorem dX2_beginsWith_26 : decode cX2_beginsWith 26 = .ok (.iconst 1, 1) := by decide +kernel
theorem dX2_beginsWith_27 : decode cX2_beginsWith 27 = .ok (.goto 4, 3) := by decide +kernel
theorem dX2_beginsWith_30 : decode cX2_beginsWith 30 = .ok (.iconst 0, 1) := by decide +kernel
theorem dX2_beginsWith_31 : decode cX2_beginsWith 31 = .ok (.ireturn, 1) := by decide +kernel
set_option maxRecDepth 20000 in
theorem ggX2_goesOnBehind_X2_beginsWith : GoodIn wsX2_goesOnBehind wsX2_beginsWith := goodIn_r _ [4, 5, 6, 3, 7, 8, 9, 10, 11, 12, 13, 14] (by decide +kernel) (by decide +kernel)
set_option maxRecDepth 20000 in
theorem gX2_goesOnBehind_X2_beginsWith : GoodIn wsX2_goesOnBehind (va_wsS RX2 25 yX2_beginsWith wsX2_beginsWith) := goodIn_app (goodIn_of _ (by decide +kernel)) ggX2_goesOnBehind_X2_beginsWith
theorem dX2_goesOnBehind_0 : decode cX2_goesOnBehind 0 = .ok (.lload_n 0, 1) := by decide +kernel
theorem dX2_goesOnBehind_1 : decode cX2_goesOnBehind 1 = .ok (.lload_n 2, 1) := by decide +kernel
theorem dX2_goesOnBehind_2 : decode cX2_goesOnBehind 2 = .ok (.lcmp, 1) := by decide +kernel
theorem dX2_goesOnBehind_3 : decode cX2_goesOnBehind 3 = .ok (.ifCond .eq 15, 3) := by decide +kernel
theorem dX2_goesOnBehind_6 : decode cX2_goesOnBehind 6 = .ok (.lload_n 0, 1) := by decide +kernel
theorem dX2_goesOnBehind_7 : decode cX2_goesOnBehind 7 = .ok (.lload_n 2, 1) := by decide +kernel
theorem dX2_goesOnBehind_8 : decode cX2_goesOnBehind 8 = .ok (.invokestatic 25, 3) := by decide +kernel
theorem dX2_goesOnBehind_11 : decode cX2_goesOnBehind 11 = .ok (.ifCond .eq 7, 3) := by decide +kernel
theorem dX2_goesOnBehind_14 : decode cX2_goesOnBehind 14 = .ok (.iconst 1, 1) := by decide +kernel
theorem dX2_goesOnBehind_15 : decode cX2_goesOnBehind 15 = .ok (.goto 4, 3) := by decide +kernel
theorem dX2_goesOnBehind_18 : decode cX2_goesOnBehind 18 = .ok (.iconst 0, 1) := by decide +kernel
theorem dX2_goesOnBehind_19 : decode cX2_goesOnBehind 19 = .ok (.ireturn, 1) := by decide +kernel
set_option maxRecDepth 20000 in
theorem ggX2_lengthShared_X2_lengthOf : GoodIn wsX2_lengthShared wsX2_lengthOf := goodIn_r _ [8] (by decide +kernel) (by decide +kernel)
set_option maxRecDepth 20000 in
theorem gX2_lengthShared_X2_lengthOf : GoodIn wsX2_lengthShared (va_wsS RX2 11 yX2_lengthOf wsX2_lengthOf) := goodIn_app (goodIn_of _ (by decide +kernel)) ggX2_lengthShared_X2_lengthOf
set_option maxRecDepth 20000 in
theorem ggX2_lengthShared_X2_beginning : GoodIn wsX2_lengthShared wsX2_beginning := goodIn_r _ [11, 12, 5, 6, 7, 8, 13, 14, 15] (by decide +kernel) (by decide +kernel)
set_option maxRecDepth 20000 in
theorem gX2_lengthShared_X2_beginning : GoodIn wsX2_lengthShared (va_wsS RX2 21 yX2_beginning wsX2_beginning) := goodIn_app (goodIn_of _ (by decide +kernel)) ggX2_lengthShared_X2_beginning
theorem dX2_lengthShared_0 : decode cX2_lengthShared 0 = .ok (.lload_n 0, 1) := by decide +kernel
theorem dX2_lengthShared_1 : decode cX2_lengthShared 1 = .ok (.invokestatic 11, 3) := by decide +kernel
theorem dX2_lengthShared_4 : decode cX2_lengthShared 4 = .ok (.lload_n 2, 1) := by decide +kernel
theorem dX2_lengthShared_5 : decode cX2_lengthShared 5 = .ok (.invokestatic 11, 3) := by decide +kernel
theorem dX2_lengthShared_8 : decode cX2_lengthShared 8 = .ok (.invokestatic 29, 3) := by decide +kernel
theorem dX2_lengthShared_11 : decode cX2_lengthShared 11 = .ok (.istore 4, 2) := by decide +kernel
theorem dX2_lengthShared_13 : decode cX2_lengthShared 13 = .ok (.iload 4, 2) := by decide +kernel
theorem dX2_lengthShared_15 : decode cX2_lengthShared 15 = .ok (.ifCond .le 25, 3) := by decide +kernel
theorem dX2_lengthShared_18 : decode cX2_lengthShared 18 = .ok (.lload_n 0, 1) := by decide +kernel
theorem dX2_lengthShared_19 : decode cX2_lengthShared 19 = .ok (.iload 4, 2) := by decide +kernel
theorem dX2_lengthShared_21 : decode cX2_lengthShared 21 = .ok (.invokestatic 21, 3) := by decide +kernel
theorem dX2_lengthShared_24 : decode cX2_lengthShared 24 = .ok (.lload_n 2, 1) := by decide +kernel
theorem dX2_lengthShared_25 : decode cX2_lengthShared 25 = .ok (.iload 4, 2) := by decide +kernel
theorem dX2_lengthShared_27 : decode cX2_lengthShared 27 = .ok (.invokestatic 21, 3) := by decide +kernel
theorem dX2_lengthShared_30 : decode cX2_lengthShared 30 = .ok (.lcmp, 1) := by decide +kernel
theorem dX2_lengthShared_31 : decode cX2_lengthShared 31 = .ok (.ifCond .eq 9, 3) := by decide +kernel
theorem dX2_lengthShared_34 : decode cX2_lengthShared 34 = .ok (.iinc 4 (-1), 3) := by decide +kernel
theorem dX2_lengthShared_37 : decode cX2_lengthShared 37 = .ok (.goto (-24), 3) := by decide +kernel
theorem dX2_lengthShared_40 : decode cX2_lengthShared 40 = .ok (.iload 4, 2) := by decide +kernel
theorem dX2_lengthShared_42 : decode cX2_lengthShared 42 = .ok (.ireturn, 1) := by decide +kernel
theorem dX2_pack_0 : decode cX2_pack 0 = .ok (.iload_n 0, 1) := by decide +kernel
theorem dX2_pack_1 : decode cX2_pack 1 = .ok (.i2l, 1) := by decide +kernel
theorem dX2_pack_2 : decode cX2_pack 2 = .ok (.bipush 50, 2) := by decide +kernel
theorem dX2_pack_4 : decode cX2_pack 4 = .ok (.lshl, 1) := by decide +kernel
theorem dX2_pack_5 : decode cX2_pack 5 = .ok (.lload_n 1, 1) := by decide +kernel
theorem dX2_pack_6 : decode cX2_pack 6 = .ok (.lor, 1) := by decide +kernel
theorem dX2_pack_7 : decode cX2_pack 7 = .ok (.lreturn, 1) := by decide +kernel
set_option maxRecDepth 20000 in
theorem ggX3_lettersOpenBehind_X0_size : GoodIn wsX3_lettersOpenBehind wsX0_size := goodIn_r _ [5, 6, 43, 44, 45] (by decide +kernel) (by decide +kernel)
set_option maxRecDepth 20000 in
theorem gX3_lettersOpenBehind_X0_size : GoodIn wsX3_lettersOpenBehind (wsV RX3 9 RX0 yX0_size wsX0_size) := goodIn_app (goodIn_of _ (by decide +kernel)) ggX3_lettersOpenBehind_X0_size
set_option maxRecDepth 20000 in
theorem ggX3_lettersOpenBehind_X0_wordAt : GoodIn wsX3_lettersOpenBehind wsX0_wordAt := goodIn_r _ [10, 6, 11, 43, 44, 45] (by decide +kernel) (by decide +kernel)
set_option maxRecDepth 20000 in
theorem gX3_lettersOpenBehind_X0_wordAt : GoodIn wsX3_lettersOpenBehind (wsV RX3 15 RX0 yX0_wordAt wsX0_wordAt) := goodIn_app (goodIn_of _ (by decide +kernel)) ggX3_lettersOpenBehind_X0_wordAt
set_option maxRecDepth 20000 in
theorem ggX3_lettersOpenBehind_X3_leadsOn : GoodIn wsX3_lettersOpenBehind wsX3_leadsOn := goodIn_r _ [15, 16, 17, 18, 4, 19, 20, 21, 22, 23, 24, 25, 26, 27, 28, 29, 30, 31, 32, 33, 34, 35, 36, 37, 38, 43, 44, 45] (by decide +kernel) (by decide +kernel)
set_option maxRecDepth 20000 in
theorem gX3_lettersOpenBehind_X3_leadsOn : GoodIn wsX3_lettersOpenBehind (va_wsS RX3 19 yX3_leadsOn wsX3_leadsOn) := goodIn_app (goodIn_of _ (by decide +kernel)) ggX3_lettersOpenBehind_X3_leadsOn
set_option maxRecDepth 20000 in
theorem ggX3_lettersOpenBehind_X2_lengthOf : GoodIn wsX3_lettersOpenBehind wsX2_lengthOf := goodIn_r _ [24] (by decide +kernel) (by decide +kernel)
set_option maxRecDepth 20000 in
theorem gX3_lettersOpenBehind_X2_lengthOf : GoodIn wsX3_lettersOpenBehind (va_wsS RX3 25 yX2_lengthOf wsX2_lengthOf) := goodIn_app (goodIn_of _ (by decide +kernel)) ggX3_lettersOpenBehind_X2_lengthOf
set_option maxRecDepth 20000 in
theorem ggX3_lettersOpenBehind_X2_letterAt : GoodIn wsX3_lettersOpenBehind wsX2_letterAt := goodIn_r _ [42, 31, 22, 23, 24] (by decide +kernel) (by decide +kernel)
set_option maxRecDepth 20000 in
theorem gX3_lettersOpenBehind_X2_letterAt : GoodIn wsX3_lettersOpenBehind (va_wsS RX3 31 yX2_letterAt wsX2_letterAt) := goodIn_app (goodIn_of _ (by decide +kernel)) ggX3_lettersOpenBehind_X2_letterAt
theorem dX3_lettersOpenBehind_0 : decode cX3_lettersOpenBehind 0 = .ok (.iconst 0, 1) := by decide +kernel
theorem dX3_lettersOpenBehind_1 : decode cX3_lettersOpenBehind 1 = .ok (.istore_n 3, 1) := by decide +kernel
theorem dX3_lettersOpenBehind_2 : decode cX3_lettersOpenBehind 2 = .ok (.iconst 0, 1) := by decide +kernel
theorem dX3_lettersOpenBehind_3 : decode cX3_lettersOpenBehind 3 = .ok (.istore 4, 2) := by decide +kernel
theorem dX3_lettersOpenBehind_5 : decode cX3_lettersOpenBehind 5 = .ok (.iload 4, 2) := by decide +kernel
theorem dX3_lettersOpenBehind_7 : decode cX3_lettersOpenBehind 7 = .ok (.aload_n 0, 1) := by decide +kernel
theorem dX3_lettersOpenBehind_8 : decode cX3_lettersOpenBehind 8 = .ok (.invokevirtual 9, 3) := by decide +kernel
theorem dX3_lettersOpenBehind_11 : decode cX3_lettersOpenBehind 11 = .ok (.if_icmp .ge 41, 3) := by decide +kernel
theorem dX3_lettersOpenBehind_14 : decode cX3_lettersOpenBehind 14 = .ok (.aload_n 0, 1) := by decide +kernel
theorem dX3_lettersOpenBehind_15 : decode cX3_lettersOpenBehind 15 = .ok (.iload 4, 2) := by decide +kernel
theorem dX3_lettersOpenBehind_17 : decode cX3_lettersOpenBehind 17 = .ok (.invokevirtual 15, 3) := by decide +kernel
theorem dX3_lettersOpenBehind_20 : decode cX3_lettersOpenBehind 20 = .ok (.lstore 5, 2) := by decide +kernel
theorem dX3_lettersOpenBehind_22 : decode cX3_lettersOpenBehind 22 = .ok (.aload_n 0, 1) := by decide +kernel
theorem dX3_lettersOpenBehind_23 : decode cX3_lettersOpenBehind 23 = .ok (.lload 5, 2) := by decide +kernel
theorem dX3_lettersOpenBehind_25 : decode cX3_lettersOpenBehind 25 = .ok (.lload_n 1, 1) := by decide +kernel
theorem dX3_lettersOpenBehind_26 : decode cX3_lettersOpenBehind 26 = .ok (.invokestatic 19, 3) := by decide +kernel
theorem dX3_lettersOpenBehind_29 : decode cX3_lettersOpenBehind 29 = .ok (.ifCond .eq 17, 3) := by decide +kernel
theorem dX3_lettersOpenBehind_32 : decode cX3_lettersOpenBehind 32 = .ok (.iload_n 3, 1) := by decide +kernel
theorem dX3_lettersOpenBehind_33 : decode cX3_lettersOpenBehind 33 = .ok (.iconst 1, 1) := by decide +kernel
theorem dX3_lettersOpenBehind_34 : decode cX3_lettersOpenBehind 34 = .ok (.lload 5, 2) := by decide +kernel
theorem dX3_lettersOpenBehind_36 : decode cX3_lettersOpenBehind 36 = .ok (.lload_n 1, 1) := by decide +kernel
theorem dX3_lettersOpenBehind_37 : decode cX3_lettersOpenBehind 37 = .ok (.invokestatic 25, 3) := by decide +kernel
theorem dX3_lettersOpenBehind_40 : decode cX3_lettersOpenBehind 40 = .ok (.invokestatic 31, 3) := by decide +kernel
theorem dX3_lettersOpenBehind_43 : decode cX3_lettersOpenBehind 43 = .ok (.ishl, 1) := by decide +kernel
theorem dX3_lettersOpenBehind_44 : decode cX3_lettersOpenBehind 44 = .ok (.ior, 1) := by decide +kernel
theorem dX3_lettersOpenBehind_45 : decode cX3_lettersOpenBehind 45 = .ok (.istore_n 3, 1) := by decide +kernel
theorem dX3_lettersOpenBehind_46 : decode cX3_lettersOpenBehind 46 = .ok (.iinc 4 1, 3) := by decide +kernel
theorem dX3_lettersOpenBehind_49 : decode cX3_lettersOpenBehind 49 = .ok (.goto (-44), 3) := by decide +kernel
theorem dX3_lettersOpenBehind_52 : decode cX3_lettersOpenBehind 52 = .ok (.iload_n 3, 1) := by decide +kernel
theorem dX3_lettersOpenBehind_53 : decode cX3_lettersOpenBehind 53 = .ok (.ireturn, 1) := by decide +kernel
set_option maxRecDepth 20000 in
theorem ggX3_lettersWinningBehind_X3_lettersOpenBehind : GoodIn wsX3_lettersWinningBehind wsX3_lettersOpenBehind := goodIn_r _ [4, 5, 6, 7, 8, 9, 10, 11, 12, 13, 14, 15, 16, 17, 3, 18, 19, 20, 21, 22, 23, 24, 25, 26, 27, 28, 29, 30, 31, 32, 33, 34, 35, 36, 37, 38, 39, 40, 41, 42, 43, 44, 45, 78, 79, 80] (by decide +kernel) (by decide +kernel)
set_option maxRecDepth 20000 in
theorem gX3_lettersWinningBehind_X3_lettersOpenBehind : GoodIn wsX3_lettersWinningBehind (va_wsS RX3 35 yX3_lettersOpenBehind wsX3_lettersOpenBehind) := goodIn_app (goodIn_of _ (by decide +kernel)) ggX3_lettersWinningBehind_X3_lettersOpenBehind
set_option maxRecDepth 20000 in
theorem ggX3_lettersWinningBehind_X3_isIn : GoodIn wsX3_lettersWinningBehind wsX3_isIn := goodIn_r _ [48] (by decide +kernel) (by decide +kernel)
set_option maxRecDepth 20000 in
theorem gX3_lettersWinningBehind_X3_isIn : GoodIn wsX3_lettersWinningBehind (va_wsS RX3 39 yX3_isIn wsX3_isIn) := goodIn_app (goodIn_of _ (by decide +kernel)) ggX3_lettersWinningBehind_X3_isIn
set_option maxRecDepth 20000 in
theorem ggX3_lettersWinningBehind_X3_scoreOfLetter : GoodIn wsX3_lettersWinningBehind wsX3_scoreOfLetter := goodIn_r _ [51, 52, 53, 26, 54, 38, 34, 25, 27, 39, 40, 41, 55, 56, 57, 8, 58, 59, 20, 21, 22, 23, 24, 60, 61, 62, 63, 64, 65, 66, 67, 10, 15, 68, 69, 3, 70, 71, 72, 73, 74, 75, 76, 77, 1, 2, 4, 5, 6, 7, 9, 11, 12, 13, 14, 16, 17, 18, 19, 28, 29, 30, 31, 32, 33, 35, 36, 37, 42, 43, 44, 45, 46, 47, 48, 49, 50, 78, 79, 80] (by decide +kernel) (by decide +kernel)
set_option maxRecDepth 20000 in
theorem gX3_lettersWinningBehind_X3_scoreOfLetter : GoodIn wsX3_lettersWinningBehind (va_wsS RX3 43 yX3_scoreOfLetter wsX3_scoreOfLetter) := goodIn_app (goodIn_of _ (by decide +kernel)) ggX3_lettersWinningBehind_X3_scoreOfLetter
theorem dX3_lettersWinningBehind_0 : decode cX3_lettersWinningBehind 0 = .ok (.aload_n 0, 1) := by decide +kernel
theorem dX3_lettersWinningBehind_1 : decode cX3_lettersWinningBehind 1 = .ok (.lload_n 1, 1) := by decide +kernel
theorem dX3_lettersWinningBehind_2 : decode cX3_lettersWinningBehind 2 = .ok (.invokestatic 35, 3) := by decide +kernel
theorem dX3_lettersWinningBehind_5 : decode cX3_lettersWinningBehind 5 = .ok (.istore_n 3, 1) := by decide +kernel
theorem dX3_lettersWinningBehind_6 : decode cX3_lettersWinningBehind 6 = .ok (.iconst 0, 1) := by decide +kernel
theorem dX3_lettersWinningBehind_7 : decode cX3_lettersWinningBehind 7 = .ok (.istore 4, 2) := by decide +kernel
theorem dX3_lettersWinningBehind_9 : decode cX3_lettersWinningBehind 9 = .ok (.iconst 0, 1) := by decide +kernel
theorem dX3_lettersWinningBehind_10 : decode cX3_lettersWinningBehind 10 = .ok (.istore 5, 2) := by decide +kernel
theorem dX3_lettersWinningBehind_12 : decode cX3_lettersWinningBehind 12 = .ok (.iload 5, 2) := by decide +kernel
theorem dX3_lettersWinningBehind_14 : decode cX3_lettersWinningBehind 14 = .ok (.bipush 26, 2) := by decide +kernel
theorem dX3_lettersWinningBehind_16 : decode cX3_lettersWinningBehind 16 = .ok (.if_icmp .ge 37, 3) := by decide +kernel
theorem dX3_lettersWinningBehind_19 : decode cX3_lettersWinningBehind 19 = .ok (.iload_n 3, 1) := by decide +kernel
theorem dX3_lettersWinningBehind_20 : decode cX3_lettersWinningBehind 20 = .ok (.iload 5, 2) := by decide +kernel
theorem dX3_lettersWinningBehind_22 : decode cX3_lettersWinningBehind 22 = .ok (.invokestatic 39, 3) := by decide +kernel
theorem dX3_lettersWinningBehind_25 : decode cX3_lettersWinningBehind 25 = .ok (.ifCond .eq 22, 3) := by decide +kernel
theorem dX3_lettersWinningBehind_28 : decode cX3_lettersWinningBehind 28 = .ok (.aload_n 0, 1) := by decide +kernel
theorem dX3_lettersWinningBehind_29 : decode cX3_lettersWinningBehind 29 = .ok (.lload_n 1, 1) := by decide +kernel
theorem dX3_lettersWinningBehind_30 : decode cX3_lettersWinningBehind 30 = .ok (.iload 5, 2) := by decide +kernel
theorem dX3_lettersWinningBehind_32 : decode cX3_lettersWinningBehind 32 = .ok (.invokestatic 43, 3) := by decide +kernel
theorem dX3_lettersWinningBehind_35 : decode cX3_lettersWinningBehind 35 = .ok (.ifCond .le 12, 3) := by decide +kernel
theorem dX3_lettersWinningBehind_38 : decode cX3_lettersWinningBehind 38 = .ok (.iload 4, 2) := by decide +kernel
theorem dX3_lettersWinningBehind_40 : decode cX3_lettersWinningBehind 40 = .ok (.iconst 1, 1) := by decide +kernel
theorem dX3_lettersWinningBehind_41 : decode cX3_lettersWinningBehind 41 = .ok (.iload 5, 2) := by decide +kernel
theorem dX3_lettersWinningBehind_43 : decode cX3_lettersWinningBehind 43 = .ok (.ishl, 1) := by decide +kernel
theorem dX3_lettersWinningBehind_44 : decode cX3_lettersWinningBehind 44 = .ok (.ior, 1) := by decide +kernel
theorem dX3_lettersWinningBehind_45 : decode cX3_lettersWinningBehind 45 = .ok (.istore 4, 2) := by decide +kernel
theorem dX3_lettersWinningBehind_47 : decode cX3_lettersWinningBehind 47 = .ok (.iinc 5 1, 3) := by decide +kernel
theorem dX3_lettersWinningBehind_50 : decode cX3_lettersWinningBehind 50 = .ok (.goto (-38), 3) := by decide +kernel
theorem dX3_lettersWinningBehind_53 : decode cX3_lettersWinningBehind 53 = .ok (.iload 4, 2) := by decide +kernel
theorem dX3_lettersWinningBehind_55 : decode cX3_lettersWinningBehind 55 = .ok (.ireturn, 1) := by decide +kernel
set_option maxRecDepth 20000 in
theorem ggX3_moverWins_X3_score : GoodIn wsX3_moverWins wsX3_score := goodIn_r _ [4, 5, 6, 7, 8, 9, 10, 11, 12, 13, 14, 15, 16, 17, 3, 18, 19, 20, 21, 22, 23, 24, 25, 26, 27, 28, 29, 30, 31, 32, 33, 34, 35, 36, 37, 38, 39, 40, 41, 42, 43, 44, 45, 46, 47, 48, 49, 50, 51, 52, 53, 54, 55, 56, 57, 58, 59, 60, 61, 62, 63, 64, 65, 66, 67, 68, 69, 70, 71, 72, 73, 74, 75, 76, 77, 1, 2, 78, 79, 80] (by decide +kernel) (by decide +kernel)
set_option maxRecDepth 20000 in
theorem gX3_moverWins_X3_score : GoodIn wsX3_moverWins (va_wsS RX3 47 yX3_score wsX3_score) := goodIn_app (goodIn_of _ (by decide +kernel)) ggX3_moverWins_X3_score
theorem dX3_moverWins_0 : decode cX3_moverWins 0 = .ok (.aload_n 0, 1) := by decide +kernel
theorem dX3_moverWins_1 : decode cX3_moverWins 1 = .ok (.lload_n 1, 1) := by decide +kernel
theorem dX3_moverWins_2 : decode cX3_moverWins 2 = .ok (.invokestatic 47, 3) := by decide +kernel
theorem dX3_moverWins_5 : decode cX3_moverWins 5 = .ok (.ifCond .le 7, 3) := by decide +kernel
theorem dX3_moverWins_8 : decode cX3_moverWins 8 = .ok (.iconst 1, 1) := by decide +kernel
theorem dX3_moverWins_9 : decode cX3_moverWins 9 = .ok (.goto 4, 3) := by decide +kernel
theorem dX3_moverWins_12 : decode cX3_moverWins 12 = .ok (.iconst 0, 1) := by decide +kernel
theorem dX3_moverWins_13 : decode cX3_moverWins 13 = .ok (.ireturn, 1) := by decide +kernel
set_option maxRecDepth 20000 in
theorem ggX3_endBehind_X3_score : GoodIn wsX3_endBehind wsX3_score := goodIn_r _ [8, 9, 10, 3, 11, 12, 13, 14, 15, 16, 17, 18, 19, 20, 7, 21, 22, 23, 24, 25, 26, 27, 28, 29, 30, 31, 32, 33, 34, 35, 36, 37, 38, 39, 40, 41, 42, 43, 44, 45, 46, 47, 48, 49, 50, 51, 52, 53, 54, 55, 56, 57, 58, 59, 60, 61, 62, 63, 64, 65, 66, 67, 68, 69, 70, 71, 72, 73, 74, 75, 76, 77, 78, 79, 80, 5, 6, 81, 82, 83] (by decide +kernel) (by decide +kernel)
set_option maxRecDepth 20000 in
theorem gX3_endBehind_X3_score : GoodIn wsX3_endBehind (va_wsS RX3 47 yX3_score wsX3_score) := goodIn_app (goodIn_of _ (by decide +kernel)) ggX3_endBehind_X3_score
theorem dX3_endBehind_0 : decode cX3_endBehind 0 = .ok (.bipush 100, 2) := by decide +kernel
theorem dX3_endBehind_2 : decode cX3_endBehind 2 = .ok (.aload_n 0, 1) := by decide +kernel
theorem dX3_endBehind_3 : decode cX3_endBehind 3 = .ok (.lload_n 1, 1) := by decide +kernel
theorem dX3_endBehind_4 : decode cX3_endBehind 4 = .ok (.invokestatic 47, 3) := by decide +kernel
theorem dX3_endBehind_7 : decode cX3_endBehind 7 = .ok (.invokestatic 50, 3) := by decide +kernel
theorem dX3_endBehind_10 : decode cX3_endBehind 10 = .ok (.isub, 1) := by decide +kernel
theorem dX3_endBehind_11 : decode cX3_endBehind 11 = .ok (.ireturn, 1) := by decide +kernel
set_option maxRecDepth 20000 in
theorem ggX3_letterChosenBehind_X3_lettersOpenBehind : GoodIn wsX3_letterChosenBehind wsX3_lettersOpenBehind := goodIn_r _ [4, 5, 6, 7, 8, 9, 10, 11, 12, 13, 14, 15, 16, 17, 3, 18, 19, 20, 21, 22, 23, 24, 25, 26, 27, 28, 29, 30, 31, 32, 33, 34, 35, 36, 37, 38, 39, 40, 41, 42, 43, 44, 45, 78, 79, 80] (by decide +kernel) (by decide +kernel)
set_option maxRecDepth 20000 in
theorem gX3_letterChosenBehind_X3_lettersOpenBehind : GoodIn wsX3_letterChosenBehind (va_wsS RX3 35 yX3_lettersOpenBehind wsX3_lettersOpenBehind) := goodIn_app (goodIn_of _ (by decide +kernel)) ggX3_letterChosenBehind_X3_lettersOpenBehind
set_option maxRecDepth 20000 in
theorem ggX3_letterChosenBehind_X3_score : GoodIn wsX3_letterChosenBehind wsX3_score := goodIn_r _ [48, 49, 50, 51, 52, 53, 54, 26, 55, 34, 25, 27, 1, 2, 3, 4, 5, 6, 7, 8, 9, 10, 11, 12, 13, 14, 15, 16, 17, 18, 19, 20, 21, 22, 23, 24, 28, 29, 30, 31, 32, 33, 35, 36, 37, 38, 39, 40, 41, 42, 43, 44, 45, 56, 57, 58, 59, 60, 61, 62, 63, 64, 65, 66, 67, 68, 69, 70, 71, 72, 73, 74, 75, 76, 77, 46, 47, 78, 79, 80] (by decide +kernel) (by decide +kernel)
set_option maxRecDepth 20000 in
theorem gX3_letterChosenBehind_X3_score : GoodIn wsX3_letterChosenBehind (va_wsS RX3 47 yX3_score wsX3_score) := goodIn_app (goodIn_of _ (by decide +kernel)) ggX3_letterChosenBehind_X3_score
set_option maxRecDepth 20000 in
theorem ggX3_letterChosenBehind_X3_isIn : GoodIn wsX3_letterChosenBehind wsX3_isIn := goodIn_r _ [58] (by decide +kernel) (by decide +kernel)
set_option maxRecDepth 20000 in
theorem gX3_letterChosenBehind_X3_isIn : GoodIn wsX3_letterChosenBehind (va_wsS RX3 39 yX3_isIn wsX3_isIn) := goodIn_app (goodIn_of _ (by decide +kernel)) ggX3_letterChosenBehind_X3_isIn
set_option maxRecDepth 20000 in
theorem ggX3_letterChosenBehind_X3_scoreOfLetter : GoodIn wsX3_letterChosenBehind wsX3_scoreOfLetter := goodIn_r _ [61, 62, 63, 26, 64, 38, 34, 25, 27, 39, 40, 41, 65, 66, 67, 8, 68, 69, 20, 21, 22, 23, 24, 70, 71, 72, 73, 74, 75, 76, 77, 10, 15, 46, 47, 3, 48, 49, 50, 51, 52, 53, 54, 55, 1, 2, 4, 5, 6, 7, 9, 11, 12, 13, 14, 16, 17, 18, 19, 28, 29, 30, 31, 32, 33, 35, 36, 37, 42, 43, 44, 45, 56, 57, 58, 59, 60, 78, 79, 80] (by decide +kernel) (by decide +kernel)
set_option maxRecDepth 20000 in
theorem gX3_letterChosenBehind_X3_scoreOfLetter : GoodIn wsX3_letterChosenBehind (va_wsS RX3 43 yX3_scoreOfLetter wsX3_scoreOfLetter) := goodIn_app (goodIn_of _ (by decide +kernel)) ggX3_letterChosenBehind_X3_scoreOfLetter
theorem dX3_letterChosenBehind_0 : decode cX3_letterChosenBehind 0 = .ok (.aload_n 0, 1) := by decide +kernel
theorem dX3_letterChosenBehind_1 : decode cX3_letterChosenBehind 1 = .ok (.lload_n 1, 1) := by decide +kernel
theorem dX3_letterChosenBehind_2 : decode cX3_letterChosenBehind 2 = .ok (.invokestatic 35, 3) := by decide +kernel
theorem dX3_letterChosenBehind_5 : decode cX3_letterChosenBehind 5 = .ok (.istore_n 3, 1) := by decide +kernel
theorem dX3_letterChosenBehind_6 : decode cX3_letterChosenBehind 6 = .ok (.aload_n 0, 1) := by decide +kernel
theorem dX3_letterChosenBehind_7 : decode cX3_letterChosenBehind 7 = .ok (.lload_n 1, 1) := by decide +kernel
theorem dX3_letterChosenBehind_8 : decode cX3_letterChosenBehind 8 = .ok (.invokestatic 47, 3) := by decide +kernel
theorem dX3_letterChosenBehind_11 : decode cX3_letterChosenBehind 11 = .ok (.istore 4, 2) := by decide +kernel
theorem dX3_letterChosenBehind_13 : decode cX3_letterChosenBehind 13 = .ok (.iconst 0, 1) := by decide +kernel
theorem dX3_letterChosenBehind_14 : decode cX3_letterChosenBehind 14 = .ok (.istore 5, 2) := by decide +kernel
theorem dX3_letterChosenBehind_16 : decode cX3_letterChosenBehind 16 = .ok (.iload 5, 2) := by decide +kernel
theorem dX3_letterChosenBehind_18 : decode cX3_letterChosenBehind 18 = .ok (.bipush 26, 2) := by decide +kernel
theorem dX3_letterChosenBehind_20 : decode cX3_letterChosenBehind 20 = .ok (.if_icmp .ge 33, 3) := by decide +kernel
theorem dX3_letterChosenBehind_23 : decode cX3_letterChosenBehind 23 = .ok (.iload_n 3, 1) := by decide +kernel
theorem dX3_letterChosenBehind_24 : decode cX3_letterChosenBehind 24 = .ok (.iload 5, 2) := by decide +kernel
theorem dX3_letterChosenBehind_26 : decode cX3_letterChosenBehind 26 = .ok (.invokestatic 39, 3) := by decide +kernel
theorem dX3_letterChosenBehind_29 : decode cX3_letterChosenBehind 29 = .ok (.ifCond .eq 18, 3) := by decide +kernel
theorem dX3_letterChosenBehind_32 : decode cX3_letterChosenBehind 32 = .ok (.aload_n 0, 1) := by decide +kernel
theorem dX3_letterChosenBehind_33 : decode cX3_letterChosenBehind 33 = .ok (.lload_n 1, 1) := by decide +kernel
theorem dX3_letterChosenBehind_34 : decode cX3_letterChosenBehind 34 = .ok (.iload 5, 2) := by decide +kernel
theorem dX3_letterChosenBehind_36 : decode cX3_letterChosenBehind 36 = .ok (.invokestatic 43, 3) := by decide +kernel
theorem dX3_letterChosenBehind_39 : decode cX3_letterChosenBehind 39 = .ok (.iload 4, 2) := by decide +kernel
theorem dX3_letterChosenBehind_41 : decode cX3_letterChosenBehind 41 = .ok (.if_icmp .ne 6, 3) := by decide +kernel
theorem dX3_letterChosenBehind_44 : decode cX3_letterChosenBehind 44 = .ok (.iload 5, 2) := by decide +kernel
theorem dX3_letterChosenBehind_46 : decode cX3_letterChosenBehind 46 = .ok (.ireturn, 1) := by decide +kernel
theorem dX3_letterChosenBehind_47 : decode cX3_letterChosenBehind 47 = .ok (.iinc 5 1, 3) := by decide +kernel
theorem dX3_letterChosenBehind_50 : decode cX3_letterChosenBehind 50 = .ok (.goto (-34), 3) := by decide +kernel
theorem dX3_letterChosenBehind_53 : decode cX3_letterChosenBehind 53 = .ok (.iconst (-1), 1) := by decide +kernel
theorem dX3_letterChosenBehind_54 : decode cX3_letterChosenBehind 54 = .ok (.ireturn, 1) := by decide +kernel
set_option maxRecDepth 20000 in
theorem ggX3_countWays_X0_size : GoodIn wsX3_countWays wsX0_size := goodIn_r _ [5, 6, 57, 58, 59] (by decide +kernel) (by decide +kernel)
set_option maxRecDepth 20000 in
theorem gX3_countWays_X0_size : GoodIn wsX3_countWays (wsV RX3 9 RX0 yX0_size wsX0_size) := goodIn_app (goodIn_of _ (by decide +kernel)) ggX3_countWays_X0_size
set_option maxRecDepth 20000 in
theorem ggX3_countWays_X0_wordAt : GoodIn wsX3_countWays wsX0_wordAt := goodIn_r _ [10, 6, 11, 57, 58, 59] (by decide +kernel) (by decide +kernel)
set_option maxRecDepth 20000 in
theorem gX3_countWays_X0_wordAt : GoodIn wsX3_countWays (wsV RX3 15 RX0 yX0_wordAt wsX0_wordAt) := goodIn_app (goodIn_of _ (by decide +kernel)) ggX3_countWays_X0_wordAt
set_option maxRecDepth 20000 in
theorem ggX3_countWays_X3_isWay : GoodIn wsX3_countWays wsX3_isWay := goodIn_r _ [15, 16, 17, 14, 18, 19, 20, 21, 4, 22, 23, 24, 25, 26, 27, 28, 29, 30, 31, 32, 33, 34, 35, 36, 37, 38, 39, 40, 41, 42, 43, 44, 45, 46, 47, 48, 49, 50, 51, 52, 53, 54, 55, 56, 6, 11, 57, 58, 59] (by decide +kernel) (by decide +kernel)
set_option maxRecDepth 20000 in
theorem gX3_countWays_X3_isWay : GoodIn wsX3_countWays (va_wsS RX3 56 yX3_isWay wsX3_isWay) := goodIn_app (goodIn_of _ (by decide +kernel)) ggX3_countWays_X3_isWay
theorem dX3_countWays_0 : decode cX3_countWays 0 = .ok (.iconst 0, 1) := by decide +kernel
theorem dX3_countWays_1 : decode cX3_countWays 1 = .ok (.istore_n 3, 1) := by decide +kernel
theorem dX3_countWays_2 : decode cX3_countWays 2 = .ok (.iconst 0, 1) := by decide +kernel
theorem dX3_countWays_3 : decode cX3_countWays 3 = .ok (.istore 4, 2) := by decide +kernel
theorem dX3_countWays_5 : decode cX3_countWays 5 = .ok (.iload 4, 2) := by decide +kernel
theorem dX3_countWays_7 : decode cX3_countWays 7 = .ok (.aload_n 0, 1) := by decide +kernel
theorem dX3_countWays_8 : decode cX3_countWays 8 = .ok (.invokevirtual 9, 3) := by decide +kernel
theorem dX3_countWays_11 : decode cX3_countWays 11 = .ok (.if_icmp .ge 26, 3) := by decide +kernel
theorem dX3_countWays_14 : decode cX3_countWays 14 = .ok (.aload_n 0, 1) := by decide +kernel
theorem dX3_countWays_15 : decode cX3_countWays 15 = .ok (.aload_n 0, 1) := by decide +kernel
theorem dX3_countWays_16 : decode cX3_countWays 16 = .ok (.iload 4, 2) := by decide +kernel
theorem dX3_countWays_18 : decode cX3_countWays 18 = .ok (.invokevirtual 15, 3) := by decide +kernel
theorem dX3_countWays_21 : decode cX3_countWays 21 = .ok (.lload_n 1, 1) := by decide +kernel
theorem dX3_countWays_22 : decode cX3_countWays 22 = .ok (.invokestatic 56, 3) := by decide +kernel
theorem dX3_countWays_25 : decode cX3_countWays 25 = .ok (.ifCond .eq 6, 3) := by decide +kernel
theorem dX3_countWays_28 : decode cX3_countWays 28 = .ok (.iinc 3 1, 3) := by decide +kernel
theorem dX3_countWays_31 : decode cX3_countWays 31 = .ok (.iinc 4 1, 3) := by decide +kernel
theorem dX3_countWays_34 : decode cX3_countWays 34 = .ok (.goto (-29), 3) := by decide +kernel
theorem dX3_countWays_37 : decode cX3_countWays 37 = .ok (.iload_n 3, 1) := by decide +kernel
theorem dX3_countWays_38 : decode cX3_countWays 38 = .ok (.ireturn, 1) := by decide +kernel
set_option maxRecDepth 20000 in
theorem ggX3_countWonWays_X0_size : GoodIn wsX3_countWonWays wsX0_size := goodIn_r _ [5, 6, 60, 61, 62] (by decide +kernel) (by decide +kernel)
set_option maxRecDepth 20000 in
theorem gX3_countWonWays_X0_size : GoodIn wsX3_countWonWays (wsV RX3 9 RX0 yX0_size wsX0_size) := goodIn_app (goodIn_of _ (by decide +kernel)) ggX3_countWonWays_X0_size
set_option maxRecDepth 20000 in
theorem ggX3_countWonWays_X0_wordAt : GoodIn wsX3_countWonWays wsX0_wordAt := goodIn_r _ [10, 6, 11, 60, 61, 62] (by decide +kernel) (by decide +kernel)
set_option maxRecDepth 20000 in
theorem gX3_countWonWays_X0_wordAt : GoodIn wsX3_countWonWays (wsV RX3 15 RX0 yX0_wordAt wsX0_wordAt) := goodIn_app (goodIn_of _ (by decide +kernel)) ggX3_countWonWays_X0_wordAt
set_option maxRecDepth 20000 in
theorem ggX3_countWonWays_X3_isWay : GoodIn wsX3_countWonWays wsX3_isWay := goodIn_r _ [15, 16, 17, 14, 18, 19, 20, 21, 4, 22, 23, 24, 25, 26, 27, 28, 29, 30, 31, 32, 33, 34, 35, 36, 37, 38, 39, 40, 41, 42, 43, 44, 45, 46, 47, 48, 49, 50, 51, 52, 53, 54, 55, 56, 6, 11, 60, 61, 62] (by decide +kernel) (by decide +kernel)
set_option maxRecDepth 20000 in
theorem gX3_countWonWays_X3_isWay : GoodIn wsX3_countWonWays (va_wsS RX3 56 yX3_isWay wsX3_isWay) := goodIn_app (goodIn_of _ (by decide +kernel)) ggX3_countWonWays_X3_isWay
set_option maxRecDepth 20000 in
theorem ggX3_countWonWays_X3_otherSideCompletes : GoodIn wsX3_countWonWays wsX3_otherSideCompletes := goodIn_r _ [59, 42, 25, 26, 27] (by decide +kernel) (by decide +kernel)
set_option maxRecDepth 20000 in
theorem gX3_countWonWays_X3_otherSideCompletes : GoodIn wsX3_countWonWays (va_wsS RX3 59 yX3_otherSideCompletes wsX3_otherSideCompletes) := goodIn_app (goodIn_of _ (by decide +kernel)) ggX3_countWonWays_X3_otherSideCompletes
theorem dX3_countWonWays_0 : decode cX3_countWonWays 0 = .ok (.iconst 0, 1) := by decide +kernel
theorem dX3_countWonWays_1 : decode cX3_countWonWays 1 = .ok (.istore_n 3, 1) := by decide +kernel
theorem dX3_countWonWays_2 : decode cX3_countWonWays 2 = .ok (.iconst 0, 1) := by decide +kernel
theorem dX3_countWonWays_3 : decode cX3_countWonWays 3 = .ok (.istore 4, 2) := by decide +kernel
theorem dX3_countWonWays_5 : decode cX3_countWonWays 5 = .ok (.iload 4, 2) := by decide +kernel
theorem dX3_countWonWays_7 : decode cX3_countWonWays 7 = .ok (.aload_n 0, 1) := by decide +kernel
theorem dX3_countWonWays_8 : decode cX3_countWonWays 8 = .ok (.invokevirtual 9, 3) := by decide +kernel
theorem dX3_countWonWays_11 : decode cX3_countWonWays 11 = .ok (.if_icmp .ge 39, 3) := by decide +kernel
theorem dX3_countWonWays_14 : decode cX3_countWonWays 14 = .ok (.aload_n 0, 1) := by decide +kernel
theorem dX3_countWonWays_15 : decode cX3_countWonWays 15 = .ok (.iload 4, 2) := by decide +kernel
theorem dX3_countWonWays_17 : decode cX3_countWonWays 17 = .ok (.invokevirtual 15, 3) := by decide +kernel
theorem dX3_countWonWays_20 : decode cX3_countWonWays 20 = .ok (.lstore 5, 2) := by decide +kernel
theorem dX3_countWonWays_22 : decode cX3_countWonWays 22 = .ok (.aload_n 0, 1) := by decide +kernel
theorem dX3_countWonWays_23 : decode cX3_countWonWays 23 = .ok (.lload 5, 2) := by decide +kernel
theorem dX3_countWonWays_25 : decode cX3_countWonWays 25 = .ok (.lload_n 1, 1) := by decide +kernel
theorem dX3_countWonWays_26 : decode cX3_countWonWays 26 = .ok (.invokestatic 56, 3) := by decide +kernel
theorem dX3_countWonWays_29 : decode cX3_countWonWays 29 = .ok (.ifCond .eq 15, 3) := by decide +kernel
theorem dX3_countWonWays_32 : decode cX3_countWonWays 32 = .ok (.lload 5, 2) := by decide +kernel
theorem dX3_countWonWays_34 : decode cX3_countWonWays 34 = .ok (.lload_n 1, 1) := by decide +kernel
theorem dX3_countWonWays_35 : decode cX3_countWonWays 35 = .ok (.invokestatic 59, 3) := by decide +kernel
theorem dX3_countWonWays_38 : decode cX3_countWonWays 38 = .ok (.ifCond .eq 6, 3) := by decide +kernel
theorem dX3_countWonWays_41 : decode cX3_countWonWays 41 = .ok (.iinc 3 1, 3) := by decide +kernel
theorem dX3_countWonWays_44 : decode cX3_countWonWays 44 = .ok (.iinc 4 1, 3) := by decide +kernel
theorem dX3_countWonWays_47 : decode cX3_countWonWays 47 = .ok (.goto (-42), 3) := by decide +kernel
theorem dX3_countWonWays_50 : decode cX3_countWonWays 50 = .ok (.iload_n 3, 1) := by decide +kernel
theorem dX3_countWonWays_51 : decode cX3_countWonWays 51 = .ok (.ireturn, 1) := by decide +kernel
set_option maxRecDepth 20000 in
theorem ggX3_score_X2_isFull : GoodIn wsX3_score wsX2_isFull := goodIn_r _ [8, 9, 10, 7, 11] (by decide +kernel) (by decide +kernel)
set_option maxRecDepth 20000 in
theorem gX3_score_X2_isFull : GoodIn wsX3_score (va_wsS RX3 63 yX2_isFull wsX2_isFull) := goodIn_app (goodIn_of _ (by decide +kernel)) ggX3_score_X2_isFull
set_option maxRecDepth 20000 in
theorem ggX3_score_X3_lettersOpenBehind : GoodIn wsX3_score wsX3_lettersOpenBehind := goodIn_r _ [15, 16, 17, 18, 19, 20, 21, 22, 23, 24, 25, 26, 27, 28, 14, 29, 30, 31, 32, 33, 34, 35, 10, 7, 11, 36, 37, 38, 39, 40, 41, 9, 42, 43, 44, 45, 46, 47, 48, 49, 50, 51, 52, 77, 78, 79] (by decide +kernel) (by decide +kernel)
set_option maxRecDepth 20000 in
theorem gX3_score_X3_lettersOpenBehind : GoodIn wsX3_score (va_wsS RX3 35 yX3_lettersOpenBehind wsX3_lettersOpenBehind) := goodIn_app (goodIn_of _ (by decide +kernel)) ggX3_score_X3_lettersOpenBehind
set_option maxRecDepth 20000 in
theorem ggX3_score_X3_isIn : GoodIn wsX3_score wsX3_isIn := goodIn_r _ [55] (by decide +kernel) (by decide +kernel)
set_option maxRecDepth 20000 in
theorem gX3_score_X3_isIn : GoodIn wsX3_score (va_wsS RX3 39 yX3_isIn wsX3_isIn) := goodIn_app (goodIn_of _ (by decide +kernel)) ggX3_score_X3_isIn
set_option maxRecDepth 20000 in
theorem ggX3_score_X3_scoreOfLetter : GoodIn wsX3_score wsX3_scoreOfLetter := goodIn_r _ [58, 59, 60, 7, 61, 45, 9, 10, 11, 46, 47, 48, 62, 63, 64, 19, 65, 66, 31, 32, 33, 34, 35, 67, 68, 69, 70, 71, 72, 73, 74, 21, 26, 75, 76, 14, 0, 1, 2, 3, 4, 5, 6, 8, 12, 13, 15, 16, 17, 18, 20, 22, 23, 24, 25, 27, 28, 29, 30, 36, 37, 38, 39, 40, 41, 42, 43, 44, 49, 50, 51, 52, 53, 54, 55, 56, 57, 77, 78, 79] (by decide +kernel) (by decide +kernel)
set_option maxRecDepth 20000 in
theorem gX3_score_X3_scoreOfLetter : GoodIn wsX3_score (va_wsS RX3 43 yX3_scoreOfLetter wsX3_scoreOfLetter) := goodIn_app (goodIn_of _ (by decide +kernel)) ggX3_score_X3_scoreOfLetter
theorem dX3_score_0 : decode cX3_score 0 = .ok (.lload_n 1, 1) := by decide +kernel
theorem dX3_score_1 : decode cX3_score 1 = .ok (.invokestatic 63, 3) := by decide +kernel
theorem dX3_score_4 : decode cX3_score 4 = .ok (.ifCond .eq 7, 3) := by decide +kernel
theorem dX3_score_7 : decode cX3_score 7 = .ok (.iconst 0, 1) := by decide +kernel
theorem dX3_score_8 : decode cX3_score 8 = .ok (.goto 8, 3) := by decide +kernel
theorem dX3_score_11 : decode cX3_score 11 = .ok (.aload_n 0, 1) := by decide +kernel
theorem dX3_score_12 : decode cX3_score 12 = .ok (.lload_n 1, 1) := by decide +kernel
theorem dX3_score_13 : decode cX3_score 13 = .ok (.invokestatic 35, 3) := by decide +kernel
theorem dX3_score_16 : decode cX3_score 16 = .ok (.istore_n 3, 1) := by decide +kernel
theorem dX3_score_17 : decode cX3_score 17 = .ok (.iload_n 3, 1) := by decide +kernel
theorem dX3_score_18 : decode cX3_score 18 = .ok (.ifCond .ne 6, 3) := by decide +kernel
theorem dX3_score_21 : decode cX3_score 21 = .ok (.bipush 100, 2) := by decide +kernel
theorem dX3_score_23 : decode cX3_score 23 = .ok (.ireturn, 1) := by decide +kernel
theorem dX3_score_24 : decode cX3_score 24 = .ok (.bipush (-100), 2) := by decide +kernel
theorem dX3_score_26 : decode cX3_score 26 = .ok (.istore 4, 2) := by decide +kernel
theorem dX3_score_28 : decode cX3_score 28 = .ok (.iconst 0, 1) := by decide +kernel
theorem dX3_score_29 : decode cX3_score 29 = .ok (.istore 5, 2) := by decide +kernel
theorem dX3_score_31 : decode cX3_score 31 = .ok (.iload 5, 2) := by decide +kernel
theorem dX3_score_33 : decode cX3_score 33 = .ok (.bipush 26, 2) := by decide +kernel
theorem dX3_score_35 : decode cX3_score 35 = .ok (.if_icmp .ge 32, 3) := by decide +kernel
theorem dX3_score_38 : decode cX3_score 38 = .ok (.iload_n 3, 1) := by decide +kernel
theorem dX3_score_39 : decode cX3_score 39 = .ok (.iload 5, 2) := by decide +kernel
theorem dX3_score_41 : decode cX3_score 41 = .ok (.invokestatic 39, 3) := by decide +kernel
theorem dX3_score_44 : decode cX3_score 44 = .ok (.ifCond .eq 17, 3) := by decide +kernel
theorem dX3_score_47 : decode cX3_score 47 = .ok (.iload 4, 2) := by decide +kernel
theorem dX3_score_49 : decode cX3_score 49 = .ok (.aload_n 0, 1) := by decide +kernel
theorem dX3_score_50 : decode cX3_score 50 = .ok (.lload_n 1, 1) := by decide +kernel
theorem dX3_score_51 : decode cX3_score 51 = .ok (.iload 5, 2) := by decide +kernel
theorem dX3_score_53 : decode cX3_score 53 = .ok (.invokestatic 43, 3) := by decide +kernel
theorem dX3_score_56 : decode cX3_score 56 = .ok (.invokestatic 67, 3) := by decide +kernel
theorem dX3_score_59 : decode cX3_score 59 = .ok (.istore 4, 2) := by decide +kernel
theorem dX3_score_61 : decode cX3_score 61 = .ok (.iinc 5 1, 3) := by decide +kernel
theorem dX3_score_64 : decode cX3_score 64 = .ok (.goto (-33), 3) := by decide +kernel
theorem dX3_score_67 : decode cX3_score 67 = .ok (.iload 4, 2) := by decide +kernel
theorem dX3_score_69 : decode cX3_score 69 = .ok (.ireturn, 1) := by decide +kernel
set_option maxRecDepth 20000 in
theorem ggX3_scoreOfLetter_X2_with : GoodIn wsX3_scoreOfLetter wsX2_with := goodIn_r _ [4, 5, 6, 7, 3, 8, 9, 10, 11] (by decide +kernel) (by decide +kernel)
set_option maxRecDepth 20000 in
theorem gX3_scoreOfLetter_X2_with : GoodIn wsX3_scoreOfLetter (va_wsS RX3 71 yX2_with wsX2_with) := goodIn_app (goodIn_of _ (by decide +kernel)) ggX3_scoreOfLetter_X2_with
set_option maxRecDepth 20000 in
theorem ggX3_scoreOfLetter_X0_hasCounting : GoodIn wsX3_scoreOfLetter wsX0_hasCounting := goodIn_r _ [16, 17, 18, 19, 15, 20, 21, 22, 7, 3, 8, 23, 24, 25, 26, 27, 28, 29, 30, 31, 32, 77, 78, 79] (by decide +kernel) (by decide +kernel)
set_option maxRecDepth 20000 in
theorem gX3_scoreOfLetter_X0_hasCounting : GoodIn wsX3_scoreOfLetter (wsV RX3 75 RX0 yX0_hasCounting wsX0_hasCounting) := goodIn_app (goodIn_of _ (by decide +kernel)) ggX3_scoreOfLetter_X0_hasCounting
set_option maxRecDepth 20000 in
theorem ggX3_scoreOfLetter_X3_score : GoodIn wsX3_scoreOfLetter wsX3_score := goodIn_r _ [36, 37, 38, 39, 40, 41, 42, 3, 43, 6, 7, 8, 44, 45, 35, 46, 47, 48, 49, 15, 50, 31, 51, 52, 53, 54, 32, 55, 56, 57, 58, 18, 19, 20, 21, 22, 59, 60, 61, 62, 63, 64, 65, 66, 67, 5, 9, 10, 11, 68, 69, 70, 71, 72, 73, 74, 75, 76, 0, 1, 2, 4, 12, 13, 14, 16, 17, 23, 24, 25, 26, 27, 28, 29, 30, 33, 34, 77, 78, 79] (by decide +kernel) (by decide +kernel)
set_option maxRecDepth 20000 in
theorem gX3_scoreOfLetter_X3_score : GoodIn wsX3_scoreOfLetter (va_wsS RX3 47 yX3_score wsX3_score) := goodIn_app (goodIn_of _ (by decide +kernel)) ggX3_scoreOfLetter_X3_score
theorem dX3_scoreOfLetter_0 : decode cX3_scoreOfLetter 0 = .ok (.lload_n 1, 1) := by decide +kernel
theorem dX3_scoreOfLetter_1 : decode cX3_scoreOfLetter 1 = .ok (.iload_n 3, 1) := by decide +kernel
theorem dX3_scoreOfLetter_2 : decode cX3_scoreOfLetter 2 = .ok (.invokestatic 71, 3) := by decide +kernel
theorem dX3_scoreOfLetter_5 : decode cX3_scoreOfLetter 5 = .ok (.lstore 4, 2) := by decide +kernel
theorem dX3_scoreOfLetter_7 : decode cX3_scoreOfLetter 7 = .ok (.aload_n 0, 1) := by decide +kernel
theorem dX3_scoreOfLetter_8 : decode cX3_scoreOfLetter 8 = .ok (.lload 4, 2) := by decide +kernel
theorem dX3_scoreOfLetter_10 : decode cX3_scoreOfLetter 10 = .ok (.invokevirtual 75, 3) := by decide +kernel
theorem dX3_scoreOfLetter_13 : decode cX3_scoreOfLetter 13 = .ok (.ifCond .eq 8, 3) := by decide +kernel
theorem dX3_scoreOfLetter_16 : decode cX3_scoreOfLetter 16 = .ok (.bipush 100, 2) := by decide +kernel
theorem dX3_scoreOfLetter_18 : decode cX3_scoreOfLetter 18 = .ok (.goto 9, 3) := by decide +kernel
theorem dX3_scoreOfLetter_21 : decode cX3_scoreOfLetter 21 = .ok (.aload_n 0, 1) := by decide +kernel
theorem dX3_scoreOfLetter_22 : decode cX3_scoreOfLetter 22 = .ok (.lload 4, 2) := by decide +kernel
theorem dX3_scoreOfLetter_24 : decode cX3_scoreOfLetter 24 = .ok (.invokestatic 47, 3) := by decide +kernel
theorem dX3_scoreOfLetter_27 : decode cX3_scoreOfLetter 27 = .ok (.istore 6, 2) := by decide +kernel
theorem dX3_scoreOfLetter_29 : decode cX3_scoreOfLetter 29 = .ok (.iload 6, 2) := by decide +kernel
theorem dX3_scoreOfLetter_31 : decode cX3_scoreOfLetter 31 = .ok (.ifCond .le 10, 3) := by decide +kernel
theorem dX3_scoreOfLetter_34 : decode cX3_scoreOfLetter 34 = .ok (.iconst 1, 1) := by decide +kernel
theorem dX3_scoreOfLetter_35 : decode cX3_scoreOfLetter 35 = .ok (.iload 6, 2) := by decide +kernel
theorem dX3_scoreOfLetter_37 : decode cX3_scoreOfLetter 37 = .ok (.isub, 1) := by decide +kernel
theorem dX3_scoreOfLetter_38 : decode cX3_scoreOfLetter 38 = .ok (.goto 7, 3) := by decide +kernel
theorem dX3_scoreOfLetter_41 : decode cX3_scoreOfLetter 41 = .ok (.iconst (-1), 1) := by decide +kernel
theorem dX3_scoreOfLetter_42 : decode cX3_scoreOfLetter 42 = .ok (.iload 6, 2) := by decide +kernel
theorem dX3_scoreOfLetter_44 : decode cX3_scoreOfLetter 44 = .ok (.isub, 1) := by decide +kernel
theorem dX3_scoreOfLetter_45 : decode cX3_scoreOfLetter 45 = .ok (.ireturn, 1) := by decide +kernel
set_option maxRecDepth 20000 in
theorem ggX3_leadsOn_X0_isLongEnough : GoodIn wsX3_leadsOn wsX0_isLongEnough := goodIn_r _ [5, 6, 7, 8, 9, 10, 25, 26, 27] (by decide +kernel) (by decide +kernel)
set_option maxRecDepth 20000 in
theorem gX3_leadsOn_X0_isLongEnough : GoodIn wsX3_leadsOn (wsV RX3 78 RX0 yX0_isLongEnough wsX0_isLongEnough) := goodIn_app (goodIn_of _ (by decide +kernel)) ggX3_leadsOn_X0_isLongEnough
set_option maxRecDepth 20000 in
theorem ggX3_leadsOn_X2_goesOnBehind : GoodIn wsX3_leadsOn wsX2_goesOnBehind := goodIn_r _ [13, 14, 15, 9, 16, 17, 8, 10, 18, 19, 20, 21, 22, 23, 24] (by decide +kernel) (by decide +kernel)
set_option maxRecDepth 20000 in
theorem gX3_leadsOn_X2_goesOnBehind : GoodIn wsX3_leadsOn (va_wsS RX3 81 yX2_goesOnBehind wsX2_goesOnBehind) := goodIn_app (goodIn_of _ (by decide +kernel)) ggX3_leadsOn_X2_goesOnBehind
theorem dX3_leadsOn_0 : decode cX3_leadsOn 0 = .ok (.aload_n 0, 1) := by decide +kernel
theorem dX3_leadsOn_1 : decode cX3_leadsOn 1 = .ok (.lload_n 1, 1) := by decide +kernel
theorem dX3_leadsOn_2 : decode cX3_leadsOn 2 = .ok (.invokevirtual 78, 3) := by decide +kernel
theorem dX3_leadsOn_5 : decode cX3_leadsOn 5 = .ok (.ifCond .eq 15, 3) := by decide +kernel
theorem dX3_leadsOn_8 : decode cX3_leadsOn 8 = .ok (.lload_n 1, 1) := by decide +kernel
theorem dX3_leadsOn_9 : decode cX3_leadsOn 9 = .ok (.lload_n 3, 1) := by decide +kernel
theorem dX3_leadsOn_10 : decode cX3_leadsOn 10 = .ok (.invokestatic 81, 3) := by decide +kernel
theorem dX3_leadsOn_13 : decode cX3_leadsOn 13 = .ok (.ifCond .eq 7, 3) := by decide +kernel
theorem dX3_leadsOn_16 : decode cX3_leadsOn 16 = .ok (.iconst 1, 1) := by decide +kernel
theorem dX3_leadsOn_17 : decode cX3_leadsOn 17 = .ok (.goto 4, 3) := by decide +kernel
theorem dX3_leadsOn_20 : decode cX3_leadsOn 20 = .ok (.iconst 0, 1) := by decide +kernel
theorem dX3_leadsOn_21 : decode cX3_leadsOn 21 = .ok (.ireturn, 1) := by decide +kernel
set_option maxRecDepth 20000 in
theorem ggX3_isWay_X3_leadsOn : GoodIn wsX3_isWay wsX3_leadsOn := goodIn_r _ [4, 5, 6, 7, 8, 9, 10, 11, 12, 13, 14, 15, 16, 17, 18, 19, 20, 21, 22, 23, 24, 25, 26, 27, 28, 46, 47, 48] (by decide +kernel) (by decide +kernel)
set_option maxRecDepth 20000 in
theorem gX3_isWay_X3_leadsOn : GoodIn wsX3_isWay (va_wsS RX3 19 yX3_leadsOn wsX3_leadsOn) := goodIn_app (goodIn_of _ (by decide +kernel)) ggX3_isWay_X3_leadsOn
set_option maxRecDepth 20000 in
theorem ggX3_isWay_X2_lengthOf : GoodIn wsX3_isWay wsX2_lengthOf := goodIn_r _ [14] (by decide +kernel) (by decide +kernel)
set_option maxRecDepth 20000 in
theorem gX3_isWay_X2_lengthOf : GoodIn wsX3_isWay (va_wsS RX3 25 yX2_lengthOf wsX2_lengthOf) := goodIn_app (goodIn_of _ (by decide +kernel)) ggX3_isWay_X2_lengthOf
set_option maxRecDepth 20000 in
theorem ggX3_isWay_X2_beginning : GoodIn wsX3_isWay wsX2_beginning := goodIn_r _ [24, 25, 21, 12, 13, 14, 26, 27, 28] (by decide +kernel) (by decide +kernel)
set_option maxRecDepth 20000 in
theorem gX3_isWay_X2_beginning : GoodIn wsX3_isWay (va_wsS RX3 84 yX2_beginning wsX2_beginning) := goodIn_app (goodIn_of _ (by decide +kernel)) ggX3_isWay_X2_beginning
set_option maxRecDepth 20000 in
theorem ggX3_isWay_X0_hasCounting : GoodIn wsX3_isWay wsX0_hasCounting := goodIn_r _ [34, 35, 6, 7, 8, 9, 10, 11, 12, 13, 14, 36, 37, 38, 39, 40, 41, 42, 43, 44, 45, 46, 47, 48] (by decide +kernel) (by decide +kernel)
set_option maxRecDepth 20000 in
theorem gX3_isWay_X0_hasCounting : GoodIn wsX3_isWay (wsV RX3 75 RX0 yX0_hasCounting wsX0_hasCounting) := goodIn_app (goodIn_of _ (by decide +kernel)) ggX3_isWay_X0_hasCounting
theorem dX3_isWay_0 : decode cX3_isWay 0 = .ok (.aload_n 0, 1) := by decide +kernel
theorem dX3_isWay_1 : decode cX3_isWay 1 = .ok (.lload_n 1, 1) := by decide +kernel
theorem dX3_isWay_2 : decode cX3_isWay 2 = .ok (.lload_n 3, 1) := by decide +kernel
theorem dX3_isWay_3 : decode cX3_isWay 3 = .ok (.invokestatic 19, 3) := by decide +kernel
theorem dX3_isWay_6 : decode cX3_isWay 6 = .ok (.ifCond .ne 5, 3) := by decide +kernel
theorem dX3_isWay_9 : decode cX3_isWay 9 = .ok (.iconst 0, 1) := by decide +kernel
theorem dX3_isWay_10 : decode cX3_isWay 10 = .ok (.ireturn, 1) := by decide +kernel
theorem dX3_isWay_11 : decode cX3_isWay 11 = .ok (.lload_n 3, 1) := by decide +kernel
theorem dX3_isWay_12 : decode cX3_isWay 12 = .ok (.invokestatic 25, 3) := by decide +kernel
theorem dX3_isWay_15 : decode cX3_isWay 15 = .ok (.iconst 1, 1) := by decide +kernel
theorem dX3_isWay_16 : decode cX3_isWay 16 = .ok (.iadd, 1) := by decide +kernel
theorem dX3_isWay_17 : decode cX3_isWay 17 = .ok (.istore 5, 2) := by decide +kernel
theorem dX3_isWay_19 : decode cX3_isWay 19 = .ok (.iload 5, 2) := by decide +kernel
theorem dX3_isWay_21 : decode cX3_isWay 21 = .ok (.lload_n 1, 1) := by decide +kernel
theorem dX3_isWay_22 : decode cX3_isWay 22 = .ok (.invokestatic 25, 3) := by decide +kernel
theorem dX3_isWay_25 : decode cX3_isWay 25 = .ok (.if_icmp .ge 24, 3) := by decide +kernel
theorem dX3_isWay_28 : decode cX3_isWay 28 = .ok (.aload_n 0, 1) := by decide +kernel
theorem dX3_isWay_29 : decode cX3_isWay 29 = .ok (.lload_n 1, 1) := by decide +kernel
theorem dX3_isWay_30 : decode cX3_isWay 30 = .ok (.iload 5, 2) := by decide +kernel
theorem dX3_isWay_32 : decode cX3_isWay 32 = .ok (.invokestatic 84, 3) := by decide +kernel
theorem dX3_isWay_35 : decode cX3_isWay 35 = .ok (.invokevirtual 75, 3) := by decide +kernel
theorem dX3_isWay_38 : decode cX3_isWay 38 = .ok (.ifCond .eq 5, 3) := by decide +kernel
theorem dX3_isWay_41 : decode cX3_isWay 41 = .ok (.iconst 0, 1) := by decide +kernel
theorem dX3_isWay_42 : decode cX3_isWay 42 = .ok (.ireturn, 1) := by decide +kernel
theorem dX3_isWay_43 : decode cX3_isWay 43 = .ok (.iinc 5 1, 3) := by decide +kernel
theorem dX3_isWay_46 : decode cX3_isWay 46 = .ok (.goto (-27), 3) := by decide +kernel
theorem dX3_isWay_49 : decode cX3_isWay 49 = .ok (.iconst 1, 1) := by decide +kernel
theorem dX3_isWay_50 : decode cX3_isWay 50 = .ok (.ireturn, 1) := by decide +kernel
set_option maxRecDepth 20000 in
theorem ggX3_otherSideCompletes_X2_lengthOf : GoodIn wsX3_otherSideCompletes wsX2_lengthOf := goodIn_r _ [4] (by decide +kernel) (by decide +kernel)
set_option maxRecDepth 20000 in
theorem gX3_otherSideCompletes_X2_lengthOf : GoodIn wsX3_otherSideCompletes (va_wsS RX3 25 yX2_lengthOf wsX2_lengthOf) := goodIn_app (goodIn_of _ (by decide +kernel)) ggX3_otherSideCompletes_X2_lengthOf
theorem dX3_otherSideCompletes_0 : decode cX3_otherSideCompletes 0 = .ok (.lload_n 0, 1) := by decide +kernel
theorem dX3_otherSideCompletes_1 : decode cX3_otherSideCompletes 1 = .ok (.invokestatic 25, 3) := by decide +kernel
theorem dX3_otherSideCompletes_4 : decode cX3_otherSideCompletes 4 = .ok (.lload_n 2, 1) := by decide +kernel
theorem dX3_otherSideCompletes_5 : decode cX3_otherSideCompletes 5 = .ok (.invokestatic 25, 3) := by decide +kernel
theorem dX3_otherSideCompletes_8 : decode cX3_otherSideCompletes 8 = .ok (.isub, 1) := by decide +kernel
theorem dX3_otherSideCompletes_9 : decode cX3_otherSideCompletes 9 = .ok (.iconst 2, 1) := by decide +kernel
theorem dX3_otherSideCompletes_10 : decode cX3_otherSideCompletes 10 = .ok (.irem, 1) := by decide +kernel
theorem dX3_otherSideCompletes_11 : decode cX3_otherSideCompletes 11 = .ok (.ifCond .ne 7, 3) := by decide +kernel
theorem dX3_otherSideCompletes_14 : decode cX3_otherSideCompletes 14 = .ok (.iconst 1, 1) := by decide +kernel
theorem dX3_otherSideCompletes_15 : decode cX3_otherSideCompletes 15 = .ok (.goto 4, 3) := by decide +kernel
theorem dX3_otherSideCompletes_18 : decode cX3_otherSideCompletes 18 = .ok (.iconst 0, 1) := by decide +kernel
theorem dX3_otherSideCompletes_19 : decode cX3_otherSideCompletes 19 = .ok (.ireturn, 1) := by decide +kernel
theorem dX3_isIn_0 : decode cX3_isIn 0 = .ok (.iload_n 0, 1) := by decide +kernel
theorem dX3_isIn_1 : decode cX3_isIn 1 = .ok (.iload_n 1, 1) := by decide +kernel
theorem dX3_isIn_2 : decode cX3_isIn 2 = .ok (.ishr, 1) := by decide +kernel
theorem dX3_isIn_3 : decode cX3_isIn 3 = .ok (.iconst 1, 1) := by decide +kernel
theorem dX3_isIn_4 : decode cX3_isIn 4 = .ok (.iand, 1) := by decide +kernel
theorem dX3_isIn_5 : decode cX3_isIn 5 = .ok (.ifCond .eq 7, 3) := by decide +kernel
theorem dX3_isIn_8 : decode cX3_isIn 8 = .ok (.iconst 1, 1) := by decide +kernel
theorem dX3_isIn_9 : decode cX3_isIn 9 = .ok (.goto 4, 3) := by decide +kernel
theorem dX3_isIn_12 : decode cX3_isIn 12 = .ok (.iconst 0, 1) := by decide +kernel
theorem dX3_isIn_13 : decode cX3_isIn 13 = .ok (.ireturn, 1) := by decide +kernel
set_option maxRecDepth 20000 in
theorem ggX4_init_X0_init : GoodIn wsX4_init wsX0_init := goodIn_r _ [15, 16, 2, 3, 17, 18, 19, 20, 32, 33, 34] (by decide +kernel) (by decide +kernel)
set_option maxRecDepth 20000 in
theorem gX4_init_X0_init : GoodIn wsX4_init (wsX0_init) := ggX4_init_X0_init
set_option maxRecDepth 20000 in
theorem ggX4_init_X1_init : GoodIn wsX4_init wsX1_init := goodIn_r _ [23, 24, 2, 3, 25, 26, 27, 28, 29, 30, 31, 38, 39, 40, 41, 42, 43] (by decide +kernel) (by decide +kernel)
set_option maxRecDepth 20000 in
theorem gX4_init_X1_init : GoodIn wsX4_init (wsX1_init) := ggX4_init_X1_init
theorem dX4_init_0 : decode cX4_init 0 = .ok (.aload_n 0, 1) := by decide +kernel
theorem dX4_init_1 : decode cX4_init 1 = .ok (.invokespecial 1, 3) := by decide +kernel
theorem dX4_init_4 : decode cX4_init 4 = .ok (.aload_n 0, 1) := by decide +kernel
theorem dX4_init_5 : decode cX4_init 5 = .ok (.new 7, 3) := by decide +kernel
theorem dX4_init_8 : decode cX4_init 8 = .ok (.dup, 1) := by decide +kernel
theorem dX4_init_9 : decode cX4_init 9 = .ok (.invokespecial 9, 3) := by decide +kernel
theorem dX4_init_12 : decode cX4_init 12 = .ok (.putfield 10, 3) := by decide +kernel
theorem dX4_init_15 : decode cX4_init 15 = .ok (.aload_n 0, 1) := by decide +kernel
theorem dX4_init_16 : decode cX4_init 16 = .ok (.new 16, 3) := by decide +kernel
theorem dX4_init_19 : decode cX4_init 19 = .ok (.dup, 1) := by decide +kernel
theorem dX4_init_20 : decode cX4_init 20 = .ok (.invokespecial 18, 3) := by decide +kernel
theorem dX4_init_23 : decode cX4_init 23 = .ok (.putfield 19, 3) := by decide +kernel
theorem dX4_init_26 : decode cX4_init 26 = .ok (.aload_n 0, 1) := by decide +kernel
theorem dX4_init_27 : decode cX4_init 27 = .ok (.lconst 0, 1) := by decide +kernel
theorem dX4_init_28 : decode cX4_init 28 = .ok (.putfield 25, 3) := by decide +kernel
theorem dX4_init_31 : decode cX4_init 31 = .ok (.return_, 1) := by decide +kernel
set_option maxRecDepth 20000 in
theorem ggX4_write_X4_isLetter : GoodIn wsX4_write wsX4_isLetter := goodIn_r _ [9] (by decide +kernel) (by decide +kernel)
set_option maxRecDepth 20000 in
theorem gX4_write_X4_isLetter : GoodIn wsX4_write (va_wsS RX4 29 yX4_isLetter wsX4_isLetter) := goodIn_app (goodIn_of _ (by decide +kernel)) ggX4_write_X4_isLetter
set_option maxRecDepth 20000 in
theorem ggX4_write_X2_isFull : GoodIn wsX4_write wsX2_isFull := goodIn_r _ [13, 14, 15, 12, 16] (by decide +kernel) (by decide +kernel)
set_option maxRecDepth 20000 in
theorem gX4_write_X2_isFull : GoodIn wsX4_write (va_wsS RX4 40 yX2_isFull wsX2_isFull) := goodIn_app (goodIn_of _ (by decide +kernel)) ggX4_write_X2_isFull
set_option maxRecDepth 20000 in
theorem ggX4_write_X2_with : GoodIn wsX4_write wsX2_with := goodIn_r _ [19, 20, 14, 15, 12, 16, 21, 22, 23] (by decide +kernel) (by decide +kernel)
set_option maxRecDepth 20000 in
theorem gX4_write_X2_with : GoodIn wsX4_write (va_wsS RX4 49 yX2_with wsX2_with) := goodIn_app (goodIn_of _ (by decide +kernel)) ggX4_write_X2_with
set_option maxRecDepth 20000 in
theorem ggX4_write_X2_lengthOf : GoodIn wsX4_write wsX2_lengthOf := goodIn_r _ [16] (by decide +kernel) (by decide +kernel)
set_option maxRecDepth 20000 in
theorem gX4_write_X2_lengthOf : GoodIn wsX4_write (va_wsS RX4 53 yX2_lengthOf wsX2_lengthOf) := goodIn_app (goodIn_of _ (by decide +kernel)) ggX4_write_X2_lengthOf
theorem dX4_write_0 : decode cX4_write 0 = .ok (.iload_n 1, 1) := by decide +kernel
theorem dX4_write_1 : decode cX4_write 1 = .ok (.invokestatic 29, 3) := by decide +kernel
theorem dX4_write_4 : decode cX4_write 4 = .ok (.ifCond .ne 13, 3) := by decide +kernel
theorem dX4_write_7 : decode cX4_write 7 = .ok (.new 33, 3) := by decide +kernel
theorem dX4_write_10 : decode cX4_write 10 = .ok (.dup, 1) := by decide +kernel
theorem dX4_write_11 : decode cX4_write 11 = .ok (.ldc 35, 2) := by decide +kernel
theorem dX4_write_13 : decode cX4_write 13 = .ok (.invokespecial 37, 3) := by decide +kernel
theorem dX4_write_16 : decode cX4_write 16 = .ok (.athrow, 1) := by decide +kernel
theorem dX4_write_17 : decode cX4_write 17 = .ok (.aload_n 0, 1) := by decide +kernel
theorem dX4_write_18 : decode cX4_write 18 = .ok (.getfield 25, 3) := by decide +kernel
theorem dX4_write_21 : decode cX4_write 21 = .ok (.invokestatic 40, 3) := by decide +kernel
theorem dX4_write_24 : decode cX4_write 24 = .ok (.ifCond .eq 13, 3) := by decide +kernel
theorem dX4_write_27 : decode cX4_write 27 = .ok (.new 44, 3) := by decide +kernel
theorem dX4_write_30 : decode cX4_write 30 = .ok (.dup, 1) := by decide +kernel
theorem dX4_write_31 : decode cX4_write 31 = .ok (.ldc 46, 2) := by decide +kernel
theorem dX4_write_33 : decode cX4_write 33 = .ok (.invokespecial 48, 3) := by decide +kernel
theorem dX4_write_36 : decode cX4_write 36 = .ok (.athrow, 1) := by decide +kernel
theorem dX4_write_37 : decode cX4_write 37 = .ok (.aload_n 0, 1) := by decide +kernel
theorem dX4_write_38 : decode cX4_write 38 = .ok (.aload_n 0, 1) := by decide +kernel
theorem dX4_write_39 : decode cX4_write 39 = .ok (.getfield 25, 3) := by decide +kernel
theorem dX4_write_42 : decode cX4_write 42 = .ok (.iload_n 1, 1) := by decide +kernel
theorem dX4_write_43 : decode cX4_write 43 = .ok (.invokestatic 49, 3) := by decide +kernel
theorem dX4_write_46 : decode cX4_write 46 = .ok (.putfield 25, 3) := by decide +kernel
theorem dX4_write_49 : decode cX4_write 49 = .ok (.aload_n 0, 1) := by decide +kernel
theorem dX4_write_50 : decode cX4_write 50 = .ok (.getfield 25, 3) := by decide +kernel
theorem dX4_write_53 : decode cX4_write 53 = .ok (.invokestatic 53, 3) := by decide +kernel
theorem dX4_write_56 : decode cX4_write 56 = .ok (.ireturn, 1) := by decide +kernel
set_option maxRecDepth 20000 in
theorem ggX4_wipe_X2_lengthOf : GoodIn wsX4_wipe wsX2_lengthOf := goodIn_r _ [5] (by decide +kernel) (by decide +kernel)
set_option maxRecDepth 20000 in
theorem gX4_wipe_X2_lengthOf : GoodIn wsX4_wipe (va_wsS RX4 53 yX2_lengthOf wsX2_lengthOf) := goodIn_app (goodIn_of _ (by decide +kernel)) ggX4_wipe_X2_lengthOf
theorem dX4_wipe_0 : decode cX4_wipe 0 = .ok (.aload_n 0, 1) := by decide +kernel
theorem dX4_wipe_1 : decode cX4_wipe 1 = .ok (.getfield 25, 3) := by decide +kernel
theorem dX4_wipe_4 : decode cX4_wipe 4 = .ok (.invokestatic 53, 3) := by decide +kernel
theorem dX4_wipe_7 : decode cX4_wipe 7 = .ok (.istore_n 1, 1) := by decide +kernel
theorem dX4_wipe_8 : decode cX4_wipe 8 = .ok (.aload_n 0, 1) := by decide +kernel
theorem dX4_wipe_9 : decode cX4_wipe 9 = .ok (.lconst 0, 1) := by decide +kernel
theorem dX4_wipe_10 : decode cX4_wipe 10 = .ok (.putfield 25, 3) := by decide +kernel
theorem dX4_wipe_13 : decode cX4_wipe 13 = .ok (.iload_n 1, 1) := by decide +kernel
theorem dX4_wipe_14 : decode cX4_wipe 14 = .ok (.ireturn, 1) := by decide +kernel
set_option maxRecDepth 20000 in
theorem ggX4_slipLength_X2_lengthOf : GoodIn wsX4_slipLength wsX2_lengthOf := goodIn_r _ [5] (by decide +kernel) (by decide +kernel)
set_option maxRecDepth 20000 in
theorem gX4_slipLength_X2_lengthOf : GoodIn wsX4_slipLength (va_wsS RX4 53 yX2_lengthOf wsX2_lengthOf) := goodIn_app (goodIn_of _ (by decide +kernel)) ggX4_slipLength_X2_lengthOf
theorem dX4_slipLength_0 : decode cX4_slipLength 0 = .ok (.aload_n 0, 1) := by decide +kernel
theorem dX4_slipLength_1 : decode cX4_slipLength 1 = .ok (.getfield 25, 3) := by decide +kernel
theorem dX4_slipLength_4 : decode cX4_slipLength 4 = .ok (.invokestatic 53, 3) := by decide +kernel
theorem dX4_slipLength_7 : decode cX4_slipLength 7 = .ok (.ireturn, 1) := by decide +kernel
set_option maxRecDepth 20000 in
theorem ggX4_slipAt_X2_letterAt : GoodIn wsX4_slipAt wsX2_letterAt := goodIn_r _ [7, 8, 9, 6, 10] (by decide +kernel) (by decide +kernel)
set_option maxRecDepth 20000 in
theorem gX4_slipAt_X2_letterAt : GoodIn wsX4_slipAt (va_wsS RX4 57 yX2_letterAt wsX2_letterAt) := goodIn_app (goodIn_of _ (by decide +kernel)) ggX4_slipAt_X2_letterAt
theorem dX4_slipAt_0 : decode cX4_slipAt 0 = .ok (.aload_n 0, 1) := by decide +kernel
theorem dX4_slipAt_1 : decode cX4_slipAt 1 = .ok (.getfield 25, 3) := by decide +kernel
theorem dX4_slipAt_4 : decode cX4_slipAt 4 = .ok (.iload_n 1, 1) := by decide +kernel
theorem dX4_slipAt_5 : decode cX4_slipAt 5 = .ok (.invokestatic 57, 3) := by decide +kernel
theorem dX4_slipAt_8 : decode cX4_slipAt 8 = .ok (.istore_n 2, 1) := by decide +kernel
theorem dX4_slipAt_9 : decode cX4_slipAt 9 = .ok (.iload_n 2, 1) := by decide +kernel
theorem dX4_slipAt_10 : decode cX4_slipAt 10 = .ok (.iconst (-1), 1) := by decide +kernel
theorem dX4_slipAt_11 : decode cX4_slipAt 11 = .ok (.if_icmp .ne 13, 3) := by decide +kernel
theorem dX4_slipAt_14 : decode cX4_slipAt 14 = .ok (.new 61, 3) := by decide +kernel
theorem dX4_slipAt_17 : decode cX4_slipAt 17 = .ok (.dup, 1) := by decide +kernel
theorem dX4_slipAt_18 : decode cX4_slipAt 18 = .ok (.ldc 63, 2) := by decide +kernel
theorem dX4_slipAt_20 : decode cX4_slipAt 20 = .ok (.invokespecial 65, 3) := by decide +kernel
theorem dX4_slipAt_23 : decode cX4_slipAt 23 = .ok (.athrow, 1) := by decide +kernel
theorem dX4_slipAt_24 : decode cX4_slipAt 24 = .ok (.iload_n 2, 1) := by decide +kernel
theorem dX4_slipAt_25 : decode cX4_slipAt 25 = .ok (.ireturn, 1) := by decide +kernel
set_option maxRecDepth 20000 in
theorem ggX4_addWord_X2_lengthOf : GoodIn wsX4_addWord wsX2_lengthOf := goodIn_r _ [10] (by decide +kernel) (by decide +kernel)
set_option maxRecDepth 20000 in
theorem gX4_addWord_X2_lengthOf : GoodIn wsX4_addWord (va_wsS RX4 53 yX2_lengthOf wsX2_lengthOf) := goodIn_app (goodIn_of _ (by decide +kernel)) ggX4_addWord_X2_lengthOf
set_option maxRecDepth 20000 in
theorem ggX4_addWord_X0_add : GoodIn wsX4_addWord wsX0_add := goodIn_r _ [15, 16, 17, 18, 19, 20, 14, 21, 22, 23, 24, 25, 33, 34, 35] (by decide +kernel) (by decide +kernel)
set_option maxRecDepth 20000 in
theorem gX4_addWord_X0_add : GoodIn wsX4_addWord (wsV RX4 68 RX0 yX0_add wsX0_add) := goodIn_app (goodIn_of _ (by decide +kernel)) ggX4_addWord_X0_add
set_option maxRecDepth 20000 in
theorem ggX4_addWord_X0_size : GoodIn wsX4_addWord wsX0_size := goodIn_r _ [29, 16, 33, 34, 35] (by decide +kernel) (by decide +kernel)
set_option maxRecDepth 20000 in
theorem gX4_addWord_X0_size : GoodIn wsX4_addWord (wsV RX4 73 RX0 yX0_size wsX0_size) := goodIn_app (goodIn_of _ (by decide +kernel)) ggX4_addWord_X0_size
theorem dX4_addWord_0 : decode cX4_addWord 0 = .ok (.aload_n 0, 1) := by decide +kernel
theorem dX4_addWord_1 : decode cX4_addWord 1 = .ok (.getfield 25, 3) := by decide +kernel
theorem dX4_addWord_4 : decode cX4_addWord 4 = .ok (.invokestatic 53, 3) := by decide +kernel
theorem dX4_addWord_7 : decode cX4_addWord 7 = .ok (.iconst 2, 1) := by decide +kernel
theorem dX4_addWord_8 : decode cX4_addWord 8 = .ok (.if_icmp .ge 13, 3) := by decide +kernel
theorem dX4_addWord_11 : decode cX4_addWord 11 = .ok (.new 33, 3) := by decide +kernel
theorem dX4_addWord_14 : decode cX4_addWord 14 = .ok (.dup, 1) := by decide +kernel
theorem dX4_addWord_15 : decode cX4_addWord 15 = .ok (.ldc 66, 2) := by decide +kernel
theorem dX4_addWord_17 : decode cX4_addWord 17 = .ok (.invokespecial 37, 3) := by decide +kernel
theorem dX4_addWord_20 : decode cX4_addWord 20 = .ok (.athrow, 1) := by decide +kernel
theorem dX4_addWord_21 : decode cX4_addWord 21 = .ok (.aload_n 0, 1) := by decide +kernel
theorem dX4_addWord_22 : decode cX4_addWord 22 = .ok (.getfield 10, 3) := by decide +kernel
theorem dX4_addWord_25 : decode cX4_addWord 25 = .ok (.aload_n 0, 1) := by decide +kernel
theorem dX4_addWord_26 : decode cX4_addWord 26 = .ok (.getfield 25, 3) := by decide +kernel
theorem dX4_addWord_29 : decode cX4_addWord 29 = .ok (.invokevirtual 68, 3) := by decide +kernel
theorem dX4_addWord_32 : decode cX4_addWord 32 = .ok (.ifCond .ne 13, 3) := by decide +kernel
theorem dX4_addWord_35 : decode cX4_addWord 35 = .ok (.new 44, 3) := by decide +kernel
theorem dX4_addWord_38 : decode cX4_addWord 38 = .ok (.dup, 1) := by decide +kernel
theorem dX4_addWord_39 : decode cX4_addWord 39 = .ok (.ldc 71, 2) := by decide +kernel
theorem dX4_addWord_41 : decode cX4_addWord 41 = .ok (.invokespecial 48, 3) := by decide +kernel
theorem dX4_addWord_44 : decode cX4_addWord 44 = .ok (.athrow, 1) := by decide +kernel
theorem dX4_addWord_45 : decode cX4_addWord 45 = .ok (.aload_n 0, 1) := by decide +kernel
theorem dX4_addWord_46 : decode cX4_addWord 46 = .ok (.getfield 10, 3) := by decide +kernel
theorem dX4_addWord_49 : decode cX4_addWord 49 = .ok (.invokevirtual 73, 3) := by decide +kernel
theorem dX4_addWord_52 : decode cX4_addWord 52 = .ok (.ireturn, 1) := by decide +kernel
set_option maxRecDepth 20000 in
theorem ggX4_removeWord_X0_remove : GoodIn wsX4_removeWord wsX0_remove := goodIn_r _ [9, 10, 11, 12, 13, 14, 8, 15, 23, 24, 25] (by decide +kernel) (by decide +kernel)
set_option maxRecDepth 20000 in
theorem gX4_removeWord_X0_remove : GoodIn wsX4_removeWord (wsV RX4 77 RX0 yX0_remove wsX0_remove) := goodIn_app (goodIn_of _ (by decide +kernel)) ggX4_removeWord_X0_remove
set_option maxRecDepth 20000 in
theorem ggX4_removeWord_X0_size : GoodIn wsX4_removeWord wsX0_size := goodIn_r _ [19, 10, 23, 24, 25] (by decide +kernel) (by decide +kernel)
set_option maxRecDepth 20000 in
theorem gX4_removeWord_X0_size : GoodIn wsX4_removeWord (wsV RX4 73 RX0 yX0_size wsX0_size) := goodIn_app (goodIn_of _ (by decide +kernel)) ggX4_removeWord_X0_size
theorem dX4_removeWord_0 : decode cX4_removeWord 0 = .ok (.aload_n 0, 1) := by decide +kernel
theorem dX4_removeWord_1 : decode cX4_removeWord 1 = .ok (.getfield 10, 3) := by decide +kernel
theorem dX4_removeWord_4 : decode cX4_removeWord 4 = .ok (.aload_n 0, 1) := by decide +kernel
theorem dX4_removeWord_5 : decode cX4_removeWord 5 = .ok (.getfield 25, 3) := by decide +kernel
theorem dX4_removeWord_8 : decode cX4_removeWord 8 = .ok (.invokevirtual 77, 3) := by decide +kernel
theorem dX4_removeWord_11 : decode cX4_removeWord 11 = .ok (.ifCond .ne 13, 3) := by decide +kernel
theorem dX4_removeWord_14 : decode cX4_removeWord 14 = .ok (.new 44, 3) := by decide +kernel
theorem dX4_removeWord_17 : decode cX4_removeWord 17 = .ok (.dup, 1) := by decide +kernel
theorem dX4_removeWord_18 : decode cX4_removeWord 18 = .ok (.ldc 80, 2) := by decide +kernel
theorem dX4_removeWord_20 : decode cX4_removeWord 20 = .ok (.invokespecial 48, 3) := by decide +kernel
theorem dX4_removeWord_23 : decode cX4_removeWord 23 = .ok (.athrow, 1) := by decide +kernel
theorem dX4_removeWord_24 : decode cX4_removeWord 24 = .ok (.aload_n 0, 1) := by decide +kernel
theorem dX4_removeWord_25 : decode cX4_removeWord 25 = .ok (.getfield 10, 3) := by decide +kernel
theorem dX4_removeWord_28 : decode cX4_removeWord 28 = .ok (.invokevirtual 73, 3) := by decide +kernel
theorem dX4_removeWord_31 : decode cX4_removeWord 31 = .ok (.ireturn, 1) := by decide +kernel
set_option maxRecDepth 20000 in
theorem ggX4_isWord_X0_has : GoodIn wsX4_isWord wsX0_has := goodIn_r _ [7, 8, 9, 10, 6, 11, 12, 13, 17, 18, 19] (by decide +kernel) (by decide +kernel)
set_option maxRecDepth 20000 in
theorem gX4_isWord_X0_has : GoodIn wsX4_isWord (wsV RX4 82 RX0 yX0_has wsX0_has) := goodIn_app (goodIn_of _ (by decide +kernel)) ggX4_isWord_X0_has
theorem dX4_isWord_0 : decode cX4_isWord 0 = .ok (.aload_n 0, 1) := by decide +kernel
theorem dX4_isWord_1 : decode cX4_isWord 1 = .ok (.getfield 10, 3) := by decide +kernel
theorem dX4_isWord_4 : decode cX4_isWord 4 = .ok (.aload_n 0, 1) := by decide +kernel
theorem dX4_isWord_5 : decode cX4_isWord 5 = .ok (.getfield 25, 3) := by decide +kernel
theorem dX4_isWord_8 : decode cX4_isWord 8 = .ok (.invokevirtual 82, 3) := by decide +kernel
theorem dX4_isWord_11 : decode cX4_isWord 11 = .ok (.ireturn, 1) := by decide +kernel
set_option maxRecDepth 20000 in
theorem ggX4_words_X0_size : GoodIn wsX4_words wsX0_size := goodIn_r _ [6, 7, 11, 12, 13] (by decide +kernel) (by decide +kernel)
set_option maxRecDepth 20000 in
theorem gX4_words_X0_size : GoodIn wsX4_words (wsV RX4 73 RX0 yX0_size wsX0_size) := goodIn_app (goodIn_of _ (by decide +kernel)) ggX4_words_X0_size
theorem dX4_words_0 : decode cX4_words 0 = .ok (.aload_n 0, 1) := by decide +kernel
theorem dX4_words_1 : decode cX4_words 1 = .ok (.getfield 10, 3) := by decide +kernel
theorem dX4_words_4 : decode cX4_words 4 = .ok (.invokevirtual 73, 3) := by decide +kernel
theorem dX4_words_7 : decode cX4_words 7 = .ok (.ireturn, 1) := by decide +kernel
set_option maxRecDepth 20000 in
theorem ggX4_wordsFromSlip_X0_countFrom : GoodIn wsX4_wordsFromSlip wsX0_countFrom := goodIn_r _ [7, 8, 9, 10, 11, 12, 13, 14, 15, 16, 17, 18, 19, 20, 21, 22, 23, 27, 28, 29] (by decide +kernel) (by decide +kernel)
set_option maxRecDepth 20000 in
theorem gX4_wordsFromSlip_X0_countFrom : GoodIn wsX4_wordsFromSlip (wsV RX4 85 RX0 yX0_countFrom wsX0_countFrom) := goodIn_app (goodIn_of _ (by decide +kernel)) ggX4_wordsFromSlip_X0_countFrom
theorem dX4_wordsFromSlip_0 : decode cX4_wordsFromSlip 0 = .ok (.aload_n 0, 1) := by decide +kernel
theorem dX4_wordsFromSlip_1 : decode cX4_wordsFromSlip 1 = .ok (.getfield 10, 3) := by decide +kernel
theorem dX4_wordsFromSlip_4 : decode cX4_wordsFromSlip 4 = .ok (.aload_n 0, 1) := by decide +kernel
theorem dX4_wordsFromSlip_5 : decode cX4_wordsFromSlip 5 = .ok (.getfield 25, 3) := by decide +kernel
theorem dX4_wordsFromSlip_8 : decode cX4_wordsFromSlip 8 = .ok (.invokevirtual 85, 3) := by decide +kernel
theorem dX4_wordsFromSlip_11 : decode cX4_wordsFromSlip 11 = .ok (.ireturn, 1) := by decide +kernel
set_option maxRecDepth 20000 in
theorem ggX4_beginnings_X0_countBeginnings : GoodIn wsX4_beginnings wsX0_countBeginnings := goodIn_r _ [6, 7, 8, 9, 10, 11, 12, 13, 14, 15, 5, 16, 17, 18, 19, 20, 21, 22, 23, 24, 25, 26, 27, 28, 29, 30, 31, 32, 33, 34, 38, 39, 40] (by decide +kernel) (by decide +kernel)
set_option maxRecDepth 20000 in
theorem gX4_beginnings_X0_countBeginnings : GoodIn wsX4_beginnings (wsV RX4 88 RX0 yX0_countBeginnings wsX0_countBeginnings) := goodIn_app (goodIn_of _ (by decide +kernel)) ggX4_beginnings_X0_countBeginnings
theorem dX4_beginnings_0 : decode cX4_beginnings 0 = .ok (.aload_n 0, 1) := by decide +kernel
theorem dX4_beginnings_1 : decode cX4_beginnings 1 = .ok (.getfield 10, 3) := by decide +kernel
theorem dX4_beginnings_4 : decode cX4_beginnings 4 = .ok (.invokevirtual 88, 3) := by decide +kernel
theorem dX4_beginnings_7 : decode cX4_beginnings 7 = .ok (.ireturn, 1) := by decide +kernel
set_option maxRecDepth 20000 in
theorem ggX4_copyWord_X0_wordAt : GoodIn wsX4_copyWord wsX0_wordAt := goodIn_r _ [9, 10, 11, 19, 20, 21] (by decide +kernel) (by decide +kernel)
set_option maxRecDepth 20000 in
theorem gX4_copyWord_X0_wordAt : GoodIn wsX4_copyWord (wsV RX4 91 RX0 yX0_wordAt wsX0_wordAt) := goodIn_app (goodIn_of _ (by decide +kernel)) ggX4_copyWord_X0_wordAt
set_option maxRecDepth 20000 in
theorem ggX4_copyWord_X2_lengthOf : GoodIn wsX4_copyWord wsX2_lengthOf := goodIn_r _ [15] (by decide +kernel) (by decide +kernel)
set_option maxRecDepth 20000 in
theorem gX4_copyWord_X2_lengthOf : GoodIn wsX4_copyWord (va_wsS RX4 53 yX2_lengthOf wsX2_lengthOf) := goodIn_app (goodIn_of _ (by decide +kernel)) ggX4_copyWord_X2_lengthOf
theorem dX4_copyWord_0 : decode cX4_copyWord 0 = .ok (.aload_n 0, 1) := by decide +kernel
theorem dX4_copyWord_1 : decode cX4_copyWord 1 = .ok (.getfield 10, 3) := by decide +kernel
theorem dX4_copyWord_4 : decode cX4_copyWord 4 = .ok (.iload_n 1, 1) := by decide +kernel
theorem dX4_copyWord_5 : decode cX4_copyWord 5 = .ok (.invokevirtual 91, 3) := by decide +kernel
theorem dX4_copyWord_8 : decode cX4_copyWord 8 = .ok (.lstore_n 2, 1) := by decide +kernel
theorem dX4_copyWord_9 : decode cX4_copyWord 9 = .ok (.lload_n 2, 1) := by decide +kernel
theorem dX4_copyWord_10 : decode cX4_copyWord 10 = .ok (.lconst 0, 1) := by decide +kernel
theorem dX4_copyWord_11 : decode cX4_copyWord 11 = .ok (.lcmp, 1) := by decide +kernel
theorem dX4_copyWord_12 : decode cX4_copyWord 12 = .ok (.ifCond .ne 13, 3) := by decide +kernel
theorem dX4_copyWord_15 : decode cX4_copyWord 15 = .ok (.new 61, 3) := by decide +kernel
theorem dX4_copyWord_18 : decode cX4_copyWord 18 = .ok (.dup, 1) := by decide +kernel
theorem dX4_copyWord_19 : decode cX4_copyWord 19 = .ok (.ldc 95, 2) := by decide +kernel
theorem dX4_copyWord_21 : decode cX4_copyWord 21 = .ok (.invokespecial 65, 3) := by decide +kernel
theorem dX4_copyWord_24 : decode cX4_copyWord 24 = .ok (.athrow, 1) := by decide +kernel
theorem dX4_copyWord_25 : decode cX4_copyWord 25 = .ok (.aload_n 0, 1) := by decide +kernel
theorem dX4_copyWord_26 : decode cX4_copyWord 26 = .ok (.lload_n 2, 1) := by decide +kernel
theorem dX4_copyWord_27 : decode cX4_copyWord 27 = .ok (.putfield 25, 3) := by decide +kernel
theorem dX4_copyWord_30 : decode cX4_copyWord 30 = .ok (.aload_n 0, 1) := by decide +kernel
theorem dX4_copyWord_31 : decode cX4_copyWord 31 = .ok (.getfield 25, 3) := by decide +kernel
theorem dX4_copyWord_34 : decode cX4_copyWord 34 = .ok (.invokestatic 53, 3) := by decide +kernel
theorem dX4_copyWord_37 : decode cX4_copyWord 37 = .ok (.ireturn, 1) := by decide +kernel
set_option maxRecDepth 20000 in
theorem ggX4_setLeastLength_X0_changeLeastLength : GoodIn wsX4_setLeastLength wsX0_changeLeastLength := goodIn_r _ [8, 9, 13, 14, 15] (by decide +kernel) (by decide +kernel)
set_option maxRecDepth 20000 in
theorem gX4_setLeastLength_X0_changeLeastLength : GoodIn wsX4_setLeastLength (wsV RX4 99 RX0 yX0_changeLeastLength wsX0_changeLeastLength) := goodIn_app (goodIn_of _ (by decide +kernel)) ggX4_setLeastLength_X0_changeLeastLength
theorem dX4_setLeastLength_0 : decode cX4_setLeastLength 0 = .ok (.iload_n 1, 1) := by decide +kernel
theorem dX4_setLeastLength_1 : decode cX4_setLeastLength 1 = .ok (.iconst 2, 1) := by decide +kernel
theorem dX4_setLeastLength_2 : decode cX4_setLeastLength 2 = .ok (.if_icmp .lt 9, 3) := by decide +kernel
theorem dX4_setLeastLength_5 : decode cX4_setLeastLength 5 = .ok (.iload_n 1, 1) := by decide +kernel
theorem dX4_setLeastLength_6 : decode cX4_setLeastLength 6 = .ok (.bipush 10, 2) := by decide +kernel
theorem dX4_setLeastLength_8 : decode cX4_setLeastLength 8 = .ok (.if_icmp .le 13, 3) := by decide +kernel
theorem dX4_setLeastLength_11 : decode cX4_setLeastLength 11 = .ok (.new 33, 3) := by decide +kernel
theorem dX4_setLeastLength_14 : decode cX4_setLeastLength 14 = .ok (.dup, 1) := by decide +kernel
theorem dX4_setLeastLength_15 : decode cX4_setLeastLength 15 = .ok (.ldc 97, 2) := by decide +kernel
theorem dX4_setLeastLength_17 : decode cX4_setLeastLength 17 = .ok (.invokespecial 37, 3) := by decide +kernel
theorem dX4_setLeastLength_20 : decode cX4_setLeastLength 20 = .ok (.athrow, 1) := by decide +kernel
theorem dX4_setLeastLength_21 : decode cX4_setLeastLength 21 = .ok (.aload_n 0, 1) := by decide +kernel
theorem dX4_setLeastLength_22 : decode cX4_setLeastLength 22 = .ok (.getfield 10, 3) := by decide +kernel
theorem dX4_setLeastLength_25 : decode cX4_setLeastLength 25 = .ok (.iload_n 1, 1) := by decide +kernel
theorem dX4_setLeastLength_26 : decode cX4_setLeastLength 26 = .ok (.invokevirtual 99, 3) := by decide +kernel
theorem dX4_setLeastLength_29 : decode cX4_setLeastLength 29 = .ok (.ireturn, 1) := by decide +kernel
set_option maxRecDepth 20000 in
theorem ggX4_start_X1_begin : GoodIn wsX4_start wsX1_begin := goodIn_r _ [8, 9, 10, 11, 12, 13, 14, 18, 19, 20, 21, 22, 23] (by decide +kernel) (by decide +kernel)
set_option maxRecDepth 20000 in
theorem gX4_start_X1_begin : GoodIn wsX4_start (wsV RX4 105 RX1 yX1_begin wsX1_begin) := goodIn_app (goodIn_of _ (by decide +kernel)) ggX4_start_X1_begin
theorem dX4_start_0 : decode cX4_start 0 = .ok (.iload_n 1, 1) := by decide +kernel
theorem dX4_start_1 : decode cX4_start 1 = .ok (.iconst 2, 1) := by decide +kernel
theorem dX4_start_2 : decode cX4_start 2 = .ok (.if_icmp .lt 8, 3) := by decide +kernel
theorem dX4_start_5 : decode cX4_start 5 = .ok (.iload_n 1, 1) := by decide +kernel
theorem dX4_start_6 : decode cX4_start 6 = .ok (.iconst 4, 1) := by decide +kernel
theorem dX4_start_7 : decode cX4_start 7 = .ok (.if_icmp .le 13, 3) := by decide +kernel
theorem dX4_start_10 : decode cX4_start 10 = .ok (.new 33, 3) := by decide +kernel
theorem dX4_start_13 : decode cX4_start 13 = .ok (.dup, 1) := by decide +kernel
theorem dX4_start_14 : decode cX4_start 14 = .ok (.ldc 103, 2) := by decide +kernel
theorem dX4_start_16 : decode cX4_start 16 = .ok (.invokespecial 37, 3) := by decide +kernel
theorem dX4_start_19 : decode cX4_start 19 = .ok (.athrow, 1) := by decide +kernel
theorem dX4_start_20 : decode cX4_start 20 = .ok (.aload_n 0, 1) := by decide +kernel
theorem dX4_start_21 : decode cX4_start 21 = .ok (.getfield 19, 3) := by decide +kernel
theorem dX4_start_24 : decode cX4_start 24 = .ok (.iload_n 1, 1) := by decide +kernel
theorem dX4_start_25 : decode cX4_start 25 = .ok (.invokevirtual 105, 3) := by decide +kernel
theorem dX4_start_28 : decode cX4_start 28 = .ok (.return_, 1) := by decide +kernel
set_option maxRecDepth 20000 in
theorem ggX4_play_X4_isLetter : GoodIn wsX4_play wsX4_isLetter := goodIn_r _ [10] (by decide +kernel) (by decide +kernel)
set_option maxRecDepth 20000 in
theorem gX4_play_X4_isLetter : GoodIn wsX4_play (va_wsS RX4 29 yX4_isLetter wsX4_isLetter) := goodIn_app (goodIn_of _ (by decide +kernel)) ggX4_play_X4_isLetter
set_option maxRecDepth 20000 in
theorem ggX4_play_X1_isOn : GoodIn wsX4_play wsX1_isOn := goodIn_r _ [15, 16, 92, 93, 94, 95, 96, 97] (by decide +kernel) (by decide +kernel)
set_option maxRecDepth 20000 in
theorem gX4_play_X1_isOn : GoodIn wsX4_play (wsV RX4 109 RX1 yX1_isOn wsX1_isOn) := goodIn_app (goodIn_of _ (by decide +kernel)) ggX4_play_X1_isOn
set_option maxRecDepth 20000 in
theorem ggX4_play_X1_fragment : GoodIn wsX4_play wsX1_fragment := goodIn_r _ [20, 21, 92, 93, 94, 95, 96, 97] (by decide +kernel) (by decide +kernel)
set_option maxRecDepth 20000 in
theorem gX4_play_X1_fragment : GoodIn wsX4_play (wsV RX4 113 RX1 yX1_fragment wsX1_fragment) := goodIn_app (goodIn_of _ (by decide +kernel)) ggX4_play_X1_fragment
set_option maxRecDepth 20000 in
theorem ggX4_play_X2_isFull : GoodIn wsX4_play wsX2_isFull := goodIn_r _ [25, 26, 27, 24, 28] (by decide +kernel) (by decide +kernel)
set_option maxRecDepth 20000 in
theorem gX4_play_X2_isFull : GoodIn wsX4_play (va_wsS RX4 40 yX2_isFull wsX2_isFull) := goodIn_app (goodIn_of _ (by decide +kernel)) ggX4_play_X2_isFull
set_option maxRecDepth 20000 in
theorem ggX4_play_X1_addLetter : GoodIn wsX4_play wsX1_addLetter := goodIn_r _ [32, 21, 16, 33, 34, 35, 24, 36, 37, 26, 27, 28, 38, 39, 40, 41, 42, 43, 44, 45, 46, 47, 48, 49, 50, 51, 52, 53, 54, 55, 56, 57, 58, 59, 60, 61, 62, 63, 64, 14, 65, 66, 67, 68, 69, 70, 71, 72, 73, 74, 75, 76, 77, 78, 79, 80, 81, 82, 83, 84, 85, 86, 87, 88, 92, 93, 94, 95, 96, 97, 98, 99, 100] (by decide +kernel) (by decide +kernel)
set_option maxRecDepth 20000 in
theorem gX4_play_X1_addLetter : GoodIn wsX4_play (wsV RX4 119 RX1 yX1_addLetter wsX1_addLetter) := goodIn_app (goodIn_of _ (by decide +kernel)) ggX4_play_X1_addLetter
theorem dX4_play_0 : decode cX4_play 0 = .ok (.iload_n 1, 1) := by decide +kernel
theorem dX4_play_1 : decode cX4_play 1 = .ok (.invokestatic 29, 3) := by decide +kernel
theorem dX4_play_4 : decode cX4_play 4 = .ok (.ifCond .ne 13, 3) := by decide +kernel
theorem dX4_play_7 : decode cX4_play 7 = .ok (.new 33, 3) := by decide +kernel
theorem dX4_play_10 : decode cX4_play 10 = .ok (.dup, 1) := by decide +kernel
theorem dX4_play_11 : decode cX4_play 11 = .ok (.ldc 35, 2) := by decide +kernel
theorem dX4_play_13 : decode cX4_play 13 = .ok (.invokespecial 37, 3) := by decide +kernel
theorem dX4_play_16 : decode cX4_play 16 = .ok (.athrow, 1) := by decide +kernel
theorem dX4_play_17 : decode cX4_play 17 = .ok (.aload_n 0, 1) := by decide +kernel
theorem dX4_play_18 : decode cX4_play 18 = .ok (.getfield 19, 3) := by decide +kernel
theorem dX4_play_21 : decode cX4_play 21 = .ok (.invokevirtual 109, 3) := by decide +kernel
theorem dX4_play_24 : decode cX4_play 24 = .ok (.ifCond .eq 16, 3) := by decide +kernel
theorem dX4_play_27 : decode cX4_play 27 = .ok (.aload_n 0, 1) := by decide +kernel
theorem dX4_play_28 : decode cX4_play 28 = .ok (.getfield 19, 3) := by decide +kernel
theorem dX4_play_31 : decode cX4_play 31 = .ok (.invokevirtual 113, 3) := by decide +kernel
theorem dX4_play_34 : decode cX4_play 34 = .ok (.invokestatic 40, 3) := by decide +kernel
theorem dX4_play_37 : decode cX4_play 37 = .ok (.ifCond .eq 13, 3) := by decide +kernel
theorem dX4_play_40 : decode cX4_play 40 = .ok (.new 44, 3) := by decide +kernel
theorem dX4_play_43 : decode cX4_play 43 = .ok (.dup, 1) := by decide +kernel
theorem dX4_play_44 : decode cX4_play 44 = .ok (.ldc 117, 2) := by decide +kernel
theorem dX4_play_46 : decode cX4_play 46 = .ok (.invokespecial 48, 3) := by decide +kernel
theorem dX4_play_49 : decode cX4_play 49 = .ok (.athrow, 1) := by decide +kernel
theorem dX4_play_50 : decode cX4_play 50 = .ok (.aload_n 0, 1) := by decide +kernel
theorem dX4_play_51 : decode cX4_play 51 = .ok (.getfield 19, 3) := by decide +kernel
theorem dX4_play_54 : decode cX4_play 54 = .ok (.iload_n 1, 1) := by decide +kernel
theorem dX4_play_55 : decode cX4_play 55 = .ok (.aload_n 0, 1) := by decide +kernel
theorem dX4_play_56 : decode cX4_play 56 = .ok (.getfield 10, 3) := by decide +kernel
theorem dX4_play_59 : decode cX4_play 59 = .ok (.invokevirtual 119, 3) := by decide +kernel
theorem dX4_play_62 : decode cX4_play 62 = .ok (.ireturn, 1) := by decide +kernel
set_option maxRecDepth 20000 in
theorem ggX4_challenge_X1_isOn : GoodIn wsX4_challenge wsX1_isOn := goodIn_r _ [9, 10, 78, 79, 80, 81, 82, 83] (by decide +kernel) (by decide +kernel)
set_option maxRecDepth 20000 in
theorem gX4_challenge_X1_isOn : GoodIn wsX4_challenge (wsV RX4 109 RX1 yX1_isOn wsX1_isOn) := goodIn_app (goodIn_of _ (by decide +kernel)) ggX4_challenge_X1_isOn
set_option maxRecDepth 20000 in
theorem ggX4_challenge_X1_fragment : GoodIn wsX4_challenge wsX1_fragment := goodIn_r _ [14, 15, 78, 79, 80, 81, 82, 83] (by decide +kernel) (by decide +kernel)
set_option maxRecDepth 20000 in
theorem gX4_challenge_X1_fragment : GoodIn wsX4_challenge (wsV RX4 113 RX1 yX1_fragment wsX1_fragment) := goodIn_app (goodIn_of _ (by decide +kernel)) ggX4_challenge_X1_fragment
set_option maxRecDepth 20000 in
theorem ggX4_challenge_X1_settleChallenge : GoodIn wsX4_challenge wsX1_settleChallenge := goodIn_r _ [19, 15, 10, 20, 21, 22, 23, 24, 25, 26, 27, 28, 29, 30, 31, 32, 33, 34, 35, 36, 37, 38, 39, 40, 41, 42, 43, 44, 45, 46, 47, 48, 49, 50, 8, 51, 52, 53, 54, 55, 56, 57, 58, 59, 60, 61, 62, 63, 64, 65, 66, 67, 68, 69, 70, 71, 72, 73, 74, 78, 79, 80, 81, 82, 83, 84, 85, 86] (by decide +kernel) (by decide +kernel)
set_option maxRecDepth 20000 in
theorem gX4_challenge_X1_settleChallenge : GoodIn wsX4_challenge (wsV RX4 125 RX1 yX1_settleChallenge wsX1_settleChallenge) := goodIn_app (goodIn_of _ (by decide +kernel)) ggX4_challenge_X1_settleChallenge
theorem dX4_challenge_0 : decode cX4_challenge 0 = .ok (.aload_n 0, 1) := by decide +kernel
theorem dX4_challenge_1 : decode cX4_challenge 1 = .ok (.getfield 19, 3) := by decide +kernel
theorem dX4_challenge_4 : decode cX4_challenge 4 = .ok (.invokevirtual 109, 3) := by decide +kernel
theorem dX4_challenge_7 : decode cX4_challenge 7 = .ok (.ifCond .eq 15, 3) := by decide +kernel
theorem dX4_challenge_10 : decode cX4_challenge 10 = .ok (.aload_n 0, 1) := by decide +kernel
theorem dX4_challenge_11 : decode cX4_challenge 11 = .ok (.getfield 19, 3) := by decide +kernel
theorem dX4_challenge_14 : decode cX4_challenge 14 = .ok (.invokevirtual 113, 3) := by decide +kernel
theorem dX4_challenge_17 : decode cX4_challenge 17 = .ok (.lconst 0, 1) := by decide +kernel
theorem dX4_challenge_18 : decode cX4_challenge 18 = .ok (.lcmp, 1) := by decide +kernel
theorem dX4_challenge_19 : decode cX4_challenge 19 = .ok (.ifCond .ne 13, 3) := by decide +kernel
theorem dX4_challenge_22 : decode cX4_challenge 22 = .ok (.new 44, 3) := by decide +kernel
theorem dX4_challenge_25 : decode cX4_challenge 25 = .ok (.dup, 1) := by decide +kernel
theorem dX4_challenge_26 : decode cX4_challenge 26 = .ok (.ldc 123, 2) := by decide +kernel
theorem dX4_challenge_28 : decode cX4_challenge 28 = .ok (.invokespecial 48, 3) := by decide +kernel
theorem dX4_challenge_31 : decode cX4_challenge 31 = .ok (.athrow, 1) := by decide +kernel
theorem dX4_challenge_32 : decode cX4_challenge 32 = .ok (.aload_n 0, 1) := by decide +kernel
theorem dX4_challenge_33 : decode cX4_challenge 33 = .ok (.getfield 19, 3) := by decide +kernel
theorem dX4_challenge_36 : decode cX4_challenge 36 = .ok (.aload_n 0, 1) := by decide +kernel
theorem dX4_challenge_37 : decode cX4_challenge 37 = .ok (.getfield 10, 3) := by decide +kernel
theorem dX4_challenge_40 : decode cX4_challenge 40 = .ok (.invokevirtual 125, 3) := by decide +kernel
theorem dX4_challenge_43 : decode cX4_challenge 43 = .ok (.ireturn, 1) := by decide +kernel
set_option maxRecDepth 20000 in
theorem ggX4_turn_X1_mover : GoodIn wsX4_turn wsX1_mover := goodIn_r _ [6, 7, 11, 12, 13, 14, 15, 16] (by decide +kernel) (by decide +kernel)
set_option maxRecDepth 20000 in
theorem gX4_turn_X1_mover : GoodIn wsX4_turn (wsV RX4 129 RX1 yX1_mover wsX1_mover) := goodIn_app (goodIn_of _ (by decide +kernel)) ggX4_turn_X1_mover
theorem dX4_turn_0 : decode cX4_turn 0 = .ok (.aload_n 0, 1) := by decide +kernel
theorem dX4_turn_1 : decode cX4_turn 1 = .ok (.getfield 19, 3) := by decide +kernel
theorem dX4_turn_4 : decode cX4_turn 4 = .ok (.invokevirtual 129, 3) := by decide +kernel
theorem dX4_turn_7 : decode cX4_turn 7 = .ok (.ireturn, 1) := by decide +kernel
set_option maxRecDepth 20000 in
theorem ggX4_winner_X1_champion : GoodIn wsX4_winner wsX1_champion := goodIn_r _ [6, 7, 11, 12, 13, 14, 15, 16] (by decide +kernel) (by decide +kernel)
set_option maxRecDepth 20000 in
theorem gX4_winner_X1_champion : GoodIn wsX4_winner (wsV RX4 132 RX1 yX1_champion wsX1_champion) := goodIn_app (goodIn_of _ (by decide +kernel)) ggX4_winner_X1_champion
theorem dX4_winner_0 : decode cX4_winner 0 = .ok (.aload_n 0, 1) := by decide +kernel
theorem dX4_winner_1 : decode cX4_winner 1 = .ok (.getfield 19, 3) := by decide +kernel
theorem dX4_winner_4 : decode cX4_winner 4 = .ok (.invokevirtual 132, 3) := by decide +kernel
theorem dX4_winner_7 : decode cX4_winner 7 = .ok (.ireturn, 1) := by decide +kernel
set_option maxRecDepth 20000 in
theorem ggX4_players_X1_playerCount : GoodIn wsX4_players wsX1_playerCount := goodIn_r _ [6, 7, 11, 12, 13, 14, 15, 16] (by decide +kernel) (by decide +kernel)
set_option maxRecDepth 20000 in
theorem gX4_players_X1_playerCount : GoodIn wsX4_players (wsV RX4 135 RX1 yX1_playerCount wsX1_playerCount) := goodIn_app (goodIn_of _ (by decide +kernel)) ggX4_players_X1_playerCount
theorem dX4_players_0 : decode cX4_players 0 = .ok (.aload_n 0, 1) := by decide +kernel
theorem dX4_players_1 : decode cX4_players 1 = .ok (.getfield 19, 3) := by decide +kernel
theorem dX4_players_4 : decode cX4_players 4 = .ok (.invokevirtual 135, 3) := by decide +kernel
theorem dX4_players_7 : decode cX4_players 7 = .ok (.ireturn, 1) := by decide +kernel
set_option maxRecDepth 20000 in
theorem ggX4_strikes_X1_strikesOf : GoodIn wsX4_strikes wsX1_strikesOf := goodIn_r _ [8, 9, 10, 11, 12, 7, 13, 14, 18, 19, 20, 21, 22, 23] (by decide +kernel) (by decide +kernel)
set_option maxRecDepth 20000 in
theorem gX4_strikes_X1_strikesOf : GoodIn wsX4_strikes (wsV RX4 138 RX1 yX1_strikesOf wsX1_strikesOf) := goodIn_app (goodIn_of _ (by decide +kernel)) ggX4_strikes_X1_strikesOf
theorem dX4_strikes_0 : decode cX4_strikes 0 = .ok (.aload_n 0, 1) := by decide +kernel
theorem dX4_strikes_1 : decode cX4_strikes 1 = .ok (.getfield 19, 3) := by decide +kernel
theorem dX4_strikes_4 : decode cX4_strikes 4 = .ok (.iload_n 1, 1) := by decide +kernel
theorem dX4_strikes_5 : decode cX4_strikes 5 = .ok (.invokevirtual 138, 3) := by decide +kernel
theorem dX4_strikes_8 : decode cX4_strikes 8 = .ok (.istore_n 2, 1) := by decide +kernel
theorem dX4_strikes_9 : decode cX4_strikes 9 = .ok (.iload_n 2, 1) := by decide +kernel
theorem dX4_strikes_10 : decode cX4_strikes 10 = .ok (.iconst (-1), 1) := by decide +kernel
theorem dX4_strikes_11 : decode cX4_strikes 11 = .ok (.if_icmp .ne 13, 3) := by decide +kernel
theorem dX4_strikes_14 : decode cX4_strikes 14 = .ok (.new 61, 3) := by decide +kernel
theorem dX4_strikes_17 : decode cX4_strikes 17 = .ok (.dup, 1) := by decide +kernel
theorem dX4_strikes_18 : decode cX4_strikes 18 = .ok (.ldc 141, 2) := by decide +kernel
theorem dX4_strikes_20 : decode cX4_strikes 20 = .ok (.invokespecial 65, 3) := by decide +kernel
theorem dX4_strikes_23 : decode cX4_strikes 23 = .ok (.athrow, 1) := by decide +kernel
theorem dX4_strikes_24 : decode cX4_strikes 24 = .ok (.iload_n 2, 1) := by decide +kernel
theorem dX4_strikes_25 : decode cX4_strikes 25 = .ok (.ireturn, 1) := by decide +kernel
set_option maxRecDepth 20000 in
theorem ggX4_fragmentLength_X1_fragment : GoodIn wsX4_fragmentLength wsX1_fragment := goodIn_r _ [6, 7, 15, 16, 17, 18, 19, 20] (by decide +kernel) (by decide +kernel)
set_option maxRecDepth 20000 in
theorem gX4_fragmentLength_X1_fragment : GoodIn wsX4_fragmentLength (wsV RX4 113 RX1 yX1_fragment wsX1_fragment) := goodIn_app (goodIn_of _ (by decide +kernel)) ggX4_fragmentLength_X1_fragment
set_option maxRecDepth 20000 in
theorem ggX4_fragmentLength_X2_lengthOf : GoodIn wsX4_fragmentLength wsX2_lengthOf := goodIn_r _ [11] (by decide +kernel) (by decide +kernel)
set_option maxRecDepth 20000 in
theorem gX4_fragmentLength_X2_lengthOf : GoodIn wsX4_fragmentLength (va_wsS RX4 53 yX2_lengthOf wsX2_lengthOf) := goodIn_app (goodIn_of _ (by decide +kernel)) ggX4_fragmentLength_X2_lengthOf
theorem dX4_fragmentLength_0 : decode cX4_fragmentLength 0 = .ok (.aload_n 0, 1) := by decide +kernel
theorem dX4_fragmentLength_1 : decode cX4_fragmentLength 1 = .ok (.getfield 19, 3) := by decide +kernel
theorem dX4_fragmentLength_4 : decode cX4_fragmentLength 4 = .ok (.invokevirtual 113, 3) := by decide +kernel
theorem dX4_fragmentLength_7 : decode cX4_fragmentLength 7 = .ok (.invokestatic 53, 3) := by decide +kernel
theorem dX4_fragmentLength_10 : decode cX4_fragmentLength 10 = .ok (.ireturn, 1) := by decide +kernel
set_option maxRecDepth 20000 in
theorem ggX4_fragmentAt_X1_fragment : GoodIn wsX4_fragmentAt wsX1_fragment := goodIn_r _ [8, 9, 20, 21, 22, 23, 24, 25] (by decide +kernel) (by decide +kernel)
set_option maxRecDepth 20000 in
theorem gX4_fragmentAt_X1_fragment : GoodIn wsX4_fragmentAt (wsV RX4 113 RX1 yX1_fragment wsX1_fragment) := goodIn_app (goodIn_of _ (by decide +kernel)) ggX4_fragmentAt_X1_fragment
set_option maxRecDepth 20000 in
theorem ggX4_fragmentAt_X2_letterAt : GoodIn wsX4_fragmentAt wsX2_letterAt := goodIn_r _ [13, 14, 15, 12, 16] (by decide +kernel) (by decide +kernel)
set_option maxRecDepth 20000 in
theorem gX4_fragmentAt_X2_letterAt : GoodIn wsX4_fragmentAt (va_wsS RX4 57 yX2_letterAt wsX2_letterAt) := goodIn_app (goodIn_of _ (by decide +kernel)) ggX4_fragmentAt_X2_letterAt
theorem dX4_fragmentAt_0 : decode cX4_fragmentAt 0 = .ok (.aload_n 0, 1) := by decide +kernel
theorem dX4_fragmentAt_1 : decode cX4_fragmentAt 1 = .ok (.getfield 19, 3) := by decide +kernel
theorem dX4_fragmentAt_4 : decode cX4_fragmentAt 4 = .ok (.invokevirtual 113, 3) := by decide +kernel
theorem dX4_fragmentAt_7 : decode cX4_fragmentAt 7 = .ok (.iload_n 1, 1) := by decide +kernel
theorem dX4_fragmentAt_8 : decode cX4_fragmentAt 8 = .ok (.invokestatic 57, 3) := by decide +kernel
theorem dX4_fragmentAt_11 : decode cX4_fragmentAt 11 = .ok (.istore_n 2, 1) := by decide +kernel
theorem dX4_fragmentAt_12 : decode cX4_fragmentAt 12 = .ok (.iload_n 2, 1) := by decide +kernel
theorem dX4_fragmentAt_13 : decode cX4_fragmentAt 13 = .ok (.iconst (-1), 1) := by decide +kernel
theorem dX4_fragmentAt_14 : decode cX4_fragmentAt 14 = .ok (.if_icmp .ne 13, 3) := by decide +kernel
theorem dX4_fragmentAt_17 : decode cX4_fragmentAt 17 = .ok (.new 61, 3) := by decide +kernel
theorem dX4_fragmentAt_20 : decode cX4_fragmentAt 20 = .ok (.dup, 1) := by decide +kernel
theorem dX4_fragmentAt_21 : decode cX4_fragmentAt 21 = .ok (.ldc 143, 2) := by decide +kernel
theorem dX4_fragmentAt_23 : decode cX4_fragmentAt 23 = .ok (.invokespecial 65, 3) := by decide +kernel
theorem dX4_fragmentAt_26 : decode cX4_fragmentAt 26 = .ok (.athrow, 1) := by decide +kernel
theorem dX4_fragmentAt_27 : decode cX4_fragmentAt 27 = .ok (.iload_n 2, 1) := by decide +kernel
theorem dX4_fragmentAt_28 : decode cX4_fragmentAt 28 = .ok (.ireturn, 1) := by decide +kernel
set_option maxRecDepth 20000 in
theorem ggX4_openLetters_X1_fragment : GoodIn wsX4_openLetters wsX1_fragment := goodIn_r _ [7, 8, 57, 58, 59, 60, 61, 62] (by decide +kernel) (by decide +kernel)
set_option maxRecDepth 20000 in
theorem gX4_openLetters_X1_fragment : GoodIn wsX4_openLetters (wsV RX4 113 RX1 yX1_fragment wsX1_fragment) := goodIn_app (goodIn_of _ (by decide +kernel)) ggX4_openLetters_X1_fragment
set_option maxRecDepth 20000 in
theorem ggX4_openLetters_X3_lettersOpenBehind : GoodIn wsX4_openLetters wsX3_lettersOpenBehind := goodIn_r _ [12, 13, 14, 15, 16, 17, 18, 19, 20, 21, 22, 23, 24, 25, 11, 26, 27, 28, 29, 30, 31, 32, 33, 34, 35, 36, 37, 38, 39, 40, 41, 42, 43, 44, 45, 46, 47, 48, 49, 50, 51, 52, 53, 63, 64, 65] (by decide +kernel) (by decide +kernel)
set_option maxRecDepth 20000 in
theorem gX4_openLetters_X3_lettersOpenBehind : GoodIn wsX4_openLetters (va_wsS RX4 145 yX3_lettersOpenBehind wsX3_lettersOpenBehind) := goodIn_app (goodIn_of _ (by decide +kernel)) ggX4_openLetters_X3_lettersOpenBehind
theorem dX4_openLetters_0 : decode cX4_openLetters 0 = .ok (.aload_n 0, 1) := by decide +kernel
theorem dX4_openLetters_1 : decode cX4_openLetters 1 = .ok (.getfield 10, 3) := by decide +kernel
theorem dX4_openLetters_4 : decode cX4_openLetters 4 = .ok (.aload_n 0, 1) := by decide +kernel
theorem dX4_openLetters_5 : decode cX4_openLetters 5 = .ok (.getfield 19, 3) := by decide +kernel
theorem dX4_openLetters_8 : decode cX4_openLetters 8 = .ok (.invokevirtual 113, 3) := by decide +kernel
theorem dX4_openLetters_11 : decode cX4_openLetters 11 = .ok (.invokestatic 145, 3) := by decide +kernel
theorem dX4_openLetters_14 : decode cX4_openLetters 14 = .ok (.ireturn, 1) := by decide +kernel
set_option maxRecDepth 20000 in
theorem ggX4_winningLetters_X1_fragment : GoodIn wsX4_winningLetters wsX1_fragment := goodIn_r _ [7, 8, 92, 93, 94, 95, 96, 97] (by decide +kernel) (by decide +kernel)
set_option maxRecDepth 20000 in
theorem gX4_winningLetters_X1_fragment : GoodIn wsX4_winningLetters (wsV RX4 113 RX1 yX1_fragment wsX1_fragment) := goodIn_app (goodIn_of _ (by decide +kernel)) ggX4_winningLetters_X1_fragment
set_option maxRecDepth 20000 in
theorem ggX4_winningLetters_X3_lettersWinningBehind : GoodIn wsX4_winningLetters wsX3_lettersWinningBehind := goodIn_r _ [12, 13, 14, 11, 15, 16, 17, 18, 19, 20, 21, 22, 23, 24, 25, 26, 27, 28, 29, 30, 31, 32, 33, 34, 35, 36, 37, 38, 39, 40, 41, 42, 43, 44, 45, 46, 47, 48, 49, 50, 51, 52, 53, 54, 55, 56, 57, 58, 59, 60, 61, 62, 63, 64, 65, 66, 67, 68, 69, 70, 71, 72, 73, 74, 75, 76, 77, 78, 79, 80, 81, 82, 83, 84, 85, 86, 87, 88, 98, 99, 100] (by decide +kernel) (by decide +kernel)
set_option maxRecDepth 20000 in
theorem gX4_winningLetters_X3_lettersWinningBehind : GoodIn wsX4_winningLetters (va_wsS RX4 151 yX3_lettersWinningBehind wsX3_lettersWinningBehind) := goodIn_app (goodIn_of _ (by decide +kernel)) ggX4_winningLetters_X3_lettersWinningBehind
theorem dX4_winningLetters_0 : decode cX4_winningLetters 0 = .ok (.aload_n 0, 1) := by decide +kernel
theorem dX4_winningLetters_1 : decode cX4_winningLetters 1 = .ok (.getfield 10, 3) := by decide +kernel
theorem dX4_winningLetters_4 : decode cX4_winningLetters 4 = .ok (.aload_n 0, 1) := by decide +kernel
theorem dX4_winningLetters_5 : decode cX4_winningLetters 5 = .ok (.getfield 19, 3) := by decide +kernel
theorem dX4_winningLetters_8 : decode cX4_winningLetters 8 = .ok (.invokevirtual 113, 3) := by decide +kernel
theorem dX4_winningLetters_11 : decode cX4_winningLetters 11 = .ok (.invokestatic 151, 3) := by decide +kernel
theorem dX4_winningLetters_14 : decode cX4_winningLetters 14 = .ok (.ireturn, 1) := by decide +kernel
set_option maxRecDepth 20000 in
theorem ggX4_canWin_X1_fragment : GoodIn wsX4_canWin wsX1_fragment := goodIn_r _ [7, 8, 92, 93, 94, 95, 96, 97] (by decide +kernel) (by decide +kernel)
set_option maxRecDepth 20000 in
theorem gX4_canWin_X1_fragment : GoodIn wsX4_canWin (wsV RX4 113 RX1 yX1_fragment wsX1_fragment) := goodIn_app (goodIn_of _ (by decide +kernel)) ggX4_canWin_X1_fragment
set_option maxRecDepth 20000 in
theorem ggX4_canWin_X3_moverWins : GoodIn wsX4_canWin wsX3_moverWins := goodIn_r _ [12, 13, 14, 11, 15, 16, 17, 18, 19, 20, 21, 22, 23, 24, 25, 26, 27, 28, 29, 30, 31, 32, 33, 34, 35, 36, 37, 38, 39, 40, 41, 42, 43, 44, 45, 46, 47, 48, 49, 50, 51, 52, 53, 54, 55, 56, 57, 58, 59, 60, 61, 62, 63, 64, 65, 66, 67, 68, 69, 70, 71, 72, 73, 74, 75, 76, 77, 78, 79, 80, 81, 82, 83, 84, 85, 86, 87, 88, 98, 99, 100] (by decide +kernel) (by decide +kernel)
set_option maxRecDepth 20000 in
theorem gX4_canWin_X3_moverWins : GoodIn wsX4_canWin (va_wsS RX4 154 yX3_moverWins wsX3_moverWins) := goodIn_app (goodIn_of _ (by decide +kernel)) ggX4_canWin_X3_moverWins
theorem dX4_canWin_0 : decode cX4_canWin 0 = .ok (.aload_n 0, 1) := by decide +kernel
theorem dX4_canWin_1 : decode cX4_canWin 1 = .ok (.getfield 10, 3) := by decide +kernel
theorem dX4_canWin_4 : decode cX4_canWin 4 = .ok (.aload_n 0, 1) := by decide +kernel
theorem dX4_canWin_5 : decode cX4_canWin 5 = .ok (.getfield 19, 3) := by decide +kernel
theorem dX4_canWin_8 : decode cX4_canWin 8 = .ok (.invokevirtual 113, 3) := by decide +kernel
theorem dX4_canWin_11 : decode cX4_canWin 11 = .ok (.invokestatic 154, 3) := by decide +kernel
theorem dX4_canWin_14 : decode cX4_canWin 14 = .ok (.ireturn, 1) := by decide +kernel
set_option maxRecDepth 20000 in
theorem ggX4_end_X1_fragment : GoodIn wsX4_end wsX1_fragment := goodIn_r _ [7, 8, 95, 96, 97, 98, 99, 100] (by decide +kernel) (by decide +kernel)
set_option maxRecDepth 20000 in
theorem gX4_end_X1_fragment : GoodIn wsX4_end (wsV RX4 113 RX1 yX1_fragment wsX1_fragment) := goodIn_app (goodIn_of _ (by decide +kernel)) ggX4_end_X1_fragment
set_option maxRecDepth 20000 in
theorem ggX4_end_X3_endBehind : GoodIn wsX4_end wsX3_endBehind := goodIn_r _ [12, 13, 14, 15, 16, 17, 18, 11, 19, 20, 21, 22, 23, 24, 25, 26, 27, 28, 29, 30, 31, 32, 33, 34, 35, 36, 37, 38, 39, 40, 41, 42, 43, 44, 45, 46, 47, 48, 49, 50, 51, 52, 53, 54, 55, 56, 57, 58, 59, 60, 61, 62, 63, 64, 65, 66, 67, 68, 69, 70, 71, 72, 73, 74, 75, 76, 77, 78, 79, 80, 81, 82, 83, 84, 85, 86, 87, 88, 89, 90, 91, 101, 102, 103] (by decide +kernel) (by decide +kernel)
set_option maxRecDepth 20000 in
theorem gX4_end_X3_endBehind : GoodIn wsX4_end (va_wsS RX4 158 yX3_endBehind wsX3_endBehind) := goodIn_app (goodIn_of _ (by decide +kernel)) ggX4_end_X3_endBehind
theorem dX4_end_0 : decode cX4_end 0 = .ok (.aload_n 0, 1) := by decide +kernel
theorem dX4_end_1 : decode cX4_end 1 = .ok (.getfield 10, 3) := by decide +kernel
theorem dX4_end_4 : decode cX4_end 4 = .ok (.aload_n 0, 1) := by decide +kernel
theorem dX4_end_5 : decode cX4_end 5 = .ok (.getfield 19, 3) := by decide +kernel
theorem dX4_end_8 : decode cX4_end 8 = .ok (.invokevirtual 113, 3) := by decide +kernel
theorem dX4_end_11 : decode cX4_end 11 = .ok (.invokestatic 158, 3) := by decide +kernel
theorem dX4_end_14 : decode cX4_end 14 = .ok (.ireturn, 1) := by decide +kernel
set_option maxRecDepth 20000 in
theorem ggX4_bestLetter_X1_fragment : GoodIn wsX4_bestLetter wsX1_fragment := goodIn_r _ [7, 8, 92, 93, 94, 95, 96, 97] (by decide +kernel) (by decide +kernel)
set_option maxRecDepth 20000 in
theorem gX4_bestLetter_X1_fragment : GoodIn wsX4_bestLetter (wsV RX4 113 RX1 yX1_fragment wsX1_fragment) := goodIn_app (goodIn_of _ (by decide +kernel)) ggX4_bestLetter_X1_fragment
set_option maxRecDepth 20000 in
theorem ggX4_bestLetter_X3_letterChosenBehind : GoodIn wsX4_bestLetter wsX3_letterChosenBehind := goodIn_r _ [12, 13, 14, 11, 15, 16, 17, 18, 19, 20, 21, 22, 23, 24, 25, 26, 27, 28, 29, 30, 31, 32, 33, 34, 35, 36, 37, 38, 39, 40, 41, 42, 43, 44, 45, 46, 47, 48, 49, 50, 51, 52, 53, 54, 55, 56, 57, 58, 59, 60, 61, 62, 63, 64, 65, 66, 67, 68, 69, 70, 71, 72, 73, 74, 75, 76, 77, 78, 79, 80, 81, 82, 83, 84, 85, 86, 87, 88, 98, 99, 100] (by decide +kernel) (by decide +kernel)
set_option maxRecDepth 20000 in
theorem gX4_bestLetter_X3_letterChosenBehind : GoodIn wsX4_bestLetter (va_wsS RX4 161 yX3_letterChosenBehind wsX3_letterChosenBehind) := goodIn_app (goodIn_of _ (by decide +kernel)) ggX4_bestLetter_X3_letterChosenBehind
theorem dX4_bestLetter_0 : decode cX4_bestLetter 0 = .ok (.aload_n 0, 1) := by decide +kernel
theorem dX4_bestLetter_1 : decode cX4_bestLetter 1 = .ok (.getfield 10, 3) := by decide +kernel
theorem dX4_bestLetter_4 : decode cX4_bestLetter 4 = .ok (.aload_n 0, 1) := by decide +kernel
theorem dX4_bestLetter_5 : decode cX4_bestLetter 5 = .ok (.getfield 19, 3) := by decide +kernel
theorem dX4_bestLetter_8 : decode cX4_bestLetter 8 = .ok (.invokevirtual 113, 3) := by decide +kernel
theorem dX4_bestLetter_11 : decode cX4_bestLetter 11 = .ok (.invokestatic 161, 3) := by decide +kernel
theorem dX4_bestLetter_14 : decode cX4_bestLetter 14 = .ok (.ireturn, 1) := by decide +kernel
set_option maxRecDepth 20000 in
theorem ggX4_waysToPlay_X1_fragment : GoodIn wsX4_waysToPlay wsX1_fragment := goodIn_r _ [7, 8, 71, 72, 73, 74, 75, 76] (by decide +kernel) (by decide +kernel)
set_option maxRecDepth 20000 in
theorem gX4_waysToPlay_X1_fragment : GoodIn wsX4_waysToPlay (wsV RX4 113 RX1 yX1_fragment wsX1_fragment) := goodIn_app (goodIn_of _ (by decide +kernel)) ggX4_waysToPlay_X1_fragment
set_option maxRecDepth 20000 in
theorem ggX4_waysToPlay_X3_countWays : GoodIn wsX4_waysToPlay wsX3_countWays := goodIn_r _ [12, 13, 14, 15, 16, 17, 18, 19, 20, 21, 22, 23, 24, 25, 11, 26, 27, 28, 29, 30, 31, 32, 33, 34, 35, 36, 37, 38, 39, 40, 41, 42, 43, 44, 45, 46, 47, 48, 49, 50, 51, 52, 53, 54, 55, 56, 57, 58, 59, 60, 61, 62, 63, 64, 65, 66, 67, 77, 78, 79] (by decide +kernel) (by decide +kernel)
set_option maxRecDepth 20000 in
theorem gX4_waysToPlay_X3_countWays : GoodIn wsX4_waysToPlay (va_wsS RX4 164 yX3_countWays wsX3_countWays) := goodIn_app (goodIn_of _ (by decide +kernel)) ggX4_waysToPlay_X3_countWays
theorem dX4_waysToPlay_0 : decode cX4_waysToPlay 0 = .ok (.aload_n 0, 1) := by decide +kernel
theorem dX4_waysToPlay_1 : decode cX4_waysToPlay 1 = .ok (.getfield 10, 3) := by decide +kernel
theorem dX4_waysToPlay_4 : decode cX4_waysToPlay 4 = .ok (.aload_n 0, 1) := by decide +kernel
theorem dX4_waysToPlay_5 : decode cX4_waysToPlay 5 = .ok (.getfield 19, 3) := by decide +kernel
theorem dX4_waysToPlay_8 : decode cX4_waysToPlay 8 = .ok (.invokevirtual 113, 3) := by decide +kernel
theorem dX4_waysToPlay_11 : decode cX4_waysToPlay 11 = .ok (.invokestatic 164, 3) := by decide +kernel
theorem dX4_waysToPlay_14 : decode cX4_waysToPlay 14 = .ok (.ireturn, 1) := by decide +kernel
set_option maxRecDepth 20000 in
theorem ggX4_waysToWin_X1_fragment : GoodIn wsX4_waysToWin wsX1_fragment := goodIn_r _ [7, 8, 74, 75, 76, 77, 78, 79] (by decide +kernel) (by decide +kernel)
set_option maxRecDepth 20000 in
theorem gX4_waysToWin_X1_fragment : GoodIn wsX4_waysToWin (wsV RX4 113 RX1 yX1_fragment wsX1_fragment) := goodIn_app (goodIn_of _ (by decide +kernel)) ggX4_waysToWin_X1_fragment
set_option maxRecDepth 20000 in
theorem ggX4_waysToWin_X3_countWonWays : GoodIn wsX4_waysToWin wsX3_countWonWays := goodIn_r _ [12, 13, 14, 15, 16, 17, 18, 19, 20, 21, 22, 23, 24, 25, 11, 26, 27, 28, 29, 30, 31, 32, 33, 34, 35, 36, 37, 38, 39, 40, 41, 42, 43, 44, 45, 46, 47, 48, 49, 50, 51, 52, 53, 54, 55, 56, 57, 58, 59, 60, 61, 62, 63, 64, 65, 66, 67, 68, 69, 70, 80, 81, 82] (by decide +kernel) (by decide +kernel)
set_option maxRecDepth 20000 in
theorem gX4_waysToWin_X3_countWonWays : GoodIn wsX4_waysToWin (va_wsS RX4 167 yX3_countWonWays wsX3_countWonWays) := goodIn_app (goodIn_of _ (by decide +kernel)) ggX4_waysToWin_X3_countWonWays
theorem dX4_waysToWin_0 : decode cX4_waysToWin 0 = .ok (.aload_n 0, 1) := by decide +kernel
theorem dX4_waysToWin_1 : decode cX4_waysToWin 1 = .ok (.getfield 10, 3) := by decide +kernel
theorem dX4_waysToWin_4 : decode cX4_waysToWin 4 = .ok (.aload_n 0, 1) := by decide +kernel
theorem dX4_waysToWin_5 : decode cX4_waysToWin 5 = .ok (.getfield 19, 3) := by decide +kernel
theorem dX4_waysToWin_8 : decode cX4_waysToWin 8 = .ok (.invokevirtual 113, 3) := by decide +kernel
theorem dX4_waysToWin_11 : decode cX4_waysToWin 11 = .ok (.invokestatic 167, 3) := by decide +kernel
theorem dX4_waysToWin_14 : decode cX4_waysToWin 14 = .ok (.ireturn, 1) := by decide +kernel
theorem dX4_isLetter_0 : decode cX4_isLetter 0 = .ok (.iload_n 0, 1) := by decide +kernel
theorem dX4_isLetter_1 : decode cX4_isLetter 1 = .ok (.ifCond .lt 13, 3) := by decide +kernel
theorem dX4_isLetter_4 : decode cX4_isLetter 4 = .ok (.iload_n 0, 1) := by decide +kernel
theorem dX4_isLetter_5 : decode cX4_isLetter 5 = .ok (.bipush 26, 2) := by decide +kernel
theorem dX4_isLetter_7 : decode cX4_isLetter 7 = .ok (.if_icmp .ge 7, 3) := by decide +kernel
theorem dX4_isLetter_10 : decode cX4_isLetter 10 = .ok (.iconst 1, 1) := by decide +kernel
theorem dX4_isLetter_11 : decode cX4_isLetter 11 = .ok (.goto 4, 3) := by decide +kernel
theorem dX4_isLetter_14 : decode cX4_isLetter 14 = .ok (.iconst 0, 1) := by decide +kernel
theorem dX4_isLetter_15 : decode cX4_isLetter 15 = .ok (.ireturn, 1) := by decide +kernel
theorem dX5_init_0 : decode cX5_init 0 = .ok (.aload_n 0, 1) := by decide +kernel
theorem dX5_init_1 : decode cX5_init 1 = .ok (.invokespecial 1, 3) := by decide +kernel
theorem dX5_init_4 : decode cX5_init 4 = .ok (.aload_n 0, 1) := by decide +kernel
theorem dX5_init_5 : decode cX5_init 5 = .ok (.bipush 10, 2) := by decide +kernel
theorem dX5_init_7 : decode cX5_init 7 = .ok (.newarray .int, 2) := by decide +kernel
theorem dX5_init_9 : decode cX5_init 9 = .ok (.putfield 7, 3) := by decide +kernel
theorem dX5_init_12 : decode cX5_init 12 = .ok (.aload_n 0, 1) := by decide +kernel
theorem dX5_init_13 : decode cX5_init 13 = .ok (.sipush 500, 3) := by decide +kernel
theorem dX5_init_16 : decode cX5_init 16 = .ok (.newarray .int, 2) := by decide +kernel
theorem dX5_init_18 : decode cX5_init 18 = .ok (.putfield 13, 3) := by decide +kernel
theorem dX5_init_21 : decode cX5_init 21 = .ok (.aload_n 0, 1) := by decide +kernel
theorem dX5_init_22 : decode cX5_init 22 = .ok (.bipush 50, 2) := by decide +kernel
theorem dX5_init_24 : decode cX5_init 24 = .ok (.newarray .int, 2) := by decide +kernel
theorem dX5_init_26 : decode cX5_init 26 = .ok (.putfield 16, 3) := by decide +kernel
theorem dX5_init_29 : decode cX5_init 29 = .ok (.aload_n 0, 1) := by decide +kernel
theorem dX5_init_30 : decode cX5_init 30 = .ok (.iconst 3, 1) := by decide +kernel
theorem dX5_init_31 : decode cX5_init 31 = .ok (.putfield 19, 3) := by decide +kernel
theorem dX5_init_34 : decode cX5_init 34 = .ok (.aload_n 0, 1) := by decide +kernel
theorem dX5_init_35 : decode cX5_init 35 = .ok (.iconst 4, 1) := by decide +kernel
theorem dX5_init_36 : decode cX5_init 36 = .ok (.newarray .int, 2) := by decide +kernel
theorem dX5_init_38 : decode cX5_init 38 = .ok (.putfield 23, 3) := by decide +kernel
theorem dX5_init_41 : decode cX5_init 41 = .ok (.aload_n 0, 1) := by decide +kernel
theorem dX5_init_42 : decode cX5_init 42 = .ok (.iconst (-1), 1) := by decide +kernel
theorem dX5_init_43 : decode cX5_init 43 = .ok (.putfield 26, 3) := by decide +kernel
theorem dX5_init_46 : decode cX5_init 46 = .ok (.aload_n 0, 1) := by decide +kernel
theorem dX5_init_47 : decode cX5_init 47 = .ok (.bipush 10, 2) := by decide +kernel
theorem dX5_init_49 : decode cX5_init 49 = .ok (.newarray .int, 2) := by decide +kernel
theorem dX5_init_51 : decode cX5_init 51 = .ok (.putfield 29, 3) := by decide +kernel
theorem dX5_init_54 : decode cX5_init 54 = .ok (.aload_n 0, 1) := by decide +kernel
theorem dX5_init_55 : decode cX5_init 55 = .ok (.sipush 550, 3) := by decide +kernel
theorem dX5_init_58 : decode cX5_init 58 = .ok (.newarray .boolean, 2) := by decide +kernel
theorem dX5_init_60 : decode cX5_init 60 = .ok (.putfield 32, 3) := by decide +kernel
theorem dX5_init_63 : decode cX5_init 63 = .ok (.aload_n 0, 1) := by decide +kernel
theorem dX5_init_64 : decode cX5_init 64 = .ok (.sipush 550, 3) := by decide +kernel
theorem dX5_init_67 : decode cX5_init 67 = .ok (.newarray .int, 2) := by decide +kernel
theorem dX5_init_69 : decode cX5_init 69 = .ok (.putfield 36, 3) := by decide +kernel
theorem dX5_init_72 : decode cX5_init 72 = .ok (.aload_n 0, 1) := by decide +kernel
theorem dX5_init_73 : decode cX5_init 73 = .ok (.sipush 550, 3) := by decide +kernel
theorem dX5_init_76 : decode cX5_init 76 = .ok (.newarray .int, 2) := by decide +kernel
theorem dX5_init_78 : decode cX5_init 78 = .ok (.putfield 39, 3) := by decide +kernel
theorem dX5_init_81 : decode cX5_init 81 = .ok (.aload_n 0, 1) := by decide +kernel
theorem dX5_init_82 : decode cX5_init 82 = .ok (.sipush 550, 3) := by decide +kernel
theorem dX5_init_85 : decode cX5_init 85 = .ok (.newarray .int, 2) := by decide +kernel
theorem dX5_init_87 : decode cX5_init 87 = .ok (.putfield 42, 3) := by decide +kernel
theorem dX5_init_90 : decode cX5_init 90 = .ok (.aload_n 0, 1) := by decide +kernel
theorem dX5_init_91 : decode cX5_init 91 = .ok (.sipush 550, 3) := by decide +kernel
theorem dX5_init_94 : decode cX5_init 94 = .ok (.newarray .int, 2) := by decide +kernel
theorem dX5_init_96 : decode cX5_init 96 = .ok (.putfield 45, 3) := by decide +kernel
theorem dX5_init_99 : decode cX5_init 99 = .ok (.return_, 1) := by decide +kernel
theorem dX5_thrown_0 : decode cX5_thrown 0 = .ok (.aload_n 0, 1) := by decide +kernel
theorem dX5_thrown_1 : decode cX5_thrown 1 = .ok (.getfield 48, 3) := by decide +kernel
theorem dX5_thrown_4 : decode cX5_thrown 4 = .ok (.ireturn, 1) := by decide +kernel
theorem dX5_asked_0 : decode cX5_asked 0 = .ok (.aload_n 0, 1) := by decide +kernel
theorem dX5_asked_1 : decode cX5_asked 1 = .ok (.iload_n 1, 1) := by decide +kernel
theorem dX5_asked_2 : decode cX5_asked 2 = .ok (.ifCond .eq 7, 3) := by decide +kernel
theorem dX5_asked_5 : decode cX5_asked 5 = .ok (.iconst 0, 1) := by decide +kernel
theorem dX5_asked_6 : decode cX5_asked 6 = .ok (.goto 4, 3) := by decide +kernel
theorem dX5_asked_9 : decode cX5_asked 9 = .ok (.iconst 1, 1) := by decide +kernel
theorem dX5_asked_10 : decode cX5_asked 10 = .ok (.putfield 48, 3) := by decide +kernel
theorem dX5_asked_13 : decode cX5_asked 13 = .ok (.iload_n 1, 1) := by decide +kernel
theorem dX5_asked_14 : decode cX5_asked 14 = .ok (.ireturn, 1) := by decide +kernel
theorem dX5_asked__0 : decode cX5_asked_ 0 = .ok (.aload_n 0, 1) := by decide +kernel
theorem dX5_asked__1 : decode cX5_asked_ 1 = .ok (.iload_n 1, 1) := by decide +kernel
theorem dX5_asked__2 : decode cX5_asked_ 2 = .ok (.ifCond .ne 7, 3) := by decide +kernel
theorem dX5_asked__5 : decode cX5_asked_ 5 = .ok (.iconst 1, 1) := by decide +kernel
theorem dX5_asked__6 : decode cX5_asked_ 6 = .ok (.goto 12, 3) := by decide +kernel
theorem dX5_asked__9 : decode cX5_asked_ 9 = .ok (.iload_n 2, 1) := by decide +kernel
theorem dX5_asked__10 : decode cX5_asked_ 10 = .ok (.ifCond .eq 7, 3) := by decide +kernel
theorem dX5_asked__13 : decode cX5_asked_ 13 = .ok (.iconst 0, 1) := by decide +kernel
theorem dX5_asked__14 : decode cX5_asked_ 14 = .ok (.goto 4, 3) := by decide +kernel
theorem dX5_asked__17 : decode cX5_asked_ 17 = .ok (.iconst 2, 1) := by decide +kernel
theorem dX5_asked__18 : decode cX5_asked_ 18 = .ok (.putfield 48, 3) := by decide +kernel
theorem dX5_asked__21 : decode cX5_asked_ 21 = .ok (.aload_n 0, 1) := by decide +kernel
theorem dX5_asked__22 : decode cX5_asked_ 22 = .ok (.getfield 48, 3) := by decide +kernel
theorem dX5_asked__25 : decode cX5_asked_ 25 = .ok (.ifCond .ne 7, 3) := by decide +kernel
theorem dX5_asked__28 : decode cX5_asked_ 28 = .ok (.iconst 1, 1) := by decide +kernel
theorem dX5_asked__29 : decode cX5_asked_ 29 = .ok (.goto 4, 3) := by decide +kernel
theorem dX5_asked__32 : decode cX5_asked_ 32 = .ok (.iconst 0, 1) := by decide +kernel
theorem dX5_asked__33 : decode cX5_asked_ 33 = .ok (.ireturn, 1) := by decide +kernel
theorem dX5_told_0 : decode cX5_told 0 = .ok (.aload_n 0, 1) := by decide +kernel
theorem dX5_told_1 : decode cX5_told 1 = .ok (.iconst 0, 1) := by decide +kernel
theorem dX5_told_2 : decode cX5_told 2 = .ok (.putfield 48, 3) := by decide +kernel
theorem dX5_told_5 : decode cX5_told 5 = .ok (.iload_n 1, 1) := by decide +kernel
theorem dX5_told_6 : decode cX5_told 6 = .ok (.ireturn, 1) := by decide +kernel
theorem dX5_isLetter_0 : decode cX5_isLetter 0 = .ok (.iload_n 0, 1) := by decide +kernel
theorem dX5_isLetter_1 : decode cX5_isLetter 1 = .ok (.ifCond .lt 13, 3) := by decide +kernel
theorem dX5_isLetter_4 : decode cX5_isLetter 4 = .ok (.iload_n 0, 1) := by decide +kernel
theorem dX5_isLetter_5 : decode cX5_isLetter 5 = .ok (.bipush 26, 2) := by decide +kernel
theorem dX5_isLetter_7 : decode cX5_isLetter 7 = .ok (.if_icmp .ge 7, 3) := by decide +kernel
theorem dX5_isLetter_10 : decode cX5_isLetter 10 = .ok (.iconst 1, 1) := by decide +kernel
theorem dX5_isLetter_11 : decode cX5_isLetter 11 = .ok (.goto 4, 3) := by decide +kernel
theorem dX5_isLetter_14 : decode cX5_isLetter 14 = .ok (.iconst 0, 1) := by decide +kernel
theorem dX5_isLetter_15 : decode cX5_isLetter 15 = .ok (.ireturn, 1) := by decide +kernel
theorem dX5_begins_0 : decode cX5_begins 0 = .ok (.aload_n 0, 1) := by decide +kernel
theorem dX5_begins_1 : decode cX5_begins 1 = .ok (.getfield 16, 3) := by decide +kernel
theorem dX5_begins_4 : decode cX5_begins 4 = .ok (.iload_n 1, 1) := by decide +kernel
theorem dX5_begins_5 : decode cX5_begins 5 = .ok (.iaload, 1) := by decide +kernel
theorem dX5_begins_6 : decode cX5_begins 6 = .ok (.iload_n 3, 1) := by decide +kernel
theorem dX5_begins_7 : decode cX5_begins 7 = .ok (.if_icmp .lt 7, 3) := by decide +kernel
theorem dX5_begins_10 : decode cX5_begins 10 = .ok (.iconst 1, 1) := by decide +kernel
theorem dX5_begins_11 : decode cX5_begins 11 = .ok (.goto 4, 3) := by decide +kernel
theorem dX5_begins_14 : decode cX5_begins 14 = .ok (.iconst 0, 1) := by decide +kernel
theorem dX5_begins_15 : decode cX5_begins 15 = .ok (.istore 4, 2) := by decide +kernel
theorem dX5_begins_17 : decode cX5_begins 17 = .ok (.iconst 0, 1) := by decide +kernel
theorem dX5_begins_18 : decode cX5_begins 18 = .ok (.istore 5, 2) := by decide +kernel
theorem dX5_begins_20 : decode cX5_begins 20 = .ok (.iload 5, 2) := by decide +kernel
theorem dX5_begins_22 : decode cX5_begins 22 = .ok (.iload_n 3, 1) := by decide +kernel
theorem dX5_begins_23 : decode cX5_begins 23 = .ok (.if_icmp .ge 40, 3) := by decide +kernel
theorem dX5_begins_26 : decode cX5_begins 26 = .ok (.iload 4, 2) := by decide +kernel
theorem dX5_begins_28 : decode cX5_begins 28 = .ok (.ifCond .eq 35, 3) := by decide +kernel
theorem dX5_begins_31 : decode cX5_begins 31 = .ok (.aload_n 0, 1) := by decide +kernel
theorem dX5_begins_32 : decode cX5_begins 32 = .ok (.getfield 13, 3) := by decide +kernel
theorem dX5_begins_35 : decode cX5_begins 35 = .ok (.bipush 10, 2) := by decide +kernel
theorem dX5_begins_37 : decode cX5_begins 37 = .ok (.iload_n 1, 1) := by decide +kernel
theorem dX5_begins_38 : decode cX5_begins 38 = .ok (.imul, 1) := by decide +kernel
theorem dX5_begins_39 : decode cX5_begins 39 = .ok (.iload 5, 2) := by decide +kernel
theorem dX5_begins_41 : decode cX5_begins 41 = .ok (.iadd, 1) := by decide +kernel
theorem dX5_begins_42 : decode cX5_begins 42 = .ok (.iaload, 1) := by decide +kernel
theorem dX5_begins_43 : decode cX5_begins 43 = .ok (.aload_n 2, 1) := by decide +kernel
theorem dX5_begins_44 : decode cX5_begins 44 = .ok (.iload 5, 2) := by decide +kernel
theorem dX5_begins_46 : decode cX5_begins 46 = .ok (.iaload, 1) := by decide +kernel
theorem dX5_begins_47 : decode cX5_begins 47 = .ok (.if_icmp .ne 7, 3) := by decide +kernel
theorem dX5_begins_50 : decode cX5_begins 50 = .ok (.iconst 1, 1) := by decide +kernel
theorem dX5_begins_51 : decode cX5_begins 51 = .ok (.goto 4, 3) := by decide +kernel
theorem dX5_begins_54 : decode cX5_begins 54 = .ok (.iconst 0, 1) := by decide +kernel
theorem dX5_begins_55 : decode cX5_begins 55 = .ok (.istore 4, 2) := by decide +kernel
theorem dX5_begins_57 : decode cX5_begins 57 = .ok (.iinc 5 1, 3) := by decide +kernel
theorem dX5_begins_60 : decode cX5_begins 60 = .ok (.goto (-40), 3) := by decide +kernel
theorem dX5_begins_63 : decode cX5_begins 63 = .ok (.iload 4, 2) := by decide +kernel
theorem dX5_begins_65 : decode cX5_begins 65 = .ok (.ireturn, 1) := by decide +kernel
theorem dX5_areAlike_0 : decode cX5_areAlike 0 = .ok (.aload_n 0, 1) := by decide +kernel
theorem dX5_areAlike_1 : decode cX5_areAlike 1 = .ok (.getfield 16, 3) := by decide +kernel
theorem dX5_areAlike_4 : decode cX5_areAlike 4 = .ok (.iload_n 1, 1) := by decide +kernel
theorem dX5_areAlike_5 : decode cX5_areAlike 5 = .ok (.iaload, 1) := by decide +kernel
theorem dX5_areAlike_6 : decode cX5_areAlike 6 = .ok (.iload_n 3, 1) := by decide +kernel
theorem dX5_areAlike_7 : decode cX5_areAlike 7 = .ok (.if_icmp .lt 17, 3) := by decide +kernel
theorem dX5_areAlike_10 : decode cX5_areAlike 10 = .ok (.aload_n 0, 1) := by decide +kernel
theorem dX5_areAlike_11 : decode cX5_areAlike 11 = .ok (.getfield 16, 3) := by decide +kernel
theorem dX5_areAlike_14 : decode cX5_areAlike 14 = .ok (.iload_n 2, 1) := by decide +kernel
theorem dX5_areAlike_15 : decode cX5_areAlike 15 = .ok (.iaload, 1) := by decide +kernel
theorem dX5_areAlike_16 : decode cX5_areAlike 16 = .ok (.iload_n 3, 1) := by decide +kernel
theorem dX5_areAlike_17 : decode cX5_areAlike 17 = .ok (.if_icmp .lt 7, 3) := by decide +kernel
theorem dX5_areAlike_20 : decode cX5_areAlike 20 = .ok (.iconst 1, 1) := by decide +kernel
theorem dX5_areAlike_21 : decode cX5_areAlike 21 = .ok (.goto 4, 3) := by decide +kernel
theorem dX5_areAlike_24 : decode cX5_areAlike 24 = .ok (.iconst 0, 1) := by decide +kernel
theorem dX5_areAlike_25 : decode cX5_areAlike 25 = .ok (.istore 4, 2) := by decide +kernel
theorem dX5_areAlike_27 : decode cX5_areAlike 27 = .ok (.iconst 0, 1) := by decide +kernel
theorem dX5_areAlike_28 : decode cX5_areAlike 28 = .ok (.istore 5, 2) := by decide +kernel
theorem dX5_areAlike_30 : decode cX5_areAlike 30 = .ok (.iload 5, 2) := by decide +kernel
theorem dX5_areAlike_32 : decode cX5_areAlike 32 = .ok (.iload_n 3, 1) := by decide +kernel
theorem dX5_areAlike_33 : decode cX5_areAlike 33 = .ok (.if_icmp .ge 48, 3) := by decide +kernel
theorem dX5_areAlike_36 : decode cX5_areAlike 36 = .ok (.iload 4, 2) := by decide +kernel
theorem dX5_areAlike_38 : decode cX5_areAlike 38 = .ok (.ifCond .eq 43, 3) := by decide +kernel
theorem dX5_areAlike_41 : decode cX5_areAlike 41 = .ok (.aload_n 0, 1) := by decide +kernel
theorem dX5_areAlike_42 : decode cX5_areAlike 42 = .ok (.getfield 13, 3) := by decide +kernel
theorem dX5_areAlike_45 : decode cX5_areAlike 45 = .ok (.bipush 10, 2) := by decide +kernel
theorem dX5_areAlike_47 : decode cX5_areAlike 47 = .ok (.iload_n 1, 1) := by decide +kernel
theorem dX5_areAlike_48 : decode cX5_areAlike 48 = .ok (.imul, 1) := by decide +kernel
theorem dX5_areAlike_49 : decode cX5_areAlike 49 = .ok (.iload 5, 2) := by decide +kernel
theorem dX5_areAlike_51 : decode cX5_areAlike 51 = .ok (.iadd, 1) := by decide +kernel
theorem dX5_areAlike_52 : decode cX5_areAlike 52 = .ok (.iaload, 1) := by decide +kernel
theorem dX5_areAlike_53 : decode cX5_areAlike 53 = .ok (.aload_n 0, 1) := by decide +kernel
theorem dX5_areAlike_54 : decode cX5_areAlike 54 = .ok (.getfield 13, 3) := by decide +kernel
theorem dX5_areAlike_57 : decode cX5_areAlike 57 = .ok (.bipush 10, 2) := by decide +kernel
theorem dX5_areAlike_59 : decode cX5_areAlike 59 = .ok (.iload_n 2, 1) := by decide +kernel
theorem dX5_areAlike_60 : decode cX5_areAlike 60 = .ok (.imul, 1) := by decide +kernel
theorem dX5_areAlike_61 : decode cX5_areAlike 61 = .ok (.iload 5, 2) := by decide +kernel
theorem dX5_areAlike_63 : decode cX5_areAlike 63 = .ok (.iadd, 1) := by decide +kernel
theorem dX5_areAlike_64 : decode cX5_areAlike 64 = .ok (.iaload, 1) := by decide +kernel
theorem dX5_areAlike_65 : decode cX5_areAlike 65 = .ok (.if_icmp .ne 7, 3) := by decide +kernel
theorem dX5_areAlike_68 : decode cX5_areAlike 68 = .ok (.iconst 1, 1) := by decide +kernel
theorem dX5_areAlike_69 : decode cX5_areAlike 69 = .ok (.goto 4, 3) := by decide +kernel
theorem dX5_areAlike_72 : decode cX5_areAlike 72 = .ok (.iconst 0, 1) := by decide +kernel
theorem dX5_areAlike_73 : decode cX5_areAlike 73 = .ok (.istore 4, 2) := by decide +kernel
theorem dX5_areAlike_75 : decode cX5_areAlike 75 = .ok (.iinc 5 1, 3) := by decide +kernel
theorem dX5_areAlike_78 : decode cX5_areAlike 78 = .ok (.goto (-48), 3) := by decide +kernel
theorem dX5_areAlike_81 : decode cX5_areAlike 81 = .ok (.iload 4, 2) := by decide +kernel
theorem dX5_areAlike_83 : decode cX5_areAlike 83 = .ok (.ireturn, 1) := by decide +kernel
theorem dX5_counts_0 : decode cX5_counts 0 = .ok (.aload_n 0, 1) := by decide +kernel
theorem dX5_counts_1 : decode cX5_counts 1 = .ok (.getfield 16, 3) := by decide +kernel
theorem dX5_counts_4 : decode cX5_counts 4 = .ok (.iload_n 1, 1) := by decide +kernel
theorem dX5_counts_5 : decode cX5_counts 5 = .ok (.iaload, 1) := by decide +kernel
theorem dX5_counts_6 : decode cX5_counts 6 = .ok (.aload_n 0, 1) := by decide +kernel
theorem dX5_counts_7 : decode cX5_counts 7 = .ok (.getfield 19, 3) := by decide +kernel
theorem dX5_counts_10 : decode cX5_counts 10 = .ok (.if_icmp .lt 7, 3) := by decide +kernel
theorem dX5_counts_13 : decode cX5_counts 13 = .ok (.iconst 1, 1) := by decide +kernel
theorem dX5_counts_14 : decode cX5_counts 14 = .ok (.goto 4, 3) := by decide +kernel
theorem dX5_counts_17 : decode cX5_counts 17 = .ok (.iconst 0, 1) := by decide +kernel
theorem dX5_counts_18 : decode cX5_counts 18 = .ok (.ireturn, 1) := by decide +kernel
set_option maxRecDepth 20000 in
theorem ggX5_found_X5_begins : GoodIn wsX5_found wsX5_begins := goodIn_r _ [9, 2, 10, 11, 12, 13, 14, 15, 16, 17, 18, 19, 20, 21, 22, 23, 24, 25, 26, 27, 28, 29] (by decide +kernel) (by decide +kernel)
set_option maxRecDepth 20000 in
theorem gX5_found_X5_begins : GoodIn wsX5_found (wsV RX5 57 RX5 yX5_begins wsX5_begins) := goodIn_app (goodIn_of _ (by decide +kernel)) ggX5_found_X5_begins
theorem dX5_found_0 : decode cX5_found 0 = .ok (.iconst (-1), 1) := by decide +kernel
theorem dX5_found_1 : decode cX5_found 1 = .ok (.istore_n 1, 1) := by decide +kernel
theorem dX5_found_2 : decode cX5_found 2 = .ok (.iconst 0, 1) := by decide +kernel
theorem dX5_found_3 : decode cX5_found 3 = .ok (.istore_n 2, 1) := by decide +kernel
theorem dX5_found_4 : decode cX5_found 4 = .ok (.iload_n 2, 1) := by decide +kernel
theorem dX5_found_5 : decode cX5_found 5 = .ok (.aload_n 0, 1) := by decide +kernel
theorem dX5_found_6 : decode cX5_found 6 = .ok (.getfield 51, 3) := by decide +kernel
theorem dX5_found_9 : decode cX5_found 9 = .ok (.if_icmp .ge 44, 3) := by decide +kernel
theorem dX5_found_12 : decode cX5_found 12 = .ok (.aload_n 0, 1) := by decide +kernel
theorem dX5_found_13 : decode cX5_found 13 = .ok (.getfield 16, 3) := by decide +kernel
theorem dX5_found_16 : decode cX5_found 16 = .ok (.iload_n 2, 1) := by decide +kernel
theorem dX5_found_17 : decode cX5_found 17 = .ok (.iaload, 1) := by decide +kernel
theorem dX5_found_18 : decode cX5_found 18 = .ok (.aload_n 0, 1) := by decide +kernel
theorem dX5_found_19 : decode cX5_found 19 = .ok (.getfield 54, 3) := by decide +kernel
theorem dX5_found_22 : decode cX5_found 22 = .ok (.if_icmp .ne 23, 3) := by decide +kernel
theorem dX5_found_25 : decode cX5_found 25 = .ok (.aload_n 0, 1) := by decide +kernel
theorem dX5_found_26 : decode cX5_found 26 = .ok (.iload_n 2, 1) := by decide +kernel
theorem dX5_found_27 : decode cX5_found 27 = .ok (.aload_n 0, 1) := by decide +kernel
theorem dX5_found_28 : decode cX5_found 28 = .ok (.getfield 7, 3) := by decide +kernel
theorem dX5_found_31 : decode cX5_found 31 = .ok (.aload_n 0, 1) := by decide +kernel
theorem dX5_found_32 : decode cX5_found 32 = .ok (.getfield 54, 3) := by decide +kernel
theorem dX5_found_35 : decode cX5_found 35 = .ok (.invokevirtual 57, 3) := by decide +kernel
theorem dX5_found_38 : decode cX5_found 38 = .ok (.ifCond .eq 7, 3) := by decide +kernel
theorem dX5_found_41 : decode cX5_found 41 = .ok (.iload_n 2, 1) := by decide +kernel
theorem dX5_found_42 : decode cX5_found 42 = .ok (.goto 4, 3) := by decide +kernel
theorem dX5_found_45 : decode cX5_found 45 = .ok (.iload_n 1, 1) := by decide +kernel
theorem dX5_found_46 : decode cX5_found 46 = .ok (.istore_n 1, 1) := by decide +kernel
theorem dX5_found_47 : decode cX5_found 47 = .ok (.iinc 2 1, 3) := by decide +kernel
theorem dX5_found_50 : decode cX5_found 50 = .ok (.goto (-46), 3) := by decide +kernel
theorem dX5_found_53 : decode cX5_found 53 = .ok (.iload_n 1, 1) := by decide +kernel
theorem dX5_found_54 : decode cX5_found 54 = .ok (.ireturn, 1) := by decide +kernel
theorem dX5_isBefore_0 : decode cX5_isBefore 0 = .ok (.aload_n 0, 1) := by decide +kernel
theorem dX5_isBefore_1 : decode cX5_isBefore 1 = .ok (.getfield 16, 3) := by decide +kernel
theorem dX5_isBefore_4 : decode cX5_isBefore 4 = .ok (.iload_n 1, 1) := by decide +kernel
theorem dX5_isBefore_5 : decode cX5_isBefore 5 = .ok (.iaload, 1) := by decide +kernel
theorem dX5_isBefore_6 : decode cX5_isBefore 6 = .ok (.aload_n 0, 1) := by decide +kernel
theorem dX5_isBefore_7 : decode cX5_isBefore 7 = .ok (.getfield 16, 3) := by decide +kernel
theorem dX5_isBefore_10 : decode cX5_isBefore 10 = .ok (.iload_n 2, 1) := by decide +kernel
theorem dX5_isBefore_11 : decode cX5_isBefore 11 = .ok (.iaload, 1) := by decide +kernel
theorem dX5_isBefore_12 : decode cX5_isBefore 12 = .ok (.if_icmp .eq 24, 3) := by decide +kernel
theorem dX5_isBefore_15 : decode cX5_isBefore 15 = .ok (.aload_n 0, 1) := by decide +kernel
theorem dX5_isBefore_16 : decode cX5_isBefore 16 = .ok (.getfield 16, 3) := by decide +kernel
theorem dX5_isBefore_19 : decode cX5_isBefore 19 = .ok (.iload_n 1, 1) := by decide +kernel
theorem dX5_isBefore_20 : decode cX5_isBefore 20 = .ok (.iaload, 1) := by decide +kernel
theorem dX5_isBefore_21 : decode cX5_isBefore 21 = .ok (.aload_n 0, 1) := by decide +kernel
theorem dX5_isBefore_22 : decode cX5_isBefore 22 = .ok (.getfield 16, 3) := by decide +kernel
theorem dX5_isBefore_25 : decode cX5_isBefore 25 = .ok (.iload_n 2, 1) := by decide +kernel
theorem dX5_isBefore_26 : decode cX5_isBefore 26 = .ok (.iaload, 1) := by decide +kernel
theorem dX5_isBefore_27 : decode cX5_isBefore 27 = .ok (.if_icmp .ge 7, 3) := by decide +kernel
theorem dX5_isBefore_30 : decode cX5_isBefore 30 = .ok (.iconst 1, 1) := by decide +kernel
theorem dX5_isBefore_31 : decode cX5_isBefore 31 = .ok (.goto 4, 3) := by decide +kernel
theorem dX5_isBefore_34 : decode cX5_isBefore 34 = .ok (.iconst 0, 1) := by decide +kernel
theorem dX5_isBefore_35 : decode cX5_isBefore 35 = .ok (.ireturn, 1) := by decide +kernel
theorem dX5_isBefore_36 : decode cX5_isBefore 36 = .ok (.iconst 0, 1) := by decide +kernel
theorem dX5_isBefore_37 : decode cX5_isBefore 37 = .ok (.istore_n 3, 1) := by decide +kernel
theorem dX5_isBefore_38 : decode cX5_isBefore 38 = .ok (.iload_n 3, 1) := by decide +kernel
theorem dX5_isBefore_39 : decode cX5_isBefore 39 = .ok (.aload_n 0, 1) := by decide +kernel
theorem dX5_isBefore_40 : decode cX5_isBefore 40 = .ok (.getfield 16, 3) := by decide +kernel
theorem dX5_isBefore_43 : decode cX5_isBefore 43 = .ok (.iload_n 1, 1) := by decide +kernel
theorem dX5_isBefore_44 : decode cX5_isBefore 44 = .ok (.iaload, 1) := by decide +kernel
theorem dX5_isBefore_45 : decode cX5_isBefore 45 = .ok (.if_icmp .ge 55, 3) := by decide +kernel
theorem dX5_isBefore_48 : decode cX5_isBefore 48 = .ok (.aload_n 0, 1) := by decide +kernel
theorem dX5_isBefore_49 : decode cX5_isBefore 49 = .ok (.getfield 13, 3) := by decide +kernel
theorem dX5_isBefore_52 : decode cX5_isBefore 52 = .ok (.bipush 10, 2) := by decide +kernel
theorem dX5_isBefore_54 : decode cX5_isBefore 54 = .ok (.iload_n 1, 1) := by decide +kernel
theorem dX5_isBefore_55 : decode cX5_isBefore 55 = .ok (.imul, 1) := by decide +kernel
theorem dX5_isBefore_56 : decode cX5_isBefore 56 = .ok (.iload_n 3, 1) := by decide +kernel
theorem dX5_isBefore_57 : decode cX5_isBefore 57 = .ok (.iadd, 1) := by decide +kernel
theorem dX5_isBefore_58 : decode cX5_isBefore 58 = .ok (.iaload, 1) := by decide +kernel
theorem dX5_isBefore_59 : decode cX5_isBefore 59 = .ok (.istore 4, 2) := by decide +kernel
theorem dX5_isBefore_61 : decode cX5_isBefore 61 = .ok (.aload_n 0, 1) := by decide +kernel
theorem dX5_isBefore_62 : decode cX5_isBefore 62 = .ok (.getfield 13, 3) := by decide +kernel
theorem dX5_isBefore_65 : decode cX5_isBefore 65 = .ok (.bipush 10, 2) := by decide +kernel
theorem dX5_isBefore_67 : decode cX5_isBefore 67 = .ok (.iload_n 2, 1) := by decide +kernel
theorem dX5_isBefore_68 : decode cX5_isBefore 68 = .ok (.imul, 1) := by decide +kernel
theorem dX5_isBefore_69 : decode cX5_isBefore 69 = .ok (.iload_n 3, 1) := by decide +kernel
theorem dX5_isBefore_70 : decode cX5_isBefore 70 = .ok (.iadd, 1) := by decide +kernel
theorem dX5_isBefore_71 : decode cX5_isBefore 71 = .ok (.iaload, 1) := by decide +kernel
theorem dX5_isBefore_72 : decode cX5_isBefore 72 = .ok (.istore 5, 2) := by decide +kernel
theorem dX5_isBefore_74 : decode cX5_isBefore 74 = .ok (.iload 4, 2) := by decide +kernel
theorem dX5_isBefore_76 : decode cX5_isBefore 76 = .ok (.iload 5, 2) := by decide +kernel
theorem dX5_isBefore_78 : decode cX5_isBefore 78 = .ok (.if_icmp .eq 16, 3) := by decide +kernel
theorem dX5_isBefore_81 : decode cX5_isBefore 81 = .ok (.iload 4, 2) := by decide +kernel
theorem dX5_isBefore_83 : decode cX5_isBefore 83 = .ok (.iload 5, 2) := by decide +kernel
theorem dX5_isBefore_85 : decode cX5_isBefore 85 = .ok (.if_icmp .ge 7, 3) := by decide +kernel
theorem dX5_isBefore_88 : decode cX5_isBefore 88 = .ok (.iconst 1, 1) := by decide +kernel
theorem dX5_isBefore_89 : decode cX5_isBefore 89 = .ok (.goto 4, 3) := by decide +kernel
theorem dX5_isBefore_92 : decode cX5_isBefore 92 = .ok (.iconst 0, 1) := by decide +kernel
theorem dX5_isBefore_93 : decode cX5_isBefore 93 = .ok (.ireturn, 1) := by decide +kernel
theorem dX5_isBefore_94 : decode cX5_isBefore 94 = .ok (.iinc 3 1, 3) := by decide +kernel
theorem dX5_isBefore_97 : decode cX5_isBefore 97 = .ok (.goto (-59), 3) := by decide +kernel
theorem dX5_isBefore_100 : decode cX5_isBefore 100 = .ok (.iconst 0, 1) := by decide +kernel
theorem dX5_isBefore_101 : decode cX5_isBefore 101 = .ok (.ireturn, 1) := by decide +kernel
set_option maxRecDepth 20000 in
theorem ggX5_write_X5_isLetter : GoodIn wsX5_write wsX5_isLetter := goodIn_r _ [6] (by decide +kernel) (by decide +kernel)
set_option maxRecDepth 20000 in
theorem gX5_write_X5_isLetter : GoodIn wsX5_write (va_wsS RX5 61 yX5_isLetter wsX5_isLetter) := goodIn_app (goodIn_of _ (by decide +kernel)) ggX5_write_X5_isLetter
set_option maxRecDepth 20000 in
theorem ggX5_write_X5_asked_ : GoodIn wsX5_write wsX5_asked_ := goodIn_r _ [10, 11, 12, 13, 14, 15, 16, 17, 18, 19, 20, 21, 22, 23, 24, 25, 26, 27, 28, 29, 30] (by decide +kernel) (by decide +kernel)
set_option maxRecDepth 20000 in
theorem gX5_write_X5_asked_ : GoodIn wsX5_write (wsV RX5 65 RX5 yX5_asked_ wsX5_asked_) := goodIn_app (goodIn_of _ (by decide +kernel)) ggX5_write_X5_asked_
theorem dX5_write_0 : decode cX5_write 0 = .ok (.aload_n 0, 1) := by decide +kernel
theorem dX5_write_1 : decode cX5_write 1 = .ok (.iload_n 1, 1) := by decide +kernel
theorem dX5_write_2 : decode cX5_write 2 = .ok (.invokestatic 61, 3) := by decide +kernel
theorem dX5_write_5 : decode cX5_write 5 = .ok (.aload_n 0, 1) := by decide +kernel
theorem dX5_write_6 : decode cX5_write 6 = .ok (.getfield 54, 3) := by decide +kernel
theorem dX5_write_9 : decode cX5_write 9 = .ok (.bipush 10, 2) := by decide +kernel
theorem dX5_write_11 : decode cX5_write 11 = .ok (.if_icmp .ge 7, 3) := by decide +kernel
theorem dX5_write_14 : decode cX5_write 14 = .ok (.iconst 1, 1) := by decide +kernel
theorem dX5_write_15 : decode cX5_write 15 = .ok (.goto 4, 3) := by decide +kernel
theorem dX5_write_18 : decode cX5_write 18 = .ok (.iconst 0, 1) := by decide +kernel
theorem dX5_write_19 : decode cX5_write 19 = .ok (.invokevirtual 65, 3) := by decide +kernel
theorem dX5_write_22 : decode cX5_write 22 = .ok (.ifCond .ne 5, 3) := by decide +kernel
theorem dX5_write_25 : decode cX5_write 25 = .ok (.iconst 0, 1) := by decide +kernel
theorem dX5_write_26 : decode cX5_write 26 = .ok (.ireturn, 1) := by decide +kernel
theorem dX5_write_27 : decode cX5_write 27 = .ok (.aload_n 0, 1) := by decide +kernel
theorem dX5_write_28 : decode cX5_write 28 = .ok (.getfield 7, 3) := by decide +kernel
theorem dX5_write_31 : decode cX5_write 31 = .ok (.aload_n 0, 1) := by decide +kernel
theorem dX5_write_32 : decode cX5_write 32 = .ok (.getfield 54, 3) := by decide +kernel
theorem dX5_write_35 : decode cX5_write 35 = .ok (.iload_n 1, 1) := by decide +kernel
theorem dX5_write_36 : decode cX5_write 36 = .ok (.iastore, 1) := by decide +kernel
theorem dX5_write_37 : decode cX5_write 37 = .ok (.aload_n 0, 1) := by decide +kernel
theorem dX5_write_38 : decode cX5_write 38 = .ok (.dup, 1) := by decide +kernel
theorem dX5_write_39 : decode cX5_write 39 = .ok (.getfield 54, 3) := by decide +kernel
theorem dX5_write_42 : decode cX5_write 42 = .ok (.iconst 1, 1) := by decide +kernel
theorem dX5_write_43 : decode cX5_write 43 = .ok (.iadd, 1) := by decide +kernel
theorem dX5_write_44 : decode cX5_write 44 = .ok (.putfield 54, 3) := by decide +kernel
theorem dX5_write_47 : decode cX5_write 47 = .ok (.aload_n 0, 1) := by decide +kernel
theorem dX5_write_48 : decode cX5_write 48 = .ok (.getfield 54, 3) := by decide +kernel
theorem dX5_write_51 : decode cX5_write 51 = .ok (.ireturn, 1) := by decide +kernel
set_option maxRecDepth 20000 in
theorem ggX5_wipe_X5_told : GoodIn wsX5_wipe wsX5_told := goodIn_r _ [6, 7, 8, 9, 10, 11, 12, 13, 14, 15, 16, 17, 18, 19, 20, 21, 22, 23, 24, 25, 26] (by decide +kernel) (by decide +kernel)
set_option maxRecDepth 20000 in
theorem gX5_wipe_X5_told : GoodIn wsX5_wipe (wsV RX5 69 RX5 yX5_told wsX5_told) := goodIn_app (goodIn_of _ (by decide +kernel)) ggX5_wipe_X5_told
theorem dX5_wipe_0 : decode cX5_wipe 0 = .ok (.aload_n 0, 1) := by decide +kernel
theorem dX5_wipe_1 : decode cX5_wipe 1 = .ok (.getfield 54, 3) := by decide +kernel
theorem dX5_wipe_4 : decode cX5_wipe 4 = .ok (.istore_n 1, 1) := by decide +kernel
theorem dX5_wipe_5 : decode cX5_wipe 5 = .ok (.aload_n 0, 1) := by decide +kernel
theorem dX5_wipe_6 : decode cX5_wipe 6 = .ok (.iconst 0, 1) := by decide +kernel
theorem dX5_wipe_7 : decode cX5_wipe 7 = .ok (.putfield 54, 3) := by decide +kernel
theorem dX5_wipe_10 : decode cX5_wipe 10 = .ok (.aload_n 0, 1) := by decide +kernel
theorem dX5_wipe_11 : decode cX5_wipe 11 = .ok (.iload_n 1, 1) := by decide +kernel
theorem dX5_wipe_12 : decode cX5_wipe 12 = .ok (.invokevirtual 69, 3) := by decide +kernel
theorem dX5_wipe_15 : decode cX5_wipe 15 = .ok (.ireturn, 1) := by decide +kernel
set_option maxRecDepth 20000 in
theorem ggX5_slipLength_X5_told : GoodIn wsX5_slipLength wsX5_told := goodIn_r _ [6, 7, 8, 9, 10, 11, 12, 13, 14, 15, 16, 17, 18, 19, 20, 21, 22, 23, 24, 25, 26] (by decide +kernel) (by decide +kernel)
set_option maxRecDepth 20000 in
theorem gX5_slipLength_X5_told : GoodIn wsX5_slipLength (wsV RX5 69 RX5 yX5_told wsX5_told) := goodIn_app (goodIn_of _ (by decide +kernel)) ggX5_slipLength_X5_told
theorem dX5_slipLength_0 : decode cX5_slipLength 0 = .ok (.aload_n 0, 1) := by decide +kernel
theorem dX5_slipLength_1 : decode cX5_slipLength 1 = .ok (.aload_n 0, 1) := by decide +kernel
theorem dX5_slipLength_2 : decode cX5_slipLength 2 = .ok (.getfield 54, 3) := by decide +kernel
theorem dX5_slipLength_5 : decode cX5_slipLength 5 = .ok (.invokevirtual 69, 3) := by decide +kernel
theorem dX5_slipLength_8 : decode cX5_slipLength 8 = .ok (.ireturn, 1) := by decide +kernel
set_option maxRecDepth 20000 in
theorem ggX5_slipAt_X5_asked : GoodIn wsX5_slipAt wsX5_asked := goodIn_r _ [7, 8, 9, 10, 11, 12, 13, 14, 15, 16, 17, 18, 19, 20, 21, 22, 23, 24, 25, 26, 27] (by decide +kernel) (by decide +kernel)
set_option maxRecDepth 20000 in
theorem gX5_slipAt_X5_asked : GoodIn wsX5_slipAt (wsV RX5 73 RX5 yX5_asked wsX5_asked) := goodIn_app (goodIn_of _ (by decide +kernel)) ggX5_slipAt_X5_asked
theorem dX5_slipAt_0 : decode cX5_slipAt 0 = .ok (.aload_n 0, 1) := by decide +kernel
theorem dX5_slipAt_1 : decode cX5_slipAt 1 = .ok (.iload_n 1, 1) := by decide +kernel
theorem dX5_slipAt_2 : decode cX5_slipAt 2 = .ok (.ifCond .lt 15, 3) := by decide +kernel
theorem dX5_slipAt_5 : decode cX5_slipAt 5 = .ok (.iload_n 1, 1) := by decide +kernel
theorem dX5_slipAt_6 : decode cX5_slipAt 6 = .ok (.aload_n 0, 1) := by decide +kernel
theorem dX5_slipAt_7 : decode cX5_slipAt 7 = .ok (.getfield 54, 3) := by decide +kernel
theorem dX5_slipAt_10 : decode cX5_slipAt 10 = .ok (.if_icmp .ge 7, 3) := by decide +kernel
theorem dX5_slipAt_13 : decode cX5_slipAt 13 = .ok (.iconst 1, 1) := by decide +kernel
theorem dX5_slipAt_14 : decode cX5_slipAt 14 = .ok (.goto 4, 3) := by decide +kernel
theorem dX5_slipAt_17 : decode cX5_slipAt 17 = .ok (.iconst 0, 1) := by decide +kernel
theorem dX5_slipAt_18 : decode cX5_slipAt 18 = .ok (.invokevirtual 73, 3) := by decide +kernel
theorem dX5_slipAt_21 : decode cX5_slipAt 21 = .ok (.ifCond .eq 12, 3) := by decide +kernel
theorem dX5_slipAt_24 : decode cX5_slipAt 24 = .ok (.aload_n 0, 1) := by decide +kernel
theorem dX5_slipAt_25 : decode cX5_slipAt 25 = .ok (.getfield 7, 3) := by decide +kernel
theorem dX5_slipAt_28 : decode cX5_slipAt 28 = .ok (.iload_n 1, 1) := by decide +kernel
theorem dX5_slipAt_29 : decode cX5_slipAt 29 = .ok (.iaload, 1) := by decide +kernel
theorem dX5_slipAt_30 : decode cX5_slipAt 30 = .ok (.goto 4, 3) := by decide +kernel
theorem dX5_slipAt_33 : decode cX5_slipAt 33 = .ok (.iconst 0, 1) := by decide +kernel
theorem dX5_slipAt_34 : decode cX5_slipAt 34 = .ok (.ireturn, 1) := by decide +kernel
set_option maxRecDepth 20000 in
theorem ggX5_addWord_X5_found : GoodIn wsX5_addWord wsX5_found := goodIn_r _ [10, 2, 3, 1, 5, 11, 12, 13, 9, 14, 4, 20, 21, 22, 23, 24, 25, 26, 27, 28, 29, 30, 31, 32, 33, 34, 35, 36, 37, 38] (by decide +kernel) (by decide +kernel)
set_option maxRecDepth 20000 in
theorem gX5_addWord_X5_found : GoodIn wsX5_addWord (wsV RX5 76 RX5 yX5_found wsX5_found) := goodIn_app (goodIn_of _ (by decide +kernel)) ggX5_addWord_X5_found
set_option maxRecDepth 20000 in
theorem ggX5_addWord_X5_asked_ : GoodIn wsX5_addWord wsX5_asked_ := goodIn_r _ [18, 19, 20, 21, 22, 23, 24, 25, 26, 27, 28, 29, 30, 31, 32, 33, 34, 35, 36, 37, 38] (by decide +kernel) (by decide +kernel)
set_option maxRecDepth 20000 in
theorem gX5_addWord_X5_asked_ : GoodIn wsX5_addWord (wsV RX5 65 RX5 yX5_asked_ wsX5_asked_) := goodIn_app (goodIn_of _ (by decide +kernel)) ggX5_addWord_X5_asked_
theorem dX5_addWord_0 : decode cX5_addWord 0 = .ok (.aload_n 0, 1) := by decide +kernel
theorem dX5_addWord_1 : decode cX5_addWord 1 = .ok (.aload_n 0, 1) := by decide +kernel
theorem dX5_addWord_2 : decode cX5_addWord 2 = .ok (.getfield 54, 3) := by decide +kernel
theorem dX5_addWord_5 : decode cX5_addWord 5 = .ok (.iconst 2, 1) := by decide +kernel
theorem dX5_addWord_6 : decode cX5_addWord 6 = .ok (.if_icmp .lt 7, 3) := by decide +kernel
theorem dX5_addWord_9 : decode cX5_addWord 9 = .ok (.iconst 1, 1) := by decide +kernel
theorem dX5_addWord_10 : decode cX5_addWord 10 = .ok (.goto 4, 3) := by decide +kernel
theorem dX5_addWord_13 : decode cX5_addWord 13 = .ok (.iconst 0, 1) := by decide +kernel
theorem dX5_addWord_14 : decode cX5_addWord 14 = .ok (.aload_n 0, 1) := by decide +kernel
theorem dX5_addWord_15 : decode cX5_addWord 15 = .ok (.getfield 51, 3) := by decide +kernel
theorem dX5_addWord_18 : decode cX5_addWord 18 = .ok (.bipush 50, 2) := by decide +kernel
theorem dX5_addWord_20 : decode cX5_addWord 20 = .ok (.if_icmp .ge 15, 3) := by decide +kernel
theorem dX5_addWord_23 : decode cX5_addWord 23 = .ok (.aload_n 0, 1) := by decide +kernel
theorem dX5_addWord_24 : decode cX5_addWord 24 = .ok (.invokevirtual 76, 3) := by decide +kernel
theorem dX5_addWord_27 : decode cX5_addWord 27 = .ok (.iconst (-1), 1) := by decide +kernel
theorem dX5_addWord_28 : decode cX5_addWord 28 = .ok (.if_icmp .ne 7, 3) := by decide +kernel
theorem dX5_addWord_31 : decode cX5_addWord 31 = .ok (.iconst 1, 1) := by decide +kernel
theorem dX5_addWord_32 : decode cX5_addWord 32 = .ok (.goto 4, 3) := by decide +kernel
theorem dX5_addWord_35 : decode cX5_addWord 35 = .ok (.iconst 0, 1) := by decide +kernel
theorem dX5_addWord_36 : decode cX5_addWord 36 = .ok (.invokevirtual 65, 3) := by decide +kernel
theorem dX5_addWord_39 : decode cX5_addWord 39 = .ok (.ifCond .ne 5, 3) := by decide +kernel
theorem dX5_addWord_42 : decode cX5_addWord 42 = .ok (.iconst 0, 1) := by decide +kernel
theorem dX5_addWord_43 : decode cX5_addWord 43 = .ok (.ireturn, 1) := by decide +kernel
theorem dX5_addWord_44 : decode cX5_addWord 44 = .ok (.aload_n 0, 1) := by decide +kernel
theorem dX5_addWord_45 : decode cX5_addWord 45 = .ok (.getfield 16, 3) := by decide +kernel
theorem dX5_addWord_48 : decode cX5_addWord 48 = .ok (.aload_n 0, 1) := by decide +kernel
theorem dX5_addWord_49 : decode cX5_addWord 49 = .ok (.getfield 51, 3) := by decide +kernel
theorem dX5_addWord_52 : decode cX5_addWord 52 = .ok (.aload_n 0, 1) := by decide +kernel
theorem dX5_addWord_53 : decode cX5_addWord 53 = .ok (.getfield 54, 3) := by decide +kernel
theorem dX5_addWord_56 : decode cX5_addWord 56 = .ok (.iastore, 1) := by decide +kernel
theorem dX5_addWord_57 : decode cX5_addWord 57 = .ok (.iconst 0, 1) := by decide +kernel
theorem dX5_addWord_58 : decode cX5_addWord 58 = .ok (.istore_n 1, 1) := by decide +kernel
theorem dX5_addWord_59 : decode cX5_addWord 59 = .ok (.iload_n 1, 1) := by decide +kernel
theorem dX5_addWord_60 : decode cX5_addWord 60 = .ok (.aload_n 0, 1) := by decide +kernel
theorem dX5_addWord_61 : decode cX5_addWord 61 = .ok (.getfield 54, 3) := by decide +kernel
theorem dX5_addWord_64 : decode cX5_addWord 64 = .ok (.if_icmp .ge 29, 3) := by decide +kernel
theorem dX5_addWord_67 : decode cX5_addWord 67 = .ok (.aload_n 0, 1) := by decide +kernel
theorem dX5_addWord_68 : decode cX5_addWord 68 = .ok (.getfield 13, 3) := by decide +kernel
theorem dX5_addWord_71 : decode cX5_addWord 71 = .ok (.bipush 10, 2) := by decide +kernel
theorem dX5_addWord_73 : decode cX5_addWord 73 = .ok (.aload_n 0, 1) := by decide +kernel
theorem dX5_addWord_74 : decode cX5_addWord 74 = .ok (.getfield 51, 3) := by decide +kernel
theorem dX5_addWord_77 : decode cX5_addWord 77 = .ok (.imul, 1) := by decide +kernel
theorem dX5_addWord_78 : decode cX5_addWord 78 = .ok (.iload_n 1, 1) := by decide +kernel
theorem dX5_addWord_79 : decode cX5_addWord 79 = .ok (.iadd, 1) := by decide +kernel
theorem dX5_addWord_80 : decode cX5_addWord 80 = .ok (.aload_n 0, 1) := by decide +kernel
theorem dX5_addWord_81 : decode cX5_addWord 81 = .ok (.getfield 7, 3) := by decide +kernel
theorem dX5_addWord_84 : decode cX5_addWord 84 = .ok (.iload_n 1, 1) := by decide +kernel
theorem dX5_addWord_85 : decode cX5_addWord 85 = .ok (.iaload, 1) := by decide +kernel
theorem dX5_addWord_86 : decode cX5_addWord 86 = .ok (.iastore, 1) := by decide +kernel
theorem dX5_addWord_87 : decode cX5_addWord 87 = .ok (.iinc 1 1, 3) := by decide +kernel
theorem dX5_addWord_90 : decode cX5_addWord 90 = .ok (.goto (-31), 3) := by decide +kernel
theorem dX5_addWord_93 : decode cX5_addWord 93 = .ok (.aload_n 0, 1) := by decide +kernel
theorem dX5_addWord_94 : decode cX5_addWord 94 = .ok (.dup, 1) := by decide +kernel
theorem dX5_addWord_95 : decode cX5_addWord 95 = .ok (.getfield 51, 3) := by decide +kernel
theorem dX5_addWord_98 : decode cX5_addWord 98 = .ok (.iconst 1, 1) := by decide +kernel
theorem dX5_addWord_99 : decode cX5_addWord 99 = .ok (.iadd, 1) := by decide +kernel
theorem dX5_addWord_100 : decode cX5_addWord 100 = .ok (.putfield 51, 3) := by decide +kernel
theorem dX5_addWord_103 : decode cX5_addWord 103 = .ok (.aload_n 0, 1) := by decide +kernel
theorem dX5_addWord_104 : decode cX5_addWord 104 = .ok (.getfield 51, 3) := by decide +kernel
theorem dX5_addWord_107 : decode cX5_addWord 107 = .ok (.ireturn, 1) := by decide +kernel
set_option maxRecDepth 20000 in
theorem ggX5_removeWord_X5_found : GoodIn wsX5_removeWord wsX5_found := goodIn_r _ [8, 1, 2, 9, 10, 11, 12, 13, 7, 14, 3, 20, 21, 22, 23, 24, 25, 26, 27, 28, 29, 30, 31, 32, 33, 34, 35, 36, 37, 38] (by decide +kernel) (by decide +kernel)
set_option maxRecDepth 20000 in
theorem gX5_removeWord_X5_found : GoodIn wsX5_removeWord (wsV RX5 76 RX5 yX5_found wsX5_found) := goodIn_app (goodIn_of _ (by decide +kernel)) ggX5_removeWord_X5_found
set_option maxRecDepth 20000 in
theorem ggX5_removeWord_X5_asked : GoodIn wsX5_removeWord wsX5_asked := goodIn_r _ [18, 19, 20, 21, 22, 23, 24, 25, 26, 27, 28, 29, 30, 31, 32, 33, 34, 35, 36, 37, 38] (by decide +kernel) (by decide +kernel)
set_option maxRecDepth 20000 in
theorem gX5_removeWord_X5_asked : GoodIn wsX5_removeWord (wsV RX5 73 RX5 yX5_asked wsX5_asked) := goodIn_app (goodIn_of _ (by decide +kernel)) ggX5_removeWord_X5_asked
theorem dX5_removeWord_0 : decode cX5_removeWord 0 = .ok (.aload_n 0, 1) := by decide +kernel
theorem dX5_removeWord_1 : decode cX5_removeWord 1 = .ok (.invokevirtual 76, 3) := by decide +kernel
theorem dX5_removeWord_4 : decode cX5_removeWord 4 = .ok (.istore_n 1, 1) := by decide +kernel
theorem dX5_removeWord_5 : decode cX5_removeWord 5 = .ok (.aload_n 0, 1) := by decide +kernel
theorem dX5_removeWord_6 : decode cX5_removeWord 6 = .ok (.iload_n 1, 1) := by decide +kernel
theorem dX5_removeWord_7 : decode cX5_removeWord 7 = .ok (.iconst (-1), 1) := by decide +kernel
theorem dX5_removeWord_8 : decode cX5_removeWord 8 = .ok (.if_icmp .eq 7, 3) := by decide +kernel
theorem dX5_removeWord_11 : decode cX5_removeWord 11 = .ok (.iconst 1, 1) := by decide +kernel
theorem dX5_removeWord_12 : decode cX5_removeWord 12 = .ok (.goto 4, 3) := by decide +kernel
theorem dX5_removeWord_15 : decode cX5_removeWord 15 = .ok (.iconst 0, 1) := by decide +kernel
theorem dX5_removeWord_16 : decode cX5_removeWord 16 = .ok (.invokevirtual 73, 3) := by decide +kernel
theorem dX5_removeWord_19 : decode cX5_removeWord 19 = .ok (.ifCond .ne 5, 3) := by decide +kernel
theorem dX5_removeWord_22 : decode cX5_removeWord 22 = .ok (.iconst 0, 1) := by decide +kernel
theorem dX5_removeWord_23 : decode cX5_removeWord 23 = .ok (.ireturn, 1) := by decide +kernel
theorem dX5_removeWord_24 : decode cX5_removeWord 24 = .ok (.aload_n 0, 1) := by decide +kernel
theorem dX5_removeWord_25 : decode cX5_removeWord 25 = .ok (.dup, 1) := by decide +kernel
theorem dX5_removeWord_26 : decode cX5_removeWord 26 = .ok (.getfield 51, 3) := by decide +kernel
theorem dX5_removeWord_29 : decode cX5_removeWord 29 = .ok (.iconst 1, 1) := by decide +kernel
theorem dX5_removeWord_30 : decode cX5_removeWord 30 = .ok (.isub, 1) := by decide +kernel
theorem dX5_removeWord_31 : decode cX5_removeWord 31 = .ok (.putfield 51, 3) := by decide +kernel
theorem dX5_removeWord_34 : decode cX5_removeWord 34 = .ok (.aload_n 0, 1) := by decide +kernel
theorem dX5_removeWord_35 : decode cX5_removeWord 35 = .ok (.getfield 16, 3) := by decide +kernel
theorem dX5_removeWord_38 : decode cX5_removeWord 38 = .ok (.iload_n 1, 1) := by decide +kernel
theorem dX5_removeWord_39 : decode cX5_removeWord 39 = .ok (.aload_n 0, 1) := by decide +kernel
theorem dX5_removeWord_40 : decode cX5_removeWord 40 = .ok (.getfield 16, 3) := by decide +kernel
theorem dX5_removeWord_43 : decode cX5_removeWord 43 = .ok (.aload_n 0, 1) := by decide +kernel
theorem dX5_removeWord_44 : decode cX5_removeWord 44 = .ok (.getfield 51, 3) := by decide +kernel
theorem dX5_removeWord_47 : decode cX5_removeWord 47 = .ok (.iaload, 1) := by decide +kernel
theorem dX5_removeWord_48 : decode cX5_removeWord 48 = .ok (.iastore, 1) := by decide +kernel
theorem dX5_removeWord_49 : decode cX5_removeWord 49 = .ok (.iconst 0, 1) := by decide +kernel
theorem dX5_removeWord_50 : decode cX5_removeWord 50 = .ok (.istore_n 2, 1) := by decide +kernel
theorem dX5_removeWord_51 : decode cX5_removeWord 51 = .ok (.iload_n 2, 1) := by decide +kernel
theorem dX5_removeWord_52 : decode cX5_removeWord 52 = .ok (.bipush 10, 2) := by decide +kernel
theorem dX5_removeWord_54 : decode cX5_removeWord 54 = .ok (.if_icmp .ge 34, 3) := by decide +kernel
theorem dX5_removeWord_57 : decode cX5_removeWord 57 = .ok (.aload_n 0, 1) := by decide +kernel
theorem dX5_removeWord_58 : decode cX5_removeWord 58 = .ok (.getfield 13, 3) := by decide +kernel
theorem dX5_removeWord_61 : decode cX5_removeWord 61 = .ok (.bipush 10, 2) := by decide +kernel
theorem dX5_removeWord_63 : decode cX5_removeWord 63 = .ok (.iload_n 1, 1) := by decide +kernel
theorem dX5_removeWord_64 : decode cX5_removeWord 64 = .ok (.imul, 1) := by decide +kernel
theorem dX5_removeWord_65 : decode cX5_removeWord 65 = .ok (.iload_n 2, 1) := by decide +kernel
theorem dX5_removeWord_66 : decode cX5_removeWord 66 = .ok (.iadd, 1) := by decide +kernel
theorem dX5_removeWord_67 : decode cX5_removeWord 67 = .ok (.aload_n 0, 1) := by decide +kernel
theorem dX5_removeWord_68 : decode cX5_removeWord 68 = .ok (.getfield 13, 3) := by decide +kernel
theorem dX5_removeWord_71 : decode cX5_removeWord 71 = .ok (.bipush 10, 2) := by decide +kernel
theorem dX5_removeWord_73 : decode cX5_removeWord 73 = .ok (.aload_n 0, 1) := by decide +kernel
theorem dX5_removeWord_74 : decode cX5_removeWord 74 = .ok (.getfield 51, 3) := by decide +kernel
theorem dX5_removeWord_77 : decode cX5_removeWord 77 = .ok (.imul, 1) := by decide +kernel
theorem dX5_removeWord_78 : decode cX5_removeWord 78 = .ok (.iload_n 2, 1) := by decide +kernel
theorem dX5_removeWord_79 : decode cX5_removeWord 79 = .ok (.iadd, 1) := by decide +kernel
theorem dX5_removeWord_80 : decode cX5_removeWord 80 = .ok (.iaload, 1) := by decide +kernel
theorem dX5_removeWord_81 : decode cX5_removeWord 81 = .ok (.iastore, 1) := by decide +kernel
theorem dX5_removeWord_82 : decode cX5_removeWord 82 = .ok (.iinc 2 1, 3) := by decide +kernel
theorem dX5_removeWord_85 : decode cX5_removeWord 85 = .ok (.goto (-34), 3) := by decide +kernel
theorem dX5_removeWord_88 : decode cX5_removeWord 88 = .ok (.aload_n 0, 1) := by decide +kernel
theorem dX5_removeWord_89 : decode cX5_removeWord 89 = .ok (.getfield 51, 3) := by decide +kernel
theorem dX5_removeWord_92 : decode cX5_removeWord 92 = .ok (.ireturn, 1) := by decide +kernel
set_option maxRecDepth 20000 in
theorem ggX5_isWord_X5_found : GoodIn wsX5_isWord wsX5_found := goodIn_r _ [6, 7, 8, 9, 10, 11, 12, 13, 5, 14, 15, 16, 17, 18, 19, 20, 21, 22, 23, 24, 25, 26, 27, 28, 29, 30, 31, 32, 33, 34] (by decide +kernel) (by decide +kernel)
set_option maxRecDepth 20000 in
theorem gX5_isWord_X5_found : GoodIn wsX5_isWord (wsV RX5 76 RX5 yX5_found wsX5_found) := goodIn_app (goodIn_of _ (by decide +kernel)) ggX5_isWord_X5_found
theorem dX5_isWord_0 : decode cX5_isWord 0 = .ok (.aload_n 0, 1) := by decide +kernel
theorem dX5_isWord_1 : decode cX5_isWord 1 = .ok (.iconst 0, 1) := by decide +kernel
theorem dX5_isWord_2 : decode cX5_isWord 2 = .ok (.putfield 48, 3) := by decide +kernel
theorem dX5_isWord_5 : decode cX5_isWord 5 = .ok (.aload_n 0, 1) := by decide +kernel
theorem dX5_isWord_6 : decode cX5_isWord 6 = .ok (.invokevirtual 76, 3) := by decide +kernel
theorem dX5_isWord_9 : decode cX5_isWord 9 = .ok (.iconst (-1), 1) := by decide +kernel
theorem dX5_isWord_10 : decode cX5_isWord 10 = .ok (.if_icmp .eq 7, 3) := by decide +kernel
theorem dX5_isWord_13 : decode cX5_isWord 13 = .ok (.iconst 1, 1) := by decide +kernel
theorem dX5_isWord_14 : decode cX5_isWord 14 = .ok (.goto 4, 3) := by decide +kernel
theorem dX5_isWord_17 : decode cX5_isWord 17 = .ok (.iconst 0, 1) := by decide +kernel
theorem dX5_isWord_18 : decode cX5_isWord 18 = .ok (.ireturn, 1) := by decide +kernel
set_option maxRecDepth 20000 in
theorem ggX5_words_X5_told : GoodIn wsX5_words wsX5_told := goodIn_r _ [6, 7, 8, 9, 10, 11, 12, 13, 14, 15, 16, 17, 18, 19, 20, 21, 22, 23, 24, 25, 26] (by decide +kernel) (by decide +kernel)
set_option maxRecDepth 20000 in
theorem gX5_words_X5_told : GoodIn wsX5_words (wsV RX5 69 RX5 yX5_told wsX5_told) := goodIn_app (goodIn_of _ (by decide +kernel)) ggX5_words_X5_told
theorem dX5_words_0 : decode cX5_words 0 = .ok (.aload_n 0, 1) := by decide +kernel
theorem dX5_words_1 : decode cX5_words 1 = .ok (.aload_n 0, 1) := by decide +kernel
theorem dX5_words_2 : decode cX5_words 2 = .ok (.getfield 51, 3) := by decide +kernel
theorem dX5_words_5 : decode cX5_words 5 = .ok (.invokevirtual 69, 3) := by decide +kernel
theorem dX5_words_8 : decode cX5_words 8 = .ok (.ireturn, 1) := by decide +kernel
set_option maxRecDepth 20000 in
theorem ggX5_wordsFromSlip_X5_begins : GoodIn wsX5_wordsFromSlip wsX5_begins := goodIn_r _ [8, 9, 10, 16, 17, 18, 19, 20, 21, 22, 23, 24, 25, 26, 27, 28, 29, 30, 31, 32, 33, 34] (by decide +kernel) (by decide +kernel)
set_option maxRecDepth 20000 in
theorem gX5_wordsFromSlip_X5_begins : GoodIn wsX5_wordsFromSlip (wsV RX5 57 RX5 yX5_begins wsX5_begins) := goodIn_app (goodIn_of _ (by decide +kernel)) ggX5_wordsFromSlip_X5_begins
set_option maxRecDepth 20000 in
theorem ggX5_wordsFromSlip_X5_told : GoodIn wsX5_wordsFromSlip wsX5_told := goodIn_r _ [14, 15, 16, 17, 18, 19, 20, 21, 22, 23, 24, 25, 26, 27, 28, 29, 30, 31, 32, 33, 34] (by decide +kernel) (by decide +kernel)
set_option maxRecDepth 20000 in
theorem gX5_wordsFromSlip_X5_told : GoodIn wsX5_wordsFromSlip (wsV RX5 69 RX5 yX5_told wsX5_told) := goodIn_app (goodIn_of _ (by decide +kernel)) ggX5_wordsFromSlip_X5_told
theorem dX5_wordsFromSlip_0 : decode cX5_wordsFromSlip 0 = .ok (.iconst 0, 1) := by decide +kernel
theorem dX5_wordsFromSlip_1 : decode cX5_wordsFromSlip 1 = .ok (.istore_n 1, 1) := by decide +kernel
theorem dX5_wordsFromSlip_2 : decode cX5_wordsFromSlip 2 = .ok (.iconst 0, 1) := by decide +kernel
theorem dX5_wordsFromSlip_3 : decode cX5_wordsFromSlip 3 = .ok (.istore_n 2, 1) := by decide +kernel
theorem dX5_wordsFromSlip_4 : decode cX5_wordsFromSlip 4 = .ok (.iload_n 2, 1) := by decide +kernel
theorem dX5_wordsFromSlip_5 : decode cX5_wordsFromSlip 5 = .ok (.aload_n 0, 1) := by decide +kernel
theorem dX5_wordsFromSlip_6 : decode cX5_wordsFromSlip 6 = .ok (.getfield 51, 3) := by decide +kernel
theorem dX5_wordsFromSlip_9 : decode cX5_wordsFromSlip 9 = .ok (.if_icmp .ge 33, 3) := by decide +kernel
theorem dX5_wordsFromSlip_12 : decode cX5_wordsFromSlip 12 = .ok (.iload_n 1, 1) := by decide +kernel
theorem dX5_wordsFromSlip_13 : decode cX5_wordsFromSlip 13 = .ok (.aload_n 0, 1) := by decide +kernel
theorem dX5_wordsFromSlip_14 : decode cX5_wordsFromSlip 14 = .ok (.iload_n 2, 1) := by decide +kernel
theorem dX5_wordsFromSlip_15 : decode cX5_wordsFromSlip 15 = .ok (.aload_n 0, 1) := by decide +kernel
theorem dX5_wordsFromSlip_16 : decode cX5_wordsFromSlip 16 = .ok (.getfield 7, 3) := by decide +kernel
theorem dX5_wordsFromSlip_19 : decode cX5_wordsFromSlip 19 = .ok (.aload_n 0, 1) := by decide +kernel
theorem dX5_wordsFromSlip_20 : decode cX5_wordsFromSlip 20 = .ok (.getfield 54, 3) := by decide +kernel
theorem dX5_wordsFromSlip_23 : decode cX5_wordsFromSlip 23 = .ok (.invokevirtual 57, 3) := by decide +kernel
theorem dX5_wordsFromSlip_26 : decode cX5_wordsFromSlip 26 = .ok (.ifCond .eq 7, 3) := by decide +kernel
theorem dX5_wordsFromSlip_29 : decode cX5_wordsFromSlip 29 = .ok (.iconst 1, 1) := by decide +kernel
theorem dX5_wordsFromSlip_30 : decode cX5_wordsFromSlip 30 = .ok (.goto 4, 3) := by decide +kernel
theorem dX5_wordsFromSlip_33 : decode cX5_wordsFromSlip 33 = .ok (.iconst 0, 1) := by decide +kernel
theorem dX5_wordsFromSlip_34 : decode cX5_wordsFromSlip 34 = .ok (.iadd, 1) := by decide +kernel
theorem dX5_wordsFromSlip_35 : decode cX5_wordsFromSlip 35 = .ok (.istore_n 1, 1) := by decide +kernel
theorem dX5_wordsFromSlip_36 : decode cX5_wordsFromSlip 36 = .ok (.iinc 2 1, 3) := by decide +kernel
theorem dX5_wordsFromSlip_39 : decode cX5_wordsFromSlip 39 = .ok (.goto (-35), 3) := by decide +kernel
theorem dX5_wordsFromSlip_42 : decode cX5_wordsFromSlip 42 = .ok (.aload_n 0, 1) := by decide +kernel
theorem dX5_wordsFromSlip_43 : decode cX5_wordsFromSlip 43 = .ok (.iload_n 1, 1) := by decide +kernel
theorem dX5_wordsFromSlip_44 : decode cX5_wordsFromSlip 44 = .ok (.invokevirtual 69, 3) := by decide +kernel
theorem dX5_wordsFromSlip_47 : decode cX5_wordsFromSlip 47 = .ok (.ireturn, 1) := by decide +kernel
set_option maxRecDepth 20000 in
theorem ggX5_beginnings_X5_areAlike : GoodIn wsX5_beginnings wsX5_areAlike := goodIn_r _ [7, 2, 8, 14, 15, 16, 17, 18, 19, 20, 21, 22, 23, 24, 25, 26, 27, 28, 29, 30, 31, 32] (by decide +kernel) (by decide +kernel)
set_option maxRecDepth 20000 in
theorem gX5_beginnings_X5_areAlike : GoodIn wsX5_beginnings (wsV RX5 80 RX5 yX5_areAlike wsX5_areAlike) := goodIn_app (goodIn_of _ (by decide +kernel)) ggX5_beginnings_X5_areAlike
set_option maxRecDepth 20000 in
theorem ggX5_beginnings_X5_told : GoodIn wsX5_beginnings wsX5_told := goodIn_r _ [12, 13, 14, 15, 16, 17, 18, 19, 20, 21, 22, 23, 24, 25, 26, 27, 28, 29, 30, 31, 32] (by decide +kernel) (by decide +kernel)
set_option maxRecDepth 20000 in
theorem gX5_beginnings_X5_told : GoodIn wsX5_beginnings (wsV RX5 69 RX5 yX5_told wsX5_told) := goodIn_app (goodIn_of _ (by decide +kernel)) ggX5_beginnings_X5_told
theorem dX5_beginnings_0 : decode cX5_beginnings 0 = .ok (.iconst 0, 1) := by decide +kernel
theorem dX5_beginnings_1 : decode cX5_beginnings 1 = .ok (.istore_n 1, 1) := by decide +kernel
theorem dX5_beginnings_2 : decode cX5_beginnings 2 = .ok (.iconst 0, 1) := by decide +kernel
theorem dX5_beginnings_3 : decode cX5_beginnings 3 = .ok (.istore_n 2, 1) := by decide +kernel
theorem dX5_beginnings_4 : decode cX5_beginnings 4 = .ok (.iload_n 2, 1) := by decide +kernel
theorem dX5_beginnings_5 : decode cX5_beginnings 5 = .ok (.aload_n 0, 1) := by decide +kernel
theorem dX5_beginnings_6 : decode cX5_beginnings 6 = .ok (.getfield 51, 3) := by decide +kernel
theorem dX5_beginnings_9 : decode cX5_beginnings 9 = .ok (.if_icmp .ge 81, 3) := by decide +kernel
theorem dX5_beginnings_12 : decode cX5_beginnings 12 = .ok (.iconst 0, 1) := by decide +kernel
theorem dX5_beginnings_13 : decode cX5_beginnings 13 = .ok (.istore_n 3, 1) := by decide +kernel
theorem dX5_beginnings_14 : decode cX5_beginnings 14 = .ok (.iload_n 3, 1) := by decide +kernel
theorem dX5_beginnings_15 : decode cX5_beginnings 15 = .ok (.aload_n 0, 1) := by decide +kernel
theorem dX5_beginnings_16 : decode cX5_beginnings 16 = .ok (.getfield 16, 3) := by decide +kernel
theorem dX5_beginnings_19 : decode cX5_beginnings 19 = .ok (.iload_n 2, 1) := by decide +kernel
theorem dX5_beginnings_20 : decode cX5_beginnings 20 = .ok (.iaload, 1) := by decide +kernel
theorem dX5_beginnings_21 : decode cX5_beginnings 21 = .ok (.if_icmp .gt 63, 3) := by decide +kernel
theorem dX5_beginnings_24 : decode cX5_beginnings 24 = .ok (.iconst 1, 1) := by decide +kernel
theorem dX5_beginnings_25 : decode cX5_beginnings 25 = .ok (.istore 4, 2) := by decide +kernel
theorem dX5_beginnings_27 : decode cX5_beginnings 27 = .ok (.iconst 0, 1) := by decide +kernel
theorem dX5_beginnings_28 : decode cX5_beginnings 28 = .ok (.istore 5, 2) := by decide +kernel
theorem dX5_beginnings_30 : decode cX5_beginnings 30 = .ok (.iload 5, 2) := by decide +kernel
theorem dX5_beginnings_32 : decode cX5_beginnings 32 = .ok (.iload_n 2, 1) := by decide +kernel
theorem dX5_beginnings_33 : decode cX5_beginnings 33 = .ok (.if_icmp .ge 32, 3) := by decide +kernel
theorem dX5_beginnings_36 : decode cX5_beginnings 36 = .ok (.iload 4, 2) := by decide +kernel
theorem dX5_beginnings_38 : decode cX5_beginnings 38 = .ok (.ifCond .eq 18, 3) := by decide +kernel
theorem dX5_beginnings_41 : decode cX5_beginnings 41 = .ok (.aload_n 0, 1) := by decide +kernel
theorem dX5_beginnings_42 : decode cX5_beginnings 42 = .ok (.iload_n 2, 1) := by decide +kernel
theorem dX5_beginnings_43 : decode cX5_beginnings 43 = .ok (.iload 5, 2) := by decide +kernel
theorem dX5_beginnings_45 : decode cX5_beginnings 45 = .ok (.iload_n 3, 1) := by decide +kernel
theorem dX5_beginnings_46 : decode cX5_beginnings 46 = .ok (.invokevirtual 80, 3) := by decide +kernel
theorem dX5_beginnings_49 : decode cX5_beginnings 49 = .ok (.ifCond .ne 7, 3) := by decide +kernel
theorem dX5_beginnings_52 : decode cX5_beginnings 52 = .ok (.iconst 1, 1) := by decide +kernel
theorem dX5_beginnings_53 : decode cX5_beginnings 53 = .ok (.goto 4, 3) := by decide +kernel
theorem dX5_beginnings_56 : decode cX5_beginnings 56 = .ok (.iconst 0, 1) := by decide +kernel
theorem dX5_beginnings_57 : decode cX5_beginnings 57 = .ok (.istore 4, 2) := by decide +kernel
theorem dX5_beginnings_59 : decode cX5_beginnings 59 = .ok (.iinc 5 1, 3) := by decide +kernel
theorem dX5_beginnings_62 : decode cX5_beginnings 62 = .ok (.goto (-32), 3) := by decide +kernel
theorem dX5_beginnings_65 : decode cX5_beginnings 65 = .ok (.iload_n 1, 1) := by decide +kernel
theorem dX5_beginnings_66 : decode cX5_beginnings 66 = .ok (.iload 4, 2) := by decide +kernel
theorem dX5_beginnings_68 : decode cX5_beginnings 68 = .ok (.ifCond .eq 7, 3) := by decide +kernel
theorem dX5_beginnings_71 : decode cX5_beginnings 71 = .ok (.iconst 1, 1) := by decide +kernel
theorem dX5_beginnings_72 : decode cX5_beginnings 72 = .ok (.goto 4, 3) := by decide +kernel
theorem dX5_beginnings_75 : decode cX5_beginnings 75 = .ok (.iconst 0, 1) := by decide +kernel
theorem dX5_beginnings_76 : decode cX5_beginnings 76 = .ok (.iadd, 1) := by decide +kernel
theorem dX5_beginnings_77 : decode cX5_beginnings 77 = .ok (.istore_n 1, 1) := by decide +kernel
theorem dX5_beginnings_78 : decode cX5_beginnings 78 = .ok (.iinc 3 1, 3) := by decide +kernel
theorem dX5_beginnings_81 : decode cX5_beginnings 81 = .ok (.goto (-67), 3) := by decide +kernel
theorem dX5_beginnings_84 : decode cX5_beginnings 84 = .ok (.iinc 2 1, 3) := by decide +kernel
theorem dX5_beginnings_87 : decode cX5_beginnings 87 = .ok (.goto (-83), 3) := by decide +kernel
theorem dX5_beginnings_90 : decode cX5_beginnings 90 = .ok (.aload_n 0, 1) := by decide +kernel
theorem dX5_beginnings_91 : decode cX5_beginnings 91 = .ok (.aload_n 0, 1) := by decide +kernel
theorem dX5_beginnings_92 : decode cX5_beginnings 92 = .ok (.getfield 51, 3) := by decide +kernel
theorem dX5_beginnings_95 : decode cX5_beginnings 95 = .ok (.ifCond .ne 7, 3) := by decide +kernel
theorem dX5_beginnings_98 : decode cX5_beginnings 98 = .ok (.iconst 1, 1) := by decide +kernel
theorem dX5_beginnings_99 : decode cX5_beginnings 99 = .ok (.goto 4, 3) := by decide +kernel
theorem dX5_beginnings_102 : decode cX5_beginnings 102 = .ok (.iload_n 1, 1) := by decide +kernel
theorem dX5_beginnings_103 : decode cX5_beginnings 103 = .ok (.invokevirtual 69, 3) := by decide +kernel
theorem dX5_beginnings_106 : decode cX5_beginnings 106 = .ok (.ireturn, 1) := by decide +kernel
set_option maxRecDepth 20000 in
theorem ggX5_copyWord_X5_asked : GoodIn wsX5_copyWord wsX5_asked := goodIn_r _ [10, 11, 16, 17, 18, 19, 20, 21, 22, 23, 24, 25, 26, 27, 28, 29, 30, 31, 32, 33, 34] (by decide +kernel) (by decide +kernel)
set_option maxRecDepth 20000 in
theorem gX5_copyWord_X5_asked : GoodIn wsX5_copyWord (wsV RX5 73 RX5 yX5_asked wsX5_asked) := goodIn_app (goodIn_of _ (by decide +kernel)) ggX5_copyWord_X5_asked
set_option maxRecDepth 20000 in
theorem ggX5_copyWord_X5_isBefore : GoodIn wsX5_copyWord wsX5_isBefore := goodIn_r _ [15, 2, 5, 16, 17, 18, 19, 20, 21, 22, 23, 24, 25, 26, 27, 28, 29, 30, 31, 32, 33, 34] (by decide +kernel) (by decide +kernel)
set_option maxRecDepth 20000 in
theorem gX5_copyWord_X5_isBefore : GoodIn wsX5_copyWord (wsV RX5 84 RX5 yX5_isBefore wsX5_isBefore) := goodIn_app (goodIn_of _ (by decide +kernel)) ggX5_copyWord_X5_isBefore
theorem dX5_copyWord_0 : decode cX5_copyWord 0 = .ok (.aload_n 0, 1) := by decide +kernel
theorem dX5_copyWord_1 : decode cX5_copyWord 1 = .ok (.iload_n 1, 1) := by decide +kernel
theorem dX5_copyWord_2 : decode cX5_copyWord 2 = .ok (.ifCond .lt 15, 3) := by decide +kernel
theorem dX5_copyWord_5 : decode cX5_copyWord 5 = .ok (.iload_n 1, 1) := by decide +kernel
theorem dX5_copyWord_6 : decode cX5_copyWord 6 = .ok (.aload_n 0, 1) := by decide +kernel
theorem dX5_copyWord_7 : decode cX5_copyWord 7 = .ok (.getfield 51, 3) := by decide +kernel
theorem dX5_copyWord_10 : decode cX5_copyWord 10 = .ok (.if_icmp .ge 7, 3) := by decide +kernel
theorem dX5_copyWord_13 : decode cX5_copyWord 13 = .ok (.iconst 1, 1) := by decide +kernel
theorem dX5_copyWord_14 : decode cX5_copyWord 14 = .ok (.goto 4, 3) := by decide +kernel
theorem dX5_copyWord_17 : decode cX5_copyWord 17 = .ok (.iconst 0, 1) := by decide +kernel
theorem dX5_copyWord_18 : decode cX5_copyWord 18 = .ok (.invokevirtual 73, 3) := by decide +kernel
theorem dX5_copyWord_21 : decode cX5_copyWord 21 = .ok (.ifCond .ne 5, 3) := by decide +kernel
theorem dX5_copyWord_24 : decode cX5_copyWord 24 = .ok (.iconst 0, 1) := by decide +kernel
theorem dX5_copyWord_25 : decode cX5_copyWord 25 = .ok (.ireturn, 1) := by decide +kernel
theorem dX5_copyWord_26 : decode cX5_copyWord 26 = .ok (.iconst (-1), 1) := by decide +kernel
theorem dX5_copyWord_27 : decode cX5_copyWord 27 = .ok (.istore_n 2, 1) := by decide +kernel
theorem dX5_copyWord_28 : decode cX5_copyWord 28 = .ok (.iconst 0, 1) := by decide +kernel
theorem dX5_copyWord_29 : decode cX5_copyWord 29 = .ok (.istore_n 3, 1) := by decide +kernel
theorem dX5_copyWord_30 : decode cX5_copyWord 30 = .ok (.iload_n 3, 1) := by decide +kernel
theorem dX5_copyWord_31 : decode cX5_copyWord 31 = .ok (.aload_n 0, 1) := by decide +kernel
theorem dX5_copyWord_32 : decode cX5_copyWord 32 = .ok (.getfield 51, 3) := by decide +kernel
theorem dX5_copyWord_35 : decode cX5_copyWord 35 = .ok (.if_icmp .ge 62, 3) := by decide +kernel
theorem dX5_copyWord_38 : decode cX5_copyWord 38 = .ok (.iconst 0, 1) := by decide +kernel
theorem dX5_copyWord_39 : decode cX5_copyWord 39 = .ok (.istore 4, 2) := by decide +kernel
theorem dX5_copyWord_41 : decode cX5_copyWord 41 = .ok (.iconst 0, 1) := by decide +kernel
theorem dX5_copyWord_42 : decode cX5_copyWord 42 = .ok (.istore 5, 2) := by decide +kernel
theorem dX5_copyWord_44 : decode cX5_copyWord 44 = .ok (.iload 5, 2) := by decide +kernel
theorem dX5_copyWord_46 : decode cX5_copyWord 46 = .ok (.aload_n 0, 1) := by decide +kernel
theorem dX5_copyWord_47 : decode cX5_copyWord 47 = .ok (.getfield 51, 3) := by decide +kernel
theorem dX5_copyWord_50 : decode cX5_copyWord 50 = .ok (.if_icmp .ge 29, 3) := by decide +kernel
theorem dX5_copyWord_53 : decode cX5_copyWord 53 = .ok (.iload 4, 2) := by decide +kernel
theorem dX5_copyWord_55 : decode cX5_copyWord 55 = .ok (.aload_n 0, 1) := by decide +kernel
theorem dX5_copyWord_56 : decode cX5_copyWord 56 = .ok (.iload 5, 2) := by decide +kernel
theorem dX5_copyWord_58 : decode cX5_copyWord 58 = .ok (.iload_n 3, 1) := by decide +kernel
theorem dX5_copyWord_59 : decode cX5_copyWord 59 = .ok (.invokevirtual 84, 3) := by decide +kernel
theorem dX5_copyWord_62 : decode cX5_copyWord 62 = .ok (.ifCond .eq 7, 3) := by decide +kernel
theorem dX5_copyWord_65 : decode cX5_copyWord 65 = .ok (.iconst 1, 1) := by decide +kernel
theorem dX5_copyWord_66 : decode cX5_copyWord 66 = .ok (.goto 4, 3) := by decide +kernel
theorem dX5_copyWord_69 : decode cX5_copyWord 69 = .ok (.iconst 0, 1) := by decide +kernel
theorem dX5_copyWord_70 : decode cX5_copyWord 70 = .ok (.iadd, 1) := by decide +kernel
theorem dX5_copyWord_71 : decode cX5_copyWord 71 = .ok (.istore 4, 2) := by decide +kernel
theorem dX5_copyWord_73 : decode cX5_copyWord 73 = .ok (.iinc 5 1, 3) := by decide +kernel
theorem dX5_copyWord_76 : decode cX5_copyWord 76 = .ok (.goto (-32), 3) := by decide +kernel
theorem dX5_copyWord_79 : decode cX5_copyWord 79 = .ok (.iload 4, 2) := by decide +kernel
theorem dX5_copyWord_81 : decode cX5_copyWord 81 = .ok (.iload_n 1, 1) := by decide +kernel
theorem dX5_copyWord_82 : decode cX5_copyWord 82 = .ok (.if_icmp .ne 7, 3) := by decide +kernel
theorem dX5_copyWord_85 : decode cX5_copyWord 85 = .ok (.iload_n 3, 1) := by decide +kernel
theorem dX5_copyWord_86 : decode cX5_copyWord 86 = .ok (.goto 4, 3) := by decide +kernel
theorem dX5_copyWord_89 : decode cX5_copyWord 89 = .ok (.iload_n 2, 1) := by decide +kernel
theorem dX5_copyWord_90 : decode cX5_copyWord 90 = .ok (.istore_n 2, 1) := by decide +kernel
theorem dX5_copyWord_91 : decode cX5_copyWord 91 = .ok (.iinc 3 1, 3) := by decide +kernel
theorem dX5_copyWord_94 : decode cX5_copyWord 94 = .ok (.goto (-64), 3) := by decide +kernel
theorem dX5_copyWord_97 : decode cX5_copyWord 97 = .ok (.aload_n 0, 1) := by decide +kernel
theorem dX5_copyWord_98 : decode cX5_copyWord 98 = .ok (.aload_n 0, 1) := by decide +kernel
theorem dX5_copyWord_99 : decode cX5_copyWord 99 = .ok (.getfield 16, 3) := by decide +kernel
theorem dX5_copyWord_102 : decode cX5_copyWord 102 = .ok (.iload_n 2, 1) := by decide +kernel
theorem dX5_copyWord_103 : decode cX5_copyWord 103 = .ok (.iaload, 1) := by decide +kernel
theorem dX5_copyWord_104 : decode cX5_copyWord 104 = .ok (.putfield 54, 3) := by decide +kernel
theorem dX5_copyWord_107 : decode cX5_copyWord 107 = .ok (.iconst 0, 1) := by decide +kernel
theorem dX5_copyWord_108 : decode cX5_copyWord 108 = .ok (.istore_n 3, 1) := by decide +kernel
theorem dX5_copyWord_109 : decode cX5_copyWord 109 = .ok (.iload_n 3, 1) := by decide +kernel
theorem dX5_copyWord_110 : decode cX5_copyWord 110 = .ok (.aload_n 0, 1) := by decide +kernel
theorem dX5_copyWord_111 : decode cX5_copyWord 111 = .ok (.getfield 54, 3) := by decide +kernel
theorem dX5_copyWord_114 : decode cX5_copyWord 114 = .ok (.if_icmp .ge 26, 3) := by decide +kernel
theorem dX5_copyWord_117 : decode cX5_copyWord 117 = .ok (.aload_n 0, 1) := by decide +kernel
theorem dX5_copyWord_118 : decode cX5_copyWord 118 = .ok (.getfield 7, 3) := by decide +kernel
theorem dX5_copyWord_121 : decode cX5_copyWord 121 = .ok (.iload_n 3, 1) := by decide +kernel
theorem dX5_copyWord_122 : decode cX5_copyWord 122 = .ok (.aload_n 0, 1) := by decide +kernel
theorem dX5_copyWord_123 : decode cX5_copyWord 123 = .ok (.getfield 13, 3) := by decide +kernel
theorem dX5_copyWord_126 : decode cX5_copyWord 126 = .ok (.bipush 10, 2) := by decide +kernel
theorem dX5_copyWord_128 : decode cX5_copyWord 128 = .ok (.iload_n 2, 1) := by decide +kernel
theorem dX5_copyWord_129 : decode cX5_copyWord 129 = .ok (.imul, 1) := by decide +kernel
theorem dX5_copyWord_130 : decode cX5_copyWord 130 = .ok (.iload_n 3, 1) := by decide +kernel
theorem dX5_copyWord_131 : decode cX5_copyWord 131 = .ok (.iadd, 1) := by decide +kernel
theorem dX5_copyWord_132 : decode cX5_copyWord 132 = .ok (.iaload, 1) := by decide +kernel
theorem dX5_copyWord_133 : decode cX5_copyWord 133 = .ok (.iastore, 1) := by decide +kernel
theorem dX5_copyWord_134 : decode cX5_copyWord 134 = .ok (.iinc 3 1, 3) := by decide +kernel
theorem dX5_copyWord_137 : decode cX5_copyWord 137 = .ok (.goto (-28), 3) := by decide +kernel
theorem dX5_copyWord_140 : decode cX5_copyWord 140 = .ok (.aload_n 0, 1) := by decide +kernel
theorem dX5_copyWord_141 : decode cX5_copyWord 141 = .ok (.getfield 54, 3) := by decide +kernel
theorem dX5_copyWord_144 : decode cX5_copyWord 144 = .ok (.ireturn, 1) := by decide +kernel
set_option maxRecDepth 20000 in
theorem ggX5_setLeastLength_X5_asked : GoodIn wsX5_setLeastLength wsX5_asked := goodIn_r _ [6, 7, 8, 9, 10, 11, 12, 13, 14, 15, 16, 17, 18, 19, 20, 21, 22, 23, 24, 25, 26] (by decide +kernel) (by decide +kernel)
set_option maxRecDepth 20000 in
theorem gX5_setLeastLength_X5_asked : GoodIn wsX5_setLeastLength (wsV RX5 73 RX5 yX5_asked wsX5_asked) := goodIn_app (goodIn_of _ (by decide +kernel)) ggX5_setLeastLength_X5_asked
theorem dX5_setLeastLength_0 : decode cX5_setLeastLength 0 = .ok (.aload_n 0, 1) := by decide +kernel
theorem dX5_setLeastLength_1 : decode cX5_setLeastLength 1 = .ok (.iload_n 1, 1) := by decide +kernel
theorem dX5_setLeastLength_2 : decode cX5_setLeastLength 2 = .ok (.iconst 2, 1) := by decide +kernel
theorem dX5_setLeastLength_3 : decode cX5_setLeastLength 3 = .ok (.if_icmp .lt 13, 3) := by decide +kernel
theorem dX5_setLeastLength_6 : decode cX5_setLeastLength 6 = .ok (.iload_n 1, 1) := by decide +kernel
theorem dX5_setLeastLength_7 : decode cX5_setLeastLength 7 = .ok (.bipush 10, 2) := by decide +kernel
theorem dX5_setLeastLength_9 : decode cX5_setLeastLength 9 = .ok (.if_icmp .gt 7, 3) := by decide +kernel
theorem dX5_setLeastLength_12 : decode cX5_setLeastLength 12 = .ok (.iconst 1, 1) := by decide +kernel
theorem dX5_setLeastLength_13 : decode cX5_setLeastLength 13 = .ok (.goto 4, 3) := by decide +kernel
theorem dX5_setLeastLength_16 : decode cX5_setLeastLength 16 = .ok (.iconst 0, 1) := by decide +kernel
theorem dX5_setLeastLength_17 : decode cX5_setLeastLength 17 = .ok (.invokevirtual 73, 3) := by decide +kernel
theorem dX5_setLeastLength_20 : decode cX5_setLeastLength 20 = .ok (.ifCond .ne 5, 3) := by decide +kernel
theorem dX5_setLeastLength_23 : decode cX5_setLeastLength 23 = .ok (.iconst 0, 1) := by decide +kernel
theorem dX5_setLeastLength_24 : decode cX5_setLeastLength 24 = .ok (.ireturn, 1) := by decide +kernel
theorem dX5_setLeastLength_25 : decode cX5_setLeastLength 25 = .ok (.aload_n 0, 1) := by decide +kernel
theorem dX5_setLeastLength_26 : decode cX5_setLeastLength 26 = .ok (.getfield 19, 3) := by decide +kernel
theorem dX5_setLeastLength_29 : decode cX5_setLeastLength 29 = .ok (.istore_n 2, 1) := by decide +kernel
theorem dX5_setLeastLength_30 : decode cX5_setLeastLength 30 = .ok (.aload_n 0, 1) := by decide +kernel
theorem dX5_setLeastLength_31 : decode cX5_setLeastLength 31 = .ok (.iload_n 1, 1) := by decide +kernel
theorem dX5_setLeastLength_32 : decode cX5_setLeastLength 32 = .ok (.putfield 19, 3) := by decide +kernel
theorem dX5_setLeastLength_35 : decode cX5_setLeastLength 35 = .ok (.iload_n 2, 1) := by decide +kernel
theorem dX5_setLeastLength_36 : decode cX5_setLeastLength 36 = .ok (.ireturn, 1) := by decide +kernel
theorem dX5_goesOn_0 : decode cX5_goesOn 0 = .ok (.aload_n 0, 1) := by decide +kernel
theorem dX5_goesOn_1 : decode cX5_goesOn 1 = .ok (.getfield 88, 3) := by decide +kernel
theorem dX5_goesOn_4 : decode cX5_goesOn 4 = .ok (.ifCond .le 15, 3) := by decide +kernel
theorem dX5_goesOn_7 : decode cX5_goesOn 7 = .ok (.aload_n 0, 1) := by decide +kernel
theorem dX5_goesOn_8 : decode cX5_goesOn 8 = .ok (.getfield 26, 3) := by decide +kernel
theorem dX5_goesOn_11 : decode cX5_goesOn 11 = .ok (.iconst (-1), 1) := by decide +kernel
theorem dX5_goesOn_12 : decode cX5_goesOn 12 = .ok (.if_icmp .ne 7, 3) := by decide +kernel
theorem dX5_goesOn_15 : decode cX5_goesOn 15 = .ok (.iconst 1, 1) := by decide +kernel
theorem dX5_goesOn_16 : decode cX5_goesOn 16 = .ok (.goto 4, 3) := by decide +kernel
theorem dX5_goesOn_19 : decode cX5_goesOn 19 = .ok (.iconst 0, 1) := by decide +kernel
theorem dX5_goesOn_20 : decode cX5_goesOn 20 = .ok (.ireturn, 1) := by decide +kernel
set_option maxRecDepth 20000 in
theorem ggX5_start_X5_asked : GoodIn wsX5_start wsX5_asked := goodIn_r _ [10, 11, 12, 13, 14, 15, 16, 17, 18, 19, 20, 21, 22, 23, 24, 25, 26, 27, 28, 29, 30] (by decide +kernel) (by decide +kernel)
set_option maxRecDepth 20000 in
theorem gX5_start_X5_asked : GoodIn wsX5_start (wsV RX5 73 RX5 yX5_asked wsX5_asked) := goodIn_app (goodIn_of _ (by decide +kernel)) ggX5_start_X5_asked
theorem dX5_start_0 : decode cX5_start 0 = .ok (.aload_n 0, 1) := by decide +kernel
theorem dX5_start_1 : decode cX5_start 1 = .ok (.iload_n 1, 1) := by decide +kernel
theorem dX5_start_2 : decode cX5_start 2 = .ok (.iconst 2, 1) := by decide +kernel
theorem dX5_start_3 : decode cX5_start 3 = .ok (.if_icmp .lt 12, 3) := by decide +kernel
theorem dX5_start_6 : decode cX5_start 6 = .ok (.iload_n 1, 1) := by decide +kernel
theorem dX5_start_7 : decode cX5_start 7 = .ok (.iconst 4, 1) := by decide +kernel
theorem dX5_start_8 : decode cX5_start 8 = .ok (.if_icmp .gt 7, 3) := by decide +kernel
theorem dX5_start_11 : decode cX5_start 11 = .ok (.iconst 1, 1) := by decide +kernel
theorem dX5_start_12 : decode cX5_start 12 = .ok (.goto 4, 3) := by decide +kernel
theorem dX5_start_15 : decode cX5_start 15 = .ok (.iconst 0, 1) := by decide +kernel
theorem dX5_start_16 : decode cX5_start 16 = .ok (.invokevirtual 73, 3) := by decide +kernel
theorem dX5_start_19 : decode cX5_start 19 = .ok (.ifCond .ne 4, 3) := by decide +kernel
theorem dX5_start_22 : decode cX5_start 22 = .ok (.return_, 1) := by decide +kernel
theorem dX5_start_23 : decode cX5_start 23 = .ok (.aload_n 0, 1) := by decide +kernel
theorem dX5_start_24 : decode cX5_start 24 = .ok (.iload_n 1, 1) := by decide +kernel
theorem dX5_start_25 : decode cX5_start 25 = .ok (.putfield 88, 3) := by decide +kernel
theorem dX5_start_28 : decode cX5_start 28 = .ok (.iconst 0, 1) := by decide +kernel
theorem dX5_start_29 : decode cX5_start 29 = .ok (.istore_n 2, 1) := by decide +kernel
theorem dX5_start_30 : decode cX5_start 30 = .ok (.iload_n 2, 1) := by decide +kernel
theorem dX5_start_31 : decode cX5_start 31 = .ok (.iconst 4, 1) := by decide +kernel
theorem dX5_start_32 : decode cX5_start 32 = .ok (.if_icmp .ge 16, 3) := by decide +kernel
theorem dX5_start_35 : decode cX5_start 35 = .ok (.aload_n 0, 1) := by decide +kernel
theorem dX5_start_36 : decode cX5_start 36 = .ok (.getfield 23, 3) := by decide +kernel
theorem dX5_start_39 : decode cX5_start 39 = .ok (.iload_n 2, 1) := by decide +kernel
theorem dX5_start_40 : decode cX5_start 40 = .ok (.iconst 0, 1) := by decide +kernel
theorem dX5_start_41 : decode cX5_start 41 = .ok (.iastore, 1) := by decide +kernel
theorem dX5_start_42 : decode cX5_start 42 = .ok (.iinc 2 1, 3) := by decide +kernel
theorem dX5_start_45 : decode cX5_start 45 = .ok (.goto (-15), 3) := by decide +kernel
theorem dX5_start_48 : decode cX5_start 48 = .ok (.aload_n 0, 1) := by decide +kernel
theorem dX5_start_49 : decode cX5_start 49 = .ok (.iconst 0, 1) := by decide +kernel
theorem dX5_start_50 : decode cX5_start 50 = .ok (.putfield 91, 3) := by decide +kernel
theorem dX5_start_53 : decode cX5_start 53 = .ok (.aload_n 0, 1) := by decide +kernel
theorem dX5_start_54 : decode cX5_start 54 = .ok (.iconst (-1), 1) := by decide +kernel
theorem dX5_start_55 : decode cX5_start 55 = .ok (.putfield 26, 3) := by decide +kernel
theorem dX5_start_58 : decode cX5_start 58 = .ok (.aload_n 0, 1) := by decide +kernel
theorem dX5_start_59 : decode cX5_start 59 = .ok (.iconst 0, 1) := by decide +kernel
theorem dX5_start_60 : decode cX5_start 60 = .ok (.putfield 94, 3) := by decide +kernel
theorem dX5_start_63 : decode cX5_start 63 = .ok (.return_, 1) := by decide +kernel
theorem dX5_behind_0 : decode cX5_behind 0 = .ok (.iload_n 1, 1) := by decide +kernel
theorem dX5_behind_1 : decode cX5_behind 1 = .ok (.istore_n 2, 1) := by decide +kernel
theorem dX5_behind_2 : decode cX5_behind 2 = .ok (.iload_n 2, 1) := by decide +kernel
theorem dX5_behind_3 : decode cX5_behind 3 = .ok (.aload_n 0, 1) := by decide +kernel
theorem dX5_behind_4 : decode cX5_behind 4 = .ok (.getfield 88, 3) := by decide +kernel
theorem dX5_behind_7 : decode cX5_behind 7 = .ok (.iconst 1, 1) := by decide +kernel
theorem dX5_behind_8 : decode cX5_behind 8 = .ok (.isub, 1) := by decide +kernel
theorem dX5_behind_9 : decode cX5_behind 9 = .ok (.if_icmp .ne 7, 3) := by decide +kernel
theorem dX5_behind_12 : decode cX5_behind 12 = .ok (.iconst 0, 1) := by decide +kernel
theorem dX5_behind_13 : decode cX5_behind 13 = .ok (.goto 6, 3) := by decide +kernel
theorem dX5_behind_16 : decode cX5_behind 16 = .ok (.iload_n 2, 1) := by decide +kernel
theorem dX5_behind_17 : decode cX5_behind 17 = .ok (.iconst 1, 1) := by decide +kernel
theorem dX5_behind_18 : decode cX5_behind 18 = .ok (.iadd, 1) := by decide +kernel
theorem dX5_behind_19 : decode cX5_behind 19 = .ok (.istore_n 2, 1) := by decide +kernel
theorem dX5_behind_20 : decode cX5_behind 20 = .ok (.aload_n 0, 1) := by decide +kernel
theorem dX5_behind_21 : decode cX5_behind 21 = .ok (.getfield 23, 3) := by decide +kernel
theorem dX5_behind_24 : decode cX5_behind 24 = .ok (.iload_n 2, 1) := by decide +kernel
theorem dX5_behind_25 : decode cX5_behind 25 = .ok (.iaload, 1) := by decide +kernel
theorem dX5_behind_26 : decode cX5_behind 26 = .ok (.iconst 5, 1) := by decide +kernel
theorem dX5_behind_27 : decode cX5_behind 27 = .ok (.if_icmp .eq (-25), 3) := by decide +kernel
theorem dX5_behind_30 : decode cX5_behind 30 = .ok (.iload_n 2, 1) := by decide +kernel
theorem dX5_behind_31 : decode cX5_behind 31 = .ok (.ireturn, 1) := by decide +kernel
set_option maxRecDepth 20000 in
theorem ggX5_loses_X5_behind : GoodIn wsX5_loses wsX5_behind := goodIn_r _ [10, 3, 1, 11, 12, 13, 14, 15, 16, 17, 18, 19, 20, 21, 22, 23, 24, 25, 26, 27, 28, 29] (by decide +kernel) (by decide +kernel)
set_option maxRecDepth 20000 in
theorem gX5_loses_X5_behind : GoodIn wsX5_loses (wsV RX5 97 RX5 yX5_behind wsX5_behind) := goodIn_app (goodIn_of _ (by decide +kernel)) ggX5_loses_X5_behind
theorem dX5_loses_0 : decode cX5_loses 0 = .ok (.aload_n 0, 1) := by decide +kernel
theorem dX5_loses_1 : decode cX5_loses 1 = .ok (.getfield 23, 3) := by decide +kernel
theorem dX5_loses_4 : decode cX5_loses 4 = .ok (.iload_n 1, 1) := by decide +kernel
theorem dX5_loses_5 : decode cX5_loses 5 = .ok (.dup2, 1) := by decide +kernel
theorem dX5_loses_6 : decode cX5_loses 6 = .ok (.iaload, 1) := by decide +kernel
theorem dX5_loses_7 : decode cX5_loses 7 = .ok (.iconst 1, 1) := by decide +kernel
theorem dX5_loses_8 : decode cX5_loses 8 = .ok (.iadd, 1) := by decide +kernel
theorem dX5_loses_9 : decode cX5_loses 9 = .ok (.iastore, 1) := by decide +kernel
theorem dX5_loses_10 : decode cX5_loses 10 = .ok (.aload_n 0, 1) := by decide +kernel
theorem dX5_loses_11 : decode cX5_loses 11 = .ok (.iconst 0, 1) := by decide +kernel
theorem dX5_loses_12 : decode cX5_loses 12 = .ok (.putfield 94, 3) := by decide +kernel
theorem dX5_loses_15 : decode cX5_loses 15 = .ok (.iconst 0, 1) := by decide +kernel
theorem dX5_loses_16 : decode cX5_loses 16 = .ok (.istore_n 2, 1) := by decide +kernel
theorem dX5_loses_17 : decode cX5_loses 17 = .ok (.iconst 0, 1) := by decide +kernel
theorem dX5_loses_18 : decode cX5_loses 18 = .ok (.istore_n 3, 1) := by decide +kernel
theorem dX5_loses_19 : decode cX5_loses 19 = .ok (.iload_n 3, 1) := by decide +kernel
theorem dX5_loses_20 : decode cX5_loses 20 = .ok (.aload_n 0, 1) := by decide +kernel
theorem dX5_loses_21 : decode cX5_loses 21 = .ok (.getfield 88, 3) := by decide +kernel
theorem dX5_loses_24 : decode cX5_loses 24 = .ok (.if_icmp .ge 27, 3) := by decide +kernel
theorem dX5_loses_27 : decode cX5_loses 27 = .ok (.iload_n 2, 1) := by decide +kernel
theorem dX5_loses_28 : decode cX5_loses 28 = .ok (.aload_n 0, 1) := by decide +kernel
theorem dX5_loses_29 : decode cX5_loses 29 = .ok (.getfield 23, 3) := by decide +kernel
theorem dX5_loses_32 : decode cX5_loses 32 = .ok (.iload_n 3, 1) := by decide +kernel
theorem dX5_loses_33 : decode cX5_loses 33 = .ok (.iaload, 1) := by decide +kernel
theorem dX5_loses_34 : decode cX5_loses 34 = .ok (.iconst 5, 1) := by decide +kernel
theorem dX5_loses_35 : decode cX5_loses 35 = .ok (.if_icmp .ge 7, 3) := by decide +kernel
theorem dX5_loses_38 : decode cX5_loses 38 = .ok (.iconst 1, 1) := by decide +kernel
theorem dX5_loses_39 : decode cX5_loses 39 = .ok (.goto 4, 3) := by decide +kernel
theorem dX5_loses_42 : decode cX5_loses 42 = .ok (.iconst 0, 1) := by decide +kernel
theorem dX5_loses_43 : decode cX5_loses 43 = .ok (.iadd, 1) := by decide +kernel
theorem dX5_loses_44 : decode cX5_loses 44 = .ok (.istore_n 2, 1) := by decide +kernel
theorem dX5_loses_45 : decode cX5_loses 45 = .ok (.iinc 3 1, 3) := by decide +kernel
theorem dX5_loses_48 : decode cX5_loses 48 = .ok (.goto (-29), 3) := by decide +kernel
theorem dX5_loses_51 : decode cX5_loses 51 = .ok (.aload_n 0, 1) := by decide +kernel
theorem dX5_loses_52 : decode cX5_loses 52 = .ok (.aload_n 0, 1) := by decide +kernel
theorem dX5_loses_53 : decode cX5_loses 53 = .ok (.getfield 23, 3) := by decide +kernel
theorem dX5_loses_56 : decode cX5_loses 56 = .ok (.iload_n 1, 1) := by decide +kernel
theorem dX5_loses_57 : decode cX5_loses 57 = .ok (.iaload, 1) := by decide +kernel
theorem dX5_loses_58 : decode cX5_loses 58 = .ok (.iconst 5, 1) := by decide +kernel
theorem dX5_loses_59 : decode cX5_loses 59 = .ok (.if_icmp .ge 7, 3) := by decide +kernel
theorem dX5_loses_62 : decode cX5_loses 62 = .ok (.iload_n 1, 1) := by decide +kernel
theorem dX5_loses_63 : decode cX5_loses 63 = .ok (.goto 8, 3) := by decide +kernel
theorem dX5_loses_66 : decode cX5_loses 66 = .ok (.aload_n 0, 1) := by decide +kernel
theorem dX5_loses_67 : decode cX5_loses 67 = .ok (.iload_n 1, 1) := by decide +kernel
theorem dX5_loses_68 : decode cX5_loses 68 = .ok (.invokevirtual 97, 3) := by decide +kernel
theorem dX5_loses_71 : decode cX5_loses 71 = .ok (.putfield 91, 3) := by decide +kernel
theorem dX5_loses_74 : decode cX5_loses 74 = .ok (.aload_n 0, 1) := by decide +kernel
theorem dX5_loses_75 : decode cX5_loses 75 = .ok (.iload_n 2, 1) := by decide +kernel
theorem dX5_loses_76 : decode cX5_loses 76 = .ok (.iconst 1, 1) := by decide +kernel
theorem dX5_loses_77 : decode cX5_loses 77 = .ok (.if_icmp .ne 10, 3) := by decide +kernel
theorem dX5_loses_80 : decode cX5_loses 80 = .ok (.aload_n 0, 1) := by decide +kernel
theorem dX5_loses_81 : decode cX5_loses 81 = .ok (.getfield 91, 3) := by decide +kernel
theorem dX5_loses_84 : decode cX5_loses 84 = .ok (.goto 4, 3) := by decide +kernel
theorem dX5_loses_87 : decode cX5_loses 87 = .ok (.iconst (-1), 1) := by decide +kernel
theorem dX5_loses_88 : decode cX5_loses 88 = .ok (.putfield 26, 3) := by decide +kernel
theorem dX5_loses_91 : decode cX5_loses 91 = .ok (.iload_n 1, 1) := by decide +kernel
theorem dX5_loses_92 : decode cX5_loses 92 = .ok (.ireturn, 1) := by decide +kernel
set_option maxRecDepth 20000 in
theorem ggX5_hasWord_X5_counts : GoodIn wsX5_hasWord wsX5_counts := goodIn_r _ [9, 4, 10, 16, 17, 18, 19, 20, 21, 22, 23, 24, 25, 26, 27, 28, 29, 30, 31, 32, 33, 34] (by decide +kernel) (by decide +kernel)
set_option maxRecDepth 20000 in
theorem gX5_hasWord_X5_counts : GoodIn wsX5_hasWord (wsV RX5 100 RX5 yX5_counts wsX5_counts) := goodIn_app (goodIn_of _ (by decide +kernel)) ggX5_hasWord_X5_counts
set_option maxRecDepth 20000 in
theorem ggX5_hasWord_X5_begins : GoodIn wsX5_hasWord wsX5_begins := goodIn_r _ [14, 4, 15, 16, 17, 18, 19, 20, 21, 22, 23, 24, 25, 26, 27, 28, 29, 30, 31, 32, 33, 34] (by decide +kernel) (by decide +kernel)
set_option maxRecDepth 20000 in
theorem gX5_hasWord_X5_begins : GoodIn wsX5_hasWord (wsV RX5 57 RX5 yX5_begins wsX5_begins) := goodIn_app (goodIn_of _ (by decide +kernel)) ggX5_hasWord_X5_begins
theorem dX5_hasWord_0 : decode cX5_hasWord 0 = .ok (.iconst 0, 1) := by decide +kernel
theorem dX5_hasWord_1 : decode cX5_hasWord 1 = .ok (.istore_n 2, 1) := by decide +kernel
theorem dX5_hasWord_2 : decode cX5_hasWord 2 = .ok (.iconst 0, 1) := by decide +kernel
theorem dX5_hasWord_3 : decode cX5_hasWord 3 = .ok (.istore_n 3, 1) := by decide +kernel
theorem dX5_hasWord_4 : decode cX5_hasWord 4 = .ok (.iload_n 3, 1) := by decide +kernel
theorem dX5_hasWord_5 : decode cX5_hasWord 5 = .ok (.aload_n 0, 1) := by decide +kernel
theorem dX5_hasWord_6 : decode cX5_hasWord 6 = .ok (.getfield 51, 3) := by decide +kernel
theorem dX5_hasWord_9 : decode cX5_hasWord 9 = .ok (.if_icmp .ge 60, 3) := by decide +kernel
theorem dX5_hasWord_12 : decode cX5_hasWord 12 = .ok (.iload_n 2, 1) := by decide +kernel
theorem dX5_hasWord_13 : decode cX5_hasWord 13 = .ok (.ifCond .ne 44, 3) := by decide +kernel
theorem dX5_hasWord_16 : decode cX5_hasWord 16 = .ok (.aload_n 0, 1) := by decide +kernel
theorem dX5_hasWord_17 : decode cX5_hasWord 17 = .ok (.iload_n 3, 1) := by decide +kernel
theorem dX5_hasWord_18 : decode cX5_hasWord 18 = .ok (.invokevirtual 100, 3) := by decide +kernel
theorem dX5_hasWord_21 : decode cX5_hasWord 21 = .ok (.ifCond .eq 40, 3) := by decide +kernel
theorem dX5_hasWord_24 : decode cX5_hasWord 24 = .ok (.aload_n 0, 1) := by decide +kernel
theorem dX5_hasWord_25 : decode cX5_hasWord 25 = .ok (.iload_n 3, 1) := by decide +kernel
theorem dX5_hasWord_26 : decode cX5_hasWord 26 = .ok (.aload_n 0, 1) := by decide +kernel
theorem dX5_hasWord_27 : decode cX5_hasWord 27 = .ok (.getfield 29, 3) := by decide +kernel
theorem dX5_hasWord_30 : decode cX5_hasWord 30 = .ok (.aload_n 0, 1) := by decide +kernel
theorem dX5_hasWord_31 : decode cX5_hasWord 31 = .ok (.getfield 94, 3) := by decide +kernel
theorem dX5_hasWord_34 : decode cX5_hasWord 34 = .ok (.invokevirtual 57, 3) := by decide +kernel
theorem dX5_hasWord_37 : decode cX5_hasWord 37 = .ok (.ifCond .eq 24, 3) := by decide +kernel
theorem dX5_hasWord_40 : decode cX5_hasWord 40 = .ok (.iload_n 1, 1) := by decide +kernel
theorem dX5_hasWord_41 : decode cX5_hasWord 41 = .ok (.ifCond .eq 16, 3) := by decide +kernel
theorem dX5_hasWord_44 : decode cX5_hasWord 44 = .ok (.aload_n 0, 1) := by decide +kernel
theorem dX5_hasWord_45 : decode cX5_hasWord 45 = .ok (.getfield 16, 3) := by decide +kernel
theorem dX5_hasWord_48 : decode cX5_hasWord 48 = .ok (.iload_n 3, 1) := by decide +kernel
theorem dX5_hasWord_49 : decode cX5_hasWord 49 = .ok (.iaload, 1) := by decide +kernel
theorem dX5_hasWord_50 : decode cX5_hasWord 50 = .ok (.aload_n 0, 1) := by decide +kernel
theorem dX5_hasWord_51 : decode cX5_hasWord 51 = .ok (.getfield 94, 3) := by decide +kernel
theorem dX5_hasWord_54 : decode cX5_hasWord 54 = .ok (.if_icmp .ne 7, 3) := by decide +kernel
theorem dX5_hasWord_57 : decode cX5_hasWord 57 = .ok (.iconst 1, 1) := by decide +kernel
theorem dX5_hasWord_58 : decode cX5_hasWord 58 = .ok (.goto 4, 3) := by decide +kernel
theorem dX5_hasWord_61 : decode cX5_hasWord 61 = .ok (.iconst 0, 1) := by decide +kernel
theorem dX5_hasWord_62 : decode cX5_hasWord 62 = .ok (.istore_n 2, 1) := by decide +kernel
theorem dX5_hasWord_63 : decode cX5_hasWord 63 = .ok (.iinc 3 1, 3) := by decide +kernel
theorem dX5_hasWord_66 : decode cX5_hasWord 66 = .ok (.goto (-62), 3) := by decide +kernel
theorem dX5_hasWord_69 : decode cX5_hasWord 69 = .ok (.iload_n 2, 1) := by decide +kernel
theorem dX5_hasWord_70 : decode cX5_hasWord 70 = .ok (.ireturn, 1) := by decide +kernel
set_option maxRecDepth 20000 in
theorem ggX5_play_X5_isLetter : GoodIn wsX5_play wsX5_isLetter := goodIn_r _ [8] (by decide +kernel) (by decide +kernel)
set_option maxRecDepth 20000 in
theorem gX5_play_X5_isLetter : GoodIn wsX5_play (va_wsS RX5 61 yX5_isLetter wsX5_isLetter) := goodIn_app (goodIn_of _ (by decide +kernel)) ggX5_play_X5_isLetter
set_option maxRecDepth 20000 in
theorem ggX5_play_X5_goesOn : GoodIn wsX5_play wsX5_goesOn := goodIn_r _ [12, 13, 14, 45, 46, 47, 48, 49, 50, 51, 52, 53, 54, 55, 56, 57, 58, 59, 60, 61, 62, 63] (by decide +kernel) (by decide +kernel)
set_option maxRecDepth 20000 in
theorem gX5_play_X5_goesOn : GoodIn wsX5_play (wsV RX5 103 RX5 yX5_goesOn wsX5_goesOn) := goodIn_app (goodIn_of _ (by decide +kernel)) ggX5_play_X5_goesOn
set_option maxRecDepth 20000 in
theorem ggX5_play_X5_asked_ : GoodIn wsX5_play wsX5_asked_ := goodIn_r _ [18, 19, 45, 46, 47, 48, 49, 50, 51, 52, 53, 54, 55, 56, 57, 58, 59, 60, 61, 62, 63] (by decide +kernel) (by decide +kernel)
set_option maxRecDepth 20000 in
theorem gX5_play_X5_asked_ : GoodIn wsX5_play (wsV RX5 65 RX5 yX5_asked_ wsX5_asked_) := goodIn_app (goodIn_of _ (by decide +kernel)) ggX5_play_X5_asked_
set_option maxRecDepth 20000 in
theorem ggX5_play_X5_hasWord : GoodIn wsX5_play wsX5_hasWord := goodIn_r _ [23, 24, 2, 1, 25, 26, 27, 28, 7, 29, 30, 31, 32, 33, 34, 35, 45, 46, 47, 48, 49, 50, 51, 52, 53, 54, 55, 56, 57, 58, 59, 60, 61, 62, 63] (by decide +kernel) (by decide +kernel)
set_option maxRecDepth 20000 in
theorem gX5_play_X5_hasWord : GoodIn wsX5_play (wsV RX5 107 RX5 yX5_hasWord wsX5_hasWord) := goodIn_app (goodIn_of _ (by decide +kernel)) ggX5_play_X5_hasWord
set_option maxRecDepth 20000 in
theorem ggX5_play_X5_loses : GoodIn wsX5_play wsX5_loses := goodIn_r _ [39, 40, 1, 13, 3, 14, 41, 42, 43, 7, 44, 45, 46, 47, 48, 49, 50, 51, 52, 53, 54, 55, 56, 57, 58, 59, 60, 61, 62, 63] (by decide +kernel) (by decide +kernel)
set_option maxRecDepth 20000 in
theorem gX5_play_X5_loses : GoodIn wsX5_play (wsV RX5 110 RX5 yX5_loses wsX5_loses) := goodIn_app (goodIn_of _ (by decide +kernel)) ggX5_play_X5_loses
set_option maxRecDepth 20000 in
theorem ggX5_play_X5_behind : GoodIn wsX5_play wsX5_behind := goodIn_r _ [44, 13, 40, 45, 46, 47, 48, 49, 50, 51, 52, 53, 54, 55, 56, 57, 58, 59, 60, 61, 62, 63] (by decide +kernel) (by decide +kernel)
set_option maxRecDepth 20000 in
theorem gX5_play_X5_behind : GoodIn wsX5_play (wsV RX5 97 RX5 yX5_behind wsX5_behind) := goodIn_app (goodIn_of _ (by decide +kernel)) ggX5_play_X5_behind
theorem dX5_play_0 : decode cX5_play 0 = .ok (.aload_n 0, 1) := by decide +kernel
theorem dX5_play_1 : decode cX5_play 1 = .ok (.iload_n 1, 1) := by decide +kernel
theorem dX5_play_2 : decode cX5_play 2 = .ok (.invokestatic 61, 3) := by decide +kernel
theorem dX5_play_5 : decode cX5_play 5 = .ok (.aload_n 0, 1) := by decide +kernel
theorem dX5_play_6 : decode cX5_play 6 = .ok (.invokevirtual 103, 3) := by decide +kernel
theorem dX5_play_9 : decode cX5_play 9 = .ok (.ifCond .eq 16, 3) := by decide +kernel
theorem dX5_play_12 : decode cX5_play 12 = .ok (.aload_n 0, 1) := by decide +kernel
theorem dX5_play_13 : decode cX5_play 13 = .ok (.getfield 94, 3) := by decide +kernel
theorem dX5_play_16 : decode cX5_play 16 = .ok (.bipush 10, 2) := by decide +kernel
theorem dX5_play_18 : decode cX5_play 18 = .ok (.if_icmp .ge 7, 3) := by decide +kernel
theorem dX5_play_21 : decode cX5_play 21 = .ok (.iconst 1, 1) := by decide +kernel
theorem dX5_play_22 : decode cX5_play 22 = .ok (.goto 4, 3) := by decide +kernel
theorem dX5_play_25 : decode cX5_play 25 = .ok (.iconst 0, 1) := by decide +kernel
theorem dX5_play_26 : decode cX5_play 26 = .ok (.invokevirtual 65, 3) := by decide +kernel
theorem dX5_play_29 : decode cX5_play 29 = .ok (.ifCond .ne 5, 3) := by decide +kernel
theorem dX5_play_32 : decode cX5_play 32 = .ok (.iconst 0, 1) := by decide +kernel
theorem dX5_play_33 : decode cX5_play 33 = .ok (.ireturn, 1) := by decide +kernel
theorem dX5_play_34 : decode cX5_play 34 = .ok (.aload_n 0, 1) := by decide +kernel
theorem dX5_play_35 : decode cX5_play 35 = .ok (.getfield 29, 3) := by decide +kernel
theorem dX5_play_38 : decode cX5_play 38 = .ok (.aload_n 0, 1) := by decide +kernel
theorem dX5_play_39 : decode cX5_play 39 = .ok (.getfield 94, 3) := by decide +kernel
theorem dX5_play_42 : decode cX5_play 42 = .ok (.iload_n 1, 1) := by decide +kernel
theorem dX5_play_43 : decode cX5_play 43 = .ok (.iastore, 1) := by decide +kernel
theorem dX5_play_44 : decode cX5_play 44 = .ok (.aload_n 0, 1) := by decide +kernel
theorem dX5_play_45 : decode cX5_play 45 = .ok (.dup, 1) := by decide +kernel
theorem dX5_play_46 : decode cX5_play 46 = .ok (.getfield 94, 3) := by decide +kernel
theorem dX5_play_49 : decode cX5_play 49 = .ok (.iconst 1, 1) := by decide +kernel
theorem dX5_play_50 : decode cX5_play 50 = .ok (.iadd, 1) := by decide +kernel
theorem dX5_play_51 : decode cX5_play 51 = .ok (.putfield 94, 3) := by decide +kernel
theorem dX5_play_54 : decode cX5_play 54 = .ok (.aload_n 0, 1) := by decide +kernel
theorem dX5_play_55 : decode cX5_play 55 = .ok (.iconst 1, 1) := by decide +kernel
theorem dX5_play_56 : decode cX5_play 56 = .ok (.invokevirtual 107, 3) := by decide +kernel
theorem dX5_play_59 : decode cX5_play 59 = .ok (.ifCond .eq 12, 3) := by decide +kernel
theorem dX5_play_62 : decode cX5_play 62 = .ok (.aload_n 0, 1) := by decide +kernel
theorem dX5_play_63 : decode cX5_play 63 = .ok (.aload_n 0, 1) := by decide +kernel
theorem dX5_play_64 : decode cX5_play 64 = .ok (.getfield 91, 3) := by decide +kernel
theorem dX5_play_67 : decode cX5_play 67 = .ok (.invokevirtual 110, 3) := by decide +kernel
theorem dX5_play_70 : decode cX5_play 70 = .ok (.ireturn, 1) := by decide +kernel
theorem dX5_play_71 : decode cX5_play 71 = .ok (.aload_n 0, 1) := by decide +kernel
theorem dX5_play_72 : decode cX5_play 72 = .ok (.aload_n 0, 1) := by decide +kernel
theorem dX5_play_73 : decode cX5_play 73 = .ok (.getfield 91, 3) := by decide +kernel
theorem dX5_play_76 : decode cX5_play 76 = .ok (.putfield 113, 3) := by decide +kernel
theorem dX5_play_79 : decode cX5_play 79 = .ok (.aload_n 0, 1) := by decide +kernel
theorem dX5_play_80 : decode cX5_play 80 = .ok (.aload_n 0, 1) := by decide +kernel
theorem dX5_play_81 : decode cX5_play 81 = .ok (.aload_n 0, 1) := by decide +kernel
theorem dX5_play_82 : decode cX5_play 82 = .ok (.getfield 91, 3) := by decide +kernel
theorem dX5_play_85 : decode cX5_play 85 = .ok (.invokevirtual 97, 3) := by decide +kernel
theorem dX5_play_88 : decode cX5_play 88 = .ok (.putfield 91, 3) := by decide +kernel
theorem dX5_play_91 : decode cX5_play 91 = .ok (.iconst (-1), 1) := by decide +kernel
theorem dX5_play_92 : decode cX5_play 92 = .ok (.ireturn, 1) := by decide +kernel
set_option maxRecDepth 20000 in
theorem ggX5_challenge_X5_goesOn : GoodIn wsX5_challenge wsX5_goesOn := goodIn_r _ [8, 9, 10, 42, 43, 44, 45, 46, 47, 48, 49, 50, 51, 52, 53, 54, 55, 56, 57, 58, 59, 60] (by decide +kernel) (by decide +kernel)
set_option maxRecDepth 20000 in
theorem gX5_challenge_X5_goesOn : GoodIn wsX5_challenge (wsV RX5 103 RX5 yX5_goesOn wsX5_goesOn) := goodIn_app (goodIn_of _ (by decide +kernel)) ggX5_challenge_X5_goesOn
set_option maxRecDepth 20000 in
theorem ggX5_challenge_X5_asked : GoodIn wsX5_challenge wsX5_asked := goodIn_r _ [14, 15, 42, 43, 44, 45, 46, 47, 48, 49, 50, 51, 52, 53, 54, 55, 56, 57, 58, 59, 60] (by decide +kernel) (by decide +kernel)
set_option maxRecDepth 20000 in
theorem gX5_challenge_X5_asked : GoodIn wsX5_challenge (wsV RX5 73 RX5 yX5_asked wsX5_asked) := goodIn_app (goodIn_of _ (by decide +kernel)) ggX5_challenge_X5_asked
set_option maxRecDepth 20000 in
theorem ggX5_challenge_X5_hasWord : GoodIn wsX5_challenge wsX5_hasWord := goodIn_r _ [19, 20, 21, 1, 22, 23, 24, 25, 7, 26, 27, 28, 29, 30, 31, 32, 42, 43, 44, 45, 46, 47, 48, 49, 50, 51, 52, 53, 54, 55, 56, 57, 58, 59, 60] (by decide +kernel) (by decide +kernel)
set_option maxRecDepth 20000 in
theorem gX5_challenge_X5_hasWord : GoodIn wsX5_challenge (wsV RX5 107 RX5 yX5_hasWord wsX5_hasWord) := goodIn_app (goodIn_of _ (by decide +kernel)) ggX5_challenge_X5_hasWord
set_option maxRecDepth 20000 in
theorem ggX5_challenge_X5_loses : GoodIn wsX5_challenge wsX5_loses := goodIn_r _ [36, 37, 1, 9, 2, 10, 38, 39, 40, 7, 41, 42, 43, 44, 45, 46, 47, 48, 49, 50, 51, 52, 53, 54, 55, 56, 57, 58, 59, 60] (by decide +kernel) (by decide +kernel)
set_option maxRecDepth 20000 in
theorem gX5_challenge_X5_loses : GoodIn wsX5_challenge (wsV RX5 110 RX5 yX5_loses wsX5_loses) := goodIn_app (goodIn_of _ (by decide +kernel)) ggX5_challenge_X5_loses
theorem dX5_challenge_0 : decode cX5_challenge 0 = .ok (.aload_n 0, 1) := by decide +kernel
theorem dX5_challenge_1 : decode cX5_challenge 1 = .ok (.aload_n 0, 1) := by decide +kernel
theorem dX5_challenge_2 : decode cX5_challenge 2 = .ok (.invokevirtual 103, 3) := by decide +kernel
theorem dX5_challenge_5 : decode cX5_challenge 5 = .ok (.ifCond .eq 14, 3) := by decide +kernel
theorem dX5_challenge_8 : decode cX5_challenge 8 = .ok (.aload_n 0, 1) := by decide +kernel
theorem dX5_challenge_9 : decode cX5_challenge 9 = .ok (.getfield 94, 3) := by decide +kernel
theorem dX5_challenge_12 : decode cX5_challenge 12 = .ok (.ifCond .le 7, 3) := by decide +kernel
theorem dX5_challenge_15 : decode cX5_challenge 15 = .ok (.iconst 1, 1) := by decide +kernel
theorem dX5_challenge_16 : decode cX5_challenge 16 = .ok (.goto 4, 3) := by decide +kernel
theorem dX5_challenge_19 : decode cX5_challenge 19 = .ok (.iconst 0, 1) := by decide +kernel
theorem dX5_challenge_20 : decode cX5_challenge 20 = .ok (.invokevirtual 73, 3) := by decide +kernel
theorem dX5_challenge_23 : decode cX5_challenge 23 = .ok (.ifCond .ne 5, 3) := by decide +kernel
theorem dX5_challenge_26 : decode cX5_challenge 26 = .ok (.iconst 0, 1) := by decide +kernel
theorem dX5_challenge_27 : decode cX5_challenge 27 = .ok (.ireturn, 1) := by decide +kernel
theorem dX5_challenge_28 : decode cX5_challenge 28 = .ok (.aload_n 0, 1) := by decide +kernel
theorem dX5_challenge_29 : decode cX5_challenge 29 = .ok (.aload_n 0, 1) := by decide +kernel
theorem dX5_challenge_30 : decode cX5_challenge 30 = .ok (.iconst 0, 1) := by decide +kernel
theorem dX5_challenge_31 : decode cX5_challenge 31 = .ok (.invokevirtual 107, 3) := by decide +kernel
theorem dX5_challenge_34 : decode cX5_challenge 34 = .ok (.ifCond .eq 10, 3) := by decide +kernel
theorem dX5_challenge_37 : decode cX5_challenge 37 = .ok (.aload_n 0, 1) := by decide +kernel
theorem dX5_challenge_38 : decode cX5_challenge 38 = .ok (.getfield 91, 3) := by decide +kernel
theorem dX5_challenge_41 : decode cX5_challenge 41 = .ok (.goto 7, 3) := by decide +kernel
theorem dX5_challenge_44 : decode cX5_challenge 44 = .ok (.aload_n 0, 1) := by decide +kernel
theorem dX5_challenge_45 : decode cX5_challenge 45 = .ok (.getfield 113, 3) := by decide +kernel
theorem dX5_challenge_48 : decode cX5_challenge 48 = .ok (.invokevirtual 110, 3) := by decide +kernel
theorem dX5_challenge_51 : decode cX5_challenge 51 = .ok (.ireturn, 1) := by decide +kernel
set_option maxRecDepth 20000 in
theorem ggX5_turn_X5_goesOn : GoodIn wsX5_turn wsX5_goesOn := goodIn_r _ [6, 7, 8, 14, 15, 16, 17, 18, 19, 20, 21, 22, 23, 24, 25, 26, 27, 28, 29, 30, 31, 32] (by decide +kernel) (by decide +kernel)
set_option maxRecDepth 20000 in
theorem gX5_turn_X5_goesOn : GoodIn wsX5_turn (wsV RX5 103 RX5 yX5_goesOn wsX5_goesOn) := goodIn_app (goodIn_of _ (by decide +kernel)) ggX5_turn_X5_goesOn
set_option maxRecDepth 20000 in
theorem ggX5_turn_X5_told : GoodIn wsX5_turn wsX5_told := goodIn_r _ [12, 13, 14, 15, 16, 17, 18, 19, 20, 21, 22, 23, 24, 25, 26, 27, 28, 29, 30, 31, 32] (by decide +kernel) (by decide +kernel)
set_option maxRecDepth 20000 in
theorem gX5_turn_X5_told : GoodIn wsX5_turn (wsV RX5 69 RX5 yX5_told wsX5_told) := goodIn_app (goodIn_of _ (by decide +kernel)) ggX5_turn_X5_told
theorem dX5_turn_0 : decode cX5_turn 0 = .ok (.aload_n 0, 1) := by decide +kernel
theorem dX5_turn_1 : decode cX5_turn 1 = .ok (.aload_n 0, 1) := by decide +kernel
theorem dX5_turn_2 : decode cX5_turn 2 = .ok (.invokevirtual 103, 3) := by decide +kernel
theorem dX5_turn_5 : decode cX5_turn 5 = .ok (.ifCond .eq 10, 3) := by decide +kernel
theorem dX5_turn_8 : decode cX5_turn 8 = .ok (.aload_n 0, 1) := by decide +kernel
theorem dX5_turn_9 : decode cX5_turn 9 = .ok (.getfield 91, 3) := by decide +kernel
theorem dX5_turn_12 : decode cX5_turn 12 = .ok (.goto 4, 3) := by decide +kernel
theorem dX5_turn_15 : decode cX5_turn 15 = .ok (.iconst (-1), 1) := by decide +kernel
theorem dX5_turn_16 : decode cX5_turn 16 = .ok (.invokevirtual 69, 3) := by decide +kernel
theorem dX5_turn_19 : decode cX5_turn 19 = .ok (.ireturn, 1) := by decide +kernel
set_option maxRecDepth 20000 in
theorem ggX5_winner_X5_told : GoodIn wsX5_winner wsX5_told := goodIn_r _ [6, 7, 8, 9, 10, 11, 12, 13, 14, 15, 16, 17, 18, 19, 20, 21, 22, 23, 24, 25, 26] (by decide +kernel) (by decide +kernel)
set_option maxRecDepth 20000 in
theorem gX5_winner_X5_told : GoodIn wsX5_winner (wsV RX5 69 RX5 yX5_told wsX5_told) := goodIn_app (goodIn_of _ (by decide +kernel)) ggX5_winner_X5_told
theorem dX5_winner_0 : decode cX5_winner 0 = .ok (.aload_n 0, 1) := by decide +kernel
theorem dX5_winner_1 : decode cX5_winner 1 = .ok (.aload_n 0, 1) := by decide +kernel
theorem dX5_winner_2 : decode cX5_winner 2 = .ok (.getfield 26, 3) := by decide +kernel
theorem dX5_winner_5 : decode cX5_winner 5 = .ok (.invokevirtual 69, 3) := by decide +kernel
theorem dX5_winner_8 : decode cX5_winner 8 = .ok (.ireturn, 1) := by decide +kernel
set_option maxRecDepth 20000 in
theorem ggX5_players_X5_told : GoodIn wsX5_players wsX5_told := goodIn_r _ [6, 7, 8, 9, 10, 11, 12, 13, 14, 15, 16, 17, 18, 19, 20, 21, 22, 23, 24, 25, 26] (by decide +kernel) (by decide +kernel)
set_option maxRecDepth 20000 in
theorem gX5_players_X5_told : GoodIn wsX5_players (wsV RX5 69 RX5 yX5_told wsX5_told) := goodIn_app (goodIn_of _ (by decide +kernel)) ggX5_players_X5_told
theorem dX5_players_0 : decode cX5_players 0 = .ok (.aload_n 0, 1) := by decide +kernel
theorem dX5_players_1 : decode cX5_players 1 = .ok (.aload_n 0, 1) := by decide +kernel
theorem dX5_players_2 : decode cX5_players 2 = .ok (.getfield 88, 3) := by decide +kernel
theorem dX5_players_5 : decode cX5_players 5 = .ok (.invokevirtual 69, 3) := by decide +kernel
theorem dX5_players_8 : decode cX5_players 8 = .ok (.ireturn, 1) := by decide +kernel
set_option maxRecDepth 20000 in
theorem ggX5_strikes_X5_asked : GoodIn wsX5_strikes wsX5_asked := goodIn_r _ [7, 8, 9, 10, 11, 12, 13, 14, 15, 16, 17, 18, 19, 20, 21, 22, 23, 24, 25, 26, 27] (by decide +kernel) (by decide +kernel)
set_option maxRecDepth 20000 in
theorem gX5_strikes_X5_asked : GoodIn wsX5_strikes (wsV RX5 73 RX5 yX5_asked wsX5_asked) := goodIn_app (goodIn_of _ (by decide +kernel)) ggX5_strikes_X5_asked
theorem dX5_strikes_0 : decode cX5_strikes 0 = .ok (.aload_n 0, 1) := by decide +kernel
theorem dX5_strikes_1 : decode cX5_strikes 1 = .ok (.iload_n 1, 1) := by decide +kernel
theorem dX5_strikes_2 : decode cX5_strikes 2 = .ok (.ifCond .lt 15, 3) := by decide +kernel
theorem dX5_strikes_5 : decode cX5_strikes 5 = .ok (.iload_n 1, 1) := by decide +kernel
theorem dX5_strikes_6 : decode cX5_strikes 6 = .ok (.aload_n 0, 1) := by decide +kernel
theorem dX5_strikes_7 : decode cX5_strikes 7 = .ok (.getfield 88, 3) := by decide +kernel
theorem dX5_strikes_10 : decode cX5_strikes 10 = .ok (.if_icmp .ge 7, 3) := by decide +kernel
theorem dX5_strikes_13 : decode cX5_strikes 13 = .ok (.iconst 1, 1) := by decide +kernel
theorem dX5_strikes_14 : decode cX5_strikes 14 = .ok (.goto 4, 3) := by decide +kernel
theorem dX5_strikes_17 : decode cX5_strikes 17 = .ok (.iconst 0, 1) := by decide +kernel
theorem dX5_strikes_18 : decode cX5_strikes 18 = .ok (.invokevirtual 73, 3) := by decide +kernel
theorem dX5_strikes_21 : decode cX5_strikes 21 = .ok (.ifCond .eq 12, 3) := by decide +kernel
theorem dX5_strikes_24 : decode cX5_strikes 24 = .ok (.aload_n 0, 1) := by decide +kernel
theorem dX5_strikes_25 : decode cX5_strikes 25 = .ok (.getfield 23, 3) := by decide +kernel
theorem dX5_strikes_28 : decode cX5_strikes 28 = .ok (.iload_n 1, 1) := by decide +kernel
theorem dX5_strikes_29 : decode cX5_strikes 29 = .ok (.iaload, 1) := by decide +kernel
theorem dX5_strikes_30 : decode cX5_strikes 30 = .ok (.goto 4, 3) := by decide +kernel
theorem dX5_strikes_33 : decode cX5_strikes 33 = .ok (.iconst 0, 1) := by decide +kernel
theorem dX5_strikes_34 : decode cX5_strikes 34 = .ok (.ireturn, 1) := by decide +kernel
set_option maxRecDepth 20000 in
theorem ggX5_fragmentLength_X5_told : GoodIn wsX5_fragmentLength wsX5_told := goodIn_r _ [6, 7, 8, 9, 10, 11, 12, 13, 14, 15, 16, 17, 18, 19, 20, 21, 22, 23, 24, 25, 26] (by decide +kernel) (by decide +kernel)
set_option maxRecDepth 20000 in
theorem gX5_fragmentLength_X5_told : GoodIn wsX5_fragmentLength (wsV RX5 69 RX5 yX5_told wsX5_told) := goodIn_app (goodIn_of _ (by decide +kernel)) ggX5_fragmentLength_X5_told
theorem dX5_fragmentLength_0 : decode cX5_fragmentLength 0 = .ok (.aload_n 0, 1) := by decide +kernel
theorem dX5_fragmentLength_1 : decode cX5_fragmentLength 1 = .ok (.aload_n 0, 1) := by decide +kernel
theorem dX5_fragmentLength_2 : decode cX5_fragmentLength 2 = .ok (.getfield 94, 3) := by decide +kernel
theorem dX5_fragmentLength_5 : decode cX5_fragmentLength 5 = .ok (.invokevirtual 69, 3) := by decide +kernel
theorem dX5_fragmentLength_8 : decode cX5_fragmentLength 8 = .ok (.ireturn, 1) := by decide +kernel
set_option maxRecDepth 20000 in
theorem ggX5_fragmentAt_X5_asked : GoodIn wsX5_fragmentAt wsX5_asked := goodIn_r _ [7, 8, 9, 10, 11, 12, 13, 14, 15, 16, 17, 18, 19, 20, 21, 22, 23, 24, 25, 26, 27] (by decide +kernel) (by decide +kernel)
set_option maxRecDepth 20000 in
theorem gX5_fragmentAt_X5_asked : GoodIn wsX5_fragmentAt (wsV RX5 73 RX5 yX5_asked wsX5_asked) := goodIn_app (goodIn_of _ (by decide +kernel)) ggX5_fragmentAt_X5_asked
theorem dX5_fragmentAt_0 : decode cX5_fragmentAt 0 = .ok (.aload_n 0, 1) := by decide +kernel
theorem dX5_fragmentAt_1 : decode cX5_fragmentAt 1 = .ok (.iload_n 1, 1) := by decide +kernel
theorem dX5_fragmentAt_2 : decode cX5_fragmentAt 2 = .ok (.ifCond .lt 15, 3) := by decide +kernel
theorem dX5_fragmentAt_5 : decode cX5_fragmentAt 5 = .ok (.iload_n 1, 1) := by decide +kernel
theorem dX5_fragmentAt_6 : decode cX5_fragmentAt 6 = .ok (.aload_n 0, 1) := by decide +kernel
theorem dX5_fragmentAt_7 : decode cX5_fragmentAt 7 = .ok (.getfield 94, 3) := by decide +kernel
theorem dX5_fragmentAt_10 : decode cX5_fragmentAt 10 = .ok (.if_icmp .ge 7, 3) := by decide +kernel
theorem dX5_fragmentAt_13 : decode cX5_fragmentAt 13 = .ok (.iconst 1, 1) := by decide +kernel
theorem dX5_fragmentAt_14 : decode cX5_fragmentAt 14 = .ok (.goto 4, 3) := by decide +kernel
theorem dX5_fragmentAt_17 : decode cX5_fragmentAt 17 = .ok (.iconst 0, 1) := by decide +kernel
theorem dX5_fragmentAt_18 : decode cX5_fragmentAt 18 = .ok (.invokevirtual 73, 3) := by decide +kernel
theorem dX5_fragmentAt_21 : decode cX5_fragmentAt 21 = .ok (.ifCond .eq 12, 3) := by decide +kernel
theorem dX5_fragmentAt_24 : decode cX5_fragmentAt 24 = .ok (.aload_n 0, 1) := by decide +kernel
theorem dX5_fragmentAt_25 : decode cX5_fragmentAt 25 = .ok (.getfield 29, 3) := by decide +kernel
theorem dX5_fragmentAt_28 : decode cX5_fragmentAt 28 = .ok (.iload_n 1, 1) := by decide +kernel
theorem dX5_fragmentAt_29 : decode cX5_fragmentAt 29 = .ok (.iaload, 1) := by decide +kernel
theorem dX5_fragmentAt_30 : decode cX5_fragmentAt 30 = .ok (.goto 4, 3) := by decide +kernel
theorem dX5_fragmentAt_33 : decode cX5_fragmentAt 33 = .ok (.iconst 0, 1) := by decide +kernel
theorem dX5_fragmentAt_34 : decode cX5_fragmentAt 34 = .ok (.ireturn, 1) := by decide +kernel
set_option maxRecDepth 20000 in
theorem ggX5_isWhole_X5_counts : GoodIn wsX5_isWhole wsX5_counts := goodIn_r _ [7, 2, 8, 14, 15, 16, 17, 18, 19, 20, 21, 22, 23, 24, 25, 26, 27, 28, 29, 30, 31, 32] (by decide +kernel) (by decide +kernel)
set_option maxRecDepth 20000 in
theorem gX5_isWhole_X5_counts : GoodIn wsX5_isWhole (wsV RX5 100 RX5 yX5_counts wsX5_counts) := goodIn_app (goodIn_of _ (by decide +kernel)) ggX5_isWhole_X5_counts
set_option maxRecDepth 20000 in
theorem ggX5_isWhole_X5_areAlike : GoodIn wsX5_isWhole wsX5_areAlike := goodIn_r _ [12, 2, 13, 14, 15, 16, 17, 18, 19, 20, 21, 22, 23, 24, 25, 26, 27, 28, 29, 30, 31, 32] (by decide +kernel) (by decide +kernel)
set_option maxRecDepth 20000 in
theorem gX5_isWhole_X5_areAlike : GoodIn wsX5_isWhole (wsV RX5 80 RX5 yX5_areAlike wsX5_areAlike) := goodIn_app (goodIn_of _ (by decide +kernel)) ggX5_isWhole_X5_areAlike
theorem dX5_isWhole_0 : decode cX5_isWhole 0 = .ok (.iconst 0, 1) := by decide +kernel
theorem dX5_isWhole_1 : decode cX5_isWhole 1 = .ok (.istore_n 3, 1) := by decide +kernel
theorem dX5_isWhole_2 : decode cX5_isWhole 2 = .ok (.iconst 0, 1) := by decide +kernel
theorem dX5_isWhole_3 : decode cX5_isWhole 3 = .ok (.istore 4, 2) := by decide +kernel
theorem dX5_isWhole_5 : decode cX5_isWhole 5 = .ok (.iload 4, 2) := by decide +kernel
theorem dX5_isWhole_7 : decode cX5_isWhole 7 = .ok (.aload_n 0, 1) := by decide +kernel
theorem dX5_isWhole_8 : decode cX5_isWhole 8 = .ok (.getfield 51, 3) := by decide +kernel
theorem dX5_isWhole_11 : decode cX5_isWhole 11 = .ok (.if_icmp .ge 50, 3) := by decide +kernel
theorem dX5_isWhole_14 : decode cX5_isWhole 14 = .ok (.iload_n 3, 1) := by decide +kernel
theorem dX5_isWhole_15 : decode cX5_isWhole 15 = .ok (.ifCond .ne 34, 3) := by decide +kernel
theorem dX5_isWhole_18 : decode cX5_isWhole 18 = .ok (.aload_n 0, 1) := by decide +kernel
theorem dX5_isWhole_19 : decode cX5_isWhole 19 = .ok (.iload 4, 2) := by decide +kernel
theorem dX5_isWhole_21 : decode cX5_isWhole 21 = .ok (.invokevirtual 100, 3) := by decide +kernel
theorem dX5_isWhole_24 : decode cX5_isWhole 24 = .ok (.ifCond .eq 29, 3) := by decide +kernel
theorem dX5_isWhole_27 : decode cX5_isWhole 27 = .ok (.aload_n 0, 1) := by decide +kernel
theorem dX5_isWhole_28 : decode cX5_isWhole 28 = .ok (.getfield 16, 3) := by decide +kernel
theorem dX5_isWhole_31 : decode cX5_isWhole 31 = .ok (.iload 4, 2) := by decide +kernel
theorem dX5_isWhole_33 : decode cX5_isWhole 33 = .ok (.iaload, 1) := by decide +kernel
theorem dX5_isWhole_34 : decode cX5_isWhole 34 = .ok (.iload_n 2, 1) := by decide +kernel
theorem dX5_isWhole_35 : decode cX5_isWhole 35 = .ok (.if_icmp .ne 18, 3) := by decide +kernel
theorem dX5_isWhole_38 : decode cX5_isWhole 38 = .ok (.aload_n 0, 1) := by decide +kernel
theorem dX5_isWhole_39 : decode cX5_isWhole 39 = .ok (.iload 4, 2) := by decide +kernel
theorem dX5_isWhole_41 : decode cX5_isWhole 41 = .ok (.iload_n 1, 1) := by decide +kernel
theorem dX5_isWhole_42 : decode cX5_isWhole 42 = .ok (.iload_n 2, 1) := by decide +kernel
theorem dX5_isWhole_43 : decode cX5_isWhole 43 = .ok (.invokevirtual 80, 3) := by decide +kernel
theorem dX5_isWhole_46 : decode cX5_isWhole 46 = .ok (.ifCond .eq 7, 3) := by decide +kernel
theorem dX5_isWhole_49 : decode cX5_isWhole 49 = .ok (.iconst 1, 1) := by decide +kernel
theorem dX5_isWhole_50 : decode cX5_isWhole 50 = .ok (.goto 4, 3) := by decide +kernel
theorem dX5_isWhole_53 : decode cX5_isWhole 53 = .ok (.iconst 0, 1) := by decide +kernel
theorem dX5_isWhole_54 : decode cX5_isWhole 54 = .ok (.istore_n 3, 1) := by decide +kernel
theorem dX5_isWhole_55 : decode cX5_isWhole 55 = .ok (.iinc 4 1, 3) := by decide +kernel
theorem dX5_isWhole_58 : decode cX5_isWhole 58 = .ok (.goto (-53), 3) := by decide +kernel
theorem dX5_isWhole_61 : decode cX5_isWhole 61 = .ok (.iload_n 3, 1) := by decide +kernel
theorem dX5_isWhole_62 : decode cX5_isWhole 62 = .ok (.ireturn, 1) := by decide +kernel
set_option maxRecDepth 20000 in
theorem ggX5_solves_X5_counts : GoodIn wsX5_solves wsX5_counts := goodIn_r _ [13, 4, 14, 27, 28, 29, 30, 31, 32, 33, 34, 35, 36, 37, 38, 39, 40, 41, 42, 43, 44, 45] (by decide +kernel) (by decide +kernel)
set_option maxRecDepth 20000 in
theorem gX5_solves_X5_counts : GoodIn wsX5_solves (wsV RX5 100 RX5 yX5_counts wsX5_counts) := goodIn_app (goodIn_of _ (by decide +kernel)) ggX5_solves_X5_counts
set_option maxRecDepth 20000 in
theorem ggX5_solves_X5_areAlike : GoodIn wsX5_solves wsX5_areAlike := goodIn_r _ [18, 4, 5, 27, 28, 29, 30, 31, 32, 33, 34, 35, 36, 37, 38, 39, 40, 41, 42, 43, 44, 45] (by decide +kernel) (by decide +kernel)
set_option maxRecDepth 20000 in
theorem gX5_solves_X5_areAlike : GoodIn wsX5_solves (wsV RX5 80 RX5 yX5_areAlike wsX5_areAlike) := goodIn_app (goodIn_of _ (by decide +kernel)) ggX5_solves_X5_areAlike
set_option maxRecDepth 20000 in
theorem ggX5_solves_X5_isWhole : GoodIn wsX5_solves wsX5_isWhole := goodIn_r _ [22, 3, 4, 9, 10, 11, 12, 13, 14, 15, 16, 17, 18, 5, 27, 28, 29, 30, 31, 32, 33, 34, 35, 36, 37, 38, 39, 40, 41, 42, 43, 44, 45] (by decide +kernel) (by decide +kernel)
set_option maxRecDepth 20000 in
theorem gX5_solves_X5_isWhole : GoodIn wsX5_solves (wsV RX5 116 RX5 yX5_isWhole wsX5_isWhole) := goodIn_app (goodIn_of _ (by decide +kernel)) ggX5_solves_X5_isWhole
set_option maxRecDepth 20000 in
theorem ggX5_solves_X5_endBehind : GoodIn wsX5_solves wsX5_endBehind := goodIn_r _ [26, 3, 4, 5, 7, 9, 10, 11, 12, 13, 14, 15, 16, 17, 18, 19, 20, 21, 22, 27, 28, 29, 30, 31, 32, 33, 34, 35, 36, 37, 38, 39, 40, 41, 42, 43, 44, 45] (by decide +kernel) (by decide +kernel)
set_option maxRecDepth 20000 in
theorem gX5_solves_X5_endBehind : GoodIn wsX5_solves (wsV RX5 119 RX5 yX5_endBehind wsX5_endBehind) := goodIn_app (goodIn_of _ (by decide +kernel)) ggX5_solves_X5_endBehind
theorem dX5_solves_0 : decode cX5_solves 0 = .ok (.bipush 11, 2) := by decide +kernel
theorem dX5_solves_2 : decode cX5_solves 2 = .ok (.iload_n 1, 1) := by decide +kernel
theorem dX5_solves_3 : decode cX5_solves 3 = .ok (.imul, 1) := by decide +kernel
theorem dX5_solves_4 : decode cX5_solves 4 = .ok (.iload_n 2, 1) := by decide +kernel
theorem dX5_solves_5 : decode cX5_solves 5 = .ok (.iadd, 1) := by decide +kernel
theorem dX5_solves_6 : decode cX5_solves 6 = .ok (.istore_n 3, 1) := by decide +kernel
theorem dX5_solves_7 : decode cX5_solves 7 = .ok (.aload_n 0, 1) := by decide +kernel
theorem dX5_solves_8 : decode cX5_solves 8 = .ok (.getfield 45, 3) := by decide +kernel
theorem dX5_solves_11 : decode cX5_solves 11 = .ok (.iload_n 3, 1) := by decide +kernel
theorem dX5_solves_12 : decode cX5_solves 12 = .ok (.iconst 0, 1) := by decide +kernel
theorem dX5_solves_13 : decode cX5_solves 13 = .ok (.iastore, 1) := by decide +kernel
theorem dX5_solves_14 : decode cX5_solves 14 = .ok (.aload_n 0, 1) := by decide +kernel
theorem dX5_solves_15 : decode cX5_solves 15 = .ok (.getfield 42, 3) := by decide +kernel
theorem dX5_solves_18 : decode cX5_solves 18 = .ok (.iload_n 3, 1) := by decide +kernel
theorem dX5_solves_19 : decode cX5_solves 19 = .ok (.iconst 0, 1) := by decide +kernel
theorem dX5_solves_20 : decode cX5_solves 20 = .ok (.iastore, 1) := by decide +kernel
theorem dX5_solves_21 : decode cX5_solves 21 = .ok (.iconst 0, 1) := by decide +kernel
theorem dX5_solves_22 : decode cX5_solves 22 = .ok (.istore 4, 2) := by decide +kernel
theorem dX5_solves_24 : decode cX5_solves 24 = .ok (.iload 4, 2) := by decide +kernel
theorem dX5_solves_26 : decode cX5_solves 26 = .ok (.aload_n 0, 1) := by decide +kernel
theorem dX5_solves_27 : decode cX5_solves 27 = .ok (.getfield 51, 3) := by decide +kernel
theorem dX5_solves_30 : decode cX5_solves 30 = .ok (.if_icmp .ge 113, 3) := by decide +kernel
theorem dX5_solves_33 : decode cX5_solves 33 = .ok (.aload_n 0, 1) := by decide +kernel
theorem dX5_solves_34 : decode cX5_solves 34 = .ok (.iload 4, 2) := by decide +kernel
theorem dX5_solves_36 : decode cX5_solves 36 = .ok (.invokevirtual 100, 3) := by decide +kernel
theorem dX5_solves_39 : decode cX5_solves 39 = .ok (.ifCond .eq 98, 3) := by decide +kernel
theorem dX5_solves_42 : decode cX5_solves 42 = .ok (.aload_n 0, 1) := by decide +kernel
theorem dX5_solves_43 : decode cX5_solves 43 = .ok (.getfield 16, 3) := by decide +kernel
theorem dX5_solves_46 : decode cX5_solves 46 = .ok (.iload 4, 2) := by decide +kernel
theorem dX5_solves_48 : decode cX5_solves 48 = .ok (.iaload, 1) := by decide +kernel
theorem dX5_solves_49 : decode cX5_solves 49 = .ok (.iload_n 2, 1) := by decide +kernel
theorem dX5_solves_50 : decode cX5_solves 50 = .ok (.if_icmp .le 87, 3) := by decide +kernel
theorem dX5_solves_53 : decode cX5_solves 53 = .ok (.aload_n 0, 1) := by decide +kernel
theorem dX5_solves_54 : decode cX5_solves 54 = .ok (.iload 4, 2) := by decide +kernel
theorem dX5_solves_56 : decode cX5_solves 56 = .ok (.iload_n 1, 1) := by decide +kernel
theorem dX5_solves_57 : decode cX5_solves 57 = .ok (.iload_n 2, 1) := by decide +kernel
theorem dX5_solves_58 : decode cX5_solves 58 = .ok (.invokevirtual 80, 3) := by decide +kernel
theorem dX5_solves_61 : decode cX5_solves 61 = .ok (.ifCond .eq 76, 3) := by decide +kernel
theorem dX5_solves_64 : decode cX5_solves 64 = .ok (.aload_n 0, 1) := by decide +kernel
theorem dX5_solves_65 : decode cX5_solves 65 = .ok (.getfield 13, 3) := by decide +kernel
theorem dX5_solves_68 : decode cX5_solves 68 = .ok (.bipush 10, 2) := by decide +kernel
theorem dX5_solves_70 : decode cX5_solves 70 = .ok (.iload 4, 2) := by decide +kernel
theorem dX5_solves_72 : decode cX5_solves 72 = .ok (.imul, 1) := by decide +kernel
theorem dX5_solves_73 : decode cX5_solves 73 = .ok (.iload_n 2, 1) := by decide +kernel
theorem dX5_solves_74 : decode cX5_solves 74 = .ok (.iadd, 1) := by decide +kernel
theorem dX5_solves_75 : decode cX5_solves 75 = .ok (.iaload, 1) := by decide +kernel
theorem dX5_solves_76 : decode cX5_solves 76 = .ok (.istore 5, 2) := by decide +kernel
theorem dX5_solves_78 : decode cX5_solves 78 = .ok (.aload_n 0, 1) := by decide +kernel
theorem dX5_solves_79 : decode cX5_solves 79 = .ok (.getfield 45, 3) := by decide +kernel
theorem dX5_solves_82 : decode cX5_solves 82 = .ok (.iload_n 3, 1) := by decide +kernel
theorem dX5_solves_83 : decode cX5_solves 83 = .ok (.dup2, 1) := by decide +kernel
theorem dX5_solves_84 : decode cX5_solves 84 = .ok (.iaload, 1) := by decide +kernel
theorem dX5_solves_85 : decode cX5_solves 85 = .ok (.iconst 1, 1) := by decide +kernel
theorem dX5_solves_86 : decode cX5_solves 86 = .ok (.iload 5, 2) := by decide +kernel
theorem dX5_solves_88 : decode cX5_solves 88 = .ok (.ishl, 1) := by decide +kernel
theorem dX5_solves_89 : decode cX5_solves 89 = .ok (.ior, 1) := by decide +kernel
theorem dX5_solves_90 : decode cX5_solves 90 = .ok (.iastore, 1) := by decide +kernel
theorem dX5_solves_91 : decode cX5_solves 91 = .ok (.aload_n 0, 1) := by decide +kernel
theorem dX5_solves_92 : decode cX5_solves 92 = .ok (.getfield 42, 3) := by decide +kernel
theorem dX5_solves_95 : decode cX5_solves 95 = .ok (.iload_n 3, 1) := by decide +kernel
theorem dX5_solves_96 : decode cX5_solves 96 = .ok (.dup2, 1) := by decide +kernel
theorem dX5_solves_97 : decode cX5_solves 97 = .ok (.iaload, 1) := by decide +kernel
theorem dX5_solves_98 : decode cX5_solves 98 = .ok (.aload_n 0, 1) := by decide +kernel
theorem dX5_solves_99 : decode cX5_solves 99 = .ok (.iload 4, 2) := by decide +kernel
theorem dX5_solves_101 : decode cX5_solves 101 = .ok (.iload_n 2, 1) := by decide +kernel
theorem dX5_solves_102 : decode cX5_solves 102 = .ok (.iconst 1, 1) := by decide +kernel
theorem dX5_solves_103 : decode cX5_solves 103 = .ok (.iadd, 1) := by decide +kernel
theorem dX5_solves_104 : decode cX5_solves 104 = .ok (.invokevirtual 116, 3) := by decide +kernel
theorem dX5_solves_107 : decode cX5_solves 107 = .ok (.ifCond .ne 27, 3) := by decide +kernel
theorem dX5_solves_110 : decode cX5_solves 110 = .ok (.aload_n 0, 1) := by decide +kernel
theorem dX5_solves_111 : decode cX5_solves 111 = .ok (.getfield 32, 3) := by decide +kernel
theorem dX5_solves_114 : decode cX5_solves 114 = .ok (.bipush 11, 2) := by decide +kernel
theorem dX5_solves_116 : decode cX5_solves 116 = .ok (.iload 4, 2) := by decide +kernel
theorem dX5_solves_118 : decode cX5_solves 118 = .ok (.imul, 1) := by decide +kernel
theorem dX5_solves_119 : decode cX5_solves 119 = .ok (.iload_n 2, 1) := by decide +kernel
theorem dX5_solves_120 : decode cX5_solves 120 = .ok (.iadd, 1) := by decide +kernel
theorem dX5_solves_121 : decode cX5_solves 121 = .ok (.iconst 1, 1) := by decide +kernel
theorem dX5_solves_122 : decode cX5_solves 122 = .ok (.iadd, 1) := by decide +kernel
theorem dX5_solves_123 : decode cX5_solves 123 = .ok (.baload, 1) := by decide +kernel
theorem dX5_solves_124 : decode cX5_solves 124 = .ok (.ifCond .ne 10, 3) := by decide +kernel
theorem dX5_solves_127 : decode cX5_solves 127 = .ok (.iconst 1, 1) := by decide +kernel
theorem dX5_solves_128 : decode cX5_solves 128 = .ok (.iload 5, 2) := by decide +kernel
theorem dX5_solves_130 : decode cX5_solves 130 = .ok (.ishl, 1) := by decide +kernel
theorem dX5_solves_131 : decode cX5_solves 131 = .ok (.goto 4, 3) := by decide +kernel
theorem dX5_solves_134 : decode cX5_solves 134 = .ok (.iconst 0, 1) := by decide +kernel
theorem dX5_solves_135 : decode cX5_solves 135 = .ok (.ior, 1) := by decide +kernel
theorem dX5_solves_136 : decode cX5_solves 136 = .ok (.iastore, 1) := by decide +kernel
theorem dX5_solves_137 : decode cX5_solves 137 = .ok (.iinc 4 1, 3) := by decide +kernel
theorem dX5_solves_140 : decode cX5_solves 140 = .ok (.goto (-116), 3) := by decide +kernel
theorem dX5_solves_143 : decode cX5_solves 143 = .ok (.aload_n 0, 1) := by decide +kernel
theorem dX5_solves_144 : decode cX5_solves 144 = .ok (.getfield 32, 3) := by decide +kernel
theorem dX5_solves_147 : decode cX5_solves 147 = .ok (.iload_n 3, 1) := by decide +kernel
theorem dX5_solves_148 : decode cX5_solves 148 = .ok (.aload_n 0, 1) := by decide +kernel
theorem dX5_solves_149 : decode cX5_solves 149 = .ok (.getfield 45, 3) := by decide +kernel
theorem dX5_solves_152 : decode cX5_solves 152 = .ok (.iload_n 3, 1) := by decide +kernel
theorem dX5_solves_153 : decode cX5_solves 153 = .ok (.iaload, 1) := by decide +kernel
theorem dX5_solves_154 : decode cX5_solves 154 = .ok (.ifCond .eq 12, 3) := by decide +kernel
theorem dX5_solves_157 : decode cX5_solves 157 = .ok (.aload_n 0, 1) := by decide +kernel
theorem dX5_solves_158 : decode cX5_solves 158 = .ok (.getfield 42, 3) := by decide +kernel
theorem dX5_solves_161 : decode cX5_solves 161 = .ok (.iload_n 3, 1) := by decide +kernel
theorem dX5_solves_162 : decode cX5_solves 162 = .ok (.iaload, 1) := by decide +kernel
theorem dX5_solves_163 : decode cX5_solves 163 = .ok (.ifCond .eq 7, 3) := by decide +kernel
theorem dX5_solves_166 : decode cX5_solves 166 = .ok (.iconst 1, 1) := by decide +kernel
theorem dX5_solves_167 : decode cX5_solves 167 = .ok (.goto 4, 3) := by decide +kernel
theorem dX5_solves_170 : decode cX5_solves 170 = .ok (.iconst 0, 1) := by decide +kernel
theorem dX5_solves_171 : decode cX5_solves 171 = .ok (.bastore, 1) := by decide +kernel
theorem dX5_solves_172 : decode cX5_solves 172 = .ok (.aload_n 0, 1) := by decide +kernel
theorem dX5_solves_173 : decode cX5_solves 173 = .ok (.getfield 36, 3) := by decide +kernel
theorem dX5_solves_176 : decode cX5_solves 176 = .ok (.iload_n 3, 1) := by decide +kernel
theorem dX5_solves_177 : decode cX5_solves 177 = .ok (.iconst 0, 1) := by decide +kernel
theorem dX5_solves_178 : decode cX5_solves 178 = .ok (.iastore, 1) := by decide +kernel
theorem dX5_solves_179 : decode cX5_solves 179 = .ok (.aload_n 0, 1) := by decide +kernel
theorem dX5_solves_180 : decode cX5_solves 180 = .ok (.getfield 39, 3) := by decide +kernel
theorem dX5_solves_183 : decode cX5_solves 183 = .ok (.iload_n 3, 1) := by decide +kernel
theorem dX5_solves_184 : decode cX5_solves 184 = .ok (.iconst (-1), 1) := by decide +kernel
theorem dX5_solves_185 : decode cX5_solves 185 = .ok (.iastore, 1) := by decide +kernel
theorem dX5_solves_186 : decode cX5_solves 186 = .ok (.iconst 0, 1) := by decide +kernel
theorem dX5_solves_187 : decode cX5_solves 187 = .ok (.istore 4, 2) := by decide +kernel
theorem dX5_solves_189 : decode cX5_solves 189 = .ok (.iload 4, 2) := by decide +kernel
theorem dX5_solves_191 : decode cX5_solves 191 = .ok (.bipush 26, 2) := by decide +kernel
theorem dX5_solves_193 : decode cX5_solves 193 = .ok (.if_icmp .ge 173, 3) := by decide +kernel
theorem dX5_solves_196 : decode cX5_solves 196 = .ok (.aload_n 0, 1) := by decide +kernel
theorem dX5_solves_197 : decode cX5_solves 197 = .ok (.getfield 42, 3) := by decide +kernel
theorem dX5_solves_200 : decode cX5_solves 200 = .ok (.iload_n 3, 1) := by decide +kernel
theorem dX5_solves_201 : decode cX5_solves 201 = .ok (.iaload, 1) := by decide +kernel
theorem dX5_solves_202 : decode cX5_solves 202 = .ok (.ifCond .eq 12, 3) := by decide +kernel
theorem dX5_solves_205 : decode cX5_solves 205 = .ok (.aload_n 0, 1) := by decide +kernel
theorem dX5_solves_206 : decode cX5_solves 206 = .ok (.getfield 42, 3) := by decide +kernel
theorem dX5_solves_209 : decode cX5_solves 209 = .ok (.iload_n 3, 1) := by decide +kernel
theorem dX5_solves_210 : decode cX5_solves 210 = .ok (.iaload, 1) := by decide +kernel
theorem dX5_solves_211 : decode cX5_solves 211 = .ok (.goto 9, 3) := by decide +kernel
theorem dX5_solves_214 : decode cX5_solves 214 = .ok (.aload_n 0, 1) := by decide +kernel
theorem dX5_solves_215 : decode cX5_solves 215 = .ok (.getfield 45, 3) := by decide +kernel
theorem dX5_solves_218 : decode cX5_solves 218 = .ok (.iload_n 3, 1) := by decide +kernel
theorem dX5_solves_219 : decode cX5_solves 219 = .ok (.iaload, 1) := by decide +kernel
theorem dX5_solves_220 : decode cX5_solves 220 = .ok (.iload 4, 2) := by decide +kernel
theorem dX5_solves_222 : decode cX5_solves 222 = .ok (.ishr, 1) := by decide +kernel
theorem dX5_solves_223 : decode cX5_solves 223 = .ok (.iconst 1, 1) := by decide +kernel
theorem dX5_solves_224 : decode cX5_solves 224 = .ok (.iand, 1) := by decide +kernel
theorem dX5_solves_225 : decode cX5_solves 225 = .ok (.iconst 1, 1) := by decide +kernel
theorem dX5_solves_226 : decode cX5_solves 226 = .ok (.if_icmp .ne 7, 3) := by decide +kernel
theorem dX5_solves_229 : decode cX5_solves 229 = .ok (.iconst 1, 1) := by decide +kernel
theorem dX5_solves_230 : decode cX5_solves 230 = .ok (.goto 4, 3) := by decide +kernel
theorem dX5_solves_233 : decode cX5_solves 233 = .ok (.iconst 0, 1) := by decide +kernel
theorem dX5_solves_234 : decode cX5_solves 234 = .ok (.istore 5, 2) := by decide +kernel
theorem dX5_solves_236 : decode cX5_solves 236 = .ok (.iload 5, 2) := by decide +kernel
theorem dX5_solves_238 : decode cX5_solves 238 = .ok (.ifCond .eq 14, 3) := by decide +kernel
theorem dX5_solves_241 : decode cX5_solves 241 = .ok (.aload_n 0, 1) := by decide +kernel
theorem dX5_solves_242 : decode cX5_solves 242 = .ok (.iload_n 1, 1) := by decide +kernel
theorem dX5_solves_243 : decode cX5_solves 243 = .ok (.iload_n 2, 1) := by decide +kernel
theorem dX5_solves_244 : decode cX5_solves 244 = .ok (.iload 4, 2) := by decide +kernel
theorem dX5_solves_246 : decode cX5_solves 246 = .ok (.invokevirtual 119, 3) := by decide +kernel
theorem dX5_solves_249 : decode cX5_solves 249 = .ok (.goto 4, 3) := by decide +kernel
theorem dX5_solves_252 : decode cX5_solves 252 = .ok (.iconst 0, 1) := by decide +kernel
theorem dX5_solves_253 : decode cX5_solves 253 = .ok (.istore 6, 2) := by decide +kernel
theorem dX5_solves_255 : decode cX5_solves 255 = .ok (.aload_n 0, 1) := by decide +kernel
theorem dX5_solves_256 : decode cX5_solves 256 = .ok (.getfield 39, 3) := by decide +kernel
theorem dX5_solves_259 : decode cX5_solves 259 = .ok (.iload_n 3, 1) := by decide +kernel
theorem dX5_solves_260 : decode cX5_solves 260 = .ok (.iaload, 1) := by decide +kernel
theorem dX5_solves_261 : decode cX5_solves 261 = .ok (.iconst (-1), 1) := by decide +kernel
theorem dX5_solves_262 : decode cX5_solves 262 = .ok (.if_icmp .eq 37, 3) := by decide +kernel
theorem dX5_solves_265 : decode cX5_solves 265 = .ok (.aload_n 0, 1) := by decide +kernel
theorem dX5_solves_266 : decode cX5_solves 266 = .ok (.getfield 42, 3) := by decide +kernel
theorem dX5_solves_269 : decode cX5_solves 269 = .ok (.iload_n 3, 1) := by decide +kernel
theorem dX5_solves_270 : decode cX5_solves 270 = .ok (.iaload, 1) := by decide +kernel
theorem dX5_solves_271 : decode cX5_solves 271 = .ok (.ifCond .eq 17, 3) := by decide +kernel
theorem dX5_solves_274 : decode cX5_solves 274 = .ok (.iload 6, 2) := by decide +kernel
theorem dX5_solves_276 : decode cX5_solves 276 = .ok (.aload_n 0, 1) := by decide +kernel
theorem dX5_solves_277 : decode cX5_solves 277 = .ok (.getfield 36, 3) := by decide +kernel
theorem dX5_solves_280 : decode cX5_solves 280 = .ok (.iload_n 3, 1) := by decide +kernel
theorem dX5_solves_281 : decode cX5_solves 281 = .ok (.iaload, 1) := by decide +kernel
theorem dX5_solves_282 : decode cX5_solves 282 = .ok (.if_icmp .ge 21, 3) := by decide +kernel
theorem dX5_solves_285 : decode cX5_solves 285 = .ok (.goto 14, 3) := by decide +kernel
theorem dX5_solves_288 : decode cX5_solves 288 = .ok (.iload 6, 2) := by decide +kernel
theorem dX5_solves_290 : decode cX5_solves 290 = .ok (.aload_n 0, 1) := by decide +kernel
theorem dX5_solves_291 : decode cX5_solves 291 = .ok (.getfield 36, 3) := by decide +kernel
theorem dX5_solves_294 : decode cX5_solves 294 = .ok (.iload_n 3, 1) := by decide +kernel
theorem dX5_solves_295 : decode cX5_solves 295 = .ok (.iaload, 1) := by decide +kernel
theorem dX5_solves_296 : decode cX5_solves 296 = .ok (.if_icmp .le 7, 3) := by decide +kernel
theorem dX5_solves_299 : decode cX5_solves 299 = .ok (.iconst 1, 1) := by decide +kernel
theorem dX5_solves_300 : decode cX5_solves 300 = .ok (.goto 4, 3) := by decide +kernel
theorem dX5_solves_303 : decode cX5_solves 303 = .ok (.iconst 0, 1) := by decide +kernel
theorem dX5_solves_304 : decode cX5_solves 304 = .ok (.istore 7, 2) := by decide +kernel
theorem dX5_solves_306 : decode cX5_solves 306 = .ok (.aload_n 0, 1) := by decide +kernel
theorem dX5_solves_307 : decode cX5_solves 307 = .ok (.getfield 36, 3) := by decide +kernel
theorem dX5_solves_310 : decode cX5_solves 310 = .ok (.iload_n 3, 1) := by decide +kernel
theorem dX5_solves_311 : decode cX5_solves 311 = .ok (.iload 5, 2) := by decide +kernel
theorem dX5_solves_313 : decode cX5_solves 313 = .ok (.ifCond .eq 13, 3) := by decide +kernel
theorem dX5_solves_316 : decode cX5_solves 316 = .ok (.iload 7, 2) := by decide +kernel
theorem dX5_solves_318 : decode cX5_solves 318 = .ok (.ifCond .eq 8, 3) := by decide +kernel
theorem dX5_solves_321 : decode cX5_solves 321 = .ok (.iload 6, 2) := by decide +kernel
theorem dX5_solves_323 : decode cX5_solves 323 = .ok (.goto 9, 3) := by decide +kernel
theorem dX5_solves_326 : decode cX5_solves 326 = .ok (.aload_n 0, 1) := by decide +kernel
theorem dX5_solves_327 : decode cX5_solves 327 = .ok (.getfield 36, 3) := by decide +kernel
theorem dX5_solves_330 : decode cX5_solves 330 = .ok (.iload_n 3, 1) := by decide +kernel
theorem dX5_solves_331 : decode cX5_solves 331 = .ok (.iaload, 1) := by decide +kernel
theorem dX5_solves_332 : decode cX5_solves 332 = .ok (.iastore, 1) := by decide +kernel
theorem dX5_solves_333 : decode cX5_solves 333 = .ok (.aload_n 0, 1) := by decide +kernel
theorem dX5_solves_334 : decode cX5_solves 334 = .ok (.getfield 39, 3) := by decide +kernel
theorem dX5_solves_337 : decode cX5_solves 337 = .ok (.iload_n 3, 1) := by decide +kernel
theorem dX5_solves_338 : decode cX5_solves 338 = .ok (.iload 5, 2) := by decide +kernel
theorem dX5_solves_340 : decode cX5_solves 340 = .ok (.ifCond .eq 13, 3) := by decide +kernel
theorem dX5_solves_343 : decode cX5_solves 343 = .ok (.iload 7, 2) := by decide +kernel
theorem dX5_solves_345 : decode cX5_solves 345 = .ok (.ifCond .eq 8, 3) := by decide +kernel
theorem dX5_solves_348 : decode cX5_solves 348 = .ok (.iload 4, 2) := by decide +kernel
theorem dX5_solves_350 : decode cX5_solves 350 = .ok (.goto 9, 3) := by decide +kernel
theorem dX5_solves_353 : decode cX5_solves 353 = .ok (.aload_n 0, 1) := by decide +kernel
theorem dX5_solves_354 : decode cX5_solves 354 = .ok (.getfield 39, 3) := by decide +kernel
theorem dX5_solves_357 : decode cX5_solves 357 = .ok (.iload_n 3, 1) := by decide +kernel
theorem dX5_solves_358 : decode cX5_solves 358 = .ok (.iaload, 1) := by decide +kernel
theorem dX5_solves_359 : decode cX5_solves 359 = .ok (.iastore, 1) := by decide +kernel
theorem dX5_solves_360 : decode cX5_solves 360 = .ok (.iinc 4 1, 3) := by decide +kernel
theorem dX5_solves_363 : decode cX5_solves 363 = .ok (.goto (-174), 3) := by decide +kernel
theorem dX5_solves_366 : decode cX5_solves 366 = .ok (.return_, 1) := by decide +kernel
set_option maxRecDepth 20000 in
theorem ggX5_endBehind_X5_counts : GoodIn wsX5_endBehind wsX5_counts := goodIn_r _ [9, 2, 10, 19, 20, 21, 22, 23, 24, 25, 26, 27, 28, 29, 30, 31, 32, 33, 34, 35, 36, 37] (by decide +kernel) (by decide +kernel)
set_option maxRecDepth 20000 in
theorem gX5_endBehind_X5_counts : GoodIn wsX5_endBehind (wsV RX5 100 RX5 yX5_counts wsX5_counts) := goodIn_app (goodIn_of _ (by decide +kernel)) ggX5_endBehind_X5_counts
set_option maxRecDepth 20000 in
theorem ggX5_endBehind_X5_areAlike : GoodIn wsX5_endBehind wsX5_areAlike := goodIn_r _ [14, 2, 3, 19, 20, 21, 22, 23, 24, 25, 26, 27, 28, 29, 30, 31, 32, 33, 34, 35, 36, 37] (by decide +kernel) (by decide +kernel)
set_option maxRecDepth 20000 in
theorem gX5_endBehind_X5_areAlike : GoodIn wsX5_endBehind (wsV RX5 80 RX5 yX5_areAlike wsX5_areAlike) := goodIn_app (goodIn_of _ (by decide +kernel)) ggX5_endBehind_X5_areAlike
set_option maxRecDepth 20000 in
theorem ggX5_endBehind_X5_isWhole : GoodIn wsX5_endBehind wsX5_isWhole := goodIn_r _ [18, 1, 2, 5, 6, 7, 8, 9, 10, 11, 12, 13, 14, 3, 19, 20, 21, 22, 23, 24, 25, 26, 27, 28, 29, 30, 31, 32, 33, 34, 35, 36, 37] (by decide +kernel) (by decide +kernel)
set_option maxRecDepth 20000 in
theorem gX5_endBehind_X5_isWhole : GoodIn wsX5_endBehind (wsV RX5 116 RX5 yX5_isWhole wsX5_isWhole) := goodIn_app (goodIn_of _ (by decide +kernel)) ggX5_endBehind_X5_isWhole
theorem dX5_endBehind_0 : decode cX5_endBehind 0 = .ok (.iconst 0, 1) := by decide +kernel
theorem dX5_endBehind_1 : decode cX5_endBehind 1 = .ok (.istore 4, 2) := by decide +kernel
theorem dX5_endBehind_3 : decode cX5_endBehind 3 = .ok (.iconst 0, 1) := by decide +kernel
theorem dX5_endBehind_4 : decode cX5_endBehind 4 = .ok (.istore 5, 2) := by decide +kernel
theorem dX5_endBehind_6 : decode cX5_endBehind 6 = .ok (.iload 5, 2) := by decide +kernel
theorem dX5_endBehind_8 : decode cX5_endBehind 8 = .ok (.aload_n 0, 1) := by decide +kernel
theorem dX5_endBehind_9 : decode cX5_endBehind 9 = .ok (.getfield 51, 3) := by decide +kernel
theorem dX5_endBehind_12 : decode cX5_endBehind 12 = .ok (.if_icmp .ge 90, 3) := by decide +kernel
theorem dX5_endBehind_15 : decode cX5_endBehind 15 = .ok (.aload_n 0, 1) := by decide +kernel
theorem dX5_endBehind_16 : decode cX5_endBehind 16 = .ok (.iload 5, 2) := by decide +kernel
theorem dX5_endBehind_18 : decode cX5_endBehind 18 = .ok (.invokevirtual 100, 3) := by decide +kernel
theorem dX5_endBehind_21 : decode cX5_endBehind 21 = .ok (.ifCond .eq 75, 3) := by decide +kernel
theorem dX5_endBehind_24 : decode cX5_endBehind 24 = .ok (.aload_n 0, 1) := by decide +kernel
theorem dX5_endBehind_25 : decode cX5_endBehind 25 = .ok (.getfield 16, 3) := by decide +kernel
theorem dX5_endBehind_28 : decode cX5_endBehind 28 = .ok (.iload 5, 2) := by decide +kernel
theorem dX5_endBehind_30 : decode cX5_endBehind 30 = .ok (.iaload, 1) := by decide +kernel
theorem dX5_endBehind_31 : decode cX5_endBehind 31 = .ok (.iload_n 2, 1) := by decide +kernel
theorem dX5_endBehind_32 : decode cX5_endBehind 32 = .ok (.if_icmp .le 64, 3) := by decide +kernel
theorem dX5_endBehind_35 : decode cX5_endBehind 35 = .ok (.aload_n 0, 1) := by decide +kernel
theorem dX5_endBehind_36 : decode cX5_endBehind 36 = .ok (.iload 5, 2) := by decide +kernel
theorem dX5_endBehind_38 : decode cX5_endBehind 38 = .ok (.iload_n 1, 1) := by decide +kernel
theorem dX5_endBehind_39 : decode cX5_endBehind 39 = .ok (.iload_n 2, 1) := by decide +kernel
theorem dX5_endBehind_40 : decode cX5_endBehind 40 = .ok (.invokevirtual 80, 3) := by decide +kernel
theorem dX5_endBehind_43 : decode cX5_endBehind 43 = .ok (.ifCond .eq 53, 3) := by decide +kernel
theorem dX5_endBehind_46 : decode cX5_endBehind 46 = .ok (.aload_n 0, 1) := by decide +kernel
theorem dX5_endBehind_47 : decode cX5_endBehind 47 = .ok (.getfield 13, 3) := by decide +kernel
theorem dX5_endBehind_50 : decode cX5_endBehind 50 = .ok (.bipush 10, 2) := by decide +kernel
theorem dX5_endBehind_52 : decode cX5_endBehind 52 = .ok (.iload 5, 2) := by decide +kernel
theorem dX5_endBehind_54 : decode cX5_endBehind 54 = .ok (.imul, 1) := by decide +kernel
theorem dX5_endBehind_55 : decode cX5_endBehind 55 = .ok (.iload_n 2, 1) := by decide +kernel
theorem dX5_endBehind_56 : decode cX5_endBehind 56 = .ok (.iadd, 1) := by decide +kernel
theorem dX5_endBehind_57 : decode cX5_endBehind 57 = .ok (.iaload, 1) := by decide +kernel
theorem dX5_endBehind_58 : decode cX5_endBehind 58 = .ok (.iload_n 3, 1) := by decide +kernel
theorem dX5_endBehind_59 : decode cX5_endBehind 59 = .ok (.if_icmp .ne 37, 3) := by decide +kernel
theorem dX5_endBehind_62 : decode cX5_endBehind 62 = .ok (.aload_n 0, 1) := by decide +kernel
theorem dX5_endBehind_63 : decode cX5_endBehind 63 = .ok (.iload 5, 2) := by decide +kernel
theorem dX5_endBehind_65 : decode cX5_endBehind 65 = .ok (.iload_n 2, 1) := by decide +kernel
theorem dX5_endBehind_66 : decode cX5_endBehind 66 = .ok (.iconst 1, 1) := by decide +kernel
theorem dX5_endBehind_67 : decode cX5_endBehind 67 = .ok (.iadd, 1) := by decide +kernel
theorem dX5_endBehind_68 : decode cX5_endBehind 68 = .ok (.invokevirtual 116, 3) := by decide +kernel
theorem dX5_endBehind_71 : decode cX5_endBehind 71 = .ok (.ifCond .eq 7, 3) := by decide +kernel
theorem dX5_endBehind_74 : decode cX5_endBehind 74 = .ok (.iconst 1, 1) := by decide +kernel
theorem dX5_endBehind_75 : decode cX5_endBehind 75 = .ok (.goto 19, 3) := by decide +kernel
theorem dX5_endBehind_78 : decode cX5_endBehind 78 = .ok (.iconst 1, 1) := by decide +kernel
theorem dX5_endBehind_79 : decode cX5_endBehind 79 = .ok (.aload_n 0, 1) := by decide +kernel
theorem dX5_endBehind_80 : decode cX5_endBehind 80 = .ok (.getfield 36, 3) := by decide +kernel
theorem dX5_endBehind_83 : decode cX5_endBehind 83 = .ok (.bipush 11, 2) := by decide +kernel
theorem dX5_endBehind_85 : decode cX5_endBehind 85 = .ok (.iload 5, 2) := by decide +kernel
theorem dX5_endBehind_87 : decode cX5_endBehind 87 = .ok (.imul, 1) := by decide +kernel
theorem dX5_endBehind_88 : decode cX5_endBehind 88 = .ok (.iload_n 2, 1) := by decide +kernel
theorem dX5_endBehind_89 : decode cX5_endBehind 89 = .ok (.iadd, 1) := by decide +kernel
theorem dX5_endBehind_90 : decode cX5_endBehind 90 = .ok (.iconst 1, 1) := by decide +kernel
theorem dX5_endBehind_91 : decode cX5_endBehind 91 = .ok (.iadd, 1) := by decide +kernel
theorem dX5_endBehind_92 : decode cX5_endBehind 92 = .ok (.iaload, 1) := by decide +kernel
theorem dX5_endBehind_93 : decode cX5_endBehind 93 = .ok (.iadd, 1) := by decide +kernel
theorem dX5_endBehind_94 : decode cX5_endBehind 94 = .ok (.istore 4, 2) := by decide +kernel
theorem dX5_endBehind_96 : decode cX5_endBehind 96 = .ok (.iinc 5 1, 3) := by decide +kernel
theorem dX5_endBehind_99 : decode cX5_endBehind 99 = .ok (.goto (-93), 3) := by decide +kernel
theorem dX5_endBehind_102 : decode cX5_endBehind 102 = .ok (.iload 4, 2) := by decide +kernel
theorem dX5_endBehind_104 : decode cX5_endBehind 104 = .ok (.ireturn, 1) := by decide +kernel
set_option maxRecDepth 20000 in
theorem ggX5_looks_X5_counts : GoodIn wsX5_looks wsX5_counts := goodIn_r _ [10, 4, 11, 38, 39, 40, 41, 42, 43, 44, 45, 46, 47, 48, 49, 50, 51, 52, 53, 54, 55, 56] (by decide +kernel) (by decide +kernel)
set_option maxRecDepth 20000 in
theorem gX5_looks_X5_counts : GoodIn wsX5_looks (wsV RX5 100 RX5 yX5_counts wsX5_counts) := goodIn_app (goodIn_of _ (by decide +kernel)) ggX5_looks_X5_counts
set_option maxRecDepth 20000 in
theorem ggX5_looks_X5_solves : GoodIn wsX5_looks wsX5_solves := goodIn_r _ [15, 16, 17, 3, 4, 18, 19, 20, 21, 6, 7, 8, 9, 10, 11, 22, 23, 24, 25, 26, 27, 28, 29, 30, 31, 32, 33, 38, 39, 40, 41, 42, 43, 44, 45, 46, 47, 48, 49, 50, 51, 52, 53, 54, 55, 56] (by decide +kernel) (by decide +kernel)
set_option maxRecDepth 20000 in
theorem gX5_looks_X5_solves : GoodIn wsX5_looks (wsV RX5 123 RX5 yX5_solves wsX5_solves) := goodIn_app (goodIn_of _ (by decide +kernel)) ggX5_looks_X5_solves
set_option maxRecDepth 20000 in
theorem ggX5_looks_X5_begins : GoodIn wsX5_looks wsX5_begins := goodIn_r _ [37, 4, 18, 38, 39, 40, 41, 42, 43, 44, 45, 46, 47, 48, 49, 50, 51, 52, 53, 54, 55, 56] (by decide +kernel) (by decide +kernel)
set_option maxRecDepth 20000 in
theorem gX5_looks_X5_begins : GoodIn wsX5_looks (wsV RX5 57 RX5 yX5_begins wsX5_begins) := goodIn_app (goodIn_of _ (by decide +kernel)) ggX5_looks_X5_begins
theorem dX5_looks_0 : decode cX5_looks 0 = .ok (.aload_n 0, 1) := by decide +kernel
theorem dX5_looks_1 : decode cX5_looks 1 = .ok (.iconst 0, 1) := by decide +kernel
theorem dX5_looks_2 : decode cX5_looks 2 = .ok (.putfield 48, 3) := by decide +kernel
theorem dX5_looks_5 : decode cX5_looks 5 = .ok (.iconst (-1), 1) := by decide +kernel
theorem dX5_looks_6 : decode cX5_looks 6 = .ok (.istore_n 1, 1) := by decide +kernel
theorem dX5_looks_7 : decode cX5_looks 7 = .ok (.bipush 10, 2) := by decide +kernel
theorem dX5_looks_9 : decode cX5_looks 9 = .ok (.istore_n 2, 1) := by decide +kernel
theorem dX5_looks_10 : decode cX5_looks 10 = .ok (.iload_n 2, 1) := by decide +kernel
theorem dX5_looks_11 : decode cX5_looks 11 = .ok (.aload_n 0, 1) := by decide +kernel
theorem dX5_looks_12 : decode cX5_looks 12 = .ok (.getfield 94, 3) := by decide +kernel
theorem dX5_looks_15 : decode cX5_looks 15 = .ok (.if_icmp .lt 49, 3) := by decide +kernel
theorem dX5_looks_18 : decode cX5_looks 18 = .ok (.iconst 0, 1) := by decide +kernel
theorem dX5_looks_19 : decode cX5_looks 19 = .ok (.istore_n 3, 1) := by decide +kernel
theorem dX5_looks_20 : decode cX5_looks 20 = .ok (.iload_n 3, 1) := by decide +kernel
theorem dX5_looks_21 : decode cX5_looks 21 = .ok (.aload_n 0, 1) := by decide +kernel
theorem dX5_looks_22 : decode cX5_looks 22 = .ok (.getfield 51, 3) := by decide +kernel
theorem dX5_looks_25 : decode cX5_looks 25 = .ok (.if_icmp .ge 33, 3) := by decide +kernel
theorem dX5_looks_28 : decode cX5_looks 28 = .ok (.aload_n 0, 1) := by decide +kernel
theorem dX5_looks_29 : decode cX5_looks 29 = .ok (.iload_n 3, 1) := by decide +kernel
theorem dX5_looks_30 : decode cX5_looks 30 = .ok (.invokevirtual 100, 3) := by decide +kernel
theorem dX5_looks_33 : decode cX5_looks 33 = .ok (.ifCond .eq 19, 3) := by decide +kernel
theorem dX5_looks_36 : decode cX5_looks 36 = .ok (.aload_n 0, 1) := by decide +kernel
theorem dX5_looks_37 : decode cX5_looks 37 = .ok (.getfield 16, 3) := by decide +kernel
theorem dX5_looks_40 : decode cX5_looks 40 = .ok (.iload_n 3, 1) := by decide +kernel
theorem dX5_looks_41 : decode cX5_looks 41 = .ok (.iaload, 1) := by decide +kernel
theorem dX5_looks_42 : decode cX5_looks 42 = .ok (.iload_n 2, 1) := by decide +kernel
theorem dX5_looks_43 : decode cX5_looks 43 = .ok (.if_icmp .lt 9, 3) := by decide +kernel
theorem dX5_looks_46 : decode cX5_looks 46 = .ok (.aload_n 0, 1) := by decide +kernel
theorem dX5_looks_47 : decode cX5_looks 47 = .ok (.iload_n 3, 1) := by decide +kernel
theorem dX5_looks_48 : decode cX5_looks 48 = .ok (.iload_n 2, 1) := by decide +kernel
theorem dX5_looks_49 : decode cX5_looks 49 = .ok (.invokevirtual 123, 3) := by decide +kernel
theorem dX5_looks_52 : decode cX5_looks 52 = .ok (.iinc 3 1, 3) := by decide +kernel
theorem dX5_looks_55 : decode cX5_looks 55 = .ok (.goto (-35), 3) := by decide +kernel
theorem dX5_looks_58 : decode cX5_looks 58 = .ok (.iinc 2 (-1), 3) := by decide +kernel
theorem dX5_looks_61 : decode cX5_looks 61 = .ok (.goto (-51), 3) := by decide +kernel
theorem dX5_looks_64 : decode cX5_looks 64 = .ok (.iconst 0, 1) := by decide +kernel
theorem dX5_looks_65 : decode cX5_looks 65 = .ok (.istore_n 2, 1) := by decide +kernel
theorem dX5_looks_66 : decode cX5_looks 66 = .ok (.iload_n 2, 1) := by decide +kernel
theorem dX5_looks_67 : decode cX5_looks 67 = .ok (.aload_n 0, 1) := by decide +kernel
theorem dX5_looks_68 : decode cX5_looks 68 = .ok (.getfield 51, 3) := by decide +kernel
theorem dX5_looks_71 : decode cX5_looks 71 = .ok (.if_icmp .ge 47, 3) := by decide +kernel
theorem dX5_looks_74 : decode cX5_looks 74 = .ok (.aload_n 0, 1) := by decide +kernel
theorem dX5_looks_75 : decode cX5_looks 75 = .ok (.iload_n 2, 1) := by decide +kernel
theorem dX5_looks_76 : decode cX5_looks 76 = .ok (.invokevirtual 100, 3) := by decide +kernel
theorem dX5_looks_79 : decode cX5_looks 79 = .ok (.ifCond .eq 31, 3) := by decide +kernel
theorem dX5_looks_82 : decode cX5_looks 82 = .ok (.aload_n 0, 1) := by decide +kernel
theorem dX5_looks_83 : decode cX5_looks 83 = .ok (.iload_n 2, 1) := by decide +kernel
theorem dX5_looks_84 : decode cX5_looks 84 = .ok (.aload_n 0, 1) := by decide +kernel
theorem dX5_looks_85 : decode cX5_looks 85 = .ok (.getfield 29, 3) := by decide +kernel
theorem dX5_looks_88 : decode cX5_looks 88 = .ok (.aload_n 0, 1) := by decide +kernel
theorem dX5_looks_89 : decode cX5_looks 89 = .ok (.getfield 94, 3) := by decide +kernel
theorem dX5_looks_92 : decode cX5_looks 92 = .ok (.invokevirtual 57, 3) := by decide +kernel
theorem dX5_looks_95 : decode cX5_looks 95 = .ok (.ifCond .eq 15, 3) := by decide +kernel
theorem dX5_looks_98 : decode cX5_looks 98 = .ok (.bipush 11, 2) := by decide +kernel
theorem dX5_looks_100 : decode cX5_looks 100 = .ok (.iload_n 2, 1) := by decide +kernel
theorem dX5_looks_101 : decode cX5_looks 101 = .ok (.imul, 1) := by decide +kernel
theorem dX5_looks_102 : decode cX5_looks 102 = .ok (.aload_n 0, 1) := by decide +kernel
theorem dX5_looks_103 : decode cX5_looks 103 = .ok (.getfield 94, 3) := by decide +kernel
theorem dX5_looks_106 : decode cX5_looks 106 = .ok (.iadd, 1) := by decide +kernel
theorem dX5_looks_107 : decode cX5_looks 107 = .ok (.goto 4, 3) := by decide +kernel
theorem dX5_looks_110 : decode cX5_looks 110 = .ok (.iload_n 1, 1) := by decide +kernel
theorem dX5_looks_111 : decode cX5_looks 111 = .ok (.istore_n 1, 1) := by decide +kernel
theorem dX5_looks_112 : decode cX5_looks 112 = .ok (.iinc 2 1, 3) := by decide +kernel
theorem dX5_looks_115 : decode cX5_looks 115 = .ok (.goto (-49), 3) := by decide +kernel
theorem dX5_looks_118 : decode cX5_looks 118 = .ok (.iload_n 1, 1) := by decide +kernel
theorem dX5_looks_119 : decode cX5_looks 119 = .ok (.ireturn, 1) := by decide +kernel
set_option maxRecDepth 20000 in
theorem ggX5_openLetters_X5_looks : GoodIn wsX5_openLetters wsX5_looks := goodIn_r _ [6, 7, 8, 9, 10, 11, 12, 13, 14, 5, 15, 16, 17, 18, 19, 20, 1, 21, 22, 23, 24, 25, 26, 27, 28, 29, 30, 31, 32, 33, 34, 35, 36, 37, 38, 39, 40, 41, 42, 43, 44, 45, 46, 47, 48, 49, 50, 51, 52, 53, 54, 55, 56, 57, 58, 59, 60] (by decide +kernel) (by decide +kernel)
set_option maxRecDepth 20000 in
theorem gX5_openLetters_X5_looks : GoodIn wsX5_openLetters (wsV RX5 127 RX5 yX5_looks wsX5_looks) := goodIn_app (goodIn_of _ (by decide +kernel)) ggX5_openLetters_X5_looks
theorem dX5_openLetters_0 : decode cX5_openLetters 0 = .ok (.aload_n 0, 1) := by decide +kernel
theorem dX5_openLetters_1 : decode cX5_openLetters 1 = .ok (.invokevirtual 127, 3) := by decide +kernel
theorem dX5_openLetters_4 : decode cX5_openLetters 4 = .ok (.istore_n 1, 1) := by decide +kernel
theorem dX5_openLetters_5 : decode cX5_openLetters 5 = .ok (.iload_n 1, 1) := by decide +kernel
theorem dX5_openLetters_6 : decode cX5_openLetters 6 = .ok (.iconst (-1), 1) := by decide +kernel
theorem dX5_openLetters_7 : decode cX5_openLetters 7 = .ok (.if_icmp .ne 7, 3) := by decide +kernel
theorem dX5_openLetters_10 : decode cX5_openLetters 10 = .ok (.iconst 0, 1) := by decide +kernel
theorem dX5_openLetters_11 : decode cX5_openLetters 11 = .ok (.goto 9, 3) := by decide +kernel
theorem dX5_openLetters_14 : decode cX5_openLetters 14 = .ok (.aload_n 0, 1) := by decide +kernel
theorem dX5_openLetters_15 : decode cX5_openLetters 15 = .ok (.getfield 45, 3) := by decide +kernel
theorem dX5_openLetters_18 : decode cX5_openLetters 18 = .ok (.iload_n 1, 1) := by decide +kernel
theorem dX5_openLetters_19 : decode cX5_openLetters 19 = .ok (.iaload, 1) := by decide +kernel
theorem dX5_openLetters_20 : decode cX5_openLetters 20 = .ok (.ireturn, 1) := by decide +kernel
set_option maxRecDepth 20000 in
theorem ggX5_winningLetters_X5_looks : GoodIn wsX5_winningLetters wsX5_looks := goodIn_r _ [6, 7, 8, 9, 10, 11, 12, 13, 14, 5, 15, 16, 17, 18, 19, 20, 21, 1, 22, 23, 24, 25, 26, 27, 28, 29, 30, 31, 32, 33, 34, 35, 36, 37, 38, 39, 40, 41, 42, 43, 44, 45, 46, 47, 48, 49, 50, 51, 52, 53, 54, 55, 56, 57, 58, 59, 60] (by decide +kernel) (by decide +kernel)
set_option maxRecDepth 20000 in
theorem gX5_winningLetters_X5_looks : GoodIn wsX5_winningLetters (wsV RX5 127 RX5 yX5_looks wsX5_looks) := goodIn_app (goodIn_of _ (by decide +kernel)) ggX5_winningLetters_X5_looks
theorem dX5_winningLetters_0 : decode cX5_winningLetters 0 = .ok (.aload_n 0, 1) := by decide +kernel
theorem dX5_winningLetters_1 : decode cX5_winningLetters 1 = .ok (.invokevirtual 127, 3) := by decide +kernel
theorem dX5_winningLetters_4 : decode cX5_winningLetters 4 = .ok (.istore_n 1, 1) := by decide +kernel
theorem dX5_winningLetters_5 : decode cX5_winningLetters 5 = .ok (.iload_n 1, 1) := by decide +kernel
theorem dX5_winningLetters_6 : decode cX5_winningLetters 6 = .ok (.iconst (-1), 1) := by decide +kernel
theorem dX5_winningLetters_7 : decode cX5_winningLetters 7 = .ok (.if_icmp .ne 7, 3) := by decide +kernel
theorem dX5_winningLetters_10 : decode cX5_winningLetters 10 = .ok (.iconst 0, 1) := by decide +kernel
theorem dX5_winningLetters_11 : decode cX5_winningLetters 11 = .ok (.goto 9, 3) := by decide +kernel
theorem dX5_winningLetters_14 : decode cX5_winningLetters 14 = .ok (.aload_n 0, 1) := by decide +kernel
theorem dX5_winningLetters_15 : decode cX5_winningLetters 15 = .ok (.getfield 42, 3) := by decide +kernel
theorem dX5_winningLetters_18 : decode cX5_winningLetters 18 = .ok (.iload_n 1, 1) := by decide +kernel
theorem dX5_winningLetters_19 : decode cX5_winningLetters 19 = .ok (.iaload, 1) := by decide +kernel
theorem dX5_winningLetters_20 : decode cX5_winningLetters 20 = .ok (.ireturn, 1) := by decide +kernel
set_option maxRecDepth 20000 in
theorem ggX5_canWin_X5_looks : GoodIn wsX5_canWin wsX5_looks := goodIn_r _ [6, 7, 8, 9, 10, 11, 12, 13, 14, 5, 15, 16, 17, 18, 19, 20, 21, 22, 23, 1, 24, 25, 26, 27, 28, 29, 30, 31, 32, 33, 34, 35, 36, 37, 38, 39, 40, 41, 42, 43, 44, 45, 46, 47, 48, 49, 50, 51, 52, 53, 54, 55, 56, 57, 58, 59, 60] (by decide +kernel) (by decide +kernel)
set_option maxRecDepth 20000 in
theorem gX5_canWin_X5_looks : GoodIn wsX5_canWin (wsV RX5 127 RX5 yX5_looks wsX5_looks) := goodIn_app (goodIn_of _ (by decide +kernel)) ggX5_canWin_X5_looks
theorem dX5_canWin_0 : decode cX5_canWin 0 = .ok (.aload_n 0, 1) := by decide +kernel
theorem dX5_canWin_1 : decode cX5_canWin 1 = .ok (.invokevirtual 127, 3) := by decide +kernel
theorem dX5_canWin_4 : decode cX5_canWin 4 = .ok (.istore_n 1, 1) := by decide +kernel
theorem dX5_canWin_5 : decode cX5_canWin 5 = .ok (.iload_n 1, 1) := by decide +kernel
theorem dX5_canWin_6 : decode cX5_canWin 6 = .ok (.iconst (-1), 1) := by decide +kernel
theorem dX5_canWin_7 : decode cX5_canWin 7 = .ok (.if_icmp .eq 12, 3) := by decide +kernel
theorem dX5_canWin_10 : decode cX5_canWin 10 = .ok (.aload_n 0, 1) := by decide +kernel
theorem dX5_canWin_11 : decode cX5_canWin 11 = .ok (.getfield 32, 3) := by decide +kernel
theorem dX5_canWin_14 : decode cX5_canWin 14 = .ok (.iload_n 1, 1) := by decide +kernel
theorem dX5_canWin_15 : decode cX5_canWin 15 = .ok (.baload, 1) := by decide +kernel
theorem dX5_canWin_16 : decode cX5_canWin 16 = .ok (.ifCond .eq 7, 3) := by decide +kernel
theorem dX5_canWin_19 : decode cX5_canWin 19 = .ok (.iconst 1, 1) := by decide +kernel
theorem dX5_canWin_20 : decode cX5_canWin 20 = .ok (.goto 4, 3) := by decide +kernel
theorem dX5_canWin_23 : decode cX5_canWin 23 = .ok (.iconst 0, 1) := by decide +kernel
theorem dX5_canWin_24 : decode cX5_canWin 24 = .ok (.ireturn, 1) := by decide +kernel
set_option maxRecDepth 20000 in
theorem ggX5_end_X5_looks : GoodIn wsX5_end wsX5_looks := goodIn_r _ [6, 7, 8, 9, 10, 11, 12, 13, 14, 5, 15, 16, 17, 18, 19, 20, 21, 22, 23, 24, 1, 25, 26, 27, 28, 29, 30, 31, 32, 33, 34, 35, 36, 37, 38, 39, 40, 41, 42, 43, 44, 45, 46, 47, 48, 49, 50, 51, 52, 53, 54, 55, 56, 57, 58, 59, 60] (by decide +kernel) (by decide +kernel)
set_option maxRecDepth 20000 in
theorem gX5_end_X5_looks : GoodIn wsX5_end (wsV RX5 127 RX5 yX5_looks wsX5_looks) := goodIn_app (goodIn_of _ (by decide +kernel)) ggX5_end_X5_looks
theorem dX5_end_0 : decode cX5_end 0 = .ok (.aload_n 0, 1) := by decide +kernel
theorem dX5_end_1 : decode cX5_end 1 = .ok (.invokevirtual 127, 3) := by decide +kernel
theorem dX5_end_4 : decode cX5_end 4 = .ok (.istore_n 1, 1) := by decide +kernel
theorem dX5_end_5 : decode cX5_end 5 = .ok (.iload_n 1, 1) := by decide +kernel
theorem dX5_end_6 : decode cX5_end 6 = .ok (.iconst (-1), 1) := by decide +kernel
theorem dX5_end_7 : decode cX5_end 7 = .ok (.if_icmp .ne 7, 3) := by decide +kernel
theorem dX5_end_10 : decode cX5_end 10 = .ok (.iconst 0, 1) := by decide +kernel
theorem dX5_end_11 : decode cX5_end 11 = .ok (.goto 9, 3) := by decide +kernel
theorem dX5_end_14 : decode cX5_end 14 = .ok (.aload_n 0, 1) := by decide +kernel
theorem dX5_end_15 : decode cX5_end 15 = .ok (.getfield 36, 3) := by decide +kernel
theorem dX5_end_18 : decode cX5_end 18 = .ok (.iload_n 1, 1) := by decide +kernel
theorem dX5_end_19 : decode cX5_end 19 = .ok (.iaload, 1) := by decide +kernel
theorem dX5_end_20 : decode cX5_end 20 = .ok (.ireturn, 1) := by decide +kernel
set_option maxRecDepth 20000 in
theorem ggX5_bestLetter_X5_looks : GoodIn wsX5_bestLetter wsX5_looks := goodIn_r _ [6, 7, 8, 9, 10, 11, 12, 13, 14, 5, 15, 16, 17, 18, 19, 20, 21, 22, 23, 24, 25, 1, 26, 27, 28, 29, 30, 31, 32, 33, 34, 35, 36, 37, 38, 39, 40, 41, 42, 43, 44, 45, 46, 47, 48, 49, 50, 51, 52, 53, 54, 55, 56, 57, 58, 59, 60] (by decide +kernel) (by decide +kernel)
set_option maxRecDepth 20000 in
theorem gX5_bestLetter_X5_looks : GoodIn wsX5_bestLetter (wsV RX5 127 RX5 yX5_looks wsX5_looks) := goodIn_app (goodIn_of _ (by decide +kernel)) ggX5_bestLetter_X5_looks
theorem dX5_bestLetter_0 : decode cX5_bestLetter 0 = .ok (.aload_n 0, 1) := by decide +kernel
theorem dX5_bestLetter_1 : decode cX5_bestLetter 1 = .ok (.invokevirtual 127, 3) := by decide +kernel
theorem dX5_bestLetter_4 : decode cX5_bestLetter 4 = .ok (.istore_n 1, 1) := by decide +kernel
theorem dX5_bestLetter_5 : decode cX5_bestLetter 5 = .ok (.iload_n 1, 1) := by decide +kernel
theorem dX5_bestLetter_6 : decode cX5_bestLetter 6 = .ok (.iconst (-1), 1) := by decide +kernel
theorem dX5_bestLetter_7 : decode cX5_bestLetter 7 = .ok (.if_icmp .ne 7, 3) := by decide +kernel
theorem dX5_bestLetter_10 : decode cX5_bestLetter 10 = .ok (.iconst (-1), 1) := by decide +kernel
theorem dX5_bestLetter_11 : decode cX5_bestLetter 11 = .ok (.goto 9, 3) := by decide +kernel
theorem dX5_bestLetter_14 : decode cX5_bestLetter 14 = .ok (.aload_n 0, 1) := by decide +kernel
theorem dX5_bestLetter_15 : decode cX5_bestLetter 15 = .ok (.getfield 39, 3) := by decide +kernel
theorem dX5_bestLetter_18 : decode cX5_bestLetter 18 = .ok (.iload_n 1, 1) := by decide +kernel
theorem dX5_bestLetter_19 : decode cX5_bestLetter 19 = .ok (.iaload, 1) := by decide +kernel
theorem dX5_bestLetter_20 : decode cX5_bestLetter 20 = .ok (.ireturn, 1) := by decide +kernel
set_option maxRecDepth 20000 in
theorem ggX5_isWay_X5_counts : GoodIn wsX5_isWay wsX5_counts := goodIn_r _ [8, 1, 9, 24, 25, 26, 27, 28, 29, 30, 31, 32, 33, 34, 35, 36, 37, 38, 39, 40, 41, 42] (by decide +kernel) (by decide +kernel)
set_option maxRecDepth 20000 in
theorem gX5_isWay_X5_counts : GoodIn wsX5_isWay (wsV RX5 100 RX5 yX5_counts wsX5_counts) := goodIn_app (goodIn_of _ (by decide +kernel)) ggX5_isWay_X5_counts
set_option maxRecDepth 20000 in
theorem ggX5_isWay_X5_begins : GoodIn wsX5_isWay wsX5_begins := goodIn_r _ [13, 1, 14, 24, 25, 26, 27, 28, 29, 30, 31, 32, 33, 34, 35, 36, 37, 38, 39, 40, 41, 42] (by decide +kernel) (by decide +kernel)
set_option maxRecDepth 20000 in
theorem gX5_isWay_X5_begins : GoodIn wsX5_isWay (wsV RX5 57 RX5 yX5_begins wsX5_begins) := goodIn_app (goodIn_of _ (by decide +kernel)) ggX5_isWay_X5_begins
set_option maxRecDepth 20000 in
theorem ggX5_isWay_X5_isWhole : GoodIn wsX5_isWay wsX5_isWhole := goodIn_r _ [18, 19, 1, 4, 5, 6, 7, 8, 9, 20, 21, 22, 23, 14, 24, 25, 26, 27, 28, 29, 30, 31, 32, 33, 34, 35, 36, 37, 38, 39, 40, 41, 42] (by decide +kernel) (by decide +kernel)
set_option maxRecDepth 20000 in
theorem gX5_isWay_X5_isWhole : GoodIn wsX5_isWay (wsV RX5 116 RX5 yX5_isWhole wsX5_isWhole) := goodIn_app (goodIn_of _ (by decide +kernel)) ggX5_isWay_X5_isWhole
theorem dX5_isWay_0 : decode cX5_isWay 0 = .ok (.aload_n 0, 1) := by decide +kernel
theorem dX5_isWay_1 : decode cX5_isWay 1 = .ok (.iload_n 1, 1) := by decide +kernel
theorem dX5_isWay_2 : decode cX5_isWay 2 = .ok (.invokevirtual 100, 3) := by decide +kernel
theorem dX5_isWay_5 : decode cX5_isWay 5 = .ok (.ifCond .eq 36, 3) := by decide +kernel
theorem dX5_isWay_8 : decode cX5_isWay 8 = .ok (.aload_n 0, 1) := by decide +kernel
theorem dX5_isWay_9 : decode cX5_isWay 9 = .ok (.getfield 16, 3) := by decide +kernel
theorem dX5_isWay_12 : decode cX5_isWay 12 = .ok (.iload_n 1, 1) := by decide +kernel
theorem dX5_isWay_13 : decode cX5_isWay 13 = .ok (.iaload, 1) := by decide +kernel
theorem dX5_isWay_14 : decode cX5_isWay 14 = .ok (.aload_n 0, 1) := by decide +kernel
theorem dX5_isWay_15 : decode cX5_isWay 15 = .ok (.getfield 94, 3) := by decide +kernel
theorem dX5_isWay_18 : decode cX5_isWay 18 = .ok (.if_icmp .le 23, 3) := by decide +kernel
theorem dX5_isWay_21 : decode cX5_isWay 21 = .ok (.aload_n 0, 1) := by decide +kernel
theorem dX5_isWay_22 : decode cX5_isWay 22 = .ok (.iload_n 1, 1) := by decide +kernel
theorem dX5_isWay_23 : decode cX5_isWay 23 = .ok (.aload_n 0, 1) := by decide +kernel
theorem dX5_isWay_24 : decode cX5_isWay 24 = .ok (.getfield 29, 3) := by decide +kernel
theorem dX5_isWay_27 : decode cX5_isWay 27 = .ok (.aload_n 0, 1) := by decide +kernel
theorem dX5_isWay_28 : decode cX5_isWay 28 = .ok (.getfield 94, 3) := by decide +kernel
theorem dX5_isWay_31 : decode cX5_isWay 31 = .ok (.invokevirtual 57, 3) := by decide +kernel
theorem dX5_isWay_34 : decode cX5_isWay 34 = .ok (.ifCond .eq 7, 3) := by decide +kernel
theorem dX5_isWay_37 : decode cX5_isWay 37 = .ok (.iconst 1, 1) := by decide +kernel
theorem dX5_isWay_38 : decode cX5_isWay 38 = .ok (.goto 4, 3) := by decide +kernel
theorem dX5_isWay_41 : decode cX5_isWay 41 = .ok (.iconst 0, 1) := by decide +kernel
theorem dX5_isWay_42 : decode cX5_isWay 42 = .ok (.istore_n 2, 1) := by decide +kernel
theorem dX5_isWay_43 : decode cX5_isWay 43 = .ok (.aload_n 0, 1) := by decide +kernel
theorem dX5_isWay_44 : decode cX5_isWay 44 = .ok (.getfield 94, 3) := by decide +kernel
theorem dX5_isWay_47 : decode cX5_isWay 47 = .ok (.iconst 1, 1) := by decide +kernel
theorem dX5_isWay_48 : decode cX5_isWay 48 = .ok (.iadd, 1) := by decide +kernel
theorem dX5_isWay_49 : decode cX5_isWay 49 = .ok (.istore_n 3, 1) := by decide +kernel
theorem dX5_isWay_50 : decode cX5_isWay 50 = .ok (.iload_n 3, 1) := by decide +kernel
theorem dX5_isWay_51 : decode cX5_isWay 51 = .ok (.aload_n 0, 1) := by decide +kernel
theorem dX5_isWay_52 : decode cX5_isWay 52 = .ok (.getfield 16, 3) := by decide +kernel
theorem dX5_isWay_55 : decode cX5_isWay 55 = .ok (.iload_n 1, 1) := by decide +kernel
theorem dX5_isWay_56 : decode cX5_isWay 56 = .ok (.iaload, 1) := by decide +kernel
theorem dX5_isWay_57 : decode cX5_isWay 57 = .ok (.if_icmp .ge 28, 3) := by decide +kernel
theorem dX5_isWay_60 : decode cX5_isWay 60 = .ok (.iload_n 2, 1) := by decide +kernel
theorem dX5_isWay_61 : decode cX5_isWay 61 = .ok (.ifCond .eq 24, 3) := by decide +kernel
theorem dX5_isWay_64 : decode cX5_isWay 64 = .ok (.aload_n 0, 1) := by decide +kernel
theorem dX5_isWay_65 : decode cX5_isWay 65 = .ok (.iload_n 1, 1) := by decide +kernel
theorem dX5_isWay_66 : decode cX5_isWay 66 = .ok (.iload_n 3, 1) := by decide +kernel
theorem dX5_isWay_67 : decode cX5_isWay 67 = .ok (.invokevirtual 116, 3) := by decide +kernel
theorem dX5_isWay_70 : decode cX5_isWay 70 = .ok (.ifCond .ne 7, 3) := by decide +kernel
theorem dX5_isWay_73 : decode cX5_isWay 73 = .ok (.iconst 1, 1) := by decide +kernel
theorem dX5_isWay_74 : decode cX5_isWay 74 = .ok (.goto 4, 3) := by decide +kernel
theorem dX5_isWay_77 : decode cX5_isWay 77 = .ok (.iconst 0, 1) := by decide +kernel
theorem dX5_isWay_78 : decode cX5_isWay 78 = .ok (.istore_n 2, 1) := by decide +kernel
theorem dX5_isWay_79 : decode cX5_isWay 79 = .ok (.iinc 3 1, 3) := by decide +kernel
theorem dX5_isWay_82 : decode cX5_isWay 82 = .ok (.goto (-32), 3) := by decide +kernel
theorem dX5_isWay_85 : decode cX5_isWay 85 = .ok (.iload_n 2, 1) := by decide +kernel
theorem dX5_isWay_86 : decode cX5_isWay 86 = .ok (.ireturn, 1) := by decide +kernel
set_option maxRecDepth 20000 in
theorem ggX5_waysToPlay_X5_isWay : GoodIn wsX5_waysToPlay wsX5_isWay := goodIn_r _ [6, 7, 8, 9, 10, 11, 12, 5, 13, 14, 15, 16, 17, 18, 19, 20, 21, 22, 23, 1, 24, 25, 26, 27, 33, 34, 35, 36, 37, 38, 39, 40, 41, 42, 43, 44, 45, 46, 47, 48, 49, 50, 51] (by decide +kernel) (by decide +kernel)
set_option maxRecDepth 20000 in
theorem gX5_waysToPlay_X5_isWay : GoodIn wsX5_waysToPlay (wsV RX5 130 RX5 yX5_isWay wsX5_isWay) := goodIn_app (goodIn_of _ (by decide +kernel)) ggX5_waysToPlay_X5_isWay
set_option maxRecDepth 20000 in
theorem ggX5_waysToPlay_X5_told : GoodIn wsX5_waysToPlay wsX5_told := goodIn_r _ [31, 32, 33, 34, 35, 36, 37, 38, 39, 40, 41, 42, 43, 44, 45, 46, 47, 48, 49, 50, 51] (by decide +kernel) (by decide +kernel)
set_option maxRecDepth 20000 in
theorem gX5_waysToPlay_X5_told : GoodIn wsX5_waysToPlay (wsV RX5 69 RX5 yX5_told wsX5_told) := goodIn_app (goodIn_of _ (by decide +kernel)) ggX5_waysToPlay_X5_told
theorem dX5_waysToPlay_0 : decode cX5_waysToPlay 0 = .ok (.iconst 0, 1) := by decide +kernel
theorem dX5_waysToPlay_1 : decode cX5_waysToPlay 1 = .ok (.istore_n 1, 1) := by decide +kernel
theorem dX5_waysToPlay_2 : decode cX5_waysToPlay 2 = .ok (.iconst 0, 1) := by decide +kernel
theorem dX5_waysToPlay_3 : decode cX5_waysToPlay 3 = .ok (.istore_n 2, 1) := by decide +kernel
theorem dX5_waysToPlay_4 : decode cX5_waysToPlay 4 = .ok (.iload_n 2, 1) := by decide +kernel
theorem dX5_waysToPlay_5 : decode cX5_waysToPlay 5 = .ok (.aload_n 0, 1) := by decide +kernel
theorem dX5_waysToPlay_6 : decode cX5_waysToPlay 6 = .ok (.getfield 51, 3) := by decide +kernel
theorem dX5_waysToPlay_9 : decode cX5_waysToPlay 9 = .ok (.if_icmp .ge 25, 3) := by decide +kernel
theorem dX5_waysToPlay_12 : decode cX5_waysToPlay 12 = .ok (.iload_n 1, 1) := by decide +kernel
theorem dX5_waysToPlay_13 : decode cX5_waysToPlay 13 = .ok (.aload_n 0, 1) := by decide +kernel
theorem dX5_waysToPlay_14 : decode cX5_waysToPlay 14 = .ok (.iload_n 2, 1) := by decide +kernel
theorem dX5_waysToPlay_15 : decode cX5_waysToPlay 15 = .ok (.invokevirtual 130, 3) := by decide +kernel
theorem dX5_waysToPlay_18 : decode cX5_waysToPlay 18 = .ok (.ifCond .eq 7, 3) := by decide +kernel
theorem dX5_waysToPlay_21 : decode cX5_waysToPlay 21 = .ok (.iconst 1, 1) := by decide +kernel
theorem dX5_waysToPlay_22 : decode cX5_waysToPlay 22 = .ok (.goto 4, 3) := by decide +kernel
theorem dX5_waysToPlay_25 : decode cX5_waysToPlay 25 = .ok (.iconst 0, 1) := by decide +kernel
theorem dX5_waysToPlay_26 : decode cX5_waysToPlay 26 = .ok (.iadd, 1) := by decide +kernel
theorem dX5_waysToPlay_27 : decode cX5_waysToPlay 27 = .ok (.istore_n 1, 1) := by decide +kernel
theorem dX5_waysToPlay_28 : decode cX5_waysToPlay 28 = .ok (.iinc 2 1, 3) := by decide +kernel
theorem dX5_waysToPlay_31 : decode cX5_waysToPlay 31 = .ok (.goto (-27), 3) := by decide +kernel
theorem dX5_waysToPlay_34 : decode cX5_waysToPlay 34 = .ok (.aload_n 0, 1) := by decide +kernel
theorem dX5_waysToPlay_35 : decode cX5_waysToPlay 35 = .ok (.iload_n 1, 1) := by decide +kernel
theorem dX5_waysToPlay_36 : decode cX5_waysToPlay 36 = .ok (.invokevirtual 69, 3) := by decide +kernel
theorem dX5_waysToPlay_39 : decode cX5_waysToPlay 39 = .ok (.ireturn, 1) := by decide +kernel
set_option maxRecDepth 20000 in
theorem ggX5_waysToWin_X5_isWay : GoodIn wsX5_waysToWin wsX5_isWay := goodIn_r _ [8, 2, 3, 9, 10, 11, 12, 7, 13, 14, 15, 16, 17, 18, 19, 20, 21, 22, 23, 1, 24, 25, 26, 27, 33, 34, 35, 36, 37, 38, 39, 40, 41, 42, 43, 44, 45, 46, 47, 48, 49, 50, 51] (by decide +kernel) (by decide +kernel)
set_option maxRecDepth 20000 in
theorem gX5_waysToWin_X5_isWay : GoodIn wsX5_waysToWin (wsV RX5 130 RX5 yX5_isWay wsX5_isWay) := goodIn_app (goodIn_of _ (by decide +kernel)) ggX5_waysToWin_X5_isWay
set_option maxRecDepth 20000 in
theorem ggX5_waysToWin_X5_told : GoodIn wsX5_waysToWin wsX5_told := goodIn_r _ [31, 32, 33, 34, 35, 36, 37, 38, 39, 40, 41, 42, 43, 44, 45, 46, 47, 48, 49, 50, 51] (by decide +kernel) (by decide +kernel)
set_option maxRecDepth 20000 in
theorem gX5_waysToWin_X5_told : GoodIn wsX5_waysToWin (wsV RX5 69 RX5 yX5_told wsX5_told) := goodIn_app (goodIn_of _ (by decide +kernel)) ggX5_waysToWin_X5_told
theorem dX5_waysToWin_0 : decode cX5_waysToWin 0 = .ok (.iconst 0, 1) := by decide +kernel
theorem dX5_waysToWin_1 : decode cX5_waysToWin 1 = .ok (.istore_n 1, 1) := by decide +kernel
theorem dX5_waysToWin_2 : decode cX5_waysToWin 2 = .ok (.iconst 0, 1) := by decide +kernel
theorem dX5_waysToWin_3 : decode cX5_waysToWin 3 = .ok (.istore_n 2, 1) := by decide +kernel
theorem dX5_waysToWin_4 : decode cX5_waysToWin 4 = .ok (.iload_n 2, 1) := by decide +kernel
theorem dX5_waysToWin_5 : decode cX5_waysToWin 5 = .ok (.aload_n 0, 1) := by decide +kernel
theorem dX5_waysToWin_6 : decode cX5_waysToWin 6 = .ok (.getfield 51, 3) := by decide +kernel
theorem dX5_waysToWin_9 : decode cX5_waysToWin 9 = .ok (.if_icmp .ge 41, 3) := by decide +kernel
theorem dX5_waysToWin_12 : decode cX5_waysToWin 12 = .ok (.iload_n 1, 1) := by decide +kernel
theorem dX5_waysToWin_13 : decode cX5_waysToWin 13 = .ok (.aload_n 0, 1) := by decide +kernel
theorem dX5_waysToWin_14 : decode cX5_waysToWin 14 = .ok (.iload_n 2, 1) := by decide +kernel
theorem dX5_waysToWin_15 : decode cX5_waysToWin 15 = .ok (.invokevirtual 130, 3) := by decide +kernel
theorem dX5_waysToWin_18 : decode cX5_waysToWin 18 = .ok (.ifCond .eq 23, 3) := by decide +kernel
theorem dX5_waysToWin_21 : decode cX5_waysToWin 21 = .ok (.aload_n 0, 1) := by decide +kernel
theorem dX5_waysToWin_22 : decode cX5_waysToWin 22 = .ok (.getfield 16, 3) := by decide +kernel
theorem dX5_waysToWin_25 : decode cX5_waysToWin 25 = .ok (.iload_n 2, 1) := by decide +kernel
theorem dX5_waysToWin_26 : decode cX5_waysToWin 26 = .ok (.iaload, 1) := by decide +kernel
theorem dX5_waysToWin_27 : decode cX5_waysToWin 27 = .ok (.aload_n 0, 1) := by decide +kernel
theorem dX5_waysToWin_28 : decode cX5_waysToWin 28 = .ok (.getfield 94, 3) := by decide +kernel
theorem dX5_waysToWin_31 : decode cX5_waysToWin 31 = .ok (.isub, 1) := by decide +kernel
theorem dX5_waysToWin_32 : decode cX5_waysToWin 32 = .ok (.iconst 2, 1) := by decide +kernel
theorem dX5_waysToWin_33 : decode cX5_waysToWin 33 = .ok (.irem, 1) := by decide +kernel
theorem dX5_waysToWin_34 : decode cX5_waysToWin 34 = .ok (.ifCond .ne 7, 3) := by decide +kernel
theorem dX5_waysToWin_37 : decode cX5_waysToWin 37 = .ok (.iconst 1, 1) := by decide +kernel
theorem dX5_waysToWin_38 : decode cX5_waysToWin 38 = .ok (.goto 4, 3) := by decide +kernel
theorem dX5_waysToWin_41 : decode cX5_waysToWin 41 = .ok (.iconst 0, 1) := by decide +kernel
theorem dX5_waysToWin_42 : decode cX5_waysToWin 42 = .ok (.iadd, 1) := by decide +kernel
theorem dX5_waysToWin_43 : decode cX5_waysToWin 43 = .ok (.istore_n 1, 1) := by decide +kernel
theorem dX5_waysToWin_44 : decode cX5_waysToWin 44 = .ok (.iinc 2 1, 3) := by decide +kernel
theorem dX5_waysToWin_47 : decode cX5_waysToWin 47 = .ok (.goto (-43), 3) := by decide +kernel
theorem dX5_waysToWin_50 : decode cX5_waysToWin 50 = .ok (.aload_n 0, 1) := by decide +kernel
theorem dX5_waysToWin_51 : decode cX5_waysToWin 51 = .ok (.iload_n 1, 1) := by decide +kernel
theorem dX5_waysToWin_52 : decode cX5_waysToWin 52 = .ok (.invokevirtual 69, 3) := by decide +kernel
theorem dX5_waysToWin_55 : decode cX5_waysToWin 55 = .ok (.ireturn, 1) := by decide +kernel
theorem dJ9_abs_0f7a4_0 : decode cJ9_abs_0f7a4 0 = .ok (.iload_n 0, 1) := by decide +kernel
theorem dJ9_abs_0f7a4_1 : decode cJ9_abs_0f7a4 1 = .ok (.ifCond .ge 8, 3) := by decide +kernel
theorem dJ9_abs_0f7a4_4 : decode cJ9_abs_0f7a4 4 = .ok (.iload_n 0, 1) := by decide +kernel
theorem dJ9_abs_0f7a4_5 : decode cJ9_abs_0f7a4 5 = .ok (.ineg, 1) := by decide +kernel
theorem dJ9_abs_0f7a4_6 : decode cJ9_abs_0f7a4 6 = .ok (.goto 4, 3) := by decide +kernel
theorem dJ9_abs_0f7a4_9 : decode cJ9_abs_0f7a4 9 = .ok (.iload_n 0, 1) := by decide +kernel
theorem dJ9_abs_0f7a4_10 : decode cJ9_abs_0f7a4 10 = .ok (.ireturn, 1) := by decide +kernel
theorem dJ9_max_7cf53_0 : decode cJ9_max_7cf53 0 = .ok (.iload_n 0, 1) := by decide +kernel
theorem dJ9_max_7cf53_1 : decode cJ9_max_7cf53 1 = .ok (.iload_n 1, 1) := by decide +kernel
theorem dJ9_max_7cf53_2 : decode cJ9_max_7cf53 2 = .ok (.if_icmp .lt 7, 3) := by decide +kernel
theorem dJ9_max_7cf53_5 : decode cJ9_max_7cf53 5 = .ok (.iload_n 0, 1) := by decide +kernel
theorem dJ9_max_7cf53_6 : decode cJ9_max_7cf53 6 = .ok (.goto 4, 3) := by decide +kernel
theorem dJ9_max_7cf53_9 : decode cJ9_max_7cf53 9 = .ok (.iload_n 1, 1) := by decide +kernel
theorem dJ9_max_7cf53_10 : decode cJ9_max_7cf53 10 = .ok (.ireturn, 1) := by decide +kernel
theorem dJ9_min_7cf53_0 : decode cJ9_min_7cf53 0 = .ok (.iload_n 0, 1) := by decide +kernel
theorem dJ9_min_7cf53_1 : decode cJ9_min_7cf53 1 = .ok (.iload_n 1, 1) := by decide +kernel
theorem dJ9_min_7cf53_2 : decode cJ9_min_7cf53 2 = .ok (.if_icmp .gt 7, 3) := by decide +kernel
theorem dJ9_min_7cf53_5 : decode cJ9_min_7cf53 5 = .ok (.iload_n 0, 1) := by decide +kernel
theorem dJ9_min_7cf53_6 : decode cJ9_min_7cf53 6 = .ok (.goto 4, 3) := by decide +kernel
theorem dJ9_min_7cf53_9 : decode cJ9_min_7cf53 9 = .ok (.iload_n 1, 1) := by decide +kernel
theorem dJ9_min_7cf53_10 : decode cJ9_min_7cf53 10 = .ok (.ireturn, 1) := by decide +kernel
set_option maxRecDepth 20000 in
theorem ggL_write_X4_write : GoodIn wsL_write wsX4_write := goodIn_ca (goodIn_ca (goodIn_r _ [7, 8, 9, 10, 11, 12, 13, 14, 6, 15, 16, 17, 18, 19, 20, 21, 22, 23, 24, 25, 26, 27, 28, 29, 30, 31, 32, 33] (by decide +kernel) (by decide +kernel)) (goodIn_sub (fun _ h => List.mem_cons_of_mem _ (List.mem_append_left _ (List.mem_append_right _ h))) (by decide +kernel))) (goodIn_sub (fun _ h => List.mem_cons_of_mem _ (List.mem_append_right _ h)) (by decide +kernel))
set_option maxRecDepth 20000 in
theorem gL_write_X4_write : GoodIn wsL_write (wsV RL 7 RX4 yX4_write wsX4_write) := goodIn_app (goodIn_of _ (by decide +kernel)) ggL_write_X4_write
theorem dL_write_0 : decode cL_write 0 = .ok (.aload_n 2, 1) := by decide +kernel
theorem dL_write_1 : decode cL_write 1 = .ok (.iconst 0, 1) := by decide +kernel
theorem dL_write_2 : decode cL_write 2 = .ok (.aload_n 0, 1) := by decide +kernel
theorem dL_write_3 : decode cL_write 3 = .ok (.iload_n 1, 1) := by decide +kernel
theorem dL_write_4 : decode cL_write 4 = .ok (.invokevirtual 7, 3) := by decide +kernel
theorem dL_write_7 : decode cL_write 7 = .ok (.i2l, 1) := by decide +kernel
theorem dL_write_8 : decode cL_write 8 = .ok (.lastore, 1) := by decide +kernel
theorem dL_write_9 : decode cL_write 9 = .ok (.goto 9, 3) := by decide +kernel
theorem dL_write_12 : decode cL_write 12 = .ok (.astore_n 3, 1) := by decide +kernel
theorem dL_write_13 : decode cL_write 13 = .ok (.iconst 1, 1) := by decide +kernel
theorem dL_write_14 : decode cL_write 14 = .ok (.ireturn, 1) := by decide +kernel
theorem dL_write_15 : decode cL_write 15 = .ok (.astore_n 3, 1) := by decide +kernel
theorem dL_write_16 : decode cL_write 16 = .ok (.iconst 2, 1) := by decide +kernel
theorem dL_write_17 : decode cL_write 17 = .ok (.ireturn, 1) := by decide +kernel
theorem dL_write_18 : decode cL_write 18 = .ok (.iconst 0, 1) := by decide +kernel
theorem dL_write_19 : decode cL_write 19 = .ok (.ireturn, 1) := by decide +kernel
set_option maxRecDepth 20000 in
theorem ggL_slipAt_X4_slipAt : GoodIn wsL_slipAt wsX4_slipAt := goodIn_ca (goodIn_r _ [6, 7, 8, 9, 10, 11, 12, 13, 14, 15, 16, 17, 18, 19] (by decide +kernel) (by decide +kernel)) (goodIn_sub (fun _ h => List.mem_cons_of_mem _ (List.mem_append_right _ h)) (by decide +kernel))
set_option maxRecDepth 20000 in
theorem gL_slipAt_X4_slipAt : GoodIn wsL_slipAt (wsV RL 17 RX4 yX4_slipAt wsX4_slipAt) := goodIn_app (goodIn_of _ (by decide +kernel)) ggL_slipAt_X4_slipAt
theorem dL_slipAt_0 : decode cL_slipAt 0 = .ok (.aload_n 2, 1) := by decide +kernel
theorem dL_slipAt_1 : decode cL_slipAt 1 = .ok (.iconst 0, 1) := by decide +kernel
theorem dL_slipAt_2 : decode cL_slipAt 2 = .ok (.aload_n 0, 1) := by decide +kernel
theorem dL_slipAt_3 : decode cL_slipAt 3 = .ok (.iload_n 1, 1) := by decide +kernel
theorem dL_slipAt_4 : decode cL_slipAt 4 = .ok (.invokevirtual 17, 3) := by decide +kernel
theorem dL_slipAt_7 : decode cL_slipAt 7 = .ok (.i2l, 1) := by decide +kernel
theorem dL_slipAt_8 : decode cL_slipAt 8 = .ok (.lastore, 1) := by decide +kernel
theorem dL_slipAt_9 : decode cL_slipAt 9 = .ok (.goto 6, 3) := by decide +kernel
theorem dL_slipAt_12 : decode cL_slipAt 12 = .ok (.astore_n 3, 1) := by decide +kernel
theorem dL_slipAt_13 : decode cL_slipAt 13 = .ok (.iconst 1, 1) := by decide +kernel
theorem dL_slipAt_14 : decode cL_slipAt 14 = .ok (.ireturn, 1) := by decide +kernel
theorem dL_slipAt_15 : decode cL_slipAt 15 = .ok (.iconst 0, 1) := by decide +kernel
theorem dL_slipAt_16 : decode cL_slipAt 16 = .ok (.ireturn, 1) := by decide +kernel
set_option maxRecDepth 20000 in
theorem ggL_addWord_X4_addWord : GoodIn wsL_addWord wsX4_addWord := goodIn_ca (goodIn_ca (goodIn_r _ [7, 8, 9, 10, 11, 12, 13, 14, 15, 16, 17, 18, 19, 20, 21, 22, 23, 24, 25, 26, 27, 28, 29, 30, 31, 32, 33, 34, 35, 36, 37, 38, 39, 40, 41, 42] (by decide +kernel) (by decide +kernel)) (goodIn_sub (fun _ h => List.mem_cons_of_mem _ (List.mem_append_left _ (List.mem_append_right _ h))) (by decide +kernel))) (goodIn_sub (fun _ h => List.mem_cons_of_mem _ (List.mem_append_right _ h)) (by decide +kernel))
set_option maxRecDepth 20000 in
theorem gL_addWord_X4_addWord : GoodIn wsL_addWord (wsV RL 22 RX4 yX4_addWord wsX4_addWord) := goodIn_app (goodIn_of _ (by decide +kernel)) ggL_addWord_X4_addWord
theorem dL_addWord_0 : decode cL_addWord 0 = .ok (.aload_n 1, 1) := by decide +kernel
theorem dL_addWord_1 : decode cL_addWord 1 = .ok (.iconst 0, 1) := by decide +kernel
theorem dL_addWord_2 : decode cL_addWord 2 = .ok (.aload_n 0, 1) := by decide +kernel
theorem dL_addWord_3 : decode cL_addWord 3 = .ok (.invokevirtual 22, 3) := by decide +kernel
theorem dL_addWord_6 : decode cL_addWord 6 = .ok (.i2l, 1) := by decide +kernel
theorem dL_addWord_7 : decode cL_addWord 7 = .ok (.lastore, 1) := by decide +kernel
theorem dL_addWord_8 : decode cL_addWord 8 = .ok (.goto 9, 3) := by decide +kernel
theorem dL_addWord_11 : decode cL_addWord 11 = .ok (.astore_n 2, 1) := by decide +kernel
theorem dL_addWord_12 : decode cL_addWord 12 = .ok (.iconst 1, 1) := by decide +kernel
theorem dL_addWord_13 : decode cL_addWord 13 = .ok (.ireturn, 1) := by decide +kernel
theorem dL_addWord_14 : decode cL_addWord 14 = .ok (.astore_n 2, 1) := by decide +kernel
theorem dL_addWord_15 : decode cL_addWord 15 = .ok (.iconst 2, 1) := by decide +kernel
theorem dL_addWord_16 : decode cL_addWord 16 = .ok (.ireturn, 1) := by decide +kernel
theorem dL_addWord_17 : decode cL_addWord 17 = .ok (.iconst 0, 1) := by decide +kernel
theorem dL_addWord_18 : decode cL_addWord 18 = .ok (.ireturn, 1) := by decide +kernel
set_option maxRecDepth 20000 in
theorem ggL_removeWord_X4_removeWord : GoodIn wsL_removeWord wsX4_removeWord := goodIn_ca (goodIn_r _ [6, 7, 8, 9, 10, 11, 12, 13, 14, 15, 16, 17, 18, 19, 20, 21, 22, 23, 24, 25, 26, 27, 28, 29, 30, 31] (by decide +kernel) (by decide +kernel)) (goodIn_sub (fun _ h => List.mem_cons_of_mem _ (List.mem_append_right _ h)) (by decide +kernel))
set_option maxRecDepth 20000 in
theorem gL_removeWord_X4_removeWord : GoodIn wsL_removeWord (wsV RL 26 RX4 yX4_removeWord wsX4_removeWord) := goodIn_app (goodIn_of _ (by decide +kernel)) ggL_removeWord_X4_removeWord
theorem dL_removeWord_0 : decode cL_removeWord 0 = .ok (.aload_n 1, 1) := by decide +kernel
theorem dL_removeWord_1 : decode cL_removeWord 1 = .ok (.iconst 0, 1) := by decide +kernel
theorem dL_removeWord_2 : decode cL_removeWord 2 = .ok (.aload_n 0, 1) := by decide +kernel
theorem dL_removeWord_3 : decode cL_removeWord 3 = .ok (.invokevirtual 26, 3) := by decide +kernel
theorem dL_removeWord_6 : decode cL_removeWord 6 = .ok (.i2l, 1) := by decide +kernel
theorem dL_removeWord_7 : decode cL_removeWord 7 = .ok (.lastore, 1) := by decide +kernel
theorem dL_removeWord_8 : decode cL_removeWord 8 = .ok (.goto 6, 3) := by decide +kernel
theorem dL_removeWord_11 : decode cL_removeWord 11 = .ok (.astore_n 2, 1) := by decide +kernel
theorem dL_removeWord_12 : decode cL_removeWord 12 = .ok (.iconst 1, 1) := by decide +kernel
theorem dL_removeWord_13 : decode cL_removeWord 13 = .ok (.ireturn, 1) := by decide +kernel
theorem dL_removeWord_14 : decode cL_removeWord 14 = .ok (.iconst 0, 1) := by decide +kernel
theorem dL_removeWord_15 : decode cL_removeWord 15 = .ok (.ireturn, 1) := by decide +kernel
set_option maxRecDepth 20000 in
theorem ggL_copyWord_X4_copyWord : GoodIn wsL_copyWord wsX4_copyWord := goodIn_ca (goodIn_r _ [6, 7, 8, 9, 10, 11, 12, 13, 14, 15, 16, 17, 18, 19, 20, 21, 22, 23, 24, 25, 26, 27] (by decide +kernel) (by decide +kernel)) (goodIn_sub (fun _ h => List.mem_cons_of_mem _ (List.mem_append_right _ h)) (by decide +kernel))
set_option maxRecDepth 20000 in
theorem gL_copyWord_X4_copyWord : GoodIn wsL_copyWord (wsV RL 29 RX4 yX4_copyWord wsX4_copyWord) := goodIn_app (goodIn_of _ (by decide +kernel)) ggL_copyWord_X4_copyWord
theorem dL_copyWord_0 : decode cL_copyWord 0 = .ok (.aload_n 2, 1) := by decide +kernel
theorem dL_copyWord_1 : decode cL_copyWord 1 = .ok (.iconst 0, 1) := by decide +kernel
theorem dL_copyWord_2 : decode cL_copyWord 2 = .ok (.aload_n 0, 1) := by decide +kernel
theorem dL_copyWord_3 : decode cL_copyWord 3 = .ok (.iload_n 1, 1) := by decide +kernel
theorem dL_copyWord_4 : decode cL_copyWord 4 = .ok (.invokevirtual 29, 3) := by decide +kernel
theorem dL_copyWord_7 : decode cL_copyWord 7 = .ok (.i2l, 1) := by decide +kernel
theorem dL_copyWord_8 : decode cL_copyWord 8 = .ok (.lastore, 1) := by decide +kernel
theorem dL_copyWord_9 : decode cL_copyWord 9 = .ok (.goto 6, 3) := by decide +kernel
theorem dL_copyWord_12 : decode cL_copyWord 12 = .ok (.astore_n 3, 1) := by decide +kernel
theorem dL_copyWord_13 : decode cL_copyWord 13 = .ok (.iconst 1, 1) := by decide +kernel
theorem dL_copyWord_14 : decode cL_copyWord 14 = .ok (.ireturn, 1) := by decide +kernel
theorem dL_copyWord_15 : decode cL_copyWord 15 = .ok (.iconst 0, 1) := by decide +kernel
theorem dL_copyWord_16 : decode cL_copyWord 16 = .ok (.ireturn, 1) := by decide +kernel
set_option maxRecDepth 20000 in
theorem ggL_setLeastLength_X4_setLeastLength : GoodIn wsL_setLeastLength wsX4_setLeastLength := goodIn_ca (goodIn_r _ [6, 7, 8, 9, 10, 11, 12, 13, 14, 15, 16, 17, 18, 19, 20, 21] (by decide +kernel) (by decide +kernel)) (goodIn_sub (fun _ h => List.mem_cons_of_mem _ (List.mem_append_right _ h)) (by decide +kernel))
set_option maxRecDepth 20000 in
theorem gL_setLeastLength_X4_setLeastLength : GoodIn wsL_setLeastLength (wsV RL 32 RX4 yX4_setLeastLength wsX4_setLeastLength) := goodIn_app (goodIn_of _ (by decide +kernel)) ggL_setLeastLength_X4_setLeastLength
theorem dL_setLeastLength_0 : decode cL_setLeastLength 0 = .ok (.aload_n 2, 1) := by decide +kernel
theorem dL_setLeastLength_1 : decode cL_setLeastLength 1 = .ok (.iconst 0, 1) := by decide +kernel
theorem dL_setLeastLength_2 : decode cL_setLeastLength 2 = .ok (.aload_n 0, 1) := by decide +kernel
theorem dL_setLeastLength_3 : decode cL_setLeastLength 3 = .ok (.iload_n 1, 1) := by decide +kernel
theorem dL_setLeastLength_4 : decode cL_setLeastLength 4 = .ok (.invokevirtual 32, 3) := by decide +kernel
theorem dL_setLeastLength_7 : decode cL_setLeastLength 7 = .ok (.i2l, 1) := by decide +kernel
theorem dL_setLeastLength_8 : decode cL_setLeastLength 8 = .ok (.lastore, 1) := by decide +kernel
theorem dL_setLeastLength_9 : decode cL_setLeastLength 9 = .ok (.goto 6, 3) := by decide +kernel
theorem dL_setLeastLength_12 : decode cL_setLeastLength 12 = .ok (.astore_n 3, 1) := by decide +kernel
theorem dL_setLeastLength_13 : decode cL_setLeastLength 13 = .ok (.iconst 1, 1) := by decide +kernel
theorem dL_setLeastLength_14 : decode cL_setLeastLength 14 = .ok (.ireturn, 1) := by decide +kernel
theorem dL_setLeastLength_15 : decode cL_setLeastLength 15 = .ok (.iconst 0, 1) := by decide +kernel
theorem dL_setLeastLength_16 : decode cL_setLeastLength 16 = .ok (.ireturn, 1) := by decide +kernel
set_option maxRecDepth 20000 in
theorem ggL_start_X4_start : GoodIn wsL_start wsX4_start := goodIn_ca (goodIn_r _ [6, 7, 8, 9, 10, 11, 12, 13, 14, 15, 16, 17, 18, 19, 20, 21, 22, 23, 24, 25, 26, 27, 28, 29] (by decide +kernel) (by decide +kernel)) (goodIn_sub (fun _ h => List.mem_cons_of_mem _ (List.mem_append_right _ h)) (by decide +kernel))
set_option maxRecDepth 20000 in
theorem gL_start_X4_start : GoodIn wsL_start (wsV RL 35 RX4 yX4_start wsX4_start) := goodIn_app (goodIn_of _ (by decide +kernel)) ggL_start_X4_start
theorem dL_start_0 : decode cL_start 0 = .ok (.aload_n 0, 1) := by decide +kernel
theorem dL_start_1 : decode cL_start 1 = .ok (.iload_n 1, 1) := by decide +kernel
theorem dL_start_2 : decode cL_start 2 = .ok (.invokevirtual 35, 3) := by decide +kernel
theorem dL_start_5 : decode cL_start 5 = .ok (.goto 6, 3) := by decide +kernel
theorem dL_start_8 : decode cL_start 8 = .ok (.astore_n 2, 1) := by decide +kernel
theorem dL_start_9 : decode cL_start 9 = .ok (.iconst 1, 1) := by decide +kernel
theorem dL_start_10 : decode cL_start 10 = .ok (.ireturn, 1) := by decide +kernel
theorem dL_start_11 : decode cL_start 11 = .ok (.iconst 0, 1) := by decide +kernel
theorem dL_start_12 : decode cL_start 12 = .ok (.ireturn, 1) := by decide +kernel
set_option maxRecDepth 20000 in
theorem ggL_play_X4_play : GoodIn wsL_play wsX4_play := goodIn_ca (goodIn_ca (goodIn_r _ [7, 8, 9, 10, 11, 12, 13, 14, 15, 6, 16, 17, 18, 19, 20, 21, 22, 23, 24, 25, 26, 27, 28, 29, 30, 31, 32, 33, 34, 35, 36, 37, 38, 39, 40, 41, 42, 43, 44, 45, 46, 47, 48, 49, 50, 51, 52, 53, 54, 55, 56, 57, 58, 59, 60, 61, 62, 63, 64, 65, 66, 67, 68, 69, 70, 71, 72, 73, 74, 75, 76, 77, 78, 79, 80, 81, 82, 83, 84, 85, 86, 87, 88, 89, 90, 91, 92, 93, 94, 95, 96, 97, 98, 99, 100, 101, 102, 103, 104, 105, 106] (by decide +kernel) (by decide +kernel)) (goodIn_sub (fun _ h => List.mem_cons_of_mem _ (List.mem_append_left _ (List.mem_append_right _ h))) (by decide +kernel))) (goodIn_sub (fun _ h => List.mem_cons_of_mem _ (List.mem_append_right _ h)) (by decide +kernel))
set_option maxRecDepth 20000 in
theorem gL_play_X4_play : GoodIn wsL_play (wsV RL 39 RX4 yX4_play wsX4_play) := goodIn_app (goodIn_of _ (by decide +kernel)) ggL_play_X4_play
theorem dL_play_0 : decode cL_play 0 = .ok (.aload_n 2, 1) := by decide +kernel
theorem dL_play_1 : decode cL_play 1 = .ok (.iconst 0, 1) := by decide +kernel
theorem dL_play_2 : decode cL_play 2 = .ok (.aload_n 0, 1) := by decide +kernel
theorem dL_play_3 : decode cL_play 3 = .ok (.iload_n 1, 1) := by decide +kernel
theorem dL_play_4 : decode cL_play 4 = .ok (.invokevirtual 39, 3) := by decide +kernel
theorem dL_play_7 : decode cL_play 7 = .ok (.i2l, 1) := by decide +kernel
theorem dL_play_8 : decode cL_play 8 = .ok (.lastore, 1) := by decide +kernel
theorem dL_play_9 : decode cL_play 9 = .ok (.goto 9, 3) := by decide +kernel
theorem dL_play_12 : decode cL_play 12 = .ok (.astore_n 3, 1) := by decide +kernel
theorem dL_play_13 : decode cL_play 13 = .ok (.iconst 1, 1) := by decide +kernel
theorem dL_play_14 : decode cL_play 14 = .ok (.ireturn, 1) := by decide +kernel
theorem dL_play_15 : decode cL_play 15 = .ok (.astore_n 3, 1) := by decide +kernel
theorem dL_play_16 : decode cL_play 16 = .ok (.iconst 2, 1) := by decide +kernel
theorem dL_play_17 : decode cL_play 17 = .ok (.ireturn, 1) := by decide +kernel
theorem dL_play_18 : decode cL_play 18 = .ok (.iconst 0, 1) := by decide +kernel
theorem dL_play_19 : decode cL_play 19 = .ok (.ireturn, 1) := by decide +kernel
set_option maxRecDepth 20000 in
theorem ggL_challenge_X4_challenge : GoodIn wsL_challenge wsX4_challenge := goodIn_ca (goodIn_r _ [6, 7, 8, 9, 10, 11, 12, 13, 14, 15, 16, 17, 18, 19, 20, 21, 22, 23, 24, 25, 26, 27, 28, 29, 30, 31, 32, 33, 34, 35, 36, 37, 38, 39, 40, 41, 42, 43, 44, 45, 46, 47, 48, 49, 50, 51, 52, 53, 54, 55, 56, 57, 58, 59, 60, 61, 62, 63, 64, 65, 66, 67, 68, 69, 70, 71, 72, 73, 74, 75, 76, 77, 78, 79, 80, 81, 82, 83, 84, 85, 86, 87, 88, 89, 90, 91, 92] (by decide +kernel) (by decide +kernel)) (goodIn_sub (fun _ h => List.mem_cons_of_mem _ (List.mem_append_right _ h)) (by decide +kernel))
set_option maxRecDepth 20000 in
theorem gL_challenge_X4_challenge : GoodIn wsL_challenge (wsV RL 42 RX4 yX4_challenge wsX4_challenge) := goodIn_app (goodIn_of _ (by decide +kernel)) ggL_challenge_X4_challenge
theorem dL_challenge_0 : decode cL_challenge 0 = .ok (.aload_n 1, 1) := by decide +kernel
theorem dL_challenge_1 : decode cL_challenge 1 = .ok (.iconst 0, 1) := by decide +kernel
theorem dL_challenge_2 : decode cL_challenge 2 = .ok (.aload_n 0, 1) := by decide +kernel
theorem dL_challenge_3 : decode cL_challenge 3 = .ok (.invokevirtual 42, 3) := by decide +kernel
theorem dL_challenge_6 : decode cL_challenge 6 = .ok (.i2l, 1) := by decide +kernel
theorem dL_challenge_7 : decode cL_challenge 7 = .ok (.lastore, 1) := by decide +kernel
theorem dL_challenge_8 : decode cL_challenge 8 = .ok (.goto 6, 3) := by decide +kernel
theorem dL_challenge_11 : decode cL_challenge 11 = .ok (.astore_n 2, 1) := by decide +kernel
theorem dL_challenge_12 : decode cL_challenge 12 = .ok (.iconst 1, 1) := by decide +kernel
theorem dL_challenge_13 : decode cL_challenge 13 = .ok (.ireturn, 1) := by decide +kernel
theorem dL_challenge_14 : decode cL_challenge 14 = .ok (.iconst 0, 1) := by decide +kernel
theorem dL_challenge_15 : decode cL_challenge 15 = .ok (.ireturn, 1) := by decide +kernel
set_option maxRecDepth 20000 in
theorem ggL_strikes_X4_strikes : GoodIn wsL_strikes wsX4_strikes := goodIn_ca (goodIn_r _ [6, 7, 8, 9, 10, 11, 12, 13, 14, 15, 16, 17, 18, 19, 20, 21, 22, 23, 24, 25, 26, 27, 28, 29] (by decide +kernel) (by decide +kernel)) (goodIn_sub (fun _ h => List.mem_cons_of_mem _ (List.mem_append_right _ h)) (by decide +kernel))
set_option maxRecDepth 20000 in
theorem gL_strikes_X4_strikes : GoodIn wsL_strikes (wsV RL 45 RX4 yX4_strikes wsX4_strikes) := goodIn_app (goodIn_of _ (by decide +kernel)) ggL_strikes_X4_strikes
theorem dL_strikes_0 : decode cL_strikes 0 = .ok (.aload_n 2, 1) := by decide +kernel
theorem dL_strikes_1 : decode cL_strikes 1 = .ok (.iconst 0, 1) := by decide +kernel
theorem dL_strikes_2 : decode cL_strikes 2 = .ok (.aload_n 0, 1) := by decide +kernel
theorem dL_strikes_3 : decode cL_strikes 3 = .ok (.iload_n 1, 1) := by decide +kernel
theorem dL_strikes_4 : decode cL_strikes 4 = .ok (.invokevirtual 45, 3) := by decide +kernel
theorem dL_strikes_7 : decode cL_strikes 7 = .ok (.i2l, 1) := by decide +kernel
theorem dL_strikes_8 : decode cL_strikes 8 = .ok (.lastore, 1) := by decide +kernel
theorem dL_strikes_9 : decode cL_strikes 9 = .ok (.goto 6, 3) := by decide +kernel
theorem dL_strikes_12 : decode cL_strikes 12 = .ok (.astore_n 3, 1) := by decide +kernel
theorem dL_strikes_13 : decode cL_strikes 13 = .ok (.iconst 1, 1) := by decide +kernel
theorem dL_strikes_14 : decode cL_strikes 14 = .ok (.ireturn, 1) := by decide +kernel
theorem dL_strikes_15 : decode cL_strikes 15 = .ok (.iconst 0, 1) := by decide +kernel
theorem dL_strikes_16 : decode cL_strikes 16 = .ok (.ireturn, 1) := by decide +kernel
set_option maxRecDepth 20000 in
theorem ggL_fragmentAt_X4_fragmentAt : GoodIn wsL_fragmentAt wsX4_fragmentAt := goodIn_ca (goodIn_r _ [6, 7, 8, 9, 10, 11, 12, 13, 14, 15, 16, 17, 18, 19, 20, 21, 22, 23, 24, 25, 26, 27, 28, 29, 30, 31] (by decide +kernel) (by decide +kernel)) (goodIn_sub (fun _ h => List.mem_cons_of_mem _ (List.mem_append_right _ h)) (by decide +kernel))
set_option maxRecDepth 20000 in
theorem gL_fragmentAt_X4_fragmentAt : GoodIn wsL_fragmentAt (wsV RL 48 RX4 yX4_fragmentAt wsX4_fragmentAt) := goodIn_app (goodIn_of _ (by decide +kernel)) ggL_fragmentAt_X4_fragmentAt
theorem dL_fragmentAt_0 : decode cL_fragmentAt 0 = .ok (.aload_n 2, 1) := by decide +kernel
theorem dL_fragmentAt_1 : decode cL_fragmentAt 1 = .ok (.iconst 0, 1) := by decide +kernel
theorem dL_fragmentAt_2 : decode cL_fragmentAt 2 = .ok (.aload_n 0, 1) := by decide +kernel
theorem dL_fragmentAt_3 : decode cL_fragmentAt 3 = .ok (.iload_n 1, 1) := by decide +kernel
theorem dL_fragmentAt_4 : decode cL_fragmentAt 4 = .ok (.invokevirtual 48, 3) := by decide +kernel
theorem dL_fragmentAt_7 : decode cL_fragmentAt 7 = .ok (.i2l, 1) := by decide +kernel
theorem dL_fragmentAt_8 : decode cL_fragmentAt 8 = .ok (.lastore, 1) := by decide +kernel
theorem dL_fragmentAt_9 : decode cL_fragmentAt 9 = .ok (.goto 6, 3) := by decide +kernel
theorem dL_fragmentAt_12 : decode cL_fragmentAt 12 = .ok (.astore_n 3, 1) := by decide +kernel
theorem dL_fragmentAt_13 : decode cL_fragmentAt 13 = .ok (.iconst 1, 1) := by decide +kernel
theorem dL_fragmentAt_14 : decode cL_fragmentAt 14 = .ok (.ireturn, 1) := by decide +kernel
theorem dL_fragmentAt_15 : decode cL_fragmentAt 15 = .ok (.iconst 0, 1) := by decide +kernel
theorem dL_fragmentAt_16 : decode cL_fragmentAt 16 = .ok (.ireturn, 1) := by decide +kernel
set_option maxRecDepth 20000 in
theorem ggL_law_X4_init : GoodIn wsL_law wsX4_init := goodIn_r _ [9, 10, 11, 12, 13, 14, 15, 16, 17, 18, 19, 20, 21, 22, 23, 24, 25, 6, 26, 27, 28, 29, 30, 31, 32, 33, 34, 35, 36, 37, 38, 39, 635, 636, 637, 613, 614, 615, 638, 639, 640, 641, 642, 643] (by decide +kernel) (by decide +kernel)
set_option maxRecDepth 20000 in
theorem gL_law_X4_init : GoodIn wsL_law (wsX4_init) := ggL_law_X4_init
set_option maxRecDepth 20000 in
theorem ggL_law_X5_init : GoodIn wsL_law wsX5_init := goodIn_r _ [42, 43, 11, 12, 33, 44, 45, 46, 47, 48, 49, 50, 51, 52, 53, 54, 55, 56, 616, 617, 618, 619, 620, 621, 622, 623, 624, 625, 626, 627, 628, 629, 630, 631, 632, 633, 634] (by decide +kernel) (by decide +kernel)
set_option maxRecDepth 20000 in
theorem gL_law_X5_init : GoodIn wsL_law (wsX5_init) := ggL_law_X5_init
set_option maxRecDepth 20000 in
theorem ggL_law_L_write : GoodIn wsL_law wsL_write := goodIn_ca (goodIn_ca (goodIn_r _ [60, 61, 62, 63, 64, 65, 2, 66, 67, 68, 69, 70, 21, 71, 72, 73, 74, 75, 76, 77, 78, 79, 80, 81, 82, 83, 84, 85, 86, 87, 88, 613, 614, 615] (by decide +kernel) (by decide +kernel)) (goodIn_sub (fun _ h => List.mem_append_left _ (List.mem_append_left _ (List.mem_append_right _ h))) (by decide +kernel))) (goodIn_sub (fun _ h => List.mem_append_left _ (List.mem_append_right _ h)) (by decide +kernel))
set_option maxRecDepth 20000 in
theorem gL_law_L_write : GoodIn wsL_law (va_wsS RL 55 yL_write wsL_write) := goodIn_app (goodIn_of _ (by decide +kernel)) ggL_law_L_write
set_option maxRecDepth 20000 in
theorem ggL_law_X5_write : GoodIn wsL_law wsX5_write := goodIn_r _ [92, 93, 44, 94, 95, 5, 96, 97, 98, 99, 100, 101, 616, 617, 618, 619, 620, 621, 622, 623, 624, 625, 626, 627, 628, 629, 630, 631, 632, 633, 634] (by decide +kernel) (by decide +kernel)
set_option maxRecDepth 20000 in
theorem gL_law_X5_write : GoodIn wsL_law (wsV RL 60 RX5 yX5_write wsX5_write) := goodIn_app (goodIn_of _ (by decide +kernel)) ggL_law_X5_write
set_option maxRecDepth 20000 in
theorem ggL_law_X5_thrown : GoodIn wsL_law wsX5_thrown := goodIn_r _ [105, 101, 616, 617, 618, 619, 620, 621, 622, 623, 624, 625, 626, 627, 628, 629, 630, 631, 632, 633, 634] (by decide +kernel) (by decide +kernel)
set_option maxRecDepth 20000 in
theorem gL_law_X5_thrown : GoodIn wsL_law (wsV RL 61 RX5 yX5_thrown wsX5_thrown) := goodIn_app (goodIn_of _ (by decide +kernel)) ggL_law_X5_thrown
set_option maxRecDepth 20000 in
theorem ggL_law_X4_wipe : GoodIn wsL_law wsX4_wipe := goodIn_r _ [109, 21, 88, 79, 76, 80, 613, 614, 615] (by decide +kernel) (by decide +kernel)
set_option maxRecDepth 20000 in
theorem gL_law_X4_wipe : GoodIn wsL_law (wsV RL 64 RX4 yX4_wipe wsX4_wipe) := goodIn_app (goodIn_of _ (by decide +kernel)) ggL_law_X4_wipe
set_option maxRecDepth 20000 in
theorem ggL_law_X5_wipe : GoodIn wsL_law wsX5_wipe := goodIn_r _ [113, 93, 114, 115, 116, 5, 117, 101, 616, 617, 618, 619, 620, 621, 622, 623, 624, 625, 626, 627, 628, 629, 630, 631, 632, 633, 634] (by decide +kernel) (by decide +kernel)
set_option maxRecDepth 20000 in
theorem gL_law_X5_wipe : GoodIn wsL_law (wsV RL 67 RX5 yX5_wipe wsX5_wipe) := goodIn_app (goodIn_of _ (by decide +kernel)) ggL_law_X5_wipe
set_option maxRecDepth 20000 in
theorem ggL_law_X4_slipLength : GoodIn wsL_law wsX4_slipLength := goodIn_r _ [121, 21, 88, 79, 76, 80, 613, 614, 615] (by decide +kernel) (by decide +kernel)
set_option maxRecDepth 20000 in
theorem gL_law_X4_slipLength : GoodIn wsL_law (wsV RL 68 RX4 yX4_slipLength wsX4_slipLength) := goodIn_app (goodIn_of _ (by decide +kernel)) ggL_law_X4_slipLength
set_option maxRecDepth 20000 in
theorem ggL_law_X5_slipLength : GoodIn wsL_law wsX5_slipLength := goodIn_r _ [125, 93, 114, 115, 116, 5, 117, 101, 616, 617, 618, 619, 620, 621, 622, 623, 624, 625, 626, 627, 628, 629, 630, 631, 632, 633, 634] (by decide +kernel) (by decide +kernel)
set_option maxRecDepth 20000 in
theorem gL_law_X5_slipLength : GoodIn wsL_law (wsV RL 71 RX5 yX5_slipLength wsX5_slipLength) := goodIn_app (goodIn_of _ (by decide +kernel)) ggL_law_X5_slipLength
set_option maxRecDepth 20000 in
theorem ggL_law_L_slipAt : GoodIn wsL_law wsL_slipAt := goodIn_ca (goodIn_r _ [128, 129, 130, 131, 132, 2, 133, 134, 135, 21, 136, 137, 76, 138, 78, 79, 80, 613, 614, 615] (by decide +kernel) (by decide +kernel)) (goodIn_sub (fun _ h => List.mem_append_right _ h) (by decide +kernel))
set_option maxRecDepth 20000 in
theorem gL_law_L_slipAt : GoodIn wsL_law (va_wsS RL 72 yL_slipAt wsL_slipAt) := goodIn_app (goodIn_of _ (by decide +kernel)) ggL_law_L_slipAt
set_option maxRecDepth 20000 in
theorem ggL_law_X5_slipAt : GoodIn wsL_law wsX5_slipAt := goodIn_r _ [142, 93, 44, 143, 144, 145, 5, 146, 101, 616, 617, 618, 619, 620, 621, 622, 623, 624, 625, 626, 627, 628, 629, 630, 631, 632, 633, 634] (by decide +kernel) (by decide +kernel)
set_option maxRecDepth 20000 in
theorem gL_law_X5_slipAt : GoodIn wsL_law (wsV RL 74 RX5 yX5_slipAt wsX5_slipAt) := goodIn_app (goodIn_of _ (by decide +kernel)) ggL_law_X5_slipAt
set_option maxRecDepth 20000 in
theorem ggL_law_L_addWord : GoodIn wsL_law wsL_addWord := goodIn_ca (goodIn_ca (goodIn_r _ [149, 61, 62, 150, 151, 152, 2, 153, 67, 68, 69, 70, 21, 16, 88, 79, 76, 80, 154, 155, 156, 15, 157, 27, 26, 158, 159, 160, 161, 162, 163, 164, 165, 166, 167, 168, 169, 613, 614, 615, 635, 636, 637] (by decide +kernel) (by decide +kernel)) (goodIn_sub (fun _ h => List.mem_append_left _ (List.mem_append_left _ (List.mem_append_right _ h))) (by decide +kernel))) (goodIn_sub (fun _ h => List.mem_append_left _ (List.mem_append_right _ h)) (by decide +kernel))
set_option maxRecDepth 20000 in
theorem gL_law_L_addWord : GoodIn wsL_law (va_wsS RL 75 yL_addWord wsL_addWord) := goodIn_app (goodIn_of _ (by decide +kernel)) ggL_law_L_addWord
set_option maxRecDepth 20000 in
theorem ggL_law_X5_addWord : GoodIn wsL_law wsX5_addWord := goodIn_r _ [173, 93, 174, 46, 45, 44, 175, 176, 177, 5, 178, 179, 180, 181, 182, 97, 98, 99, 100, 101, 616, 617, 618, 619, 620, 621, 622, 623, 624, 625, 626, 627, 628, 629, 630, 631, 632, 633, 634] (by decide +kernel) (by decide +kernel)
set_option maxRecDepth 20000 in
theorem gL_law_X5_addWord : GoodIn wsL_law (wsV RL 78 RX5 yX5_addWord wsX5_addWord) := goodIn_app (goodIn_of _ (by decide +kernel)) ggL_law_X5_addWord
set_option maxRecDepth 20000 in
theorem ggL_law_L_removeWord : GoodIn wsL_law wsL_removeWord := goodIn_ca (goodIn_r _ [185, 62, 186, 187, 188, 2, 189, 69, 70, 16, 21, 190, 191, 192, 15, 193, 27, 26, 162, 163, 164, 165, 166, 167, 168, 169, 613, 614, 615, 635, 636, 637] (by decide +kernel) (by decide +kernel)) (goodIn_sub (fun _ h => List.mem_append_left _ (List.mem_append_right _ h)) (by decide +kernel))
set_option maxRecDepth 20000 in
theorem gL_law_L_removeWord : GoodIn wsL_law (va_wsS RL 79 yL_removeWord wsL_removeWord) := goodIn_app (goodIn_of _ (by decide +kernel)) ggL_law_L_removeWord
set_option maxRecDepth 20000 in
theorem ggL_law_X5_removeWord : GoodIn wsL_law wsX5_removeWord := goodIn_r _ [197, 174, 46, 45, 175, 176, 177, 5, 178, 93, 44, 179, 180, 181, 182, 143, 144, 145, 146, 101, 616, 617, 618, 619, 620, 621, 622, 623, 624, 625, 626, 627, 628, 629, 630, 631, 632, 633, 634] (by decide +kernel) (by decide +kernel)
set_option maxRecDepth 20000 in
theorem gL_law_X5_removeWord : GoodIn wsL_law (wsV RL 81 RX5 yX5_removeWord wsX5_removeWord) := goodIn_app (goodIn_of _ (by decide +kernel)) ggL_law_X5_removeWord
set_option maxRecDepth 20000 in
theorem ggL_law_X4_isWord : GoodIn wsL_law wsX4_isWord := goodIn_r _ [201, 16, 21, 202, 159, 160, 15, 161, 162, 163, 164, 165, 27, 26, 613, 614, 615, 635, 636, 637] (by decide +kernel) (by decide +kernel)
set_option maxRecDepth 20000 in
theorem gL_law_X4_isWord : GoodIn wsL_law (wsV RL 82 RX4 yX4_isWord wsX4_isWord) := goodIn_app (goodIn_of _ (by decide +kernel)) ggL_law_X4_isWord
set_option maxRecDepth 20000 in
theorem ggL_law_X5_isWord : GoodIn wsL_law wsX5_isWord := goodIn_r _ [206, 101, 175, 176, 177, 5, 178, 174, 46, 93, 44, 179, 180, 181, 182, 45, 616, 617, 618, 619, 620, 621, 622, 623, 624, 625, 626, 627, 628, 629, 630, 631, 632, 633, 634] (by decide +kernel) (by decide +kernel)
set_option maxRecDepth 20000 in
theorem gL_law_X5_isWord : GoodIn wsL_law (wsV RL 86 RX5 yX5_isWord wsX5_isWord) := goodIn_app (goodIn_of _ (by decide +kernel)) ggL_law_X5_isWord
set_option maxRecDepth 20000 in
theorem ggL_law_X4_words : GoodIn wsL_law wsX4_words := goodIn_r _ [210, 16, 166, 167, 168, 15, 169, 27, 613, 614, 615, 635, 636, 637] (by decide +kernel) (by decide +kernel)
set_option maxRecDepth 20000 in
theorem gL_law_X4_words : GoodIn wsL_law (wsV RL 87 RX4 yX4_words wsX4_words) := goodIn_app (goodIn_of _ (by decide +kernel)) ggL_law_X4_words
set_option maxRecDepth 20000 in
theorem ggL_law_X5_words : GoodIn wsL_law wsX5_words := goodIn_r _ [214, 174, 114, 115, 116, 5, 117, 101, 616, 617, 618, 619, 620, 621, 622, 623, 624, 625, 626, 627, 628, 629, 630, 631, 632, 633, 634] (by decide +kernel) (by decide +kernel)
set_option maxRecDepth 20000 in
theorem gL_law_X5_words : GoodIn wsL_law (wsV RL 90 RX5 yX5_words wsX5_words) := goodIn_app (goodIn_of _ (by decide +kernel)) ggL_law_X5_words
set_option maxRecDepth 20000 in
theorem ggL_law_X4_wordsFromSlip : GoodIn wsL_law wsX4_wordsFromSlip := goodIn_r _ [218, 16, 21, 219, 220, 221, 15, 222, 27, 26, 223, 224, 76, 225, 78, 79, 80, 226, 227, 228, 84, 85, 86, 87, 613, 614, 615, 635, 636, 637] (by decide +kernel) (by decide +kernel)
set_option maxRecDepth 20000 in
theorem gL_law_X4_wordsFromSlip : GoodIn wsL_law (wsV RL 91 RX4 yX4_wordsFromSlip wsX4_wordsFromSlip) := goodIn_app (goodIn_of _ (by decide +kernel)) ggL_law_X4_wordsFromSlip
set_option maxRecDepth 20000 in
theorem ggL_law_X5_wordsFromSlip : GoodIn wsL_law wsX5_wordsFromSlip := goodIn_r _ [232, 174, 44, 93, 179, 180, 181, 5, 182, 46, 45, 114, 115, 116, 117, 101, 616, 617, 618, 619, 620, 621, 622, 623, 624, 625, 626, 627, 628, 629, 630, 631, 632, 633, 634] (by decide +kernel) (by decide +kernel)
set_option maxRecDepth 20000 in
theorem gL_law_X5_wordsFromSlip : GoodIn wsL_law (wsV RL 94 RX5 yX5_wordsFromSlip wsX5_wordsFromSlip) := goodIn_app (goodIn_of _ (by decide +kernel)) ggL_law_X5_wordsFromSlip
set_option maxRecDepth 20000 in
theorem ggL_law_X4_beginnings : GoodIn wsL_law wsX4_beginnings := goodIn_r _ [236, 16, 237, 238, 239, 15, 240, 27, 26, 241, 79, 76, 80, 242, 243, 244, 245, 246, 247, 248, 249, 250, 251, 252, 253, 254, 255, 78, 226, 227, 228, 84, 85, 86, 87, 613, 614, 615, 635, 636, 637] (by decide +kernel) (by decide +kernel)
set_option maxRecDepth 20000 in
theorem gL_law_X4_beginnings : GoodIn wsL_law (wsV RL 95 RX4 yX4_beginnings wsX4_beginnings) := goodIn_app (goodIn_of _ (by decide +kernel)) ggL_law_X4_beginnings
set_option maxRecDepth 20000 in
theorem ggL_law_X5_beginnings : GoodIn wsL_law wsX5_beginnings := goodIn_r _ [259, 174, 46, 260, 261, 262, 5, 263, 45, 114, 115, 116, 117, 101, 616, 617, 618, 619, 620, 621, 622, 623, 624, 625, 626, 627, 628, 629, 630, 631, 632, 633, 634] (by decide +kernel) (by decide +kernel)
set_option maxRecDepth 20000 in
theorem gL_law_X5_beginnings : GoodIn wsL_law (wsV RL 98 RX5 yX5_beginnings wsX5_beginnings) := goodIn_app (goodIn_of _ (by decide +kernel)) ggL_law_X5_beginnings
set_option maxRecDepth 20000 in
theorem ggL_law_L_copyWord : GoodIn wsL_law wsL_copyWord := goodIn_ca (goodIn_r _ [266, 129, 267, 268, 269, 2, 270, 134, 135, 16, 21, 271, 272, 273, 15, 274, 27, 26, 88, 79, 76, 80, 613, 614, 615, 635, 636, 637] (by decide +kernel) (by decide +kernel)) (goodIn_sub (fun _ h => List.mem_append_right _ h) (by decide +kernel))
set_option maxRecDepth 20000 in
theorem gL_law_L_copyWord : GoodIn wsL_law (va_wsS RL 99 yL_copyWord wsL_copyWord) := goodIn_app (goodIn_of _ (by decide +kernel)) ggL_law_L_copyWord
set_option maxRecDepth 20000 in
theorem ggL_law_X5_copyWord : GoodIn wsL_law wsX5_copyWord := goodIn_r _ [278, 174, 46, 93, 44, 45, 143, 144, 145, 5, 146, 101, 279, 280, 281, 282, 616, 617, 618, 619, 620, 621, 622, 623, 624, 625, 626, 627, 628, 629, 630, 631, 632, 633, 634] (by decide +kernel) (by decide +kernel)
set_option maxRecDepth 20000 in
theorem gL_law_X5_copyWord : GoodIn wsL_law (wsV RL 101 RX5 yX5_copyWord wsX5_copyWord) := goodIn_app (goodIn_of _ (by decide +kernel)) ggL_law_X5_copyWord
set_option maxRecDepth 20000 in
theorem ggL_law_L_setLeastLength : GoodIn wsL_law wsL_setLeastLength := goodIn_ca (goodIn_r _ [285, 61, 286, 287, 288, 2, 289, 67, 68, 16, 290, 291, 292, 15, 293, 28, 613, 614, 615, 635, 636, 637] (by decide +kernel) (by decide +kernel)) (goodIn_sub (fun _ h => List.mem_append_left _ (List.mem_append_left _ (List.mem_append_right _ h))) (by decide +kernel))
set_option maxRecDepth 20000 in
theorem gL_law_L_setLeastLength : GoodIn wsL_law (va_wsS RL 102 yL_setLeastLength wsL_setLeastLength) := goodIn_app (goodIn_of _ (by decide +kernel)) ggL_law_L_setLeastLength
set_option maxRecDepth 20000 in
theorem ggL_law_X5_setLeastLength : GoodIn wsL_law wsX5_setLeastLength := goodIn_r _ [297, 47, 143, 144, 145, 5, 146, 101, 616, 617, 618, 619, 620, 621, 622, 623, 624, 625, 626, 627, 628, 629, 630, 631, 632, 633, 634] (by decide +kernel) (by decide +kernel)
set_option maxRecDepth 20000 in
theorem gL_law_X5_setLeastLength : GoodIn wsL_law (wsV RL 104 RX5 yX5_setLeastLength wsX5_setLeastLength) := goodIn_app (goodIn_of _ (by decide +kernel)) ggL_law_X5_setLeastLength
set_option maxRecDepth 20000 in
theorem ggL_law_L_start : GoodIn wsL_law wsL_start := goodIn_ca (goodIn_r _ [300, 61, 301, 302, 303, 2, 304, 67, 68, 20, 305, 306, 307, 19, 308, 34, 35, 36, 37, 38, 39, 613, 614, 615, 638, 639, 640, 641, 642, 643] (by decide +kernel) (by decide +kernel)) (goodIn_sub (fun _ h => List.mem_append_left _ (List.mem_append_left _ (List.mem_append_right _ h))) (by decide +kernel))
set_option maxRecDepth 20000 in
theorem gL_law_L_start : GoodIn wsL_law (va_wsS RL 105 yL_start wsL_start) := goodIn_app (goodIn_of _ (by decide +kernel)) ggL_law_L_start
set_option maxRecDepth 20000 in
theorem ggL_law_X5_start : GoodIn wsL_law wsX5_start := goodIn_r _ [312, 313, 48, 314, 49, 315, 143, 144, 145, 5, 146, 101, 616, 617, 618, 619, 620, 621, 622, 623, 624, 625, 626, 627, 628, 629, 630, 631, 632, 633, 634] (by decide +kernel) (by decide +kernel)
set_option maxRecDepth 20000 in
theorem gL_law_X5_start : GoodIn wsL_law (wsV RL 108 RX5 yX5_start wsX5_start) := goodIn_app (goodIn_of _ (by decide +kernel)) ggL_law_X5_start
set_option maxRecDepth 20000 in
theorem ggL_law_L_play : GoodIn wsL_law wsL_play := goodIn_ca (goodIn_ca (goodIn_r _ [318, 61, 62, 319, 320, 321, 2, 322, 67, 68, 69, 70, 20, 16, 71, 72, 73, 323, 324, 325, 19, 326, 36, 327, 328, 329, 330, 39, 74, 75, 76, 77, 78, 79, 80, 331, 332, 333, 334, 37, 335, 82, 83, 84, 85, 86, 87, 336, 337, 338, 15, 339, 340, 341, 342, 343, 28, 241, 158, 159, 160, 161, 162, 163, 164, 165, 27, 26, 344, 345, 346, 347, 34, 38, 348, 349, 350, 351, 35, 352, 353, 354, 355, 356, 357, 358, 359, 360, 361, 362, 363, 364, 365, 366, 367, 613, 614, 615, 638, 639, 640, 641, 642, 643, 635, 636, 637] (by decide +kernel) (by decide +kernel)) (goodIn_sub (fun _ h => List.mem_append_left _ (List.mem_append_left _ (List.mem_append_right _ h))) (by decide +kernel))) (goodIn_sub (fun _ h => List.mem_append_left _ (List.mem_append_right _ h)) (by decide +kernel))
set_option maxRecDepth 20000 in
theorem gL_law_L_play : GoodIn wsL_law (va_wsS RL 109 yL_play wsL_play) := goodIn_app (goodIn_of _ (by decide +kernel)) ggL_law_L_play
set_option maxRecDepth 20000 in
theorem ggL_law_X5_play : GoodIn wsL_law wsX5_play := goodIn_r _ [371, 315, 50, 314, 372, 94, 95, 5, 96, 373, 374, 375, 376, 313, 49, 97, 98, 99, 100, 101, 377, 378, 379, 380, 174, 46, 381, 382, 383, 384, 47, 179, 180, 181, 182, 45, 385, 386, 387, 388, 48, 389, 390, 391, 392, 616, 617, 618, 619, 620, 621, 622, 623, 624, 625, 626, 627, 628, 629, 630, 631, 632, 633, 634] (by decide +kernel) (by decide +kernel)
set_option maxRecDepth 20000 in
theorem gL_law_X5_play : GoodIn wsL_law (wsV RL 111 RX5 yX5_play wsX5_play) := goodIn_app (goodIn_of _ (by decide +kernel)) ggL_law_X5_play
set_option maxRecDepth 20000 in
theorem ggL_law_L_challenge : GoodIn wsL_law wsL_challenge := goodIn_ca (goodIn_r _ [395, 62, 396, 397, 398, 2, 399, 69, 70, 20, 16, 323, 324, 325, 19, 326, 36, 327, 328, 329, 330, 39, 400, 401, 402, 403, 37, 404, 405, 406, 15, 407, 27, 26, 340, 341, 342, 343, 28, 241, 79, 76, 80, 223, 224, 225, 78, 226, 227, 228, 84, 85, 86, 87, 344, 345, 346, 347, 34, 38, 348, 349, 350, 351, 35, 352, 353, 354, 355, 356, 357, 358, 359, 360, 361, 362, 363, 364, 365, 366, 367, 613, 614, 615, 638, 639, 640, 641, 642, 643, 635, 636, 637] (by decide +kernel) (by decide +kernel)) (goodIn_sub (fun _ h => List.mem_append_left _ (List.mem_append_right _ h)) (by decide +kernel))
set_option maxRecDepth 20000 in
theorem gL_law_L_challenge : GoodIn wsL_law (va_wsS RL 112 yL_challenge wsL_challenge) := goodIn_app (goodIn_of _ (by decide +kernel)) ggL_law_L_challenge
set_option maxRecDepth 20000 in
theorem ggL_law_X5_challenge : GoodIn wsL_law wsX5_challenge := goodIn_r _ [411, 315, 314, 372, 373, 374, 375, 5, 376, 313, 49, 143, 144, 145, 146, 101, 377, 378, 379, 380, 174, 50, 46, 381, 382, 383, 384, 47, 179, 180, 181, 182, 45, 385, 386, 387, 388, 48, 389, 390, 391, 392, 616, 617, 618, 619, 620, 621, 622, 623, 624, 625, 626, 627, 628, 629, 630, 631, 632, 633, 634] (by decide +kernel) (by decide +kernel)
set_option maxRecDepth 20000 in
theorem gL_law_X5_challenge : GoodIn wsL_law (wsV RL 114 RX5 yX5_challenge wsX5_challenge) := goodIn_app (goodIn_of _ (by decide +kernel)) ggL_law_X5_challenge
set_option maxRecDepth 20000 in
theorem ggL_law_X4_turn : GoodIn wsL_law wsX4_turn := goodIn_r _ [415, 20, 416, 417, 418, 19, 419, 36, 613, 614, 615, 638, 639, 640, 641, 642, 643] (by decide +kernel) (by decide +kernel)
set_option maxRecDepth 20000 in
theorem gL_law_X4_turn : GoodIn wsL_law (wsV RL 115 RX4 yX4_turn wsX4_turn) := goodIn_app (goodIn_of _ (by decide +kernel)) ggL_law_X4_turn
set_option maxRecDepth 20000 in
theorem ggL_law_X5_turn : GoodIn wsL_law wsX5_turn := goodIn_r _ [423, 314, 373, 374, 375, 5, 376, 313, 49, 114, 115, 116, 117, 101, 616, 617, 618, 619, 620, 621, 622, 623, 624, 625, 626, 627, 628, 629, 630, 631, 632, 633, 634] (by decide +kernel) (by decide +kernel)
set_option maxRecDepth 20000 in
theorem gL_law_X5_turn : GoodIn wsL_law (wsV RL 118 RX5 yX5_turn wsX5_turn) := goodIn_app (goodIn_of _ (by decide +kernel)) ggL_law_X5_turn
set_option maxRecDepth 20000 in
theorem ggL_law_X4_winner : GoodIn wsL_law wsX4_winner := goodIn_r _ [427, 20, 428, 429, 430, 19, 431, 38, 613, 614, 615, 638, 639, 640, 641, 642, 643] (by decide +kernel) (by decide +kernel)
set_option maxRecDepth 20000 in
theorem gL_law_X4_winner : GoodIn wsL_law (wsV RL 119 RX4 yX4_winner wsX4_winner) := goodIn_app (goodIn_of _ (by decide +kernel)) ggL_law_X4_winner
set_option maxRecDepth 20000 in
theorem ggL_law_X5_winner : GoodIn wsL_law wsX5_winner := goodIn_r _ [435, 49, 114, 115, 116, 5, 117, 101, 616, 617, 618, 619, 620, 621, 622, 623, 624, 625, 626, 627, 628, 629, 630, 631, 632, 633, 634] (by decide +kernel) (by decide +kernel)
set_option maxRecDepth 20000 in
theorem gL_law_X5_winner : GoodIn wsL_law (wsV RL 122 RX5 yX5_winner wsX5_winner) := goodIn_app (goodIn_of _ (by decide +kernel)) ggL_law_X5_winner
set_option maxRecDepth 20000 in
theorem ggL_law_X4_players : GoodIn wsL_law wsX4_players := goodIn_r _ [439, 20, 440, 441, 442, 19, 443, 35, 613, 614, 615, 638, 639, 640, 641, 642, 643] (by decide +kernel) (by decide +kernel)
set_option maxRecDepth 20000 in
theorem gL_law_X4_players : GoodIn wsL_law (wsV RL 123 RX4 yX4_players wsX4_players) := goodIn_app (goodIn_of _ (by decide +kernel)) ggL_law_X4_players
set_option maxRecDepth 20000 in
theorem ggL_law_X5_players : GoodIn wsL_law wsX5_players := goodIn_r _ [447, 313, 114, 115, 116, 5, 117, 101, 616, 617, 618, 619, 620, 621, 622, 623, 624, 625, 626, 627, 628, 629, 630, 631, 632, 633, 634] (by decide +kernel) (by decide +kernel)
set_option maxRecDepth 20000 in
theorem gL_law_X5_players : GoodIn wsL_law (wsV RL 126 RX5 yX5_players wsX5_players) := goodIn_app (goodIn_of _ (by decide +kernel)) ggL_law_X5_players
set_option maxRecDepth 20000 in
theorem ggL_law_L_strikes : GoodIn wsL_law wsL_strikes := goodIn_ca (goodIn_r _ [450, 129, 451, 452, 453, 2, 454, 134, 135, 20, 455, 361, 362, 19, 363, 34, 348, 349, 350, 351, 35, 613, 614, 615, 638, 639, 640, 641, 642, 643] (by decide +kernel) (by decide +kernel)) (goodIn_sub (fun _ h => List.mem_append_right _ h) (by decide +kernel))
set_option maxRecDepth 20000 in
theorem gL_law_L_strikes : GoodIn wsL_law (va_wsS RL 127 yL_strikes wsL_strikes) := goodIn_app (goodIn_of _ (by decide +kernel)) ggL_law_L_strikes
set_option maxRecDepth 20000 in
theorem ggL_law_X5_strikes : GoodIn wsL_law wsX5_strikes := goodIn_r _ [459, 313, 48, 143, 144, 145, 5, 146, 101, 616, 617, 618, 619, 620, 621, 622, 623, 624, 625, 626, 627, 628, 629, 630, 631, 632, 633, 634] (by decide +kernel) (by decide +kernel)
set_option maxRecDepth 20000 in
theorem gL_law_X5_strikes : GoodIn wsL_law (wsV RL 129 RX5 yX5_strikes wsX5_strikes) := goodIn_app (goodIn_of _ (by decide +kernel)) ggL_law_X5_strikes
set_option maxRecDepth 20000 in
theorem ggL_law_X4_fragmentLength : GoodIn wsL_law wsX4_fragmentLength := goodIn_r _ [463, 20, 327, 328, 329, 19, 330, 39, 88, 79, 76, 80, 613, 614, 615, 638, 639, 640, 641, 642, 643] (by decide +kernel) (by decide +kernel)
set_option maxRecDepth 20000 in
theorem gL_law_X4_fragmentLength : GoodIn wsL_law (wsV RL 130 RX4 yX4_fragmentLength wsX4_fragmentLength) := goodIn_app (goodIn_of _ (by decide +kernel)) ggL_law_X4_fragmentLength
set_option maxRecDepth 20000 in
theorem ggL_law_X5_fragmentLength : GoodIn wsL_law wsX5_fragmentLength := goodIn_r _ [467, 315, 114, 115, 116, 5, 117, 101, 616, 617, 618, 619, 620, 621, 622, 623, 624, 625, 626, 627, 628, 629, 630, 631, 632, 633, 634] (by decide +kernel) (by decide +kernel)
set_option maxRecDepth 20000 in
theorem gL_law_X5_fragmentLength : GoodIn wsL_law (wsV RL 133 RX5 yX5_fragmentLength wsX5_fragmentLength) := goodIn_app (goodIn_of _ (by decide +kernel)) ggL_law_X5_fragmentLength
set_option maxRecDepth 20000 in
theorem ggL_law_L_fragmentAt : GoodIn wsL_law wsL_fragmentAt := goodIn_ca (goodIn_r _ [470, 129, 471, 472, 473, 2, 474, 134, 135, 20, 327, 328, 329, 19, 330, 39, 136, 137, 76, 138, 78, 79, 80, 613, 614, 615, 638, 639, 640, 641, 642, 643] (by decide +kernel) (by decide +kernel)) (goodIn_sub (fun _ h => List.mem_append_right _ h) (by decide +kernel))
set_option maxRecDepth 20000 in
theorem gL_law_L_fragmentAt : GoodIn wsL_law (va_wsS RL 134 yL_fragmentAt wsL_fragmentAt) := goodIn_app (goodIn_of _ (by decide +kernel)) ggL_law_L_fragmentAt
set_option maxRecDepth 20000 in
theorem ggL_law_X5_fragmentAt : GoodIn wsL_law wsX5_fragmentAt := goodIn_r _ [478, 315, 50, 143, 144, 145, 5, 146, 101, 616, 617, 618, 619, 620, 621, 622, 623, 624, 625, 626, 627, 628, 629, 630, 631, 632, 633, 634] (by decide +kernel) (by decide +kernel)
set_option maxRecDepth 20000 in
theorem gL_law_X5_fragmentAt : GoodIn wsL_law (wsV RL 136 RX5 yX5_fragmentAt wsX5_fragmentAt) := goodIn_app (goodIn_of _ (by decide +kernel)) ggL_law_X5_fragmentAt
set_option maxRecDepth 20000 in
theorem ggL_law_X4_openLetters : GoodIn wsL_law wsX4_openLetters := goodIn_r _ [482, 16, 20, 327, 328, 329, 19, 330, 39, 483, 484, 485, 486, 487, 167, 168, 15, 169, 27, 488, 272, 273, 274, 26, 489, 490, 491, 492, 341, 342, 343, 28, 241, 79, 76, 80, 493, 494, 495, 496, 224, 225, 78, 226, 227, 228, 84, 85, 86, 87, 497, 498, 137, 138, 613, 614, 615, 638, 639, 640, 641, 642, 643, 635, 636, 637] (by decide +kernel) (by decide +kernel)
set_option maxRecDepth 20000 in
theorem gL_law_X4_openLetters : GoodIn wsL_law (wsV RL 137 RX4 yX4_openLetters wsX4_openLetters) := goodIn_app (goodIn_of _ (by decide +kernel)) ggL_law_X4_openLetters
set_option maxRecDepth 20000 in
theorem ggL_law_X5_openLetters : GoodIn wsL_law wsX5_openLetters := goodIn_r _ [502, 56, 503, 504, 505, 5, 506, 101, 315, 174, 46, 50, 381, 382, 383, 384, 47, 507, 508, 509, 510, 55, 45, 52, 53, 54, 260, 261, 262, 263, 511, 512, 513, 514, 515, 516, 517, 518, 179, 180, 181, 182, 616, 617, 618, 619, 620, 621, 622, 623, 624, 625, 626, 627, 628, 629, 630, 631, 632, 633, 634] (by decide +kernel) (by decide +kernel)
set_option maxRecDepth 20000 in
theorem gL_law_X5_openLetters : GoodIn wsL_law (wsV RL 140 RX5 yX5_openLetters wsX5_openLetters) := goodIn_app (goodIn_of _ (by decide +kernel)) ggL_law_X5_openLetters
set_option maxRecDepth 20000 in
theorem ggL_law_X4_winningLetters : GoodIn wsL_law wsX4_winningLetters := goodIn_r _ [522, 16, 20, 327, 328, 329, 19, 330, 39, 523, 524, 485, 525, 526, 484, 486, 487, 167, 168, 15, 169, 27, 488, 272, 273, 274, 26, 489, 490, 491, 492, 341, 342, 343, 28, 241, 79, 76, 80, 493, 494, 495, 496, 224, 225, 78, 226, 227, 228, 84, 85, 86, 87, 497, 498, 137, 138, 527, 528, 529, 530, 531, 532, 533, 82, 83, 534, 337, 338, 339, 340, 158, 159, 160, 161, 162, 163, 164, 165, 535, 536, 537, 538, 247, 248, 249, 539, 75, 77, 613, 614, 615, 638, 639, 640, 641, 642, 643, 635, 636, 637] (by decide +kernel) (by decide +kernel)
set_option maxRecDepth 20000 in
theorem gL_law_X4_winningLetters : GoodIn wsL_law (wsV RL 141 RX4 yX4_winningLetters wsX4_winningLetters) := goodIn_app (goodIn_of _ (by decide +kernel)) ggL_law_X4_winningLetters
set_option maxRecDepth 20000 in
theorem ggL_law_X5_winningLetters : GoodIn wsL_law wsX5_winningLetters := goodIn_r _ [543, 55, 503, 504, 505, 5, 506, 101, 315, 174, 46, 50, 381, 382, 383, 384, 47, 507, 508, 509, 510, 56, 45, 52, 53, 54, 260, 261, 262, 263, 511, 512, 513, 514, 515, 516, 517, 518, 179, 180, 181, 182, 616, 617, 618, 619, 620, 621, 622, 623, 624, 625, 626, 627, 628, 629, 630, 631, 632, 633, 634] (by decide +kernel) (by decide +kernel)
set_option maxRecDepth 20000 in
theorem gL_law_X5_winningLetters : GoodIn wsL_law (wsV RL 144 RX5 yX5_winningLetters wsX5_winningLetters) := goodIn_app (goodIn_of _ (by decide +kernel)) ggL_law_X5_winningLetters
set_option maxRecDepth 20000 in
theorem ggL_law_X4_canWin : GoodIn wsL_law wsX4_canWin := goodIn_r _ [547, 16, 20, 327, 328, 329, 19, 330, 39, 548, 549, 485, 550, 535, 536, 537, 538, 247, 248, 249, 539, 75, 76, 77, 78, 79, 80, 526, 484, 486, 487, 167, 168, 15, 169, 27, 488, 272, 273, 274, 26, 489, 490, 491, 492, 341, 342, 343, 28, 241, 493, 494, 495, 496, 224, 225, 226, 227, 228, 84, 85, 86, 87, 497, 498, 137, 138, 527, 528, 529, 530, 531, 532, 533, 82, 83, 534, 337, 338, 339, 340, 158, 159, 160, 161, 162, 163, 164, 165, 613, 614, 615, 638, 639, 640, 641, 642, 643, 635, 636, 637] (by decide +kernel) (by decide +kernel)
set_option maxRecDepth 20000 in
theorem gL_law_X4_canWin : GoodIn wsL_law (wsV RL 145 RX4 yX4_canWin wsX4_canWin) := goodIn_app (goodIn_of _ (by decide +kernel)) ggL_law_X4_canWin
set_option maxRecDepth 20000 in
theorem ggL_law_X5_canWin : GoodIn wsL_law wsX5_canWin := goodIn_r _ [554, 52, 503, 504, 505, 5, 506, 101, 315, 174, 46, 50, 381, 382, 383, 384, 47, 507, 508, 509, 510, 56, 55, 45, 53, 54, 260, 261, 262, 263, 511, 512, 513, 514, 515, 516, 517, 518, 179, 180, 181, 182, 616, 617, 618, 619, 620, 621, 622, 623, 624, 625, 626, 627, 628, 629, 630, 631, 632, 633, 634] (by decide +kernel) (by decide +kernel)
set_option maxRecDepth 20000 in
theorem gL_law_X5_canWin : GoodIn wsL_law (wsV RL 148 RX5 yX5_canWin wsX5_canWin) := goodIn_app (goodIn_of _ (by decide +kernel)) ggL_law_X5_canWin
set_option maxRecDepth 20000 in
theorem ggL_law_X4_end : GoodIn wsL_law wsX4_end := goodIn_r _ [558, 16, 20, 327, 328, 329, 19, 330, 39, 559, 560, 485, 561, 562, 563, 248, 564, 535, 536, 537, 538, 247, 249, 539, 75, 76, 77, 78, 79, 80, 526, 484, 486, 487, 167, 168, 15, 169, 27, 488, 272, 273, 274, 26, 489, 490, 491, 492, 341, 342, 343, 28, 241, 493, 494, 495, 496, 224, 225, 226, 227, 228, 84, 85, 86, 87, 497, 498, 137, 138, 527, 528, 529, 530, 531, 532, 533, 82, 83, 534, 337, 338, 339, 340, 158, 159, 160, 161, 162, 163, 164, 165, 613, 614, 615, 638, 639, 640, 641, 642, 643, 635, 636, 637] (by decide +kernel) (by decide +kernel)
set_option maxRecDepth 20000 in
theorem gL_law_X4_end : GoodIn wsL_law (wsV RL 149 RX4 yX4_end wsX4_end) := goodIn_app (goodIn_of _ (by decide +kernel)) ggL_law_X4_end
set_option maxRecDepth 20000 in
theorem ggL_law_X5_end : GoodIn wsL_law wsX5_end := goodIn_r _ [568, 53, 503, 504, 505, 5, 506, 101, 315, 174, 46, 50, 381, 382, 383, 384, 47, 507, 508, 509, 510, 56, 55, 45, 52, 54, 260, 261, 262, 263, 511, 512, 513, 514, 515, 516, 517, 518, 179, 180, 181, 182, 616, 617, 618, 619, 620, 621, 622, 623, 624, 625, 626, 627, 628, 629, 630, 631, 632, 633, 634] (by decide +kernel) (by decide +kernel)
set_option maxRecDepth 20000 in
theorem gL_law_X5_end : GoodIn wsL_law (wsV RL 152 RX5 yX5_end wsX5_end) := goodIn_app (goodIn_of _ (by decide +kernel)) ggL_law_X5_end
set_option maxRecDepth 20000 in
theorem ggL_law_X4_bestLetter : GoodIn wsL_law wsX4_bestLetter := goodIn_r _ [572, 16, 20, 327, 328, 329, 19, 330, 39, 573, 574, 485, 575, 526, 484, 486, 487, 167, 168, 15, 169, 27, 488, 272, 273, 274, 26, 489, 490, 491, 492, 341, 342, 343, 28, 241, 79, 76, 80, 493, 494, 495, 496, 224, 225, 78, 226, 227, 228, 84, 85, 86, 87, 497, 498, 137, 138, 535, 536, 537, 538, 247, 248, 249, 539, 75, 77, 527, 528, 529, 530, 531, 532, 533, 82, 83, 534, 337, 338, 339, 340, 158, 159, 160, 161, 162, 163, 164, 165, 613, 614, 615, 638, 639, 640, 641, 642, 643, 635, 636, 637] (by decide +kernel) (by decide +kernel)
set_option maxRecDepth 20000 in
theorem gL_law_X4_bestLetter : GoodIn wsL_law (wsV RL 153 RX4 yX4_bestLetter wsX4_bestLetter) := goodIn_app (goodIn_of _ (by decide +kernel)) ggL_law_X4_bestLetter
set_option maxRecDepth 20000 in
theorem ggL_law_X5_bestLetter : GoodIn wsL_law wsX5_bestLetter := goodIn_r _ [579, 54, 503, 504, 505, 5, 506, 101, 315, 174, 46, 50, 381, 382, 383, 384, 47, 507, 508, 509, 510, 56, 55, 45, 52, 53, 260, 261, 262, 263, 511, 512, 513, 514, 515, 516, 517, 518, 179, 180, 181, 182, 616, 617, 618, 619, 620, 621, 622, 623, 624, 625, 626, 627, 628, 629, 630, 631, 632, 633, 634] (by decide +kernel) (by decide +kernel)
set_option maxRecDepth 20000 in
theorem gL_law_X5_bestLetter : GoodIn wsL_law (wsV RL 156 RX5 yX5_bestLetter wsX5_bestLetter) := goodIn_app (goodIn_of _ (by decide +kernel)) ggL_law_X5_bestLetter
set_option maxRecDepth 20000 in
theorem ggL_law_X4_waysToPlay : GoodIn wsL_law wsX4_waysToPlay := goodIn_r _ [583, 16, 20, 327, 328, 329, 19, 330, 39, 584, 585, 485, 586, 487, 167, 168, 15, 169, 27, 488, 272, 273, 274, 26, 587, 588, 589, 489, 490, 491, 492, 341, 342, 343, 28, 241, 79, 76, 80, 493, 494, 495, 496, 224, 225, 78, 226, 227, 228, 84, 85, 86, 87, 497, 590, 534, 337, 338, 339, 340, 158, 159, 160, 161, 162, 163, 164, 165, 613, 614, 615, 638, 639, 640, 641, 642, 643, 635, 636, 637] (by decide +kernel) (by decide +kernel)
set_option maxRecDepth 20000 in
theorem gL_law_X4_waysToPlay : GoodIn wsL_law (wsV RL 157 RX4 yX4_waysToPlay wsX4_waysToPlay) := goodIn_app (goodIn_of _ (by decide +kernel)) ggL_law_X4_waysToPlay
set_option maxRecDepth 20000 in
theorem ggL_law_X5_waysToPlay : GoodIn wsL_law wsX5_waysToPlay := goodIn_r _ [594, 174, 595, 596, 597, 5, 598, 46, 315, 50, 381, 382, 383, 384, 47, 179, 180, 181, 182, 45, 511, 512, 513, 514, 260, 261, 262, 263, 114, 115, 116, 117, 101, 616, 617, 618, 619, 620, 621, 622, 623, 624, 625, 626, 627, 628, 629, 630, 631, 632, 633, 634] (by decide +kernel) (by decide +kernel)
set_option maxRecDepth 20000 in
theorem gL_law_X5_waysToPlay : GoodIn wsL_law (wsV RL 160 RX5 yX5_waysToPlay wsX5_waysToPlay) := goodIn_app (goodIn_of _ (by decide +kernel)) ggL_law_X5_waysToPlay
set_option maxRecDepth 20000 in
theorem ggL_law_X4_waysToWin : GoodIn wsL_law wsX4_waysToWin := goodIn_r _ [602, 16, 20, 327, 328, 329, 19, 330, 39, 603, 604, 485, 605, 487, 167, 168, 15, 169, 27, 488, 272, 273, 274, 26, 587, 588, 589, 489, 490, 491, 492, 341, 342, 343, 28, 241, 79, 76, 80, 493, 494, 495, 496, 224, 225, 78, 226, 227, 228, 84, 85, 86, 87, 497, 590, 534, 337, 338, 339, 340, 158, 159, 160, 161, 162, 163, 164, 165, 606, 607, 608, 613, 614, 615, 638, 639, 640, 641, 642, 643, 635, 636, 637] (by decide +kernel) (by decide +kernel)
set_option maxRecDepth 20000 in
theorem gL_law_X4_waysToWin : GoodIn wsL_law (wsV RL 161 RX4 yX4_waysToWin wsX4_waysToWin) := goodIn_app (goodIn_of _ (by decide +kernel)) ggL_law_X4_waysToWin
set_option maxRecDepth 20000 in
theorem ggL_law_X5_waysToWin : GoodIn wsL_law wsX5_waysToWin := goodIn_r _ [612, 174, 46, 315, 595, 596, 597, 5, 598, 50, 381, 382, 383, 384, 47, 179, 180, 181, 182, 45, 511, 512, 513, 514, 260, 261, 262, 263, 114, 115, 116, 117, 101, 616, 617, 618, 619, 620, 621, 622, 623, 624, 625, 626, 627, 628, 629, 630, 631, 632, 633, 634] (by decide +kernel) (by decide +kernel)
set_option maxRecDepth 20000 in
theorem gL_law_X5_waysToWin : GoodIn wsL_law (wsV RL 164 RX5 yX5_waysToWin wsX5_waysToWin) := goodIn_app (goodIn_of _ (by decide +kernel)) ggL_law_X5_waysToWin
theorem dL_law_0 : decode cL_law 0 = .ok (.new 8, 3) := by decide +kernel
theorem dL_law_3 : decode cL_law 3 = .ok (.dup, 1) := by decide +kernel
theorem dL_law_4 : decode cL_law 4 = .ok (.invokespecial 51, 3) := by decide +kernel
theorem dL_law_7 : decode cL_law 7 = .ok (.astore_n 1, 1) := by decide +kernel
theorem dL_law_8 : decode cL_law 8 = .ok (.new 52, 3) := by decide +kernel
theorem dL_law_11 : decode cL_law 11 = .ok (.dup, 1) := by decide +kernel
theorem dL_law_12 : decode cL_law 12 = .ok (.invokespecial 54, 3) := by decide +kernel
theorem dL_law_15 : decode cL_law 15 = .ok (.astore_n 2, 1) := by decide +kernel
theorem dL_law_16 : decode cL_law 16 = .ok (.iconst 1, 1) := by decide +kernel
theorem dL_law_17 : decode cL_law 17 = .ok (.newarray .long, 2) := by decide +kernel
theorem dL_law_19 : decode cL_law 19 = .ok (.astore_n 3, 1) := by decide +kernel
theorem dL_law_20 : decode cL_law 20 = .ok (.iconst 0, 1) := by decide +kernel
theorem dL_law_21 : decode cL_law 21 = .ok (.istore 4, 2) := by decide +kernel
theorem dL_law_23 : decode cL_law 23 = .ok (.iload 4, 2) := by decide +kernel
theorem dL_law_25 : decode cL_law 25 = .ok (.aload_n 0, 1) := by decide +kernel
theorem dL_law_26 : decode cL_law 26 = .ok (.arraylength, 1) := by decide +kernel
theorem dL_law_27 : decode cL_law 27 = .ok (.iconst 2, 1) := by decide +kernel
theorem dL_law_28 : decode cL_law 28 = .ok (.isub, 1) := by decide +kernel
theorem dL_law_29 : decode cL_law 29 = .ok (.if_icmp .gt 922, 3) := by decide +kernel
theorem dL_law_32 : decode cL_law 32 = .ok (.aload_n 0, 1) := by decide +kernel
theorem dL_law_33 : decode cL_law 33 = .ok (.iload 4, 2) := by decide +kernel
theorem dL_law_35 : decode cL_law 35 = .ok (.iaload, 1) := by decide +kernel
theorem dL_law_36 : decode cL_law 36 = .ok (.bipush 31, 2) := by decide +kernel
theorem dL_law_38 : decode cL_law 38 = .ok (.iand, 1) := by decide +kernel
theorem dL_law_39 : decode cL_law 39 = .ok (.tableswitch 906 0 27 #[125, 181, 194, 207, 263, 307, 351, 364, 377, 390, 403, 459, 515, 551, 607, 651, 664, 677, 690, 746, 759, 815, 828, 841, 854, 867, 880, 893], 125) := by decide +kernel
theorem dL_law_164 : decode cL_law 164 = .ok (.aload_n 1, 1) := by decide +kernel
theorem dL_law_165 : decode cL_law 165 = .ok (.aload_n 0, 1) := by decide +kernel
theorem dL_law_166 : decode cL_law 166 = .ok (.iload 4, 2) := by decide +kernel
theorem dL_law_168 : decode cL_law 168 = .ok (.iconst 1, 1) := by decide +kernel
theorem dL_law_169 : decode cL_law 169 = .ok (.iadd, 1) := by decide +kernel
theorem dL_law_170 : decode cL_law 170 = .ok (.iaload, 1) := by decide +kernel
theorem dL_law_171 : decode cL_law 171 = .ok (.aload_n 3, 1) := by decide +kernel
theorem dL_law_172 : decode cL_law 172 = .ok (.invokestatic 55, 3) := by decide +kernel
theorem dL_law_175 : decode cL_law 175 = .ok (.istore 5, 2) := by decide +kernel
theorem dL_law_177 : decode cL_law 177 = .ok (.aload_n 2, 1) := by decide +kernel
theorem dL_law_178 : decode cL_law 178 = .ok (.aload_n 0, 1) := by decide +kernel
theorem dL_law_179 : decode cL_law 179 = .ok (.iload 4, 2) := by decide +kernel
theorem dL_law_181 : decode cL_law 181 = .ok (.iconst 1, 1) := by decide +kernel
theorem dL_law_182 : decode cL_law 182 = .ok (.iadd, 1) := by decide +kernel
theorem dL_law_183 : decode cL_law 183 = .ok (.iaload, 1) := by decide +kernel
theorem dL_law_184 : decode cL_law 184 = .ok (.invokevirtual 60, 3) := by decide +kernel
theorem dL_law_187 : decode cL_law 187 = .ok (.istore 6, 2) := by decide +kernel
theorem dL_law_189 : decode cL_law 189 = .ok (.aload_n 2, 1) := by decide +kernel
theorem dL_law_190 : decode cL_law 190 = .ok (.invokevirtual 61, 3) := by decide +kernel
theorem dL_law_193 : decode cL_law 193 = .ok (.iload 5, 2) := by decide +kernel
theorem dL_law_195 : decode cL_law 195 = .ok (.if_icmp .eq 5, 3) := by decide +kernel
theorem dL_law_198 : decode cL_law 198 = .ok (.iconst 0, 1) := by decide +kernel
theorem dL_law_199 : decode cL_law 199 = .ok (.ireturn, 1) := by decide +kernel
theorem dL_law_200 : decode cL_law 200 = .ok (.iload 5, 2) := by decide +kernel
theorem dL_law_202 : decode cL_law 202 = .ok (.ifCond .ne 15, 3) := by decide +kernel
theorem dL_law_205 : decode cL_law 205 = .ok (.aload_n 3, 1) := by decide +kernel
theorem dL_law_206 : decode cL_law 206 = .ok (.iconst 0, 1) := by decide +kernel
theorem dL_law_207 : decode cL_law 207 = .ok (.laload, 1) := by decide +kernel
theorem dL_law_208 : decode cL_law 208 = .ok (.iload 6, 2) := by decide +kernel
theorem dL_law_210 : decode cL_law 210 = .ok (.i2l, 1) := by decide +kernel
theorem dL_law_211 : decode cL_law 211 = .ok (.lcmp, 1) := by decide +kernel
theorem dL_law_212 : decode cL_law 212 = .ok (.ifCond .eq 5, 3) := by decide +kernel
theorem dL_law_215 : decode cL_law 215 = .ok (.iconst 0, 1) := by decide +kernel
theorem dL_law_216 : decode cL_law 216 = .ok (.ireturn, 1) := by decide +kernel
theorem dL_law_217 : decode cL_law 217 = .ok (.goto 728, 3) := by decide +kernel
theorem dL_law_220 : decode cL_law 220 = .ok (.aload_n 1, 1) := by decide +kernel
theorem dL_law_221 : decode cL_law 221 = .ok (.invokevirtual 64, 3) := by decide +kernel
theorem dL_law_224 : decode cL_law 224 = .ok (.aload_n 2, 1) := by decide +kernel
theorem dL_law_225 : decode cL_law 225 = .ok (.invokevirtual 67, 3) := by decide +kernel
theorem dL_law_228 : decode cL_law 228 = .ok (.if_icmp .eq 717, 3) := by decide +kernel
theorem dL_law_231 : decode cL_law 231 = .ok (.iconst 0, 1) := by decide +kernel
theorem dL_law_232 : decode cL_law 232 = .ok (.ireturn, 1) := by decide +kernel
theorem dL_law_233 : decode cL_law 233 = .ok (.aload_n 1, 1) := by decide +kernel
theorem dL_law_234 : decode cL_law 234 = .ok (.invokevirtual 68, 3) := by decide +kernel
theorem dL_law_237 : decode cL_law 237 = .ok (.aload_n 2, 1) := by decide +kernel
theorem dL_law_238 : decode cL_law 238 = .ok (.invokevirtual 71, 3) := by decide +kernel
theorem dL_law_241 : decode cL_law 241 = .ok (.if_icmp .eq 704, 3) := by decide +kernel
theorem dL_law_244 : decode cL_law 244 = .ok (.iconst 0, 1) := by decide +kernel
theorem dL_law_245 : decode cL_law 245 = .ok (.ireturn, 1) := by decide +kernel
theorem dL_law_246 : decode cL_law 246 = .ok (.aload_n 1, 1) := by decide +kernel
theorem dL_law_247 : decode cL_law 247 = .ok (.aload_n 0, 1) := by decide +kernel
theorem dL_law_248 : decode cL_law 248 = .ok (.iload 4, 2) := by decide +kernel
theorem dL_law_250 : decode cL_law 250 = .ok (.iconst 1, 1) := by decide +kernel
theorem dL_law_251 : decode cL_law 251 = .ok (.iadd, 1) := by decide +kernel
theorem dL_law_252 : decode cL_law 252 = .ok (.iaload, 1) := by decide +kernel
theorem dL_law_253 : decode cL_law 253 = .ok (.aload_n 3, 1) := by decide +kernel
theorem dL_law_254 : decode cL_law 254 = .ok (.invokestatic 72, 3) := by decide +kernel
theorem dL_law_257 : decode cL_law 257 = .ok (.istore 5, 2) := by decide +kernel
theorem dL_law_259 : decode cL_law 259 = .ok (.aload_n 2, 1) := by decide +kernel
theorem dL_law_260 : decode cL_law 260 = .ok (.aload_n 0, 1) := by decide +kernel
theorem dL_law_261 : decode cL_law 261 = .ok (.iload 4, 2) := by decide +kernel
theorem dL_law_263 : decode cL_law 263 = .ok (.iconst 1, 1) := by decide +kernel
theorem dL_law_264 : decode cL_law 264 = .ok (.iadd, 1) := by decide +kernel
theorem dL_law_265 : decode cL_law 265 = .ok (.iaload, 1) := by decide +kernel
theorem dL_law_266 : decode cL_law 266 = .ok (.invokevirtual 74, 3) := by decide +kernel
theorem dL_law_269 : decode cL_law 269 = .ok (.istore 6, 2) := by decide +kernel
theorem dL_law_271 : decode cL_law 271 = .ok (.aload_n 2, 1) := by decide +kernel
theorem dL_law_272 : decode cL_law 272 = .ok (.invokevirtual 61, 3) := by decide +kernel
theorem dL_law_275 : decode cL_law 275 = .ok (.iload 5, 2) := by decide +kernel
theorem dL_law_277 : decode cL_law 277 = .ok (.if_icmp .eq 5, 3) := by decide +kernel
theorem dL_law_280 : decode cL_law 280 = .ok (.iconst 0, 1) := by decide +kernel
theorem dL_law_281 : decode cL_law 281 = .ok (.ireturn, 1) := by decide +kernel
theorem dL_law_282 : decode cL_law 282 = .ok (.iload 5, 2) := by decide +kernel
theorem dL_law_284 : decode cL_law 284 = .ok (.ifCond .ne 15, 3) := by decide +kernel
theorem dL_law_287 : decode cL_law 287 = .ok (.aload_n 3, 1) := by decide +kernel
theorem dL_law_288 : decode cL_law 288 = .ok (.iconst 0, 1) := by decide +kernel
theorem dL_law_289 : decode cL_law 289 = .ok (.laload, 1) := by decide +kernel
theorem dL_law_290 : decode cL_law 290 = .ok (.iload 6, 2) := by decide +kernel
theorem dL_law_292 : decode cL_law 292 = .ok (.i2l, 1) := by decide +kernel
theorem dL_law_293 : decode cL_law 293 = .ok (.lcmp, 1) := by decide +kernel
theorem dL_law_294 : decode cL_law 294 = .ok (.ifCond .eq 5, 3) := by decide +kernel
theorem dL_law_297 : decode cL_law 297 = .ok (.iconst 0, 1) := by decide +kernel
theorem dL_law_298 : decode cL_law 298 = .ok (.ireturn, 1) := by decide +kernel
theorem dL_law_299 : decode cL_law 299 = .ok (.goto 646, 3) := by decide +kernel
theorem dL_law_302 : decode cL_law 302 = .ok (.aload_n 1, 1) := by decide +kernel
theorem dL_law_303 : decode cL_law 303 = .ok (.aload_n 3, 1) := by decide +kernel
theorem dL_law_304 : decode cL_law 304 = .ok (.invokestatic 75, 3) := by decide +kernel
theorem dL_law_307 : decode cL_law 307 = .ok (.istore 5, 2) := by decide +kernel
theorem dL_law_309 : decode cL_law 309 = .ok (.aload_n 2, 1) := by decide +kernel
theorem dL_law_310 : decode cL_law 310 = .ok (.invokevirtual 78, 3) := by decide +kernel
theorem dL_law_313 : decode cL_law 313 = .ok (.istore 6, 2) := by decide +kernel
theorem dL_law_315 : decode cL_law 315 = .ok (.aload_n 2, 1) := by decide +kernel
theorem dL_law_316 : decode cL_law 316 = .ok (.invokevirtual 61, 3) := by decide +kernel
theorem dL_law_319 : decode cL_law 319 = .ok (.iload 5, 2) := by decide +kernel
theorem dL_law_321 : decode cL_law 321 = .ok (.if_icmp .eq 5, 3) := by decide +kernel
theorem dL_law_324 : decode cL_law 324 = .ok (.iconst 0, 1) := by decide +kernel
theorem dL_law_325 : decode cL_law 325 = .ok (.ireturn, 1) := by decide +kernel
theorem dL_law_326 : decode cL_law 326 = .ok (.iload 5, 2) := by decide +kernel
theorem dL_law_328 : decode cL_law 328 = .ok (.ifCond .ne 15, 3) := by decide +kernel
theorem dL_law_331 : decode cL_law 331 = .ok (.aload_n 3, 1) := by decide +kernel
theorem dL_law_332 : decode cL_law 332 = .ok (.iconst 0, 1) := by decide +kernel
theorem dL_law_333 : decode cL_law 333 = .ok (.laload, 1) := by decide +kernel
theorem dL_law_334 : decode cL_law 334 = .ok (.iload 6, 2) := by decide +kernel
theorem dL_law_336 : decode cL_law 336 = .ok (.i2l, 1) := by decide +kernel
theorem dL_law_337 : decode cL_law 337 = .ok (.lcmp, 1) := by decide +kernel
theorem dL_law_338 : decode cL_law 338 = .ok (.ifCond .eq 5, 3) := by decide +kernel
theorem dL_law_341 : decode cL_law 341 = .ok (.iconst 0, 1) := by decide +kernel
theorem dL_law_342 : decode cL_law 342 = .ok (.ireturn, 1) := by decide +kernel
theorem dL_law_343 : decode cL_law 343 = .ok (.goto 602, 3) := by decide +kernel
theorem dL_law_346 : decode cL_law 346 = .ok (.aload_n 1, 1) := by decide +kernel
theorem dL_law_347 : decode cL_law 347 = .ok (.aload_n 3, 1) := by decide +kernel
theorem dL_law_348 : decode cL_law 348 = .ok (.invokestatic 79, 3) := by decide +kernel
theorem dL_law_351 : decode cL_law 351 = .ok (.istore 5, 2) := by decide +kernel
theorem dL_law_353 : decode cL_law 353 = .ok (.aload_n 2, 1) := by decide +kernel
theorem dL_law_354 : decode cL_law 354 = .ok (.invokevirtual 81, 3) := by decide +kernel
theorem dL_law_357 : decode cL_law 357 = .ok (.istore 6, 2) := by decide +kernel
theorem dL_law_359 : decode cL_law 359 = .ok (.aload_n 2, 1) := by decide +kernel
theorem dL_law_360 : decode cL_law 360 = .ok (.invokevirtual 61, 3) := by decide +kernel
theorem dL_law_363 : decode cL_law 363 = .ok (.iload 5, 2) := by decide +kernel
theorem dL_law_365 : decode cL_law 365 = .ok (.if_icmp .eq 5, 3) := by decide +kernel
theorem dL_law_368 : decode cL_law 368 = .ok (.iconst 0, 1) := by decide +kernel
theorem dL_law_369 : decode cL_law 369 = .ok (.ireturn, 1) := by decide +kernel
theorem dL_law_370 : decode cL_law 370 = .ok (.iload 5, 2) := by decide +kernel
theorem dL_law_372 : decode cL_law 372 = .ok (.ifCond .ne 15, 3) := by decide +kernel
theorem dL_law_375 : decode cL_law 375 = .ok (.aload_n 3, 1) := by decide +kernel
theorem dL_law_376 : decode cL_law 376 = .ok (.iconst 0, 1) := by decide +kernel
theorem dL_law_377 : decode cL_law 377 = .ok (.laload, 1) := by decide +kernel
theorem dL_law_378 : decode cL_law 378 = .ok (.iload 6, 2) := by decide +kernel
theorem dL_law_380 : decode cL_law 380 = .ok (.i2l, 1) := by decide +kernel
theorem dL_law_381 : decode cL_law 381 = .ok (.lcmp, 1) := by decide +kernel
theorem dL_law_382 : decode cL_law 382 = .ok (.ifCond .eq 5, 3) := by decide +kernel
theorem dL_law_385 : decode cL_law 385 = .ok (.iconst 0, 1) := by decide +kernel
theorem dL_law_386 : decode cL_law 386 = .ok (.ireturn, 1) := by decide +kernel
theorem dL_law_387 : decode cL_law 387 = .ok (.goto 558, 3) := by decide +kernel
theorem dL_law_390 : decode cL_law 390 = .ok (.aload_n 1, 1) := by decide +kernel
theorem dL_law_391 : decode cL_law 391 = .ok (.invokevirtual 82, 3) := by decide +kernel
theorem dL_law_394 : decode cL_law 394 = .ok (.aload_n 2, 1) := by decide +kernel
theorem dL_law_395 : decode cL_law 395 = .ok (.invokevirtual 86, 3) := by decide +kernel
theorem dL_law_398 : decode cL_law 398 = .ok (.if_icmp .eq 547, 3) := by decide +kernel
theorem dL_law_401 : decode cL_law 401 = .ok (.iconst 0, 1) := by decide +kernel
theorem dL_law_402 : decode cL_law 402 = .ok (.ireturn, 1) := by decide +kernel
theorem dL_law_403 : decode cL_law 403 = .ok (.aload_n 1, 1) := by decide +kernel
theorem dL_law_404 : decode cL_law 404 = .ok (.invokevirtual 87, 3) := by decide +kernel
theorem dL_law_407 : decode cL_law 407 = .ok (.aload_n 2, 1) := by decide +kernel
theorem dL_law_408 : decode cL_law 408 = .ok (.invokevirtual 90, 3) := by decide +kernel
theorem dL_law_411 : decode cL_law 411 = .ok (.if_icmp .eq 534, 3) := by decide +kernel
theorem dL_law_414 : decode cL_law 414 = .ok (.iconst 0, 1) := by decide +kernel
theorem dL_law_415 : decode cL_law 415 = .ok (.ireturn, 1) := by decide +kernel
theorem dL_law_416 : decode cL_law 416 = .ok (.aload_n 1, 1) := by decide +kernel
theorem dL_law_417 : decode cL_law 417 = .ok (.invokevirtual 91, 3) := by decide +kernel
theorem dL_law_420 : decode cL_law 420 = .ok (.aload_n 2, 1) := by decide +kernel
theorem dL_law_421 : decode cL_law 421 = .ok (.invokevirtual 94, 3) := by decide +kernel
theorem dL_law_424 : decode cL_law 424 = .ok (.if_icmp .eq 521, 3) := by decide +kernel
theorem dL_law_427 : decode cL_law 427 = .ok (.iconst 0, 1) := by decide +kernel
theorem dL_law_428 : decode cL_law 428 = .ok (.ireturn, 1) := by decide +kernel
theorem dL_law_429 : decode cL_law 429 = .ok (.aload_n 1, 1) := by decide +kernel
theorem dL_law_430 : decode cL_law 430 = .ok (.invokevirtual 95, 3) := by decide +kernel
theorem dL_law_433 : decode cL_law 433 = .ok (.aload_n 2, 1) := by decide +kernel
theorem dL_law_434 : decode cL_law 434 = .ok (.invokevirtual 98, 3) := by decide +kernel
theorem dL_law_437 : decode cL_law 437 = .ok (.if_icmp .eq 508, 3) := by decide +kernel
theorem dL_law_440 : decode cL_law 440 = .ok (.iconst 0, 1) := by decide +kernel
theorem dL_law_441 : decode cL_law 441 = .ok (.ireturn, 1) := by decide +kernel
theorem dL_law_442 : decode cL_law 442 = .ok (.aload_n 1, 1) := by decide +kernel
theorem dL_law_443 : decode cL_law 443 = .ok (.aload_n 0, 1) := by decide +kernel
theorem dL_law_444 : decode cL_law 444 = .ok (.iload 4, 2) := by decide +kernel
theorem dL_law_446 : decode cL_law 446 = .ok (.iconst 1, 1) := by decide +kernel
theorem dL_law_447 : decode cL_law 447 = .ok (.iadd, 1) := by decide +kernel
theorem dL_law_448 : decode cL_law 448 = .ok (.iaload, 1) := by decide +kernel
theorem dL_law_449 : decode cL_law 449 = .ok (.aload_n 3, 1) := by decide +kernel
theorem dL_law_450 : decode cL_law 450 = .ok (.invokestatic 99, 3) := by decide +kernel
theorem dL_law_453 : decode cL_law 453 = .ok (.istore 5, 2) := by decide +kernel
theorem dL_law_455 : decode cL_law 455 = .ok (.aload_n 2, 1) := by decide +kernel
theorem dL_law_456 : decode cL_law 456 = .ok (.aload_n 0, 1) := by decide +kernel
theorem dL_law_457 : decode cL_law 457 = .ok (.iload 4, 2) := by decide +kernel
theorem dL_law_459 : decode cL_law 459 = .ok (.iconst 1, 1) := by decide +kernel
theorem dL_law_460 : decode cL_law 460 = .ok (.iadd, 1) := by decide +kernel
theorem dL_law_461 : decode cL_law 461 = .ok (.iaload, 1) := by decide +kernel
theorem dL_law_462 : decode cL_law 462 = .ok (.invokevirtual 101, 3) := by decide +kernel
theorem dL_law_465 : decode cL_law 465 = .ok (.istore 6, 2) := by decide +kernel
theorem dL_law_467 : decode cL_law 467 = .ok (.aload_n 2, 1) := by decide +kernel
theorem dL_law_468 : decode cL_law 468 = .ok (.invokevirtual 61, 3) := by decide +kernel
theorem dL_law_471 : decode cL_law 471 = .ok (.iload 5, 2) := by decide +kernel
theorem dL_law_473 : decode cL_law 473 = .ok (.if_icmp .eq 5, 3) := by decide +kernel
theorem dL_law_476 : decode cL_law 476 = .ok (.iconst 0, 1) := by decide +kernel
theorem dL_law_477 : decode cL_law 477 = .ok (.ireturn, 1) := by decide +kernel
theorem dL_law_478 : decode cL_law 478 = .ok (.iload 5, 2) := by decide +kernel
theorem dL_law_480 : decode cL_law 480 = .ok (.ifCond .ne 15, 3) := by decide +kernel
theorem dL_law_483 : decode cL_law 483 = .ok (.aload_n 3, 1) := by decide +kernel
theorem dL_law_484 : decode cL_law 484 = .ok (.iconst 0, 1) := by decide +kernel
theorem dL_law_485 : decode cL_law 485 = .ok (.laload, 1) := by decide +kernel
theorem dL_law_486 : decode cL_law 486 = .ok (.iload 6, 2) := by decide +kernel
theorem dL_law_488 : decode cL_law 488 = .ok (.i2l, 1) := by decide +kernel
theorem dL_law_489 : decode cL_law 489 = .ok (.lcmp, 1) := by decide +kernel
theorem dL_law_490 : decode cL_law 490 = .ok (.ifCond .eq 5, 3) := by decide +kernel
theorem dL_law_493 : decode cL_law 493 = .ok (.iconst 0, 1) := by decide +kernel
theorem dL_law_494 : decode cL_law 494 = .ok (.ireturn, 1) := by decide +kernel
theorem dL_law_495 : decode cL_law 495 = .ok (.goto 450, 3) := by decide +kernel
theorem dL_law_498 : decode cL_law 498 = .ok (.aload_n 1, 1) := by decide +kernel
theorem dL_law_499 : decode cL_law 499 = .ok (.aload_n 0, 1) := by decide +kernel
theorem dL_law_500 : decode cL_law 500 = .ok (.iload 4, 2) := by decide +kernel
theorem dL_law_502 : decode cL_law 502 = .ok (.iconst 1, 1) := by decide +kernel
theorem dL_law_503 : decode cL_law 503 = .ok (.iadd, 1) := by decide +kernel
theorem dL_law_504 : decode cL_law 504 = .ok (.iaload, 1) := by decide +kernel
theorem dL_law_505 : decode cL_law 505 = .ok (.aload_n 3, 1) := by decide +kernel
theorem dL_law_506 : decode cL_law 506 = .ok (.invokestatic 102, 3) := by decide +kernel
theorem dL_law_509 : decode cL_law 509 = .ok (.istore 5, 2) := by decide +kernel
theorem dL_law_511 : decode cL_law 511 = .ok (.aload_n 2, 1) := by decide +kernel
theorem dL_law_512 : decode cL_law 512 = .ok (.aload_n 0, 1) := by decide +kernel
theorem dL_law_513 : decode cL_law 513 = .ok (.iload 4, 2) := by decide +kernel
theorem dL_law_515 : decode cL_law 515 = .ok (.iconst 1, 1) := by decide +kernel
theorem dL_law_516 : decode cL_law 516 = .ok (.iadd, 1) := by decide +kernel
theorem dL_law_517 : decode cL_law 517 = .ok (.iaload, 1) := by decide +kernel
theorem dL_law_518 : decode cL_law 518 = .ok (.invokevirtual 104, 3) := by decide +kernel
theorem dL_law_521 : decode cL_law 521 = .ok (.istore 6, 2) := by decide +kernel
theorem dL_law_523 : decode cL_law 523 = .ok (.aload_n 2, 1) := by decide +kernel
theorem dL_law_524 : decode cL_law 524 = .ok (.invokevirtual 61, 3) := by decide +kernel
theorem dL_law_527 : decode cL_law 527 = .ok (.iload 5, 2) := by decide +kernel
theorem dL_law_529 : decode cL_law 529 = .ok (.if_icmp .eq 5, 3) := by decide +kernel
theorem dL_law_532 : decode cL_law 532 = .ok (.iconst 0, 1) := by decide +kernel
theorem dL_law_533 : decode cL_law 533 = .ok (.ireturn, 1) := by decide +kernel
theorem dL_law_534 : decode cL_law 534 = .ok (.iload 5, 2) := by decide +kernel
theorem dL_law_536 : decode cL_law 536 = .ok (.ifCond .ne 15, 3) := by decide +kernel
theorem dL_law_539 : decode cL_law 539 = .ok (.aload_n 3, 1) := by decide +kernel
theorem dL_law_540 : decode cL_law 540 = .ok (.iconst 0, 1) := by decide +kernel
theorem dL_law_541 : decode cL_law 541 = .ok (.laload, 1) := by decide +kernel
theorem dL_law_542 : decode cL_law 542 = .ok (.iload 6, 2) := by decide +kernel
theorem dL_law_544 : decode cL_law 544 = .ok (.i2l, 1) := by decide +kernel
theorem dL_law_545 : decode cL_law 545 = .ok (.lcmp, 1) := by decide +kernel
theorem dL_law_546 : decode cL_law 546 = .ok (.ifCond .eq 5, 3) := by decide +kernel
theorem dL_law_549 : decode cL_law 549 = .ok (.iconst 0, 1) := by decide +kernel
theorem dL_law_550 : decode cL_law 550 = .ok (.ireturn, 1) := by decide +kernel
theorem dL_law_551 : decode cL_law 551 = .ok (.goto 394, 3) := by decide +kernel
theorem dL_law_554 : decode cL_law 554 = .ok (.aload_n 1, 1) := by decide +kernel
theorem dL_law_555 : decode cL_law 555 = .ok (.aload_n 0, 1) := by decide +kernel
theorem dL_law_556 : decode cL_law 556 = .ok (.iload 4, 2) := by decide +kernel
theorem dL_law_558 : decode cL_law 558 = .ok (.iconst 1, 1) := by decide +kernel
theorem dL_law_559 : decode cL_law 559 = .ok (.iadd, 1) := by decide +kernel
theorem dL_law_560 : decode cL_law 560 = .ok (.iaload, 1) := by decide +kernel
theorem dL_law_561 : decode cL_law 561 = .ok (.invokestatic 105, 3) := by decide +kernel
theorem dL_law_564 : decode cL_law 564 = .ok (.istore 5, 2) := by decide +kernel
theorem dL_law_566 : decode cL_law 566 = .ok (.aload_n 2, 1) := by decide +kernel
theorem dL_law_567 : decode cL_law 567 = .ok (.aload_n 0, 1) := by decide +kernel
theorem dL_law_568 : decode cL_law 568 = .ok (.iload 4, 2) := by decide +kernel
theorem dL_law_570 : decode cL_law 570 = .ok (.iconst 1, 1) := by decide +kernel
theorem dL_law_571 : decode cL_law 571 = .ok (.iadd, 1) := by decide +kernel
theorem dL_law_572 : decode cL_law 572 = .ok (.iaload, 1) := by decide +kernel
theorem dL_law_573 : decode cL_law 573 = .ok (.invokevirtual 108, 3) := by decide +kernel
theorem dL_law_576 : decode cL_law 576 = .ok (.aload_n 2, 1) := by decide +kernel
theorem dL_law_577 : decode cL_law 577 = .ok (.invokevirtual 61, 3) := by decide +kernel
theorem dL_law_580 : decode cL_law 580 = .ok (.iload 5, 2) := by decide +kernel
theorem dL_law_582 : decode cL_law 582 = .ok (.if_icmp .eq 5, 3) := by decide +kernel
theorem dL_law_585 : decode cL_law 585 = .ok (.iconst 0, 1) := by decide +kernel
theorem dL_law_586 : decode cL_law 586 = .ok (.ireturn, 1) := by decide +kernel
theorem dL_law_587 : decode cL_law 587 = .ok (.goto 358, 3) := by decide +kernel
theorem dL_law_590 : decode cL_law 590 = .ok (.aload_n 1, 1) := by decide +kernel
theorem dL_law_591 : decode cL_law 591 = .ok (.aload_n 0, 1) := by decide +kernel
theorem dL_law_592 : decode cL_law 592 = .ok (.iload 4, 2) := by decide +kernel
theorem dL_law_594 : decode cL_law 594 = .ok (.iconst 1, 1) := by decide +kernel
theorem dL_law_595 : decode cL_law 595 = .ok (.iadd, 1) := by decide +kernel
theorem dL_law_596 : decode cL_law 596 = .ok (.iaload, 1) := by decide +kernel
theorem dL_law_597 : decode cL_law 597 = .ok (.aload_n 3, 1) := by decide +kernel
theorem dL_law_598 : decode cL_law 598 = .ok (.invokestatic 109, 3) := by decide +kernel
theorem dL_law_601 : decode cL_law 601 = .ok (.istore 5, 2) := by decide +kernel
theorem dL_law_603 : decode cL_law 603 = .ok (.aload_n 2, 1) := by decide +kernel
theorem dL_law_604 : decode cL_law 604 = .ok (.aload_n 0, 1) := by decide +kernel
theorem dL_law_605 : decode cL_law 605 = .ok (.iload 4, 2) := by decide +kernel
theorem dL_law_607 : decode cL_law 607 = .ok (.iconst 1, 1) := by decide +kernel
theorem dL_law_608 : decode cL_law 608 = .ok (.iadd, 1) := by decide +kernel
theorem dL_law_609 : decode cL_law 609 = .ok (.iaload, 1) := by decide +kernel
theorem dL_law_610 : decode cL_law 610 = .ok (.invokevirtual 111, 3) := by decide +kernel
theorem dL_law_613 : decode cL_law 613 = .ok (.istore 6, 2) := by decide +kernel
theorem dL_law_615 : decode cL_law 615 = .ok (.aload_n 2, 1) := by decide +kernel
theorem dL_law_616 : decode cL_law 616 = .ok (.invokevirtual 61, 3) := by decide +kernel
theorem dL_law_619 : decode cL_law 619 = .ok (.iload 5, 2) := by decide +kernel
theorem dL_law_621 : decode cL_law 621 = .ok (.if_icmp .eq 5, 3) := by decide +kernel
theorem dL_law_624 : decode cL_law 624 = .ok (.iconst 0, 1) := by decide +kernel
theorem dL_law_625 : decode cL_law 625 = .ok (.ireturn, 1) := by decide +kernel
theorem dL_law_626 : decode cL_law 626 = .ok (.iload 5, 2) := by decide +kernel
theorem dL_law_628 : decode cL_law 628 = .ok (.ifCond .ne 15, 3) := by decide +kernel
theorem dL_law_631 : decode cL_law 631 = .ok (.aload_n 3, 1) := by decide +kernel
theorem dL_law_632 : decode cL_law 632 = .ok (.iconst 0, 1) := by decide +kernel
theorem dL_law_633 : decode cL_law 633 = .ok (.laload, 1) := by decide +kernel
theorem dL_law_634 : decode cL_law 634 = .ok (.iload 6, 2) := by decide +kernel
theorem dL_law_636 : decode cL_law 636 = .ok (.i2l, 1) := by decide +kernel
theorem dL_law_637 : decode cL_law 637 = .ok (.lcmp, 1) := by decide +kernel
theorem dL_law_638 : decode cL_law 638 = .ok (.ifCond .eq 5, 3) := by decide +kernel
theorem dL_law_641 : decode cL_law 641 = .ok (.iconst 0, 1) := by decide +kernel
theorem dL_law_642 : decode cL_law 642 = .ok (.ireturn, 1) := by decide +kernel
theorem dL_law_643 : decode cL_law 643 = .ok (.goto 302, 3) := by decide +kernel
theorem dL_law_646 : decode cL_law 646 = .ok (.aload_n 1, 1) := by decide +kernel
theorem dL_law_647 : decode cL_law 647 = .ok (.aload_n 3, 1) := by decide +kernel
theorem dL_law_648 : decode cL_law 648 = .ok (.invokestatic 112, 3) := by decide +kernel
theorem dL_law_651 : decode cL_law 651 = .ok (.istore 5, 2) := by decide +kernel
theorem dL_law_653 : decode cL_law 653 = .ok (.aload_n 2, 1) := by decide +kernel
theorem dL_law_654 : decode cL_law 654 = .ok (.invokevirtual 114, 3) := by decide +kernel
theorem dL_law_657 : decode cL_law 657 = .ok (.istore 6, 2) := by decide +kernel
theorem dL_law_659 : decode cL_law 659 = .ok (.aload_n 2, 1) := by decide +kernel
theorem dL_law_660 : decode cL_law 660 = .ok (.invokevirtual 61, 3) := by decide +kernel
theorem dL_law_663 : decode cL_law 663 = .ok (.iload 5, 2) := by decide +kernel
theorem dL_law_665 : decode cL_law 665 = .ok (.if_icmp .eq 5, 3) := by decide +kernel
theorem dL_law_668 : decode cL_law 668 = .ok (.iconst 0, 1) := by decide +kernel
theorem dL_law_669 : decode cL_law 669 = .ok (.ireturn, 1) := by decide +kernel
theorem dL_law_670 : decode cL_law 670 = .ok (.iload 5, 2) := by decide +kernel
theorem dL_law_672 : decode cL_law 672 = .ok (.ifCond .ne 15, 3) := by decide +kernel
theorem dL_law_675 : decode cL_law 675 = .ok (.aload_n 3, 1) := by decide +kernel
theorem dL_law_676 : decode cL_law 676 = .ok (.iconst 0, 1) := by decide +kernel
theorem dL_law_677 : decode cL_law 677 = .ok (.laload, 1) := by decide +kernel
theorem dL_law_678 : decode cL_law 678 = .ok (.iload 6, 2) := by decide +kernel
theorem dL_law_680 : decode cL_law 680 = .ok (.i2l, 1) := by decide +kernel
theorem dL_law_681 : decode cL_law 681 = .ok (.lcmp, 1) := by decide +kernel
theorem dL_law_682 : decode cL_law 682 = .ok (.ifCond .eq 5, 3) := by decide +kernel
theorem dL_law_685 : decode cL_law 685 = .ok (.iconst 0, 1) := by decide +kernel
theorem dL_law_686 : decode cL_law 686 = .ok (.ireturn, 1) := by decide +kernel
theorem dL_law_687 : decode cL_law 687 = .ok (.goto 258, 3) := by decide +kernel
theorem dL_law_690 : decode cL_law 690 = .ok (.aload_n 1, 1) := by decide +kernel
theorem dL_law_691 : decode cL_law 691 = .ok (.invokevirtual 115, 3) := by decide +kernel
theorem dL_law_694 : decode cL_law 694 = .ok (.aload_n 2, 1) := by decide +kernel
theorem dL_law_695 : decode cL_law 695 = .ok (.invokevirtual 118, 3) := by decide +kernel
theorem dL_law_698 : decode cL_law 698 = .ok (.if_icmp .eq 247, 3) := by decide +kernel
theorem dL_law_701 : decode cL_law 701 = .ok (.iconst 0, 1) := by decide +kernel
theorem dL_law_702 : decode cL_law 702 = .ok (.ireturn, 1) := by decide +kernel
theorem dL_law_703 : decode cL_law 703 = .ok (.aload_n 1, 1) := by decide +kernel
theorem dL_law_704 : decode cL_law 704 = .ok (.invokevirtual 119, 3) := by decide +kernel
theorem dL_law_707 : decode cL_law 707 = .ok (.aload_n 2, 1) := by decide +kernel
theorem dL_law_708 : decode cL_law 708 = .ok (.invokevirtual 122, 3) := by decide +kernel
theorem dL_law_711 : decode cL_law 711 = .ok (.if_icmp .eq 234, 3) := by decide +kernel
theorem dL_law_714 : decode cL_law 714 = .ok (.iconst 0, 1) := by decide +kernel
theorem dL_law_715 : decode cL_law 715 = .ok (.ireturn, 1) := by decide +kernel
theorem dL_law_716 : decode cL_law 716 = .ok (.aload_n 1, 1) := by decide +kernel
theorem dL_law_717 : decode cL_law 717 = .ok (.invokevirtual 123, 3) := by decide +kernel
theorem dL_law_720 : decode cL_law 720 = .ok (.aload_n 2, 1) := by decide +kernel
theorem dL_law_721 : decode cL_law 721 = .ok (.invokevirtual 126, 3) := by decide +kernel
theorem dL_law_724 : decode cL_law 724 = .ok (.if_icmp .eq 221, 3) := by decide +kernel
theorem dL_law_727 : decode cL_law 727 = .ok (.iconst 0, 1) := by decide +kernel
theorem dL_law_728 : decode cL_law 728 = .ok (.ireturn, 1) := by decide +kernel
theorem dL_law_729 : decode cL_law 729 = .ok (.aload_n 1, 1) := by decide +kernel
theorem dL_law_730 : decode cL_law 730 = .ok (.aload_n 0, 1) := by decide +kernel
theorem dL_law_731 : decode cL_law 731 = .ok (.iload 4, 2) := by decide +kernel
theorem dL_law_733 : decode cL_law 733 = .ok (.iconst 1, 1) := by decide +kernel
theorem dL_law_734 : decode cL_law 734 = .ok (.iadd, 1) := by decide +kernel
theorem dL_law_735 : decode cL_law 735 = .ok (.iaload, 1) := by decide +kernel
theorem dL_law_736 : decode cL_law 736 = .ok (.aload_n 3, 1) := by decide +kernel
theorem dL_law_737 : decode cL_law 737 = .ok (.invokestatic 127, 3) := by decide +kernel
theorem dL_law_740 : decode cL_law 740 = .ok (.istore 5, 2) := by decide +kernel
theorem dL_law_742 : decode cL_law 742 = .ok (.aload_n 2, 1) := by decide +kernel
theorem dL_law_743 : decode cL_law 743 = .ok (.aload_n 0, 1) := by decide +kernel
theorem dL_law_744 : decode cL_law 744 = .ok (.iload 4, 2) := by decide +kernel
theorem dL_law_746 : decode cL_law 746 = .ok (.iconst 1, 1) := by decide +kernel
theorem dL_law_747 : decode cL_law 747 = .ok (.iadd, 1) := by decide +kernel
theorem dL_law_748 : decode cL_law 748 = .ok (.iaload, 1) := by decide +kernel
theorem dL_law_749 : decode cL_law 749 = .ok (.invokevirtual 129, 3) := by decide +kernel
theorem dL_law_752 : decode cL_law 752 = .ok (.istore 6, 2) := by decide +kernel
theorem dL_law_754 : decode cL_law 754 = .ok (.aload_n 2, 1) := by decide +kernel
theorem dL_law_755 : decode cL_law 755 = .ok (.invokevirtual 61, 3) := by decide +kernel
theorem dL_law_758 : decode cL_law 758 = .ok (.iload 5, 2) := by decide +kernel
theorem dL_law_760 : decode cL_law 760 = .ok (.if_icmp .eq 5, 3) := by decide +kernel
theorem dL_law_763 : decode cL_law 763 = .ok (.iconst 0, 1) := by decide +kernel
theorem dL_law_764 : decode cL_law 764 = .ok (.ireturn, 1) := by decide +kernel
theorem dL_law_765 : decode cL_law 765 = .ok (.iload 5, 2) := by decide +kernel
theorem dL_law_767 : decode cL_law 767 = .ok (.ifCond .ne 15, 3) := by decide +kernel
theorem dL_law_770 : decode cL_law 770 = .ok (.aload_n 3, 1) := by decide +kernel
theorem dL_law_771 : decode cL_law 771 = .ok (.iconst 0, 1) := by decide +kernel
theorem dL_law_772 : decode cL_law 772 = .ok (.laload, 1) := by decide +kernel
theorem dL_law_773 : decode cL_law 773 = .ok (.iload 6, 2) := by decide +kernel
theorem dL_law_775 : decode cL_law 775 = .ok (.i2l, 1) := by decide +kernel
theorem dL_law_776 : decode cL_law 776 = .ok (.lcmp, 1) := by decide +kernel
theorem dL_law_777 : decode cL_law 777 = .ok (.ifCond .eq 5, 3) := by decide +kernel
theorem dL_law_780 : decode cL_law 780 = .ok (.iconst 0, 1) := by decide +kernel
theorem dL_law_781 : decode cL_law 781 = .ok (.ireturn, 1) := by decide +kernel
theorem dL_law_782 : decode cL_law 782 = .ok (.goto 163, 3) := by decide +kernel
theorem dL_law_785 : decode cL_law 785 = .ok (.aload_n 1, 1) := by decide +kernel
theorem dL_law_786 : decode cL_law 786 = .ok (.invokevirtual 130, 3) := by decide +kernel
theorem dL_law_789 : decode cL_law 789 = .ok (.aload_n 2, 1) := by decide +kernel
theorem dL_law_790 : decode cL_law 790 = .ok (.invokevirtual 133, 3) := by decide +kernel
theorem dL_law_793 : decode cL_law 793 = .ok (.if_icmp .eq 152, 3) := by decide +kernel
theorem dL_law_796 : decode cL_law 796 = .ok (.iconst 0, 1) := by decide +kernel
theorem dL_law_797 : decode cL_law 797 = .ok (.ireturn, 1) := by decide +kernel
theorem dL_law_798 : decode cL_law 798 = .ok (.aload_n 1, 1) := by decide +kernel
theorem dL_law_799 : decode cL_law 799 = .ok (.aload_n 0, 1) := by decide +kernel
theorem dL_law_800 : decode cL_law 800 = .ok (.iload 4, 2) := by decide +kernel
theorem dL_law_802 : decode cL_law 802 = .ok (.iconst 1, 1) := by decide +kernel
theorem dL_law_803 : decode cL_law 803 = .ok (.iadd, 1) := by decide +kernel
theorem dL_law_804 : decode cL_law 804 = .ok (.iaload, 1) := by decide +kernel
theorem dL_law_805 : decode cL_law 805 = .ok (.aload_n 3, 1) := by decide +kernel
theorem dL_law_806 : decode cL_law 806 = .ok (.invokestatic 134, 3) := by decide +kernel
theorem dL_law_809 : decode cL_law 809 = .ok (.istore 5, 2) := by decide +kernel
theorem dL_law_811 : decode cL_law 811 = .ok (.aload_n 2, 1) := by decide +kernel
theorem dL_law_812 : decode cL_law 812 = .ok (.aload_n 0, 1) := by decide +kernel
theorem dL_law_813 : decode cL_law 813 = .ok (.iload 4, 2) := by decide +kernel
theorem dL_law_815 : decode cL_law 815 = .ok (.iconst 1, 1) := by decide +kernel
theorem dL_law_816 : decode cL_law 816 = .ok (.iadd, 1) := by decide +kernel
theorem dL_law_817 : decode cL_law 817 = .ok (.iaload, 1) := by decide +kernel
theorem dL_law_818 : decode cL_law 818 = .ok (.invokevirtual 136, 3) := by decide +kernel
theorem dL_law_821 : decode cL_law 821 = .ok (.istore 6, 2) := by decide +kernel
theorem dL_law_823 : decode cL_law 823 = .ok (.aload_n 2, 1) := by decide +kernel
theorem dL_law_824 : decode cL_law 824 = .ok (.invokevirtual 61, 3) := by decide +kernel
theorem dL_law_827 : decode cL_law 827 = .ok (.iload 5, 2) := by decide +kernel
theorem dL_law_829 : decode cL_law 829 = .ok (.if_icmp .eq 5, 3) := by decide +kernel
theorem dL_law_832 : decode cL_law 832 = .ok (.iconst 0, 1) := by decide +kernel
theorem dL_law_833 : decode cL_law 833 = .ok (.ireturn, 1) := by decide +kernel
theorem dL_law_834 : decode cL_law 834 = .ok (.iload 5, 2) := by decide +kernel
theorem dL_law_836 : decode cL_law 836 = .ok (.ifCond .ne 15, 3) := by decide +kernel
theorem dL_law_839 : decode cL_law 839 = .ok (.aload_n 3, 1) := by decide +kernel
theorem dL_law_840 : decode cL_law 840 = .ok (.iconst 0, 1) := by decide +kernel
theorem dL_law_841 : decode cL_law 841 = .ok (.laload, 1) := by decide +kernel
theorem dL_law_842 : decode cL_law 842 = .ok (.iload 6, 2) := by decide +kernel
theorem dL_law_844 : decode cL_law 844 = .ok (.i2l, 1) := by decide +kernel
theorem dL_law_845 : decode cL_law 845 = .ok (.lcmp, 1) := by decide +kernel
theorem dL_law_846 : decode cL_law 846 = .ok (.ifCond .eq 5, 3) := by decide +kernel
theorem dL_law_849 : decode cL_law 849 = .ok (.iconst 0, 1) := by decide +kernel
theorem dL_law_850 : decode cL_law 850 = .ok (.ireturn, 1) := by decide +kernel
theorem dL_law_851 : decode cL_law 851 = .ok (.goto 94, 3) := by decide +kernel
theorem dL_law_854 : decode cL_law 854 = .ok (.aload_n 1, 1) := by decide +kernel
theorem dL_law_855 : decode cL_law 855 = .ok (.invokevirtual 137, 3) := by decide +kernel
theorem dL_law_858 : decode cL_law 858 = .ok (.aload_n 2, 1) := by decide +kernel
theorem dL_law_859 : decode cL_law 859 = .ok (.invokevirtual 140, 3) := by decide +kernel
theorem dL_law_862 : decode cL_law 862 = .ok (.if_icmp .eq 83, 3) := by decide +kernel
theorem dL_law_865 : decode cL_law 865 = .ok (.iconst 0, 1) := by decide +kernel
theorem dL_law_866 : decode cL_law 866 = .ok (.ireturn, 1) := by decide +kernel
theorem dL_law_867 : decode cL_law 867 = .ok (.aload_n 1, 1) := by decide +kernel
theorem dL_law_868 : decode cL_law 868 = .ok (.invokevirtual 141, 3) := by decide +kernel
theorem dL_law_871 : decode cL_law 871 = .ok (.aload_n 2, 1) := by decide +kernel
theorem dL_law_872 : decode cL_law 872 = .ok (.invokevirtual 144, 3) := by decide +kernel
theorem dL_law_875 : decode cL_law 875 = .ok (.if_icmp .eq 70, 3) := by decide +kernel
theorem dL_law_878 : decode cL_law 878 = .ok (.iconst 0, 1) := by decide +kernel
theorem dL_law_879 : decode cL_law 879 = .ok (.ireturn, 1) := by decide +kernel
theorem dL_law_880 : decode cL_law 880 = .ok (.aload_n 1, 1) := by decide +kernel
theorem dL_law_881 : decode cL_law 881 = .ok (.invokevirtual 145, 3) := by decide +kernel
theorem dL_law_884 : decode cL_law 884 = .ok (.aload_n 2, 1) := by decide +kernel
theorem dL_law_885 : decode cL_law 885 = .ok (.invokevirtual 148, 3) := by decide +kernel
theorem dL_law_888 : decode cL_law 888 = .ok (.if_icmp .eq 57, 3) := by decide +kernel
theorem dL_law_891 : decode cL_law 891 = .ok (.iconst 0, 1) := by decide +kernel
theorem dL_law_892 : decode cL_law 892 = .ok (.ireturn, 1) := by decide +kernel
theorem dL_law_893 : decode cL_law 893 = .ok (.aload_n 1, 1) := by decide +kernel
theorem dL_law_894 : decode cL_law 894 = .ok (.invokevirtual 149, 3) := by decide +kernel
theorem dL_law_897 : decode cL_law 897 = .ok (.aload_n 2, 1) := by decide +kernel
theorem dL_law_898 : decode cL_law 898 = .ok (.invokevirtual 152, 3) := by decide +kernel
theorem dL_law_901 : decode cL_law 901 = .ok (.if_icmp .eq 44, 3) := by decide +kernel
theorem dL_law_904 : decode cL_law 904 = .ok (.iconst 0, 1) := by decide +kernel
theorem dL_law_905 : decode cL_law 905 = .ok (.ireturn, 1) := by decide +kernel
theorem dL_law_906 : decode cL_law 906 = .ok (.aload_n 1, 1) := by decide +kernel
theorem dL_law_907 : decode cL_law 907 = .ok (.invokevirtual 153, 3) := by decide +kernel
theorem dL_law_910 : decode cL_law 910 = .ok (.aload_n 2, 1) := by decide +kernel
theorem dL_law_911 : decode cL_law 911 = .ok (.invokevirtual 156, 3) := by decide +kernel
theorem dL_law_914 : decode cL_law 914 = .ok (.if_icmp .eq 31, 3) := by decide +kernel
theorem dL_law_917 : decode cL_law 917 = .ok (.iconst 0, 1) := by decide +kernel
theorem dL_law_918 : decode cL_law 918 = .ok (.ireturn, 1) := by decide +kernel
theorem dL_law_919 : decode cL_law 919 = .ok (.aload_n 1, 1) := by decide +kernel
theorem dL_law_920 : decode cL_law 920 = .ok (.invokevirtual 157, 3) := by decide +kernel
theorem dL_law_923 : decode cL_law 923 = .ok (.aload_n 2, 1) := by decide +kernel
theorem dL_law_924 : decode cL_law 924 = .ok (.invokevirtual 160, 3) := by decide +kernel
theorem dL_law_927 : decode cL_law 927 = .ok (.if_icmp .eq 18, 3) := by decide +kernel
theorem dL_law_930 : decode cL_law 930 = .ok (.iconst 0, 1) := by decide +kernel
theorem dL_law_931 : decode cL_law 931 = .ok (.ireturn, 1) := by decide +kernel
theorem dL_law_932 : decode cL_law 932 = .ok (.aload_n 1, 1) := by decide +kernel
theorem dL_law_933 : decode cL_law 933 = .ok (.invokevirtual 161, 3) := by decide +kernel
theorem dL_law_936 : decode cL_law 936 = .ok (.aload_n 2, 1) := by decide +kernel
theorem dL_law_937 : decode cL_law 937 = .ok (.invokevirtual 164, 3) := by decide +kernel
theorem dL_law_940 : decode cL_law 940 = .ok (.if_icmp .eq 5, 3) := by decide +kernel
theorem dL_law_943 : decode cL_law 943 = .ok (.iconst 0, 1) := by decide +kernel
theorem dL_law_944 : decode cL_law 944 = .ok (.ireturn, 1) := by decide +kernel
theorem dL_law_945 : decode cL_law 945 = .ok (.iinc 4 2, 3) := by decide +kernel
theorem dL_law_948 : decode cL_law 948 = .ok (.goto (-925), 3) := by decide +kernel
theorem dL_law_951 : decode cL_law 951 = .ok (.iconst 1, 1) := by decide +kernel
theorem dL_law_952 : decode cL_law 952 = .ok (.ireturn, 1) := by decide +kernel
abbrev vwCl : List vw_C := [(RX0, TX0, 3), (RX1, TX1, 6), (RX4, TX4, 3), (RX5, TX5, 19)]
/-- the objects of GhostGame$Dictionary, kind 0: what each holds, by its address -/
structure wK_O_Dictionary where
  f_words : Nat → Option Nat
  f_count : Nat → Int32
  f_leastLength : Nat → Int32
/-- the objects of GhostGame$Game, kind 1: what each holds, by its address -/
structure wK_O_Game where
  f_strikes : Nat → Option Nat
  f_playerCount : Nat → Int32
  f_mover : Nat → Int32
  f_lastMover : Nat → Int32
  f_champion : Nat → Int32
  f_fragment : Nat → Int64
/-- the objects of GhostGame, kind 2: what each holds, by its address -/
structure wK_O_GhostGame where
  f_dictionary : Nat → Option Nat
  f_game : Nat → Option Nat
  f_slip : Nat → Int64
/-- the objects of GhostGameModel, kind 3: what each holds, by its address -/
structure wK_O_GhostGameModel where
  f_slip : Nat → Option Nat
  f_slipLength : Nat → Int32
  f_letters : Nat → Option Nat
  f_length : Nat → Option Nat
  f_words : Nat → Int32
  f_least : Nat → Int32
  f_players : Nat → Int32
  f_strikes : Nat → Option Nat
  f_turn : Nat → Int32
  f_latest : Nat → Int32
  f_winner : Nat → Int32
  f_fragment : Nat → Option Nat
  f_fragmentLength : Nat → Int32
  f_wins : Nat → Option Nat
  f_ends : Nat → Option Nat
  f_chosen : Nat → Option Nat
  f_good : Nat → Option Nat
  f_open : Nat → Option Nat
  f_thrown : Nat → Int32
/-- the arrays of kind 4: what each holds, by its address -/
structure wK_R_I where
  len : Nat → Nat
  row : Nat → Nat → Int32
/-- the arrays of kind 5: what each holds, by its address -/
structure wK_R_J where
  len : Nat → Nat
  row : Nat → Nat → Int64
/-- the arrays of kind 6: what each holds, by its address -/
structure wK_R_Z where
  len : Nat → Nat
  row : Nat → Nat → Int32
/-- the pool: the addresses, the kind of each, and the kinds -/
structure wPS where
  L : List Nat
  K : Nat → Nat
  O_Dictionary : wK_O_Dictionary
  O_Game : wK_O_Game
  O_GhostGame : wK_O_GhostGame
  O_GhostGameModel : wK_O_GhostGameModel
  R_I : wK_R_I
  R_J : wK_R_J
  R_Z : wK_R_Z
/-- the empty pool -/
abbrev wP0 : wPS := { L := [], K := (fun _ => 0), O_Dictionary := { f_words := (fun _ => none), f_count := (fun _ => 0), f_leastLength := (fun _ => 0) }, O_Game := { f_strikes := (fun _ => none), f_playerCount := (fun _ => 0), f_mover := (fun _ => 0), f_lastMover := (fun _ => 0), f_champion := (fun _ => 0), f_fragment := (fun _ => 0) }, O_GhostGame := { f_dictionary := (fun _ => none), f_game := (fun _ => none), f_slip := (fun _ => 0) }, O_GhostGameModel := { f_slip := (fun _ => none), f_slipLength := (fun _ => 0), f_letters := (fun _ => none), f_length := (fun _ => none), f_words := (fun _ => 0), f_least := (fun _ => 0), f_players := (fun _ => 0), f_strikes := (fun _ => none), f_turn := (fun _ => 0), f_latest := (fun _ => 0), f_winner := (fun _ => 0), f_fragment := (fun _ => none), f_fragmentLength := (fun _ => 0), f_wins := (fun _ => none), f_ends := (fun _ => none), f_chosen := (fun _ => none), f_good := (fun _ => none), f_open := (fun _ => none), f_thrown := (fun _ => 0) }, R_I := { len := (fun _ => 0), row := (fun _ _ => 0) }, R_J := { len := (fun _ => 0), row := (fun _ _ => 0) }, R_Z := { len := (fun _ => 0), row := (fun _ _ => 0) } }
/-- the pool's rows by their kinds -/
abbrev wPF (cyI : ClassId) (cyJ : ClassId) (cyZ : ClassId) (S : wPS) : Nat → va_E := fun a => if S.K a = 0 then .inr (0, [va_rf (S.O_Dictionary.f_words a), .int (S.O_Dictionary.f_count a), .int (S.O_Dictionary.f_leastLength a)]) else if S.K a = 1 then .inr (1, [va_rf (S.O_Game.f_strikes a), .int (S.O_Game.f_playerCount a), .int (S.O_Game.f_mover a), .int (S.O_Game.f_lastMover a), .int (S.O_Game.f_champion a), .long (S.O_Game.f_fragment a)]) else if S.K a = 2 then .inr (2, [va_rf (S.O_GhostGame.f_dictionary a), va_rf (S.O_GhostGame.f_game a), .long (S.O_GhostGame.f_slip a)]) else if S.K a = 3 then .inr (3, [va_rf (S.O_GhostGameModel.f_slip a), .int (S.O_GhostGameModel.f_slipLength a), va_rf (S.O_GhostGameModel.f_letters a), va_rf (S.O_GhostGameModel.f_length a), .int (S.O_GhostGameModel.f_words a), .int (S.O_GhostGameModel.f_least a), .int (S.O_GhostGameModel.f_players a), va_rf (S.O_GhostGameModel.f_strikes a), .int (S.O_GhostGameModel.f_turn a), .int (S.O_GhostGameModel.f_latest a), .int (S.O_GhostGameModel.f_winner a), va_rf (S.O_GhostGameModel.f_fragment a), .int (S.O_GhostGameModel.f_fragmentLength a), va_rf (S.O_GhostGameModel.f_wins a), va_rf (S.O_GhostGameModel.f_ends a), va_rf (S.O_GhostGameModel.f_chosen a), va_rf (S.O_GhostGameModel.f_good a), va_rf (S.O_GhostGameModel.f_open a), .int (S.O_GhostGameModel.f_thrown a)]) else if S.K a = 4 then .inl (cyI, S.R_I.len a, .inl (S.R_I.row a)) else if S.K a = 5 then .inl (cyJ, S.R_J.len a, .inr (.inl (S.R_J.row a))) else .inl (cyZ, S.R_Z.len a, .inl (S.R_Z.row a))
theorem wAt_O_Dictionary (cyI : ClassId) (cyJ : ClassId) (cyZ : ClassId) (S : wPS) {a : Nat} (h : S.K a = 0) : wPF cyI cyJ cyZ S a = .inr (0, [va_rf (S.O_Dictionary.f_words a), .int (S.O_Dictionary.f_count a), .int (S.O_Dictionary.f_leastLength a)]) := by simp [wPF, h]
theorem wGt_O_Dictionary (cyI : ClassId) (cyJ : ClassId) (cyZ : ClassId) (X : va_W) (S : wPS) {a : Nat} (hL : a ∈ S.L) (h : S.K a = 0) : ∃ k : Nat, (X ++ va_pl S.L (wPF cyI cyJ cyZ S))[k]? = some (a, wPF cyI cyJ cyZ S a) ∧ (X ++ va_pl S.L (wPF cyI cyJ cyZ S))[k]? = some (a, .inr (0, [va_rf (S.O_Dictionary.f_words a), .int (S.O_Dictionary.f_count a), .int (S.O_Dictionary.f_leastLength a)])) := by
  obtain ⟨k, hk⟩ := va_pl_get (X := X) (f := wPF cyI cyJ cyZ S) hL
  exact ⟨k, hk, hk.trans (congrArg (fun e => some (a, e)) (wAt_O_Dictionary cyI cyJ cyZ S h))⟩
theorem wSt_O_Dictionary_f_words (cyI : ClassId) (cyJ : ClassId) (cyZ : ClassId) (S : wPS) {a : Nat} (h : S.K a = 0) (v : Option Nat) (b : Nat) : va_up (wPF cyI cyJ cyZ S) a (.inr (0, [va_rf v, .int (S.O_Dictionary.f_count a), .int (S.O_Dictionary.f_leastLength a)])) b = wPF cyI cyJ cyZ { S with O_Dictionary := { S.O_Dictionary with f_words := va_up S.O_Dictionary.f_words a v } } b := by by_cases hb : b = a <;> first | (simp only [wPF, va_up_ne _ _ hb]; done) | (simp only [wPF, va_up, if_neg hb]; done) | simp [wPF, va_re, va_up, va_rf, hb, h]
theorem wPu_O_Dictionary_f_words (cyI : ClassId) (cyJ : ClassId) (cyZ : ClassId) (X : va_W) (S : wPS) {A : Nat → Prop} {a k : Nat} (hD : va_D A (X ++ va_pl S.L (wPF cyI cyJ cyZ S))) (hL : a ∈ S.L) (h : S.K a = 0) (hk : (X ++ va_pl S.L (wPF cyI cyJ cyZ S))[k]? = some (a, wPF cyI cyJ cyZ S a)) (v : Option Nat) : (X ++ va_pl S.L (wPF cyI cyJ cyZ S)).set k (a, .inr (0, [va_rf v, .int (S.O_Dictionary.f_count a), .int (S.O_Dictionary.f_leastLength a)])) = X ++ va_pl S.L (wPF cyI cyJ cyZ { S with O_Dictionary := { S.O_Dictionary with f_words := va_up S.O_Dictionary.f_words a v } }) := by
  rw [va_pl_set hD hL hk]
  exact congrArg (fun l => X ++ l) (va_pl_congr (wSt_O_Dictionary_f_words cyI cyJ cyZ S h v))
theorem wSt_O_Dictionary_f_count (cyI : ClassId) (cyJ : ClassId) (cyZ : ClassId) (S : wPS) {a : Nat} (h : S.K a = 0) (v : Int32) (b : Nat) : va_up (wPF cyI cyJ cyZ S) a (.inr (0, [va_rf (S.O_Dictionary.f_words a), .int v, .int (S.O_Dictionary.f_leastLength a)])) b = wPF cyI cyJ cyZ { S with O_Dictionary := { S.O_Dictionary with f_count := va_up S.O_Dictionary.f_count a v } } b := by by_cases hb : b = a <;> first | (simp only [wPF, va_up_ne _ _ hb]; done) | (simp only [wPF, va_up, if_neg hb]; done) | simp [wPF, va_re, va_up, va_rf, hb, h]
theorem wPu_O_Dictionary_f_count (cyI : ClassId) (cyJ : ClassId) (cyZ : ClassId) (X : va_W) (S : wPS) {A : Nat → Prop} {a k : Nat} (hD : va_D A (X ++ va_pl S.L (wPF cyI cyJ cyZ S))) (hL : a ∈ S.L) (h : S.K a = 0) (hk : (X ++ va_pl S.L (wPF cyI cyJ cyZ S))[k]? = some (a, wPF cyI cyJ cyZ S a)) (v : Int32) : (X ++ va_pl S.L (wPF cyI cyJ cyZ S)).set k (a, .inr (0, [va_rf (S.O_Dictionary.f_words a), .int v, .int (S.O_Dictionary.f_leastLength a)])) = X ++ va_pl S.L (wPF cyI cyJ cyZ { S with O_Dictionary := { S.O_Dictionary with f_count := va_up S.O_Dictionary.f_count a v } }) := by
  rw [va_pl_set hD hL hk]
  exact congrArg (fun l => X ++ l) (va_pl_congr (wSt_O_Dictionary_f_count cyI cyJ cyZ S h v))
theorem wSt_O_Dictionary_f_leastLength (cyI : ClassId) (cyJ : ClassId) (cyZ : ClassId) (S : wPS) {a : Nat} (h : S.K a = 0) (v : Int32) (b : Nat) : va_up (wPF cyI cyJ cyZ S) a (.inr (0, [va_rf (S.O_Dictionary.f_words a), .int (S.O_Dictionary.f_count a), .int v])) b = wPF cyI cyJ cyZ { S with O_Dictionary := { S.O_Dictionary with f_leastLength := va_up S.O_Dictionary.f_leastLength a v } } b := by by_cases hb : b = a <;> first | (simp only [wPF, va_up_ne _ _ hb]; done) | (simp only [wPF, va_up, if_neg hb]; done) | simp [wPF, va_re, va_up, va_rf, hb, h]
theorem wPu_O_Dictionary_f_leastLength (cyI : ClassId) (cyJ : ClassId) (cyZ : ClassId) (X : va_W) (S : wPS) {A : Nat → Prop} {a k : Nat} (hD : va_D A (X ++ va_pl S.L (wPF cyI cyJ cyZ S))) (hL : a ∈ S.L) (h : S.K a = 0) (hk : (X ++ va_pl S.L (wPF cyI cyJ cyZ S))[k]? = some (a, wPF cyI cyJ cyZ S a)) (v : Int32) : (X ++ va_pl S.L (wPF cyI cyJ cyZ S)).set k (a, .inr (0, [va_rf (S.O_Dictionary.f_words a), .int (S.O_Dictionary.f_count a), .int v])) = X ++ va_pl S.L (wPF cyI cyJ cyZ { S with O_Dictionary := { S.O_Dictionary with f_leastLength := va_up S.O_Dictionary.f_leastLength a v } }) := by
  rw [va_pl_set hD hL hk]
  exact congrArg (fun l => X ++ l) (va_pl_congr (wSt_O_Dictionary_f_leastLength cyI cyJ cyZ S h v))
theorem wNw_O_Dictionary (cyI : ClassId) (cyJ : ClassId) (cyZ : ClassId) (S : wPS) (a b : Nat) : va_up (wPF cyI cyJ cyZ S) a (.inr (0, [.null, .int 0, .int 0])) b = wPF cyI cyJ cyZ { S with L := S.L ++ [a], K := va_up S.K a 0, O_Dictionary := { f_words := va_up S.O_Dictionary.f_words a none, f_count := va_up S.O_Dictionary.f_count a 0, f_leastLength := va_up S.O_Dictionary.f_leastLength a 0 } } b := by by_cases hb : b = a <;> first | (simp only [wPF, va_up_ne _ _ hb]; done) | (simp only [wPF, va_up, if_neg hb]; done) | simp [wPF, va_re, va_up, va_rf, hb]
theorem wPn_O_Dictionary (cyI : ClassId) (cyJ : ClassId) (cyZ : ClassId) (X : va_W) (S : wPS) {a : Nat} (ha : a ∉ S.L) : (X ++ va_pl S.L (wPF cyI cyJ cyZ S)) ++ [(a, .inr (0, [.null, .int 0, .int 0]))] = X ++ va_pl (S.L ++ [a]) (wPF cyI cyJ cyZ { S with L := S.L ++ [a], K := va_up S.K a 0, O_Dictionary := { f_words := va_up S.O_Dictionary.f_words a none, f_count := va_up S.O_Dictionary.f_count a 0, f_leastLength := va_up S.O_Dictionary.f_leastLength a 0 } }) := by
  rw [List.append_assoc, va_pl_push ha]
  exact congrArg (fun l => X ++ l) (va_pl_congr (wNw_O_Dictionary cyI cyJ cyZ S a))
theorem wAt_O_Game (cyI : ClassId) (cyJ : ClassId) (cyZ : ClassId) (S : wPS) {a : Nat} (h : S.K a = 1) : wPF cyI cyJ cyZ S a = .inr (1, [va_rf (S.O_Game.f_strikes a), .int (S.O_Game.f_playerCount a), .int (S.O_Game.f_mover a), .int (S.O_Game.f_lastMover a), .int (S.O_Game.f_champion a), .long (S.O_Game.f_fragment a)]) := by simp [wPF, h]
theorem wGt_O_Game (cyI : ClassId) (cyJ : ClassId) (cyZ : ClassId) (X : va_W) (S : wPS) {a : Nat} (hL : a ∈ S.L) (h : S.K a = 1) : ∃ k : Nat, (X ++ va_pl S.L (wPF cyI cyJ cyZ S))[k]? = some (a, wPF cyI cyJ cyZ S a) ∧ (X ++ va_pl S.L (wPF cyI cyJ cyZ S))[k]? = some (a, .inr (1, [va_rf (S.O_Game.f_strikes a), .int (S.O_Game.f_playerCount a), .int (S.O_Game.f_mover a), .int (S.O_Game.f_lastMover a), .int (S.O_Game.f_champion a), .long (S.O_Game.f_fragment a)])) := by
  obtain ⟨k, hk⟩ := va_pl_get (X := X) (f := wPF cyI cyJ cyZ S) hL
  exact ⟨k, hk, hk.trans (congrArg (fun e => some (a, e)) (wAt_O_Game cyI cyJ cyZ S h))⟩
theorem wSt_O_Game_f_strikes (cyI : ClassId) (cyJ : ClassId) (cyZ : ClassId) (S : wPS) {a : Nat} (h : S.K a = 1) (v : Option Nat) (b : Nat) : va_up (wPF cyI cyJ cyZ S) a (.inr (1, [va_rf v, .int (S.O_Game.f_playerCount a), .int (S.O_Game.f_mover a), .int (S.O_Game.f_lastMover a), .int (S.O_Game.f_champion a), .long (S.O_Game.f_fragment a)])) b = wPF cyI cyJ cyZ { S with O_Game := { S.O_Game with f_strikes := va_up S.O_Game.f_strikes a v } } b := by by_cases hb : b = a <;> first | (simp only [wPF, va_up_ne _ _ hb]; done) | (simp only [wPF, va_up, if_neg hb]; done) | simp [wPF, va_re, va_up, va_rf, hb, h]
theorem wPu_O_Game_f_strikes (cyI : ClassId) (cyJ : ClassId) (cyZ : ClassId) (X : va_W) (S : wPS) {A : Nat → Prop} {a k : Nat} (hD : va_D A (X ++ va_pl S.L (wPF cyI cyJ cyZ S))) (hL : a ∈ S.L) (h : S.K a = 1) (hk : (X ++ va_pl S.L (wPF cyI cyJ cyZ S))[k]? = some (a, wPF cyI cyJ cyZ S a)) (v : Option Nat) : (X ++ va_pl S.L (wPF cyI cyJ cyZ S)).set k (a, .inr (1, [va_rf v, .int (S.O_Game.f_playerCount a), .int (S.O_Game.f_mover a), .int (S.O_Game.f_lastMover a), .int (S.O_Game.f_champion a), .long (S.O_Game.f_fragment a)])) = X ++ va_pl S.L (wPF cyI cyJ cyZ { S with O_Game := { S.O_Game with f_strikes := va_up S.O_Game.f_strikes a v } }) := by
  rw [va_pl_set hD hL hk]
  exact congrArg (fun l => X ++ l) (va_pl_congr (wSt_O_Game_f_strikes cyI cyJ cyZ S h v))
theorem wSt_O_Game_f_playerCount (cyI : ClassId) (cyJ : ClassId) (cyZ : ClassId) (S : wPS) {a : Nat} (h : S.K a = 1) (v : Int32) (b : Nat) : va_up (wPF cyI cyJ cyZ S) a (.inr (1, [va_rf (S.O_Game.f_strikes a), .int v, .int (S.O_Game.f_mover a), .int (S.O_Game.f_lastMover a), .int (S.O_Game.f_champion a), .long (S.O_Game.f_fragment a)])) b = wPF cyI cyJ cyZ { S with O_Game := { S.O_Game with f_playerCount := va_up S.O_Game.f_playerCount a v } } b := by by_cases hb : b = a <;> first | (simp only [wPF, va_up_ne _ _ hb]; done) | (simp only [wPF, va_up, if_neg hb]; done) | simp [wPF, va_re, va_up, va_rf, hb, h]
theorem wPu_O_Game_f_playerCount (cyI : ClassId) (cyJ : ClassId) (cyZ : ClassId) (X : va_W) (S : wPS) {A : Nat → Prop} {a k : Nat} (hD : va_D A (X ++ va_pl S.L (wPF cyI cyJ cyZ S))) (hL : a ∈ S.L) (h : S.K a = 1) (hk : (X ++ va_pl S.L (wPF cyI cyJ cyZ S))[k]? = some (a, wPF cyI cyJ cyZ S a)) (v : Int32) : (X ++ va_pl S.L (wPF cyI cyJ cyZ S)).set k (a, .inr (1, [va_rf (S.O_Game.f_strikes a), .int v, .int (S.O_Game.f_mover a), .int (S.O_Game.f_lastMover a), .int (S.O_Game.f_champion a), .long (S.O_Game.f_fragment a)])) = X ++ va_pl S.L (wPF cyI cyJ cyZ { S with O_Game := { S.O_Game with f_playerCount := va_up S.O_Game.f_playerCount a v } }) := by
  rw [va_pl_set hD hL hk]
  exact congrArg (fun l => X ++ l) (va_pl_congr (wSt_O_Game_f_playerCount cyI cyJ cyZ S h v))
theorem wSt_O_Game_f_mover (cyI : ClassId) (cyJ : ClassId) (cyZ : ClassId) (S : wPS) {a : Nat} (h : S.K a = 1) (v : Int32) (b : Nat) : va_up (wPF cyI cyJ cyZ S) a (.inr (1, [va_rf (S.O_Game.f_strikes a), .int (S.O_Game.f_playerCount a), .int v, .int (S.O_Game.f_lastMover a), .int (S.O_Game.f_champion a), .long (S.O_Game.f_fragment a)])) b = wPF cyI cyJ cyZ { S with O_Game := { S.O_Game with f_mover := va_up S.O_Game.f_mover a v } } b := by by_cases hb : b = a <;> first | (simp only [wPF, va_up_ne _ _ hb]; done) | (simp only [wPF, va_up, if_neg hb]; done) | simp [wPF, va_re, va_up, va_rf, hb, h]
theorem wPu_O_Game_f_mover (cyI : ClassId) (cyJ : ClassId) (cyZ : ClassId) (X : va_W) (S : wPS) {A : Nat → Prop} {a k : Nat} (hD : va_D A (X ++ va_pl S.L (wPF cyI cyJ cyZ S))) (hL : a ∈ S.L) (h : S.K a = 1) (hk : (X ++ va_pl S.L (wPF cyI cyJ cyZ S))[k]? = some (a, wPF cyI cyJ cyZ S a)) (v : Int32) : (X ++ va_pl S.L (wPF cyI cyJ cyZ S)).set k (a, .inr (1, [va_rf (S.O_Game.f_strikes a), .int (S.O_Game.f_playerCount a), .int v, .int (S.O_Game.f_lastMover a), .int (S.O_Game.f_champion a), .long (S.O_Game.f_fragment a)])) = X ++ va_pl S.L (wPF cyI cyJ cyZ { S with O_Game := { S.O_Game with f_mover := va_up S.O_Game.f_mover a v } }) := by
  rw [va_pl_set hD hL hk]
  exact congrArg (fun l => X ++ l) (va_pl_congr (wSt_O_Game_f_mover cyI cyJ cyZ S h v))
theorem wSt_O_Game_f_lastMover (cyI : ClassId) (cyJ : ClassId) (cyZ : ClassId) (S : wPS) {a : Nat} (h : S.K a = 1) (v : Int32) (b : Nat) : va_up (wPF cyI cyJ cyZ S) a (.inr (1, [va_rf (S.O_Game.f_strikes a), .int (S.O_Game.f_playerCount a), .int (S.O_Game.f_mover a), .int v, .int (S.O_Game.f_champion a), .long (S.O_Game.f_fragment a)])) b = wPF cyI cyJ cyZ { S with O_Game := { S.O_Game with f_lastMover := va_up S.O_Game.f_lastMover a v } } b := by by_cases hb : b = a <;> first | (simp only [wPF, va_up_ne _ _ hb]; done) | (simp only [wPF, va_up, if_neg hb]; done) | simp [wPF, va_re, va_up, va_rf, hb, h]
theorem wPu_O_Game_f_lastMover (cyI : ClassId) (cyJ : ClassId) (cyZ : ClassId) (X : va_W) (S : wPS) {A : Nat → Prop} {a k : Nat} (hD : va_D A (X ++ va_pl S.L (wPF cyI cyJ cyZ S))) (hL : a ∈ S.L) (h : S.K a = 1) (hk : (X ++ va_pl S.L (wPF cyI cyJ cyZ S))[k]? = some (a, wPF cyI cyJ cyZ S a)) (v : Int32) : (X ++ va_pl S.L (wPF cyI cyJ cyZ S)).set k (a, .inr (1, [va_rf (S.O_Game.f_strikes a), .int (S.O_Game.f_playerCount a), .int (S.O_Game.f_mover a), .int v, .int (S.O_Game.f_champion a), .long (S.O_Game.f_fragment a)])) = X ++ va_pl S.L (wPF cyI cyJ cyZ { S with O_Game := { S.O_Game with f_lastMover := va_up S.O_Game.f_lastMover a v } }) := by
  rw [va_pl_set hD hL hk]
  exact congrArg (fun l => X ++ l) (va_pl_congr (wSt_O_Game_f_lastMover cyI cyJ cyZ S h v))
theorem wSt_O_Game_f_champion (cyI : ClassId) (cyJ : ClassId) (cyZ : ClassId) (S : wPS) {a : Nat} (h : S.K a = 1) (v : Int32) (b : Nat) : va_up (wPF cyI cyJ cyZ S) a (.inr (1, [va_rf (S.O_Game.f_strikes a), .int (S.O_Game.f_playerCount a), .int (S.O_Game.f_mover a), .int (S.O_Game.f_lastMover a), .int v, .long (S.O_Game.f_fragment a)])) b = wPF cyI cyJ cyZ { S with O_Game := { S.O_Game with f_champion := va_up S.O_Game.f_champion a v } } b := by by_cases hb : b = a <;> first | (simp only [wPF, va_up_ne _ _ hb]; done) | (simp only [wPF, va_up, if_neg hb]; done) | simp [wPF, va_re, va_up, va_rf, hb, h]
theorem wPu_O_Game_f_champion (cyI : ClassId) (cyJ : ClassId) (cyZ : ClassId) (X : va_W) (S : wPS) {A : Nat → Prop} {a k : Nat} (hD : va_D A (X ++ va_pl S.L (wPF cyI cyJ cyZ S))) (hL : a ∈ S.L) (h : S.K a = 1) (hk : (X ++ va_pl S.L (wPF cyI cyJ cyZ S))[k]? = some (a, wPF cyI cyJ cyZ S a)) (v : Int32) : (X ++ va_pl S.L (wPF cyI cyJ cyZ S)).set k (a, .inr (1, [va_rf (S.O_Game.f_strikes a), .int (S.O_Game.f_playerCount a), .int (S.O_Game.f_mover a), .int (S.O_Game.f_lastMover a), .int v, .long (S.O_Game.f_fragment a)])) = X ++ va_pl S.L (wPF cyI cyJ cyZ { S with O_Game := { S.O_Game with f_champion := va_up S.O_Game.f_champion a v } }) := by
  rw [va_pl_set hD hL hk]
  exact congrArg (fun l => X ++ l) (va_pl_congr (wSt_O_Game_f_champion cyI cyJ cyZ S h v))
theorem wSt_O_Game_f_fragment (cyI : ClassId) (cyJ : ClassId) (cyZ : ClassId) (S : wPS) {a : Nat} (h : S.K a = 1) (v : Int64) (b : Nat) : va_up (wPF cyI cyJ cyZ S) a (.inr (1, [va_rf (S.O_Game.f_strikes a), .int (S.O_Game.f_playerCount a), .int (S.O_Game.f_mover a), .int (S.O_Game.f_lastMover a), .int (S.O_Game.f_champion a), .long v])) b = wPF cyI cyJ cyZ { S with O_Game := { S.O_Game with f_fragment := va_up S.O_Game.f_fragment a v } } b := by by_cases hb : b = a <;> first | (simp only [wPF, va_up_ne _ _ hb]; done) | (simp only [wPF, va_up, if_neg hb]; done) | simp [wPF, va_re, va_up, va_rf, hb, h]
theorem wPu_O_Game_f_fragment (cyI : ClassId) (cyJ : ClassId) (cyZ : ClassId) (X : va_W) (S : wPS) {A : Nat → Prop} {a k : Nat} (hD : va_D A (X ++ va_pl S.L (wPF cyI cyJ cyZ S))) (hL : a ∈ S.L) (h : S.K a = 1) (hk : (X ++ va_pl S.L (wPF cyI cyJ cyZ S))[k]? = some (a, wPF cyI cyJ cyZ S a)) (v : Int64) : (X ++ va_pl S.L (wPF cyI cyJ cyZ S)).set k (a, .inr (1, [va_rf (S.O_Game.f_strikes a), .int (S.O_Game.f_playerCount a), .int (S.O_Game.f_mover a), .int (S.O_Game.f_lastMover a), .int (S.O_Game.f_champion a), .long v])) = X ++ va_pl S.L (wPF cyI cyJ cyZ { S with O_Game := { S.O_Game with f_fragment := va_up S.O_Game.f_fragment a v } }) := by
  rw [va_pl_set hD hL hk]
  exact congrArg (fun l => X ++ l) (va_pl_congr (wSt_O_Game_f_fragment cyI cyJ cyZ S h v))
theorem wNw_O_Game (cyI : ClassId) (cyJ : ClassId) (cyZ : ClassId) (S : wPS) (a b : Nat) : va_up (wPF cyI cyJ cyZ S) a (.inr (1, [.null, .int 0, .int 0, .int 0, .int 0, .long 0])) b = wPF cyI cyJ cyZ { S with L := S.L ++ [a], K := va_up S.K a 1, O_Game := { f_strikes := va_up S.O_Game.f_strikes a none, f_playerCount := va_up S.O_Game.f_playerCount a 0, f_mover := va_up S.O_Game.f_mover a 0, f_lastMover := va_up S.O_Game.f_lastMover a 0, f_champion := va_up S.O_Game.f_champion a 0, f_fragment := va_up S.O_Game.f_fragment a 0 } } b := by by_cases hb : b = a <;> first | (simp only [wPF, va_up_ne _ _ hb]; done) | (simp only [wPF, va_up, if_neg hb]; done) | simp [wPF, va_re, va_up, va_rf, hb]
theorem wPn_O_Game (cyI : ClassId) (cyJ : ClassId) (cyZ : ClassId) (X : va_W) (S : wPS) {a : Nat} (ha : a ∉ S.L) : (X ++ va_pl S.L (wPF cyI cyJ cyZ S)) ++ [(a, .inr (1, [.null, .int 0, .int 0, .int 0, .int 0, .long 0]))] = X ++ va_pl (S.L ++ [a]) (wPF cyI cyJ cyZ { S with L := S.L ++ [a], K := va_up S.K a 1, O_Game := { f_strikes := va_up S.O_Game.f_strikes a none, f_playerCount := va_up S.O_Game.f_playerCount a 0, f_mover := va_up S.O_Game.f_mover a 0, f_lastMover := va_up S.O_Game.f_lastMover a 0, f_champion := va_up S.O_Game.f_champion a 0, f_fragment := va_up S.O_Game.f_fragment a 0 } }) := by
  rw [List.append_assoc, va_pl_push ha]
  exact congrArg (fun l => X ++ l) (va_pl_congr (wNw_O_Game cyI cyJ cyZ S a))
theorem wAt_O_GhostGame (cyI : ClassId) (cyJ : ClassId) (cyZ : ClassId) (S : wPS) {a : Nat} (h : S.K a = 2) : wPF cyI cyJ cyZ S a = .inr (2, [va_rf (S.O_GhostGame.f_dictionary a), va_rf (S.O_GhostGame.f_game a), .long (S.O_GhostGame.f_slip a)]) := by simp [wPF, h]
theorem wGt_O_GhostGame (cyI : ClassId) (cyJ : ClassId) (cyZ : ClassId) (X : va_W) (S : wPS) {a : Nat} (hL : a ∈ S.L) (h : S.K a = 2) : ∃ k : Nat, (X ++ va_pl S.L (wPF cyI cyJ cyZ S))[k]? = some (a, wPF cyI cyJ cyZ S a) ∧ (X ++ va_pl S.L (wPF cyI cyJ cyZ S))[k]? = some (a, .inr (2, [va_rf (S.O_GhostGame.f_dictionary a), va_rf (S.O_GhostGame.f_game a), .long (S.O_GhostGame.f_slip a)])) := by
  obtain ⟨k, hk⟩ := va_pl_get (X := X) (f := wPF cyI cyJ cyZ S) hL
  exact ⟨k, hk, hk.trans (congrArg (fun e => some (a, e)) (wAt_O_GhostGame cyI cyJ cyZ S h))⟩
theorem wSt_O_GhostGame_f_dictionary (cyI : ClassId) (cyJ : ClassId) (cyZ : ClassId) (S : wPS) {a : Nat} (h : S.K a = 2) (v : Option Nat) (b : Nat) : va_up (wPF cyI cyJ cyZ S) a (.inr (2, [va_rf v, va_rf (S.O_GhostGame.f_game a), .long (S.O_GhostGame.f_slip a)])) b = wPF cyI cyJ cyZ { S with O_GhostGame := { S.O_GhostGame with f_dictionary := va_up S.O_GhostGame.f_dictionary a v } } b := by by_cases hb : b = a <;> first | (simp only [wPF, va_up_ne _ _ hb]; done) | (simp only [wPF, va_up, if_neg hb]; done) | simp [wPF, va_re, va_up, va_rf, hb, h]
theorem wPu_O_GhostGame_f_dictionary (cyI : ClassId) (cyJ : ClassId) (cyZ : ClassId) (X : va_W) (S : wPS) {A : Nat → Prop} {a k : Nat} (hD : va_D A (X ++ va_pl S.L (wPF cyI cyJ cyZ S))) (hL : a ∈ S.L) (h : S.K a = 2) (hk : (X ++ va_pl S.L (wPF cyI cyJ cyZ S))[k]? = some (a, wPF cyI cyJ cyZ S a)) (v : Option Nat) : (X ++ va_pl S.L (wPF cyI cyJ cyZ S)).set k (a, .inr (2, [va_rf v, va_rf (S.O_GhostGame.f_game a), .long (S.O_GhostGame.f_slip a)])) = X ++ va_pl S.L (wPF cyI cyJ cyZ { S with O_GhostGame := { S.O_GhostGame with f_dictionary := va_up S.O_GhostGame.f_dictionary a v } }) := by
  rw [va_pl_set hD hL hk]
  exact congrArg (fun l => X ++ l) (va_pl_congr (wSt_O_GhostGame_f_dictionary cyI cyJ cyZ S h v))
theorem wSt_O_GhostGame_f_game (cyI : ClassId) (cyJ : ClassId) (cyZ : ClassId) (S : wPS) {a : Nat} (h : S.K a = 2) (v : Option Nat) (b : Nat) : va_up (wPF cyI cyJ cyZ S) a (.inr (2, [va_rf (S.O_GhostGame.f_dictionary a), va_rf v, .long (S.O_GhostGame.f_slip a)])) b = wPF cyI cyJ cyZ { S with O_GhostGame := { S.O_GhostGame with f_game := va_up S.O_GhostGame.f_game a v } } b := by by_cases hb : b = a <;> first | (simp only [wPF, va_up_ne _ _ hb]; done) | (simp only [wPF, va_up, if_neg hb]; done) | simp [wPF, va_re, va_up, va_rf, hb, h]
theorem wPu_O_GhostGame_f_game (cyI : ClassId) (cyJ : ClassId) (cyZ : ClassId) (X : va_W) (S : wPS) {A : Nat → Prop} {a k : Nat} (hD : va_D A (X ++ va_pl S.L (wPF cyI cyJ cyZ S))) (hL : a ∈ S.L) (h : S.K a = 2) (hk : (X ++ va_pl S.L (wPF cyI cyJ cyZ S))[k]? = some (a, wPF cyI cyJ cyZ S a)) (v : Option Nat) : (X ++ va_pl S.L (wPF cyI cyJ cyZ S)).set k (a, .inr (2, [va_rf (S.O_GhostGame.f_dictionary a), va_rf v, .long (S.O_GhostGame.f_slip a)])) = X ++ va_pl S.L (wPF cyI cyJ cyZ { S with O_GhostGame := { S.O_GhostGame with f_game := va_up S.O_GhostGame.f_game a v } }) := by
  rw [va_pl_set hD hL hk]
  exact congrArg (fun l => X ++ l) (va_pl_congr (wSt_O_GhostGame_f_game cyI cyJ cyZ S h v))
theorem wSt_O_GhostGame_f_slip (cyI : ClassId) (cyJ : ClassId) (cyZ : ClassId) (S : wPS) {a : Nat} (h : S.K a = 2) (v : Int64) (b : Nat) : va_up (wPF cyI cyJ cyZ S) a (.inr (2, [va_rf (S.O_GhostGame.f_dictionary a), va_rf (S.O_GhostGame.f_game a), .long v])) b = wPF cyI cyJ cyZ { S with O_GhostGame := { S.O_GhostGame with f_slip := va_up S.O_GhostGame.f_slip a v } } b := by by_cases hb : b = a <;> first | (simp only [wPF, va_up_ne _ _ hb]; done) | (simp only [wPF, va_up, if_neg hb]; done) | simp [wPF, va_re, va_up, va_rf, hb, h]
theorem wPu_O_GhostGame_f_slip (cyI : ClassId) (cyJ : ClassId) (cyZ : ClassId) (X : va_W) (S : wPS) {A : Nat → Prop} {a k : Nat} (hD : va_D A (X ++ va_pl S.L (wPF cyI cyJ cyZ S))) (hL : a ∈ S.L) (h : S.K a = 2) (hk : (X ++ va_pl S.L (wPF cyI cyJ cyZ S))[k]? = some (a, wPF cyI cyJ cyZ S a)) (v : Int64) : (X ++ va_pl S.L (wPF cyI cyJ cyZ S)).set k (a, .inr (2, [va_rf (S.O_GhostGame.f_dictionary a), va_rf (S.O_GhostGame.f_game a), .long v])) = X ++ va_pl S.L (wPF cyI cyJ cyZ { S with O_GhostGame := { S.O_GhostGame with f_slip := va_up S.O_GhostGame.f_slip a v } }) := by
  rw [va_pl_set hD hL hk]
  exact congrArg (fun l => X ++ l) (va_pl_congr (wSt_O_GhostGame_f_slip cyI cyJ cyZ S h v))
theorem wNw_O_GhostGame (cyI : ClassId) (cyJ : ClassId) (cyZ : ClassId) (S : wPS) (a b : Nat) : va_up (wPF cyI cyJ cyZ S) a (.inr (2, [.null, .null, .long 0])) b = wPF cyI cyJ cyZ { S with L := S.L ++ [a], K := va_up S.K a 2, O_GhostGame := { f_dictionary := va_up S.O_GhostGame.f_dictionary a none, f_game := va_up S.O_GhostGame.f_game a none, f_slip := va_up S.O_GhostGame.f_slip a 0 } } b := by by_cases hb : b = a <;> first | (simp only [wPF, va_up_ne _ _ hb]; done) | (simp only [wPF, va_up, if_neg hb]; done) | simp [wPF, va_re, va_up, va_rf, hb]
theorem wPn_O_GhostGame (cyI : ClassId) (cyJ : ClassId) (cyZ : ClassId) (X : va_W) (S : wPS) {a : Nat} (ha : a ∉ S.L) : (X ++ va_pl S.L (wPF cyI cyJ cyZ S)) ++ [(a, .inr (2, [.null, .null, .long 0]))] = X ++ va_pl (S.L ++ [a]) (wPF cyI cyJ cyZ { S with L := S.L ++ [a], K := va_up S.K a 2, O_GhostGame := { f_dictionary := va_up S.O_GhostGame.f_dictionary a none, f_game := va_up S.O_GhostGame.f_game a none, f_slip := va_up S.O_GhostGame.f_slip a 0 } }) := by
  rw [List.append_assoc, va_pl_push ha]
  exact congrArg (fun l => X ++ l) (va_pl_congr (wNw_O_GhostGame cyI cyJ cyZ S a))
theorem wAt_O_GhostGameModel (cyI : ClassId) (cyJ : ClassId) (cyZ : ClassId) (S : wPS) {a : Nat} (h : S.K a = 3) : wPF cyI cyJ cyZ S a = .inr (3, [va_rf (S.O_GhostGameModel.f_slip a), .int (S.O_GhostGameModel.f_slipLength a), va_rf (S.O_GhostGameModel.f_letters a), va_rf (S.O_GhostGameModel.f_length a), .int (S.O_GhostGameModel.f_words a), .int (S.O_GhostGameModel.f_least a), .int (S.O_GhostGameModel.f_players a), va_rf (S.O_GhostGameModel.f_strikes a), .int (S.O_GhostGameModel.f_turn a), .int (S.O_GhostGameModel.f_latest a), .int (S.O_GhostGameModel.f_winner a), va_rf (S.O_GhostGameModel.f_fragment a), .int (S.O_GhostGameModel.f_fragmentLength a), va_rf (S.O_GhostGameModel.f_wins a), va_rf (S.O_GhostGameModel.f_ends a), va_rf (S.O_GhostGameModel.f_chosen a), va_rf (S.O_GhostGameModel.f_good a), va_rf (S.O_GhostGameModel.f_open a), .int (S.O_GhostGameModel.f_thrown a)]) := by simp [wPF, h]
theorem wGt_O_GhostGameModel (cyI : ClassId) (cyJ : ClassId) (cyZ : ClassId) (X : va_W) (S : wPS) {a : Nat} (hL : a ∈ S.L) (h : S.K a = 3) : ∃ k : Nat, (X ++ va_pl S.L (wPF cyI cyJ cyZ S))[k]? = some (a, wPF cyI cyJ cyZ S a) ∧ (X ++ va_pl S.L (wPF cyI cyJ cyZ S))[k]? = some (a, .inr (3, [va_rf (S.O_GhostGameModel.f_slip a), .int (S.O_GhostGameModel.f_slipLength a), va_rf (S.O_GhostGameModel.f_letters a), va_rf (S.O_GhostGameModel.f_length a), .int (S.O_GhostGameModel.f_words a), .int (S.O_GhostGameModel.f_least a), .int (S.O_GhostGameModel.f_players a), va_rf (S.O_GhostGameModel.f_strikes a), .int (S.O_GhostGameModel.f_turn a), .int (S.O_GhostGameModel.f_latest a), .int (S.O_GhostGameModel.f_winner a), va_rf (S.O_GhostGameModel.f_fragment a), .int (S.O_GhostGameModel.f_fragmentLength a), va_rf (S.O_GhostGameModel.f_wins a), va_rf (S.O_GhostGameModel.f_ends a), va_rf (S.O_GhostGameModel.f_chosen a), va_rf (S.O_GhostGameModel.f_good a), va_rf (S.O_GhostGameModel.f_open a), .int (S.O_GhostGameModel.f_thrown a)])) := by
  obtain ⟨k, hk⟩ := va_pl_get (X := X) (f := wPF cyI cyJ cyZ S) hL
  exact ⟨k, hk, hk.trans (congrArg (fun e => some (a, e)) (wAt_O_GhostGameModel cyI cyJ cyZ S h))⟩
theorem wSt_O_GhostGameModel_f_slip (cyI : ClassId) (cyJ : ClassId) (cyZ : ClassId) (S : wPS) {a : Nat} (h : S.K a = 3) (v : Option Nat) (b : Nat) : va_up (wPF cyI cyJ cyZ S) a (.inr (3, [va_rf v, .int (S.O_GhostGameModel.f_slipLength a), va_rf (S.O_GhostGameModel.f_letters a), va_rf (S.O_GhostGameModel.f_length a), .int (S.O_GhostGameModel.f_words a), .int (S.O_GhostGameModel.f_least a), .int (S.O_GhostGameModel.f_players a), va_rf (S.O_GhostGameModel.f_strikes a), .int (S.O_GhostGameModel.f_turn a), .int (S.O_GhostGameModel.f_latest a), .int (S.O_GhostGameModel.f_winner a), va_rf (S.O_GhostGameModel.f_fragment a), .int (S.O_GhostGameModel.f_fragmentLength a), va_rf (S.O_GhostGameModel.f_wins a), va_rf (S.O_GhostGameModel.f_ends a), va_rf (S.O_GhostGameModel.f_chosen a), va_rf (S.O_GhostGameModel.f_good a), va_rf (S.O_GhostGameModel.f_open a), .int (S.O_GhostGameModel.f_thrown a)])) b = wPF cyI cyJ cyZ { S with O_GhostGameModel := { S.O_GhostGameModel with f_slip := va_up S.O_GhostGameModel.f_slip a v } } b := by by_cases hb : b = a <;> first | (simp only [wPF, va_up_ne _ _ hb]; done) | (simp only [wPF, va_up, if_neg hb]; done) | simp [wPF, va_re, va_up, va_rf, hb, h]
theorem wPu_O_GhostGameModel_f_slip (cyI : ClassId) (cyJ : ClassId) (cyZ : ClassId) (X : va_W) (S : wPS) {A : Nat → Prop} {a k : Nat} (hD : va_D A (X ++ va_pl S.L (wPF cyI cyJ cyZ S))) (hL : a ∈ S.L) (h : S.K a = 3) (hk : (X ++ va_pl S.L (wPF cyI cyJ cyZ S))[k]? = some (a, wPF cyI cyJ cyZ S a)) (v : Option Nat) : (X ++ va_pl S.L (wPF cyI cyJ cyZ S)).set k (a, .inr (3, [va_rf v, .int (S.O_GhostGameModel.f_slipLength a), va_rf (S.O_GhostGameModel.f_letters a), va_rf (S.O_GhostGameModel.f_length a), .int (S.O_GhostGameModel.f_words a), .int (S.O_GhostGameModel.f_least a), .int (S.O_GhostGameModel.f_players a), va_rf (S.O_GhostGameModel.f_strikes a), .int (S.O_GhostGameModel.f_turn a), .int (S.O_GhostGameModel.f_latest a), .int (S.O_GhostGameModel.f_winner a), va_rf (S.O_GhostGameModel.f_fragment a), .int (S.O_GhostGameModel.f_fragmentLength a), va_rf (S.O_GhostGameModel.f_wins a), va_rf (S.O_GhostGameModel.f_ends a), va_rf (S.O_GhostGameModel.f_chosen a), va_rf (S.O_GhostGameModel.f_good a), va_rf (S.O_GhostGameModel.f_open a), .int (S.O_GhostGameModel.f_thrown a)])) = X ++ va_pl S.L (wPF cyI cyJ cyZ { S with O_GhostGameModel := { S.O_GhostGameModel with f_slip := va_up S.O_GhostGameModel.f_slip a v } }) := by
  rw [va_pl_set hD hL hk]
  exact congrArg (fun l => X ++ l) (va_pl_congr (wSt_O_GhostGameModel_f_slip cyI cyJ cyZ S h v))
theorem wSt_O_GhostGameModel_f_slipLength (cyI : ClassId) (cyJ : ClassId) (cyZ : ClassId) (S : wPS) {a : Nat} (h : S.K a = 3) (v : Int32) (b : Nat) : va_up (wPF cyI cyJ cyZ S) a (.inr (3, [va_rf (S.O_GhostGameModel.f_slip a), .int v, va_rf (S.O_GhostGameModel.f_letters a), va_rf (S.O_GhostGameModel.f_length a), .int (S.O_GhostGameModel.f_words a), .int (S.O_GhostGameModel.f_least a), .int (S.O_GhostGameModel.f_players a), va_rf (S.O_GhostGameModel.f_strikes a), .int (S.O_GhostGameModel.f_turn a), .int (S.O_GhostGameModel.f_latest a), .int (S.O_GhostGameModel.f_winner a), va_rf (S.O_GhostGameModel.f_fragment a), .int (S.O_GhostGameModel.f_fragmentLength a), va_rf (S.O_GhostGameModel.f_wins a), va_rf (S.O_GhostGameModel.f_ends a), va_rf (S.O_GhostGameModel.f_chosen a), va_rf (S.O_GhostGameModel.f_good a), va_rf (S.O_GhostGameModel.f_open a), .int (S.O_GhostGameModel.f_thrown a)])) b = wPF cyI cyJ cyZ { S with O_GhostGameModel := { S.O_GhostGameModel with f_slipLength := va_up S.O_GhostGameModel.f_slipLength a v } } b := by by_cases hb : b = a <;> first | (simp only [wPF, va_up_ne _ _ hb]; done) | (simp only [wPF, va_up, if_neg hb]; done) | simp [wPF, va_re, va_up, va_rf, hb, h]
theorem wPu_O_GhostGameModel_f_slipLength (cyI : ClassId) (cyJ : ClassId) (cyZ : ClassId) (X : va_W) (S : wPS) {A : Nat → Prop} {a k : Nat} (hD : va_D A (X ++ va_pl S.L (wPF cyI cyJ cyZ S))) (hL : a ∈ S.L) (h : S.K a = 3) (hk : (X ++ va_pl S.L (wPF cyI cyJ cyZ S))[k]? = some (a, wPF cyI cyJ cyZ S a)) (v : Int32) : (X ++ va_pl S.L (wPF cyI cyJ cyZ S)).set k (a, .inr (3, [va_rf (S.O_GhostGameModel.f_slip a), .int v, va_rf (S.O_GhostGameModel.f_letters a), va_rf (S.O_GhostGameModel.f_length a), .int (S.O_GhostGameModel.f_words a), .int (S.O_GhostGameModel.f_least a), .int (S.O_GhostGameModel.f_players a), va_rf (S.O_GhostGameModel.f_strikes a), .int (S.O_GhostGameModel.f_turn a), .int (S.O_GhostGameModel.f_latest a), .int (S.O_GhostGameModel.f_winner a), va_rf (S.O_GhostGameModel.f_fragment a), .int (S.O_GhostGameModel.f_fragmentLength a), va_rf (S.O_GhostGameModel.f_wins a), va_rf (S.O_GhostGameModel.f_ends a), va_rf (S.O_GhostGameModel.f_chosen a), va_rf (S.O_GhostGameModel.f_good a), va_rf (S.O_GhostGameModel.f_open a), .int (S.O_GhostGameModel.f_thrown a)])) = X ++ va_pl S.L (wPF cyI cyJ cyZ { S with O_GhostGameModel := { S.O_GhostGameModel with f_slipLength := va_up S.O_GhostGameModel.f_slipLength a v } }) := by
  rw [va_pl_set hD hL hk]
  exact congrArg (fun l => X ++ l) (va_pl_congr (wSt_O_GhostGameModel_f_slipLength cyI cyJ cyZ S h v))
theorem wSt_O_GhostGameModel_f_letters (cyI : ClassId) (cyJ : ClassId) (cyZ : ClassId) (S : wPS) {a : Nat} (h : S.K a = 3) (v : Option Nat) (b : Nat) : va_up (wPF cyI cyJ cyZ S) a (.inr (3, [va_rf (S.O_GhostGameModel.f_slip a), .int (S.O_GhostGameModel.f_slipLength a), va_rf v, va_rf (S.O_GhostGameModel.f_length a), .int (S.O_GhostGameModel.f_words a), .int (S.O_GhostGameModel.f_least a), .int (S.O_GhostGameModel.f_players a), va_rf (S.O_GhostGameModel.f_strikes a), .int (S.O_GhostGameModel.f_turn a), .int (S.O_GhostGameModel.f_latest a), .int (S.O_GhostGameModel.f_winner a), va_rf (S.O_GhostGameModel.f_fragment a), .int (S.O_GhostGameModel.f_fragmentLength a), va_rf (S.O_GhostGameModel.f_wins a), va_rf (S.O_GhostGameModel.f_ends a), va_rf (S.O_GhostGameModel.f_chosen a), va_rf (S.O_GhostGameModel.f_good a), va_rf (S.O_GhostGameModel.f_open a), .int (S.O_GhostGameModel.f_thrown a)])) b = wPF cyI cyJ cyZ { S with O_GhostGameModel := { S.O_GhostGameModel with f_letters := va_up S.O_GhostGameModel.f_letters a v } } b := by by_cases hb : b = a <;> first | (simp only [wPF, va_up_ne _ _ hb]; done) | (simp only [wPF, va_up, if_neg hb]; done) | simp [wPF, va_re, va_up, va_rf, hb, h]
theorem wPu_O_GhostGameModel_f_letters (cyI : ClassId) (cyJ : ClassId) (cyZ : ClassId) (X : va_W) (S : wPS) {A : Nat → Prop} {a k : Nat} (hD : va_D A (X ++ va_pl S.L (wPF cyI cyJ cyZ S))) (hL : a ∈ S.L) (h : S.K a = 3) (hk : (X ++ va_pl S.L (wPF cyI cyJ cyZ S))[k]? = some (a, wPF cyI cyJ cyZ S a)) (v : Option Nat) : (X ++ va_pl S.L (wPF cyI cyJ cyZ S)).set k (a, .inr (3, [va_rf (S.O_GhostGameModel.f_slip a), .int (S.O_GhostGameModel.f_slipLength a), va_rf v, va_rf (S.O_GhostGameModel.f_length a), .int (S.O_GhostGameModel.f_words a), .int (S.O_GhostGameModel.f_least a), .int (S.O_GhostGameModel.f_players a), va_rf (S.O_GhostGameModel.f_strikes a), .int (S.O_GhostGameModel.f_turn a), .int (S.O_GhostGameModel.f_latest a), .int (S.O_GhostGameModel.f_winner a), va_rf (S.O_GhostGameModel.f_fragment a), .int (S.O_GhostGameModel.f_fragmentLength a), va_rf (S.O_GhostGameModel.f_wins a), va_rf (S.O_GhostGameModel.f_ends a), va_rf (S.O_GhostGameModel.f_chosen a), va_rf (S.O_GhostGameModel.f_good a), va_rf (S.O_GhostGameModel.f_open a), .int (S.O_GhostGameModel.f_thrown a)])) = X ++ va_pl S.L (wPF cyI cyJ cyZ { S with O_GhostGameModel := { S.O_GhostGameModel with f_letters := va_up S.O_GhostGameModel.f_letters a v } }) := by
  rw [va_pl_set hD hL hk]
  exact congrArg (fun l => X ++ l) (va_pl_congr (wSt_O_GhostGameModel_f_letters cyI cyJ cyZ S h v))
theorem wSt_O_GhostGameModel_f_length (cyI : ClassId) (cyJ : ClassId) (cyZ : ClassId) (S : wPS) {a : Nat} (h : S.K a = 3) (v : Option Nat) (b : Nat) : va_up (wPF cyI cyJ cyZ S) a (.inr (3, [va_rf (S.O_GhostGameModel.f_slip a), .int (S.O_GhostGameModel.f_slipLength a), va_rf (S.O_GhostGameModel.f_letters a), va_rf v, .int (S.O_GhostGameModel.f_words a), .int (S.O_GhostGameModel.f_least a), .int (S.O_GhostGameModel.f_players a), va_rf (S.O_GhostGameModel.f_strikes a), .int (S.O_GhostGameModel.f_turn a), .int (S.O_GhostGameModel.f_latest a), .int (S.O_GhostGameModel.f_winner a), va_rf (S.O_GhostGameModel.f_fragment a), .int (S.O_GhostGameModel.f_fragmentLength a), va_rf (S.O_GhostGameModel.f_wins a), va_rf (S.O_GhostGameModel.f_ends a), va_rf (S.O_GhostGameModel.f_chosen a), va_rf (S.O_GhostGameModel.f_good a), va_rf (S.O_GhostGameModel.f_open a), .int (S.O_GhostGameModel.f_thrown a)])) b = wPF cyI cyJ cyZ { S with O_GhostGameModel := { S.O_GhostGameModel with f_length := va_up S.O_GhostGameModel.f_length a v } } b := by by_cases hb : b = a <;> first | (simp only [wPF, va_up_ne _ _ hb]; done) | (simp only [wPF, va_up, if_neg hb]; done) | simp [wPF, va_re, va_up, va_rf, hb, h]
theorem wPu_O_GhostGameModel_f_length (cyI : ClassId) (cyJ : ClassId) (cyZ : ClassId) (X : va_W) (S : wPS) {A : Nat → Prop} {a k : Nat} (hD : va_D A (X ++ va_pl S.L (wPF cyI cyJ cyZ S))) (hL : a ∈ S.L) (h : S.K a = 3) (hk : (X ++ va_pl S.L (wPF cyI cyJ cyZ S))[k]? = some (a, wPF cyI cyJ cyZ S a)) (v : Option Nat) : (X ++ va_pl S.L (wPF cyI cyJ cyZ S)).set k (a, .inr (3, [va_rf (S.O_GhostGameModel.f_slip a), .int (S.O_GhostGameModel.f_slipLength a), va_rf (S.O_GhostGameModel.f_letters a), va_rf v, .int (S.O_GhostGameModel.f_words a), .int (S.O_GhostGameModel.f_least a), .int (S.O_GhostGameModel.f_players a), va_rf (S.O_GhostGameModel.f_strikes a), .int (S.O_GhostGameModel.f_turn a), .int (S.O_GhostGameModel.f_latest a), .int (S.O_GhostGameModel.f_winner a), va_rf (S.O_GhostGameModel.f_fragment a), .int (S.O_GhostGameModel.f_fragmentLength a), va_rf (S.O_GhostGameModel.f_wins a), va_rf (S.O_GhostGameModel.f_ends a), va_rf (S.O_GhostGameModel.f_chosen a), va_rf (S.O_GhostGameModel.f_good a), va_rf (S.O_GhostGameModel.f_open a), .int (S.O_GhostGameModel.f_thrown a)])) = X ++ va_pl S.L (wPF cyI cyJ cyZ { S with O_GhostGameModel := { S.O_GhostGameModel with f_length := va_up S.O_GhostGameModel.f_length a v } }) := by
  rw [va_pl_set hD hL hk]
  exact congrArg (fun l => X ++ l) (va_pl_congr (wSt_O_GhostGameModel_f_length cyI cyJ cyZ S h v))
theorem wSt_O_GhostGameModel_f_words (cyI : ClassId) (cyJ : ClassId) (cyZ : ClassId) (S : wPS) {a : Nat} (h : S.K a = 3) (v : Int32) (b : Nat) : va_up (wPF cyI cyJ cyZ S) a (.inr (3, [va_rf (S.O_GhostGameModel.f_slip a), .int (S.O_GhostGameModel.f_slipLength a), va_rf (S.O_GhostGameModel.f_letters a), va_rf (S.O_GhostGameModel.f_length a), .int v, .int (S.O_GhostGameModel.f_least a), .int (S.O_GhostGameModel.f_players a), va_rf (S.O_GhostGameModel.f_strikes a), .int (S.O_GhostGameModel.f_turn a), .int (S.O_GhostGameModel.f_latest a), .int (S.O_GhostGameModel.f_winner a), va_rf (S.O_GhostGameModel.f_fragment a), .int (S.O_GhostGameModel.f_fragmentLength a), va_rf (S.O_GhostGameModel.f_wins a), va_rf (S.O_GhostGameModel.f_ends a), va_rf (S.O_GhostGameModel.f_chosen a), va_rf (S.O_GhostGameModel.f_good a), va_rf (S.O_GhostGameModel.f_open a), .int (S.O_GhostGameModel.f_thrown a)])) b = wPF cyI cyJ cyZ { S with O_GhostGameModel := { S.O_GhostGameModel with f_words := va_up S.O_GhostGameModel.f_words a v } } b := by by_cases hb : b = a <;> first | (simp only [wPF, va_up_ne _ _ hb]; done) | (simp only [wPF, va_up, if_neg hb]; done) | simp [wPF, va_re, va_up, va_rf, hb, h]
theorem wPu_O_GhostGameModel_f_words (cyI : ClassId) (cyJ : ClassId) (cyZ : ClassId) (X : va_W) (S : wPS) {A : Nat → Prop} {a k : Nat} (hD : va_D A (X ++ va_pl S.L (wPF cyI cyJ cyZ S))) (hL : a ∈ S.L) (h : S.K a = 3) (hk : (X ++ va_pl S.L (wPF cyI cyJ cyZ S))[k]? = some (a, wPF cyI cyJ cyZ S a)) (v : Int32) : (X ++ va_pl S.L (wPF cyI cyJ cyZ S)).set k (a, .inr (3, [va_rf (S.O_GhostGameModel.f_slip a), .int (S.O_GhostGameModel.f_slipLength a), va_rf (S.O_GhostGameModel.f_letters a), va_rf (S.O_GhostGameModel.f_length a), .int v, .int (S.O_GhostGameModel.f_least a), .int (S.O_GhostGameModel.f_players a), va_rf (S.O_GhostGameModel.f_strikes a), .int (S.O_GhostGameModel.f_turn a), .int (S.O_GhostGameModel.f_latest a), .int (S.O_GhostGameModel.f_winner a), va_rf (S.O_GhostGameModel.f_fragment a), .int (S.O_GhostGameModel.f_fragmentLength a), va_rf (S.O_GhostGameModel.f_wins a), va_rf (S.O_GhostGameModel.f_ends a), va_rf (S.O_GhostGameModel.f_chosen a), va_rf (S.O_GhostGameModel.f_good a), va_rf (S.O_GhostGameModel.f_open a), .int (S.O_GhostGameModel.f_thrown a)])) = X ++ va_pl S.L (wPF cyI cyJ cyZ { S with O_GhostGameModel := { S.O_GhostGameModel with f_words := va_up S.O_GhostGameModel.f_words a v } }) := by
  rw [va_pl_set hD hL hk]
  exact congrArg (fun l => X ++ l) (va_pl_congr (wSt_O_GhostGameModel_f_words cyI cyJ cyZ S h v))
theorem wSt_O_GhostGameModel_f_least (cyI : ClassId) (cyJ : ClassId) (cyZ : ClassId) (S : wPS) {a : Nat} (h : S.K a = 3) (v : Int32) (b : Nat) : va_up (wPF cyI cyJ cyZ S) a (.inr (3, [va_rf (S.O_GhostGameModel.f_slip a), .int (S.O_GhostGameModel.f_slipLength a), va_rf (S.O_GhostGameModel.f_letters a), va_rf (S.O_GhostGameModel.f_length a), .int (S.O_GhostGameModel.f_words a), .int v, .int (S.O_GhostGameModel.f_players a), va_rf (S.O_GhostGameModel.f_strikes a), .int (S.O_GhostGameModel.f_turn a), .int (S.O_GhostGameModel.f_latest a), .int (S.O_GhostGameModel.f_winner a), va_rf (S.O_GhostGameModel.f_fragment a), .int (S.O_GhostGameModel.f_fragmentLength a), va_rf (S.O_GhostGameModel.f_wins a), va_rf (S.O_GhostGameModel.f_ends a), va_rf (S.O_GhostGameModel.f_chosen a), va_rf (S.O_GhostGameModel.f_good a), va_rf (S.O_GhostGameModel.f_open a), .int (S.O_GhostGameModel.f_thrown a)])) b = wPF cyI cyJ cyZ { S with O_GhostGameModel := { S.O_GhostGameModel with f_least := va_up S.O_GhostGameModel.f_least a v } } b := by by_cases hb : b = a <;> first | (simp only [wPF, va_up_ne _ _ hb]; done) | (simp only [wPF, va_up, if_neg hb]; done) | simp [wPF, va_re, va_up, va_rf, hb, h]
theorem wPu_O_GhostGameModel_f_least (cyI : ClassId) (cyJ : ClassId) (cyZ : ClassId) (X : va_W) (S : wPS) {A : Nat → Prop} {a k : Nat} (hD : va_D A (X ++ va_pl S.L (wPF cyI cyJ cyZ S))) (hL : a ∈ S.L) (h : S.K a = 3) (hk : (X ++ va_pl S.L (wPF cyI cyJ cyZ S))[k]? = some (a, wPF cyI cyJ cyZ S a)) (v : Int32) : (X ++ va_pl S.L (wPF cyI cyJ cyZ S)).set k (a, .inr (3, [va_rf (S.O_GhostGameModel.f_slip a), .int (S.O_GhostGameModel.f_slipLength a), va_rf (S.O_GhostGameModel.f_letters a), va_rf (S.O_GhostGameModel.f_length a), .int (S.O_GhostGameModel.f_words a), .int v, .int (S.O_GhostGameModel.f_players a), va_rf (S.O_GhostGameModel.f_strikes a), .int (S.O_GhostGameModel.f_turn a), .int (S.O_GhostGameModel.f_latest a), .int (S.O_GhostGameModel.f_winner a), va_rf (S.O_GhostGameModel.f_fragment a), .int (S.O_GhostGameModel.f_fragmentLength a), va_rf (S.O_GhostGameModel.f_wins a), va_rf (S.O_GhostGameModel.f_ends a), va_rf (S.O_GhostGameModel.f_chosen a), va_rf (S.O_GhostGameModel.f_good a), va_rf (S.O_GhostGameModel.f_open a), .int (S.O_GhostGameModel.f_thrown a)])) = X ++ va_pl S.L (wPF cyI cyJ cyZ { S with O_GhostGameModel := { S.O_GhostGameModel with f_least := va_up S.O_GhostGameModel.f_least a v } }) := by
  rw [va_pl_set hD hL hk]
  exact congrArg (fun l => X ++ l) (va_pl_congr (wSt_O_GhostGameModel_f_least cyI cyJ cyZ S h v))
theorem wSt_O_GhostGameModel_f_players (cyI : ClassId) (cyJ : ClassId) (cyZ : ClassId) (S : wPS) {a : Nat} (h : S.K a = 3) (v : Int32) (b : Nat) : va_up (wPF cyI cyJ cyZ S) a (.inr (3, [va_rf (S.O_GhostGameModel.f_slip a), .int (S.O_GhostGameModel.f_slipLength a), va_rf (S.O_GhostGameModel.f_letters a), va_rf (S.O_GhostGameModel.f_length a), .int (S.O_GhostGameModel.f_words a), .int (S.O_GhostGameModel.f_least a), .int v, va_rf (S.O_GhostGameModel.f_strikes a), .int (S.O_GhostGameModel.f_turn a), .int (S.O_GhostGameModel.f_latest a), .int (S.O_GhostGameModel.f_winner a), va_rf (S.O_GhostGameModel.f_fragment a), .int (S.O_GhostGameModel.f_fragmentLength a), va_rf (S.O_GhostGameModel.f_wins a), va_rf (S.O_GhostGameModel.f_ends a), va_rf (S.O_GhostGameModel.f_chosen a), va_rf (S.O_GhostGameModel.f_good a), va_rf (S.O_GhostGameModel.f_open a), .int (S.O_GhostGameModel.f_thrown a)])) b = wPF cyI cyJ cyZ { S with O_GhostGameModel := { S.O_GhostGameModel with f_players := va_up S.O_GhostGameModel.f_players a v } } b := by by_cases hb : b = a <;> first | (simp only [wPF, va_up_ne _ _ hb]; done) | (simp only [wPF, va_up, if_neg hb]; done) | simp [wPF, va_re, va_up, va_rf, hb, h]
theorem wPu_O_GhostGameModel_f_players (cyI : ClassId) (cyJ : ClassId) (cyZ : ClassId) (X : va_W) (S : wPS) {A : Nat → Prop} {a k : Nat} (hD : va_D A (X ++ va_pl S.L (wPF cyI cyJ cyZ S))) (hL : a ∈ S.L) (h : S.K a = 3) (hk : (X ++ va_pl S.L (wPF cyI cyJ cyZ S))[k]? = some (a, wPF cyI cyJ cyZ S a)) (v : Int32) : (X ++ va_pl S.L (wPF cyI cyJ cyZ S)).set k (a, .inr (3, [va_rf (S.O_GhostGameModel.f_slip a), .int (S.O_GhostGameModel.f_slipLength a), va_rf (S.O_GhostGameModel.f_letters a), va_rf (S.O_GhostGameModel.f_length a), .int (S.O_GhostGameModel.f_words a), .int (S.O_GhostGameModel.f_least a), .int v, va_rf (S.O_GhostGameModel.f_strikes a), .int (S.O_GhostGameModel.f_turn a), .int (S.O_GhostGameModel.f_latest a), .int (S.O_GhostGameModel.f_winner a), va_rf (S.O_GhostGameModel.f_fragment a), .int (S.O_GhostGameModel.f_fragmentLength a), va_rf (S.O_GhostGameModel.f_wins a), va_rf (S.O_GhostGameModel.f_ends a), va_rf (S.O_GhostGameModel.f_chosen a), va_rf (S.O_GhostGameModel.f_good a), va_rf (S.O_GhostGameModel.f_open a), .int (S.O_GhostGameModel.f_thrown a)])) = X ++ va_pl S.L (wPF cyI cyJ cyZ { S with O_GhostGameModel := { S.O_GhostGameModel with f_players := va_up S.O_GhostGameModel.f_players a v } }) := by
  rw [va_pl_set hD hL hk]
  exact congrArg (fun l => X ++ l) (va_pl_congr (wSt_O_GhostGameModel_f_players cyI cyJ cyZ S h v))
theorem wSt_O_GhostGameModel_f_strikes (cyI : ClassId) (cyJ : ClassId) (cyZ : ClassId) (S : wPS) {a : Nat} (h : S.K a = 3) (v : Option Nat) (b : Nat) : va_up (wPF cyI cyJ cyZ S) a (.inr (3, [va_rf (S.O_GhostGameModel.f_slip a), .int (S.O_GhostGameModel.f_slipLength a), va_rf (S.O_GhostGameModel.f_letters a), va_rf (S.O_GhostGameModel.f_length a), .int (S.O_GhostGameModel.f_words a), .int (S.O_GhostGameModel.f_least a), .int (S.O_GhostGameModel.f_players a), va_rf v, .int (S.O_GhostGameModel.f_turn a), .int (S.O_GhostGameModel.f_latest a), .int (S.O_GhostGameModel.f_winner a), va_rf (S.O_GhostGameModel.f_fragment a), .int (S.O_GhostGameModel.f_fragmentLength a), va_rf (S.O_GhostGameModel.f_wins a), va_rf (S.O_GhostGameModel.f_ends a), va_rf (S.O_GhostGameModel.f_chosen a), va_rf (S.O_GhostGameModel.f_good a), va_rf (S.O_GhostGameModel.f_open a), .int (S.O_GhostGameModel.f_thrown a)])) b = wPF cyI cyJ cyZ { S with O_GhostGameModel := { S.O_GhostGameModel with f_strikes := va_up S.O_GhostGameModel.f_strikes a v } } b := by by_cases hb : b = a <;> first | (simp only [wPF, va_up_ne _ _ hb]; done) | (simp only [wPF, va_up, if_neg hb]; done) | simp [wPF, va_re, va_up, va_rf, hb, h]
theorem wPu_O_GhostGameModel_f_strikes (cyI : ClassId) (cyJ : ClassId) (cyZ : ClassId) (X : va_W) (S : wPS) {A : Nat → Prop} {a k : Nat} (hD : va_D A (X ++ va_pl S.L (wPF cyI cyJ cyZ S))) (hL : a ∈ S.L) (h : S.K a = 3) (hk : (X ++ va_pl S.L (wPF cyI cyJ cyZ S))[k]? = some (a, wPF cyI cyJ cyZ S a)) (v : Option Nat) : (X ++ va_pl S.L (wPF cyI cyJ cyZ S)).set k (a, .inr (3, [va_rf (S.O_GhostGameModel.f_slip a), .int (S.O_GhostGameModel.f_slipLength a), va_rf (S.O_GhostGameModel.f_letters a), va_rf (S.O_GhostGameModel.f_length a), .int (S.O_GhostGameModel.f_words a), .int (S.O_GhostGameModel.f_least a), .int (S.O_GhostGameModel.f_players a), va_rf v, .int (S.O_GhostGameModel.f_turn a), .int (S.O_GhostGameModel.f_latest a), .int (S.O_GhostGameModel.f_winner a), va_rf (S.O_GhostGameModel.f_fragment a), .int (S.O_GhostGameModel.f_fragmentLength a), va_rf (S.O_GhostGameModel.f_wins a), va_rf (S.O_GhostGameModel.f_ends a), va_rf (S.O_GhostGameModel.f_chosen a), va_rf (S.O_GhostGameModel.f_good a), va_rf (S.O_GhostGameModel.f_open a), .int (S.O_GhostGameModel.f_thrown a)])) = X ++ va_pl S.L (wPF cyI cyJ cyZ { S with O_GhostGameModel := { S.O_GhostGameModel with f_strikes := va_up S.O_GhostGameModel.f_strikes a v } }) := by
  rw [va_pl_set hD hL hk]
  exact congrArg (fun l => X ++ l) (va_pl_congr (wSt_O_GhostGameModel_f_strikes cyI cyJ cyZ S h v))
theorem wSt_O_GhostGameModel_f_turn (cyI : ClassId) (cyJ : ClassId) (cyZ : ClassId) (S : wPS) {a : Nat} (h : S.K a = 3) (v : Int32) (b : Nat) : va_up (wPF cyI cyJ cyZ S) a (.inr (3, [va_rf (S.O_GhostGameModel.f_slip a), .int (S.O_GhostGameModel.f_slipLength a), va_rf (S.O_GhostGameModel.f_letters a), va_rf (S.O_GhostGameModel.f_length a), .int (S.O_GhostGameModel.f_words a), .int (S.O_GhostGameModel.f_least a), .int (S.O_GhostGameModel.f_players a), va_rf (S.O_GhostGameModel.f_strikes a), .int v, .int (S.O_GhostGameModel.f_latest a), .int (S.O_GhostGameModel.f_winner a), va_rf (S.O_GhostGameModel.f_fragment a), .int (S.O_GhostGameModel.f_fragmentLength a), va_rf (S.O_GhostGameModel.f_wins a), va_rf (S.O_GhostGameModel.f_ends a), va_rf (S.O_GhostGameModel.f_chosen a), va_rf (S.O_GhostGameModel.f_good a), va_rf (S.O_GhostGameModel.f_open a), .int (S.O_GhostGameModel.f_thrown a)])) b = wPF cyI cyJ cyZ { S with O_GhostGameModel := { S.O_GhostGameModel with f_turn := va_up S.O_GhostGameModel.f_turn a v } } b := by by_cases hb : b = a <;> first | (simp only [wPF, va_up_ne _ _ hb]; done) | (simp only [wPF, va_up, if_neg hb]; done) | simp [wPF, va_re, va_up, va_rf, hb, h]
theorem wPu_O_GhostGameModel_f_turn (cyI : ClassId) (cyJ : ClassId) (cyZ : ClassId) (X : va_W) (S : wPS) {A : Nat → Prop} {a k : Nat} (hD : va_D A (X ++ va_pl S.L (wPF cyI cyJ cyZ S))) (hL : a ∈ S.L) (h : S.K a = 3) (hk : (X ++ va_pl S.L (wPF cyI cyJ cyZ S))[k]? = some (a, wPF cyI cyJ cyZ S a)) (v : Int32) : (X ++ va_pl S.L (wPF cyI cyJ cyZ S)).set k (a, .inr (3, [va_rf (S.O_GhostGameModel.f_slip a), .int (S.O_GhostGameModel.f_slipLength a), va_rf (S.O_GhostGameModel.f_letters a), va_rf (S.O_GhostGameModel.f_length a), .int (S.O_GhostGameModel.f_words a), .int (S.O_GhostGameModel.f_least a), .int (S.O_GhostGameModel.f_players a), va_rf (S.O_GhostGameModel.f_strikes a), .int v, .int (S.O_GhostGameModel.f_latest a), .int (S.O_GhostGameModel.f_winner a), va_rf (S.O_GhostGameModel.f_fragment a), .int (S.O_GhostGameModel.f_fragmentLength a), va_rf (S.O_GhostGameModel.f_wins a), va_rf (S.O_GhostGameModel.f_ends a), va_rf (S.O_GhostGameModel.f_chosen a), va_rf (S.O_GhostGameModel.f_good a), va_rf (S.O_GhostGameModel.f_open a), .int (S.O_GhostGameModel.f_thrown a)])) = X ++ va_pl S.L (wPF cyI cyJ cyZ { S with O_GhostGameModel := { S.O_GhostGameModel with f_turn := va_up S.O_GhostGameModel.f_turn a v } }) := by
  rw [va_pl_set hD hL hk]
  exact congrArg (fun l => X ++ l) (va_pl_congr (wSt_O_GhostGameModel_f_turn cyI cyJ cyZ S h v))
theorem wSt_O_GhostGameModel_f_latest (cyI : ClassId) (cyJ : ClassId) (cyZ : ClassId) (S : wPS) {a : Nat} (h : S.K a = 3) (v : Int32) (b : Nat) : va_up (wPF cyI cyJ cyZ S) a (.inr (3, [va_rf (S.O_GhostGameModel.f_slip a), .int (S.O_GhostGameModel.f_slipLength a), va_rf (S.O_GhostGameModel.f_letters a), va_rf (S.O_GhostGameModel.f_length a), .int (S.O_GhostGameModel.f_words a), .int (S.O_GhostGameModel.f_least a), .int (S.O_GhostGameModel.f_players a), va_rf (S.O_GhostGameModel.f_strikes a), .int (S.O_GhostGameModel.f_turn a), .int v, .int (S.O_GhostGameModel.f_winner a), va_rf (S.O_GhostGameModel.f_fragment a), .int (S.O_GhostGameModel.f_fragmentLength a), va_rf (S.O_GhostGameModel.f_wins a), va_rf (S.O_GhostGameModel.f_ends a), va_rf (S.O_GhostGameModel.f_chosen a), va_rf (S.O_GhostGameModel.f_good a), va_rf (S.O_GhostGameModel.f_open a), .int (S.O_GhostGameModel.f_thrown a)])) b = wPF cyI cyJ cyZ { S with O_GhostGameModel := { S.O_GhostGameModel with f_latest := va_up S.O_GhostGameModel.f_latest a v } } b := by by_cases hb : b = a <;> first | (simp only [wPF, va_up_ne _ _ hb]; done) | (simp only [wPF, va_up, if_neg hb]; done) | simp [wPF, va_re, va_up, va_rf, hb, h]
theorem wPu_O_GhostGameModel_f_latest (cyI : ClassId) (cyJ : ClassId) (cyZ : ClassId) (X : va_W) (S : wPS) {A : Nat → Prop} {a k : Nat} (hD : va_D A (X ++ va_pl S.L (wPF cyI cyJ cyZ S))) (hL : a ∈ S.L) (h : S.K a = 3) (hk : (X ++ va_pl S.L (wPF cyI cyJ cyZ S))[k]? = some (a, wPF cyI cyJ cyZ S a)) (v : Int32) : (X ++ va_pl S.L (wPF cyI cyJ cyZ S)).set k (a, .inr (3, [va_rf (S.O_GhostGameModel.f_slip a), .int (S.O_GhostGameModel.f_slipLength a), va_rf (S.O_GhostGameModel.f_letters a), va_rf (S.O_GhostGameModel.f_length a), .int (S.O_GhostGameModel.f_words a), .int (S.O_GhostGameModel.f_least a), .int (S.O_GhostGameModel.f_players a), va_rf (S.O_GhostGameModel.f_strikes a), .int (S.O_GhostGameModel.f_turn a), .int v, .int (S.O_GhostGameModel.f_winner a), va_rf (S.O_GhostGameModel.f_fragment a), .int (S.O_GhostGameModel.f_fragmentLength a), va_rf (S.O_GhostGameModel.f_wins a), va_rf (S.O_GhostGameModel.f_ends a), va_rf (S.O_GhostGameModel.f_chosen a), va_rf (S.O_GhostGameModel.f_good a), va_rf (S.O_GhostGameModel.f_open a), .int (S.O_GhostGameModel.f_thrown a)])) = X ++ va_pl S.L (wPF cyI cyJ cyZ { S with O_GhostGameModel := { S.O_GhostGameModel with f_latest := va_up S.O_GhostGameModel.f_latest a v } }) := by
  rw [va_pl_set hD hL hk]
  exact congrArg (fun l => X ++ l) (va_pl_congr (wSt_O_GhostGameModel_f_latest cyI cyJ cyZ S h v))
theorem wSt_O_GhostGameModel_f_winner (cyI : ClassId) (cyJ : ClassId) (cyZ : ClassId) (S : wPS) {a : Nat} (h : S.K a = 3) (v : Int32) (b : Nat) : va_up (wPF cyI cyJ cyZ S) a (.inr (3, [va_rf (S.O_GhostGameModel.f_slip a), .int (S.O_GhostGameModel.f_slipLength a), va_rf (S.O_GhostGameModel.f_letters a), va_rf (S.O_GhostGameModel.f_length a), .int (S.O_GhostGameModel.f_words a), .int (S.O_GhostGameModel.f_least a), .int (S.O_GhostGameModel.f_players a), va_rf (S.O_GhostGameModel.f_strikes a), .int (S.O_GhostGameModel.f_turn a), .int (S.O_GhostGameModel.f_latest a), .int v, va_rf (S.O_GhostGameModel.f_fragment a), .int (S.O_GhostGameModel.f_fragmentLength a), va_rf (S.O_GhostGameModel.f_wins a), va_rf (S.O_GhostGameModel.f_ends a), va_rf (S.O_GhostGameModel.f_chosen a), va_rf (S.O_GhostGameModel.f_good a), va_rf (S.O_GhostGameModel.f_open a), .int (S.O_GhostGameModel.f_thrown a)])) b = wPF cyI cyJ cyZ { S with O_GhostGameModel := { S.O_GhostGameModel with f_winner := va_up S.O_GhostGameModel.f_winner a v } } b := by by_cases hb : b = a <;> first | (simp only [wPF, va_up_ne _ _ hb]; done) | (simp only [wPF, va_up, if_neg hb]; done) | simp [wPF, va_re, va_up, va_rf, hb, h]
theorem wPu_O_GhostGameModel_f_winner (cyI : ClassId) (cyJ : ClassId) (cyZ : ClassId) (X : va_W) (S : wPS) {A : Nat → Prop} {a k : Nat} (hD : va_D A (X ++ va_pl S.L (wPF cyI cyJ cyZ S))) (hL : a ∈ S.L) (h : S.K a = 3) (hk : (X ++ va_pl S.L (wPF cyI cyJ cyZ S))[k]? = some (a, wPF cyI cyJ cyZ S a)) (v : Int32) : (X ++ va_pl S.L (wPF cyI cyJ cyZ S)).set k (a, .inr (3, [va_rf (S.O_GhostGameModel.f_slip a), .int (S.O_GhostGameModel.f_slipLength a), va_rf (S.O_GhostGameModel.f_letters a), va_rf (S.O_GhostGameModel.f_length a), .int (S.O_GhostGameModel.f_words a), .int (S.O_GhostGameModel.f_least a), .int (S.O_GhostGameModel.f_players a), va_rf (S.O_GhostGameModel.f_strikes a), .int (S.O_GhostGameModel.f_turn a), .int (S.O_GhostGameModel.f_latest a), .int v, va_rf (S.O_GhostGameModel.f_fragment a), .int (S.O_GhostGameModel.f_fragmentLength a), va_rf (S.O_GhostGameModel.f_wins a), va_rf (S.O_GhostGameModel.f_ends a), va_rf (S.O_GhostGameModel.f_chosen a), va_rf (S.O_GhostGameModel.f_good a), va_rf (S.O_GhostGameModel.f_open a), .int (S.O_GhostGameModel.f_thrown a)])) = X ++ va_pl S.L (wPF cyI cyJ cyZ { S with O_GhostGameModel := { S.O_GhostGameModel with f_winner := va_up S.O_GhostGameModel.f_winner a v } }) := by
  rw [va_pl_set hD hL hk]
  exact congrArg (fun l => X ++ l) (va_pl_congr (wSt_O_GhostGameModel_f_winner cyI cyJ cyZ S h v))
theorem wSt_O_GhostGameModel_f_fragment (cyI : ClassId) (cyJ : ClassId) (cyZ : ClassId) (S : wPS) {a : Nat} (h : S.K a = 3) (v : Option Nat) (b : Nat) : va_up (wPF cyI cyJ cyZ S) a (.inr (3, [va_rf (S.O_GhostGameModel.f_slip a), .int (S.O_GhostGameModel.f_slipLength a), va_rf (S.O_GhostGameModel.f_letters a), va_rf (S.O_GhostGameModel.f_length a), .int (S.O_GhostGameModel.f_words a), .int (S.O_GhostGameModel.f_least a), .int (S.O_GhostGameModel.f_players a), va_rf (S.O_GhostGameModel.f_strikes a), .int (S.O_GhostGameModel.f_turn a), .int (S.O_GhostGameModel.f_latest a), .int (S.O_GhostGameModel.f_winner a), va_rf v, .int (S.O_GhostGameModel.f_fragmentLength a), va_rf (S.O_GhostGameModel.f_wins a), va_rf (S.O_GhostGameModel.f_ends a), va_rf (S.O_GhostGameModel.f_chosen a), va_rf (S.O_GhostGameModel.f_good a), va_rf (S.O_GhostGameModel.f_open a), .int (S.O_GhostGameModel.f_thrown a)])) b = wPF cyI cyJ cyZ { S with O_GhostGameModel := { S.O_GhostGameModel with f_fragment := va_up S.O_GhostGameModel.f_fragment a v } } b := by by_cases hb : b = a <;> first | (simp only [wPF, va_up_ne _ _ hb]; done) | (simp only [wPF, va_up, if_neg hb]; done) | simp [wPF, va_re, va_up, va_rf, hb, h]
theorem wPu_O_GhostGameModel_f_fragment (cyI : ClassId) (cyJ : ClassId) (cyZ : ClassId) (X : va_W) (S : wPS) {A : Nat → Prop} {a k : Nat} (hD : va_D A (X ++ va_pl S.L (wPF cyI cyJ cyZ S))) (hL : a ∈ S.L) (h : S.K a = 3) (hk : (X ++ va_pl S.L (wPF cyI cyJ cyZ S))[k]? = some (a, wPF cyI cyJ cyZ S a)) (v : Option Nat) : (X ++ va_pl S.L (wPF cyI cyJ cyZ S)).set k (a, .inr (3, [va_rf (S.O_GhostGameModel.f_slip a), .int (S.O_GhostGameModel.f_slipLength a), va_rf (S.O_GhostGameModel.f_letters a), va_rf (S.O_GhostGameModel.f_length a), .int (S.O_GhostGameModel.f_words a), .int (S.O_GhostGameModel.f_least a), .int (S.O_GhostGameModel.f_players a), va_rf (S.O_GhostGameModel.f_strikes a), .int (S.O_GhostGameModel.f_turn a), .int (S.O_GhostGameModel.f_latest a), .int (S.O_GhostGameModel.f_winner a), va_rf v, .int (S.O_GhostGameModel.f_fragmentLength a), va_rf (S.O_GhostGameModel.f_wins a), va_rf (S.O_GhostGameModel.f_ends a), va_rf (S.O_GhostGameModel.f_chosen a), va_rf (S.O_GhostGameModel.f_good a), va_rf (S.O_GhostGameModel.f_open a), .int (S.O_GhostGameModel.f_thrown a)])) = X ++ va_pl S.L (wPF cyI cyJ cyZ { S with O_GhostGameModel := { S.O_GhostGameModel with f_fragment := va_up S.O_GhostGameModel.f_fragment a v } }) := by
  rw [va_pl_set hD hL hk]
  exact congrArg (fun l => X ++ l) (va_pl_congr (wSt_O_GhostGameModel_f_fragment cyI cyJ cyZ S h v))
theorem wSt_O_GhostGameModel_f_fragmentLength (cyI : ClassId) (cyJ : ClassId) (cyZ : ClassId) (S : wPS) {a : Nat} (h : S.K a = 3) (v : Int32) (b : Nat) : va_up (wPF cyI cyJ cyZ S) a (.inr (3, [va_rf (S.O_GhostGameModel.f_slip a), .int (S.O_GhostGameModel.f_slipLength a), va_rf (S.O_GhostGameModel.f_letters a), va_rf (S.O_GhostGameModel.f_length a), .int (S.O_GhostGameModel.f_words a), .int (S.O_GhostGameModel.f_least a), .int (S.O_GhostGameModel.f_players a), va_rf (S.O_GhostGameModel.f_strikes a), .int (S.O_GhostGameModel.f_turn a), .int (S.O_GhostGameModel.f_latest a), .int (S.O_GhostGameModel.f_winner a), va_rf (S.O_GhostGameModel.f_fragment a), .int v, va_rf (S.O_GhostGameModel.f_wins a), va_rf (S.O_GhostGameModel.f_ends a), va_rf (S.O_GhostGameModel.f_chosen a), va_rf (S.O_GhostGameModel.f_good a), va_rf (S.O_GhostGameModel.f_open a), .int (S.O_GhostGameModel.f_thrown a)])) b = wPF cyI cyJ cyZ { S with O_GhostGameModel := { S.O_GhostGameModel with f_fragmentLength := va_up S.O_GhostGameModel.f_fragmentLength a v } } b := by by_cases hb : b = a <;> first | (simp only [wPF, va_up_ne _ _ hb]; done) | (simp only [wPF, va_up, if_neg hb]; done) | simp [wPF, va_re, va_up, va_rf, hb, h]
theorem wPu_O_GhostGameModel_f_fragmentLength (cyI : ClassId) (cyJ : ClassId) (cyZ : ClassId) (X : va_W) (S : wPS) {A : Nat → Prop} {a k : Nat} (hD : va_D A (X ++ va_pl S.L (wPF cyI cyJ cyZ S))) (hL : a ∈ S.L) (h : S.K a = 3) (hk : (X ++ va_pl S.L (wPF cyI cyJ cyZ S))[k]? = some (a, wPF cyI cyJ cyZ S a)) (v : Int32) : (X ++ va_pl S.L (wPF cyI cyJ cyZ S)).set k (a, .inr (3, [va_rf (S.O_GhostGameModel.f_slip a), .int (S.O_GhostGameModel.f_slipLength a), va_rf (S.O_GhostGameModel.f_letters a), va_rf (S.O_GhostGameModel.f_length a), .int (S.O_GhostGameModel.f_words a), .int (S.O_GhostGameModel.f_least a), .int (S.O_GhostGameModel.f_players a), va_rf (S.O_GhostGameModel.f_strikes a), .int (S.O_GhostGameModel.f_turn a), .int (S.O_GhostGameModel.f_latest a), .int (S.O_GhostGameModel.f_winner a), va_rf (S.O_GhostGameModel.f_fragment a), .int v, va_rf (S.O_GhostGameModel.f_wins a), va_rf (S.O_GhostGameModel.f_ends a), va_rf (S.O_GhostGameModel.f_chosen a), va_rf (S.O_GhostGameModel.f_good a), va_rf (S.O_GhostGameModel.f_open a), .int (S.O_GhostGameModel.f_thrown a)])) = X ++ va_pl S.L (wPF cyI cyJ cyZ { S with O_GhostGameModel := { S.O_GhostGameModel with f_fragmentLength := va_up S.O_GhostGameModel.f_fragmentLength a v } }) := by
  rw [va_pl_set hD hL hk]
  exact congrArg (fun l => X ++ l) (va_pl_congr (wSt_O_GhostGameModel_f_fragmentLength cyI cyJ cyZ S h v))
theorem wSt_O_GhostGameModel_f_wins (cyI : ClassId) (cyJ : ClassId) (cyZ : ClassId) (S : wPS) {a : Nat} (h : S.K a = 3) (v : Option Nat) (b : Nat) : va_up (wPF cyI cyJ cyZ S) a (.inr (3, [va_rf (S.O_GhostGameModel.f_slip a), .int (S.O_GhostGameModel.f_slipLength a), va_rf (S.O_GhostGameModel.f_letters a), va_rf (S.O_GhostGameModel.f_length a), .int (S.O_GhostGameModel.f_words a), .int (S.O_GhostGameModel.f_least a), .int (S.O_GhostGameModel.f_players a), va_rf (S.O_GhostGameModel.f_strikes a), .int (S.O_GhostGameModel.f_turn a), .int (S.O_GhostGameModel.f_latest a), .int (S.O_GhostGameModel.f_winner a), va_rf (S.O_GhostGameModel.f_fragment a), .int (S.O_GhostGameModel.f_fragmentLength a), va_rf v, va_rf (S.O_GhostGameModel.f_ends a), va_rf (S.O_GhostGameModel.f_chosen a), va_rf (S.O_GhostGameModel.f_good a), va_rf (S.O_GhostGameModel.f_open a), .int (S.O_GhostGameModel.f_thrown a)])) b = wPF cyI cyJ cyZ { S with O_GhostGameModel := { S.O_GhostGameModel with f_wins := va_up S.O_GhostGameModel.f_wins a v } } b := by by_cases hb : b = a <;> first | (simp only [wPF, va_up_ne _ _ hb]; done) | (simp only [wPF, va_up, if_neg hb]; done) | simp [wPF, va_re, va_up, va_rf, hb, h]
theorem wPu_O_GhostGameModel_f_wins (cyI : ClassId) (cyJ : ClassId) (cyZ : ClassId) (X : va_W) (S : wPS) {A : Nat → Prop} {a k : Nat} (hD : va_D A (X ++ va_pl S.L (wPF cyI cyJ cyZ S))) (hL : a ∈ S.L) (h : S.K a = 3) (hk : (X ++ va_pl S.L (wPF cyI cyJ cyZ S))[k]? = some (a, wPF cyI cyJ cyZ S a)) (v : Option Nat) : (X ++ va_pl S.L (wPF cyI cyJ cyZ S)).set k (a, .inr (3, [va_rf (S.O_GhostGameModel.f_slip a), .int (S.O_GhostGameModel.f_slipLength a), va_rf (S.O_GhostGameModel.f_letters a), va_rf (S.O_GhostGameModel.f_length a), .int (S.O_GhostGameModel.f_words a), .int (S.O_GhostGameModel.f_least a), .int (S.O_GhostGameModel.f_players a), va_rf (S.O_GhostGameModel.f_strikes a), .int (S.O_GhostGameModel.f_turn a), .int (S.O_GhostGameModel.f_latest a), .int (S.O_GhostGameModel.f_winner a), va_rf (S.O_GhostGameModel.f_fragment a), .int (S.O_GhostGameModel.f_fragmentLength a), va_rf v, va_rf (S.O_GhostGameModel.f_ends a), va_rf (S.O_GhostGameModel.f_chosen a), va_rf (S.O_GhostGameModel.f_good a), va_rf (S.O_GhostGameModel.f_open a), .int (S.O_GhostGameModel.f_thrown a)])) = X ++ va_pl S.L (wPF cyI cyJ cyZ { S with O_GhostGameModel := { S.O_GhostGameModel with f_wins := va_up S.O_GhostGameModel.f_wins a v } }) := by
  rw [va_pl_set hD hL hk]
  exact congrArg (fun l => X ++ l) (va_pl_congr (wSt_O_GhostGameModel_f_wins cyI cyJ cyZ S h v))
theorem wSt_O_GhostGameModel_f_ends (cyI : ClassId) (cyJ : ClassId) (cyZ : ClassId) (S : wPS) {a : Nat} (h : S.K a = 3) (v : Option Nat) (b : Nat) : va_up (wPF cyI cyJ cyZ S) a (.inr (3, [va_rf (S.O_GhostGameModel.f_slip a), .int (S.O_GhostGameModel.f_slipLength a), va_rf (S.O_GhostGameModel.f_letters a), va_rf (S.O_GhostGameModel.f_length a), .int (S.O_GhostGameModel.f_words a), .int (S.O_GhostGameModel.f_least a), .int (S.O_GhostGameModel.f_players a), va_rf (S.O_GhostGameModel.f_strikes a), .int (S.O_GhostGameModel.f_turn a), .int (S.O_GhostGameModel.f_latest a), .int (S.O_GhostGameModel.f_winner a), va_rf (S.O_GhostGameModel.f_fragment a), .int (S.O_GhostGameModel.f_fragmentLength a), va_rf (S.O_GhostGameModel.f_wins a), va_rf v, va_rf (S.O_GhostGameModel.f_chosen a), va_rf (S.O_GhostGameModel.f_good a), va_rf (S.O_GhostGameModel.f_open a), .int (S.O_GhostGameModel.f_thrown a)])) b = wPF cyI cyJ cyZ { S with O_GhostGameModel := { S.O_GhostGameModel with f_ends := va_up S.O_GhostGameModel.f_ends a v } } b := by by_cases hb : b = a <;> first | (simp only [wPF, va_up_ne _ _ hb]; done) | (simp only [wPF, va_up, if_neg hb]; done) | simp [wPF, va_re, va_up, va_rf, hb, h]
theorem wPu_O_GhostGameModel_f_ends (cyI : ClassId) (cyJ : ClassId) (cyZ : ClassId) (X : va_W) (S : wPS) {A : Nat → Prop} {a k : Nat} (hD : va_D A (X ++ va_pl S.L (wPF cyI cyJ cyZ S))) (hL : a ∈ S.L) (h : S.K a = 3) (hk : (X ++ va_pl S.L (wPF cyI cyJ cyZ S))[k]? = some (a, wPF cyI cyJ cyZ S a)) (v : Option Nat) : (X ++ va_pl S.L (wPF cyI cyJ cyZ S)).set k (a, .inr (3, [va_rf (S.O_GhostGameModel.f_slip a), .int (S.O_GhostGameModel.f_slipLength a), va_rf (S.O_GhostGameModel.f_letters a), va_rf (S.O_GhostGameModel.f_length a), .int (S.O_GhostGameModel.f_words a), .int (S.O_GhostGameModel.f_least a), .int (S.O_GhostGameModel.f_players a), va_rf (S.O_GhostGameModel.f_strikes a), .int (S.O_GhostGameModel.f_turn a), .int (S.O_GhostGameModel.f_latest a), .int (S.O_GhostGameModel.f_winner a), va_rf (S.O_GhostGameModel.f_fragment a), .int (S.O_GhostGameModel.f_fragmentLength a), va_rf (S.O_GhostGameModel.f_wins a), va_rf v, va_rf (S.O_GhostGameModel.f_chosen a), va_rf (S.O_GhostGameModel.f_good a), va_rf (S.O_GhostGameModel.f_open a), .int (S.O_GhostGameModel.f_thrown a)])) = X ++ va_pl S.L (wPF cyI cyJ cyZ { S with O_GhostGameModel := { S.O_GhostGameModel with f_ends := va_up S.O_GhostGameModel.f_ends a v } }) := by
  rw [va_pl_set hD hL hk]
  exact congrArg (fun l => X ++ l) (va_pl_congr (wSt_O_GhostGameModel_f_ends cyI cyJ cyZ S h v))
theorem wSt_O_GhostGameModel_f_chosen (cyI : ClassId) (cyJ : ClassId) (cyZ : ClassId) (S : wPS) {a : Nat} (h : S.K a = 3) (v : Option Nat) (b : Nat) : va_up (wPF cyI cyJ cyZ S) a (.inr (3, [va_rf (S.O_GhostGameModel.f_slip a), .int (S.O_GhostGameModel.f_slipLength a), va_rf (S.O_GhostGameModel.f_letters a), va_rf (S.O_GhostGameModel.f_length a), .int (S.O_GhostGameModel.f_words a), .int (S.O_GhostGameModel.f_least a), .int (S.O_GhostGameModel.f_players a), va_rf (S.O_GhostGameModel.f_strikes a), .int (S.O_GhostGameModel.f_turn a), .int (S.O_GhostGameModel.f_latest a), .int (S.O_GhostGameModel.f_winner a), va_rf (S.O_GhostGameModel.f_fragment a), .int (S.O_GhostGameModel.f_fragmentLength a), va_rf (S.O_GhostGameModel.f_wins a), va_rf (S.O_GhostGameModel.f_ends a), va_rf v, va_rf (S.O_GhostGameModel.f_good a), va_rf (S.O_GhostGameModel.f_open a), .int (S.O_GhostGameModel.f_thrown a)])) b = wPF cyI cyJ cyZ { S with O_GhostGameModel := { S.O_GhostGameModel with f_chosen := va_up S.O_GhostGameModel.f_chosen a v } } b := by by_cases hb : b = a <;> first | (simp only [wPF, va_up_ne _ _ hb]; done) | (simp only [wPF, va_up, if_neg hb]; done) | simp [wPF, va_re, va_up, va_rf, hb, h]
theorem wPu_O_GhostGameModel_f_chosen (cyI : ClassId) (cyJ : ClassId) (cyZ : ClassId) (X : va_W) (S : wPS) {A : Nat → Prop} {a k : Nat} (hD : va_D A (X ++ va_pl S.L (wPF cyI cyJ cyZ S))) (hL : a ∈ S.L) (h : S.K a = 3) (hk : (X ++ va_pl S.L (wPF cyI cyJ cyZ S))[k]? = some (a, wPF cyI cyJ cyZ S a)) (v : Option Nat) : (X ++ va_pl S.L (wPF cyI cyJ cyZ S)).set k (a, .inr (3, [va_rf (S.O_GhostGameModel.f_slip a), .int (S.O_GhostGameModel.f_slipLength a), va_rf (S.O_GhostGameModel.f_letters a), va_rf (S.O_GhostGameModel.f_length a), .int (S.O_GhostGameModel.f_words a), .int (S.O_GhostGameModel.f_least a), .int (S.O_GhostGameModel.f_players a), va_rf (S.O_GhostGameModel.f_strikes a), .int (S.O_GhostGameModel.f_turn a), .int (S.O_GhostGameModel.f_latest a), .int (S.O_GhostGameModel.f_winner a), va_rf (S.O_GhostGameModel.f_fragment a), .int (S.O_GhostGameModel.f_fragmentLength a), va_rf (S.O_GhostGameModel.f_wins a), va_rf (S.O_GhostGameModel.f_ends a), va_rf v, va_rf (S.O_GhostGameModel.f_good a), va_rf (S.O_GhostGameModel.f_open a), .int (S.O_GhostGameModel.f_thrown a)])) = X ++ va_pl S.L (wPF cyI cyJ cyZ { S with O_GhostGameModel := { S.O_GhostGameModel with f_chosen := va_up S.O_GhostGameModel.f_chosen a v } }) := by
  rw [va_pl_set hD hL hk]
  exact congrArg (fun l => X ++ l) (va_pl_congr (wSt_O_GhostGameModel_f_chosen cyI cyJ cyZ S h v))
theorem wSt_O_GhostGameModel_f_good (cyI : ClassId) (cyJ : ClassId) (cyZ : ClassId) (S : wPS) {a : Nat} (h : S.K a = 3) (v : Option Nat) (b : Nat) : va_up (wPF cyI cyJ cyZ S) a (.inr (3, [va_rf (S.O_GhostGameModel.f_slip a), .int (S.O_GhostGameModel.f_slipLength a), va_rf (S.O_GhostGameModel.f_letters a), va_rf (S.O_GhostGameModel.f_length a), .int (S.O_GhostGameModel.f_words a), .int (S.O_GhostGameModel.f_least a), .int (S.O_GhostGameModel.f_players a), va_rf (S.O_GhostGameModel.f_strikes a), .int (S.O_GhostGameModel.f_turn a), .int (S.O_GhostGameModel.f_latest a), .int (S.O_GhostGameModel.f_winner a), va_rf (S.O_GhostGameModel.f_fragment a), .int (S.O_GhostGameModel.f_fragmentLength a), va_rf (S.O_GhostGameModel.f_wins a), va_rf (S.O_GhostGameModel.f_ends a), va_rf (S.O_GhostGameModel.f_chosen a), va_rf v, va_rf (S.O_GhostGameModel.f_open a), .int (S.O_GhostGameModel.f_thrown a)])) b = wPF cyI cyJ cyZ { S with O_GhostGameModel := { S.O_GhostGameModel with f_good := va_up S.O_GhostGameModel.f_good a v } } b := by by_cases hb : b = a <;> first | (simp only [wPF, va_up_ne _ _ hb]; done) | (simp only [wPF, va_up, if_neg hb]; done) | simp [wPF, va_re, va_up, va_rf, hb, h]
theorem wPu_O_GhostGameModel_f_good (cyI : ClassId) (cyJ : ClassId) (cyZ : ClassId) (X : va_W) (S : wPS) {A : Nat → Prop} {a k : Nat} (hD : va_D A (X ++ va_pl S.L (wPF cyI cyJ cyZ S))) (hL : a ∈ S.L) (h : S.K a = 3) (hk : (X ++ va_pl S.L (wPF cyI cyJ cyZ S))[k]? = some (a, wPF cyI cyJ cyZ S a)) (v : Option Nat) : (X ++ va_pl S.L (wPF cyI cyJ cyZ S)).set k (a, .inr (3, [va_rf (S.O_GhostGameModel.f_slip a), .int (S.O_GhostGameModel.f_slipLength a), va_rf (S.O_GhostGameModel.f_letters a), va_rf (S.O_GhostGameModel.f_length a), .int (S.O_GhostGameModel.f_words a), .int (S.O_GhostGameModel.f_least a), .int (S.O_GhostGameModel.f_players a), va_rf (S.O_GhostGameModel.f_strikes a), .int (S.O_GhostGameModel.f_turn a), .int (S.O_GhostGameModel.f_latest a), .int (S.O_GhostGameModel.f_winner a), va_rf (S.O_GhostGameModel.f_fragment a), .int (S.O_GhostGameModel.f_fragmentLength a), va_rf (S.O_GhostGameModel.f_wins a), va_rf (S.O_GhostGameModel.f_ends a), va_rf (S.O_GhostGameModel.f_chosen a), va_rf v, va_rf (S.O_GhostGameModel.f_open a), .int (S.O_GhostGameModel.f_thrown a)])) = X ++ va_pl S.L (wPF cyI cyJ cyZ { S with O_GhostGameModel := { S.O_GhostGameModel with f_good := va_up S.O_GhostGameModel.f_good a v } }) := by
  rw [va_pl_set hD hL hk]
  exact congrArg (fun l => X ++ l) (va_pl_congr (wSt_O_GhostGameModel_f_good cyI cyJ cyZ S h v))
theorem wSt_O_GhostGameModel_f_open (cyI : ClassId) (cyJ : ClassId) (cyZ : ClassId) (S : wPS) {a : Nat} (h : S.K a = 3) (v : Option Nat) (b : Nat) : va_up (wPF cyI cyJ cyZ S) a (.inr (3, [va_rf (S.O_GhostGameModel.f_slip a), .int (S.O_GhostGameModel.f_slipLength a), va_rf (S.O_GhostGameModel.f_letters a), va_rf (S.O_GhostGameModel.f_length a), .int (S.O_GhostGameModel.f_words a), .int (S.O_GhostGameModel.f_least a), .int (S.O_GhostGameModel.f_players a), va_rf (S.O_GhostGameModel.f_strikes a), .int (S.O_GhostGameModel.f_turn a), .int (S.O_GhostGameModel.f_latest a), .int (S.O_GhostGameModel.f_winner a), va_rf (S.O_GhostGameModel.f_fragment a), .int (S.O_GhostGameModel.f_fragmentLength a), va_rf (S.O_GhostGameModel.f_wins a), va_rf (S.O_GhostGameModel.f_ends a), va_rf (S.O_GhostGameModel.f_chosen a), va_rf (S.O_GhostGameModel.f_good a), va_rf v, .int (S.O_GhostGameModel.f_thrown a)])) b = wPF cyI cyJ cyZ { S with O_GhostGameModel := { S.O_GhostGameModel with f_open := va_up S.O_GhostGameModel.f_open a v } } b := by by_cases hb : b = a <;> first | (simp only [wPF, va_up_ne _ _ hb]; done) | (simp only [wPF, va_up, if_neg hb]; done) | simp [wPF, va_re, va_up, va_rf, hb, h]
theorem wPu_O_GhostGameModel_f_open (cyI : ClassId) (cyJ : ClassId) (cyZ : ClassId) (X : va_W) (S : wPS) {A : Nat → Prop} {a k : Nat} (hD : va_D A (X ++ va_pl S.L (wPF cyI cyJ cyZ S))) (hL : a ∈ S.L) (h : S.K a = 3) (hk : (X ++ va_pl S.L (wPF cyI cyJ cyZ S))[k]? = some (a, wPF cyI cyJ cyZ S a)) (v : Option Nat) : (X ++ va_pl S.L (wPF cyI cyJ cyZ S)).set k (a, .inr (3, [va_rf (S.O_GhostGameModel.f_slip a), .int (S.O_GhostGameModel.f_slipLength a), va_rf (S.O_GhostGameModel.f_letters a), va_rf (S.O_GhostGameModel.f_length a), .int (S.O_GhostGameModel.f_words a), .int (S.O_GhostGameModel.f_least a), .int (S.O_GhostGameModel.f_players a), va_rf (S.O_GhostGameModel.f_strikes a), .int (S.O_GhostGameModel.f_turn a), .int (S.O_GhostGameModel.f_latest a), .int (S.O_GhostGameModel.f_winner a), va_rf (S.O_GhostGameModel.f_fragment a), .int (S.O_GhostGameModel.f_fragmentLength a), va_rf (S.O_GhostGameModel.f_wins a), va_rf (S.O_GhostGameModel.f_ends a), va_rf (S.O_GhostGameModel.f_chosen a), va_rf (S.O_GhostGameModel.f_good a), va_rf v, .int (S.O_GhostGameModel.f_thrown a)])) = X ++ va_pl S.L (wPF cyI cyJ cyZ { S with O_GhostGameModel := { S.O_GhostGameModel with f_open := va_up S.O_GhostGameModel.f_open a v } }) := by
  rw [va_pl_set hD hL hk]
  exact congrArg (fun l => X ++ l) (va_pl_congr (wSt_O_GhostGameModel_f_open cyI cyJ cyZ S h v))
theorem wSt_O_GhostGameModel_f_thrown (cyI : ClassId) (cyJ : ClassId) (cyZ : ClassId) (S : wPS) {a : Nat} (h : S.K a = 3) (v : Int32) (b : Nat) : va_up (wPF cyI cyJ cyZ S) a (.inr (3, [va_rf (S.O_GhostGameModel.f_slip a), .int (S.O_GhostGameModel.f_slipLength a), va_rf (S.O_GhostGameModel.f_letters a), va_rf (S.O_GhostGameModel.f_length a), .int (S.O_GhostGameModel.f_words a), .int (S.O_GhostGameModel.f_least a), .int (S.O_GhostGameModel.f_players a), va_rf (S.O_GhostGameModel.f_strikes a), .int (S.O_GhostGameModel.f_turn a), .int (S.O_GhostGameModel.f_latest a), .int (S.O_GhostGameModel.f_winner a), va_rf (S.O_GhostGameModel.f_fragment a), .int (S.O_GhostGameModel.f_fragmentLength a), va_rf (S.O_GhostGameModel.f_wins a), va_rf (S.O_GhostGameModel.f_ends a), va_rf (S.O_GhostGameModel.f_chosen a), va_rf (S.O_GhostGameModel.f_good a), va_rf (S.O_GhostGameModel.f_open a), .int v])) b = wPF cyI cyJ cyZ { S with O_GhostGameModel := { S.O_GhostGameModel with f_thrown := va_up S.O_GhostGameModel.f_thrown a v } } b := by by_cases hb : b = a <;> first | (simp only [wPF, va_up_ne _ _ hb]; done) | (simp only [wPF, va_up, if_neg hb]; done) | simp [wPF, va_re, va_up, va_rf, hb, h]
theorem wPu_O_GhostGameModel_f_thrown (cyI : ClassId) (cyJ : ClassId) (cyZ : ClassId) (X : va_W) (S : wPS) {A : Nat → Prop} {a k : Nat} (hD : va_D A (X ++ va_pl S.L (wPF cyI cyJ cyZ S))) (hL : a ∈ S.L) (h : S.K a = 3) (hk : (X ++ va_pl S.L (wPF cyI cyJ cyZ S))[k]? = some (a, wPF cyI cyJ cyZ S a)) (v : Int32) : (X ++ va_pl S.L (wPF cyI cyJ cyZ S)).set k (a, .inr (3, [va_rf (S.O_GhostGameModel.f_slip a), .int (S.O_GhostGameModel.f_slipLength a), va_rf (S.O_GhostGameModel.f_letters a), va_rf (S.O_GhostGameModel.f_length a), .int (S.O_GhostGameModel.f_words a), .int (S.O_GhostGameModel.f_least a), .int (S.O_GhostGameModel.f_players a), va_rf (S.O_GhostGameModel.f_strikes a), .int (S.O_GhostGameModel.f_turn a), .int (S.O_GhostGameModel.f_latest a), .int (S.O_GhostGameModel.f_winner a), va_rf (S.O_GhostGameModel.f_fragment a), .int (S.O_GhostGameModel.f_fragmentLength a), va_rf (S.O_GhostGameModel.f_wins a), va_rf (S.O_GhostGameModel.f_ends a), va_rf (S.O_GhostGameModel.f_chosen a), va_rf (S.O_GhostGameModel.f_good a), va_rf (S.O_GhostGameModel.f_open a), .int v])) = X ++ va_pl S.L (wPF cyI cyJ cyZ { S with O_GhostGameModel := { S.O_GhostGameModel with f_thrown := va_up S.O_GhostGameModel.f_thrown a v } }) := by
  rw [va_pl_set hD hL hk]
  exact congrArg (fun l => X ++ l) (va_pl_congr (wSt_O_GhostGameModel_f_thrown cyI cyJ cyZ S h v))
theorem wNw_O_GhostGameModel (cyI : ClassId) (cyJ : ClassId) (cyZ : ClassId) (S : wPS) (a b : Nat) : va_up (wPF cyI cyJ cyZ S) a (.inr (3, [.null, .int 0, .null, .null, .int 0, .int 0, .int 0, .null, .int 0, .int 0, .int 0, .null, .int 0, .null, .null, .null, .null, .null, .int 0])) b = wPF cyI cyJ cyZ { S with L := S.L ++ [a], K := va_up S.K a 3, O_GhostGameModel := { f_slip := va_up S.O_GhostGameModel.f_slip a none, f_slipLength := va_up S.O_GhostGameModel.f_slipLength a 0, f_letters := va_up S.O_GhostGameModel.f_letters a none, f_length := va_up S.O_GhostGameModel.f_length a none, f_words := va_up S.O_GhostGameModel.f_words a 0, f_least := va_up S.O_GhostGameModel.f_least a 0, f_players := va_up S.O_GhostGameModel.f_players a 0, f_strikes := va_up S.O_GhostGameModel.f_strikes a none, f_turn := va_up S.O_GhostGameModel.f_turn a 0, f_latest := va_up S.O_GhostGameModel.f_latest a 0, f_winner := va_up S.O_GhostGameModel.f_winner a 0, f_fragment := va_up S.O_GhostGameModel.f_fragment a none, f_fragmentLength := va_up S.O_GhostGameModel.f_fragmentLength a 0, f_wins := va_up S.O_GhostGameModel.f_wins a none, f_ends := va_up S.O_GhostGameModel.f_ends a none, f_chosen := va_up S.O_GhostGameModel.f_chosen a none, f_good := va_up S.O_GhostGameModel.f_good a none, f_open := va_up S.O_GhostGameModel.f_open a none, f_thrown := va_up S.O_GhostGameModel.f_thrown a 0 } } b := by by_cases hb : b = a <;> first | (simp only [wPF, va_up_ne _ _ hb]; done) | (simp only [wPF, va_up, if_neg hb]; done) | simp [wPF, va_re, va_up, va_rf, hb]
theorem wPn_O_GhostGameModel (cyI : ClassId) (cyJ : ClassId) (cyZ : ClassId) (X : va_W) (S : wPS) {a : Nat} (ha : a ∉ S.L) : (X ++ va_pl S.L (wPF cyI cyJ cyZ S)) ++ [(a, .inr (3, [.null, .int 0, .null, .null, .int 0, .int 0, .int 0, .null, .int 0, .int 0, .int 0, .null, .int 0, .null, .null, .null, .null, .null, .int 0]))] = X ++ va_pl (S.L ++ [a]) (wPF cyI cyJ cyZ { S with L := S.L ++ [a], K := va_up S.K a 3, O_GhostGameModel := { f_slip := va_up S.O_GhostGameModel.f_slip a none, f_slipLength := va_up S.O_GhostGameModel.f_slipLength a 0, f_letters := va_up S.O_GhostGameModel.f_letters a none, f_length := va_up S.O_GhostGameModel.f_length a none, f_words := va_up S.O_GhostGameModel.f_words a 0, f_least := va_up S.O_GhostGameModel.f_least a 0, f_players := va_up S.O_GhostGameModel.f_players a 0, f_strikes := va_up S.O_GhostGameModel.f_strikes a none, f_turn := va_up S.O_GhostGameModel.f_turn a 0, f_latest := va_up S.O_GhostGameModel.f_latest a 0, f_winner := va_up S.O_GhostGameModel.f_winner a 0, f_fragment := va_up S.O_GhostGameModel.f_fragment a none, f_fragmentLength := va_up S.O_GhostGameModel.f_fragmentLength a 0, f_wins := va_up S.O_GhostGameModel.f_wins a none, f_ends := va_up S.O_GhostGameModel.f_ends a none, f_chosen := va_up S.O_GhostGameModel.f_chosen a none, f_good := va_up S.O_GhostGameModel.f_good a none, f_open := va_up S.O_GhostGameModel.f_open a none, f_thrown := va_up S.O_GhostGameModel.f_thrown a 0 } }) := by
  rw [List.append_assoc, va_pl_push ha]
  exact congrArg (fun l => X ++ l) (va_pl_congr (wNw_O_GhostGameModel cyI cyJ cyZ S a))
theorem wAt_R_I (cyI : ClassId) (cyJ : ClassId) (cyZ : ClassId) (S : wPS) {a : Nat} (h : S.K a = 4) : wPF cyI cyJ cyZ S a = .inl (cyI, S.R_I.len a, .inl (S.R_I.row a)) := by simp [wPF, h]
theorem wGt_R_I (cyI : ClassId) (cyJ : ClassId) (cyZ : ClassId) (X : va_W) (S : wPS) {a : Nat} (hL : a ∈ S.L) (h : S.K a = 4) : ∃ k : Nat, (X ++ va_pl S.L (wPF cyI cyJ cyZ S))[k]? = some (a, wPF cyI cyJ cyZ S a) ∧ (X ++ va_pl S.L (wPF cyI cyJ cyZ S))[k]? = some (a, .inl (cyI, S.R_I.len a, .inl (S.R_I.row a))) := by
  obtain ⟨k, hk⟩ := va_pl_get (X := X) (f := wPF cyI cyJ cyZ S) hL
  exact ⟨k, hk, hk.trans (congrArg (fun e => some (a, e)) (wAt_R_I cyI cyJ cyZ S h))⟩
theorem wSt_R_I_row (cyI : ClassId) (cyJ : ClassId) (cyZ : ClassId) (S : wPS) {a : Nat} (h : S.K a = 4) (v : Nat → Int32) (b : Nat) : va_up (wPF cyI cyJ cyZ S) a (.inl (cyI, S.R_I.len a, .inl v)) b = wPF cyI cyJ cyZ { S with R_I := { S.R_I with row := va_up S.R_I.row a v } } b := by by_cases hb : b = a <;> first | (simp only [wPF, va_up_ne _ _ hb]; done) | (simp only [wPF, va_up, if_neg hb]; done) | simp [wPF, va_re, va_up, va_rf, hb, h]
theorem wPu_R_I_row (cyI : ClassId) (cyJ : ClassId) (cyZ : ClassId) (X : va_W) (S : wPS) {A : Nat → Prop} {a k : Nat} (hD : va_D A (X ++ va_pl S.L (wPF cyI cyJ cyZ S))) (hL : a ∈ S.L) (h : S.K a = 4) (hk : (X ++ va_pl S.L (wPF cyI cyJ cyZ S))[k]? = some (a, wPF cyI cyJ cyZ S a)) (v : Nat → Int32) : (X ++ va_pl S.L (wPF cyI cyJ cyZ S)).set k (a, .inl (cyI, S.R_I.len a, .inl v)) = X ++ va_pl S.L (wPF cyI cyJ cyZ { S with R_I := { S.R_I with row := va_up S.R_I.row a v } }) := by
  rw [va_pl_set hD hL hk]
  exact congrArg (fun l => X ++ l) (va_pl_congr (wSt_R_I_row cyI cyJ cyZ S h v))
theorem wNw_R_I (cyI : ClassId) (cyJ : ClassId) (cyZ : ClassId) (S : wPS) (a : Nat) (z : Nat) (f : Nat → Int32) (b : Nat) : va_up (wPF cyI cyJ cyZ S) a (.inl (cyI, z, .inl f)) b = wPF cyI cyJ cyZ { S with L := S.L ++ [a], K := va_up S.K a 4, R_I := { len := va_up S.R_I.len a z, row := va_up S.R_I.row a f } } b := by by_cases hb : b = a <;> first | (simp only [wPF, va_up_ne _ _ hb]; done) | (simp only [wPF, va_up, if_neg hb]; done) | simp [wPF, va_re, va_up, va_rf, hb]
theorem wAt_R_J (cyI : ClassId) (cyJ : ClassId) (cyZ : ClassId) (S : wPS) {a : Nat} (h : S.K a = 5) : wPF cyI cyJ cyZ S a = .inl (cyJ, S.R_J.len a, .inr (.inl (S.R_J.row a))) := by simp [wPF, h]
theorem wGt_R_J (cyI : ClassId) (cyJ : ClassId) (cyZ : ClassId) (X : va_W) (S : wPS) {a : Nat} (hL : a ∈ S.L) (h : S.K a = 5) : ∃ k : Nat, (X ++ va_pl S.L (wPF cyI cyJ cyZ S))[k]? = some (a, wPF cyI cyJ cyZ S a) ∧ (X ++ va_pl S.L (wPF cyI cyJ cyZ S))[k]? = some (a, .inl (cyJ, S.R_J.len a, .inr (.inl (S.R_J.row a)))) := by
  obtain ⟨k, hk⟩ := va_pl_get (X := X) (f := wPF cyI cyJ cyZ S) hL
  exact ⟨k, hk, hk.trans (congrArg (fun e => some (a, e)) (wAt_R_J cyI cyJ cyZ S h))⟩
theorem wSt_R_J_row (cyI : ClassId) (cyJ : ClassId) (cyZ : ClassId) (S : wPS) {a : Nat} (h : S.K a = 5) (v : Nat → Int64) (b : Nat) : va_up (wPF cyI cyJ cyZ S) a (.inl (cyJ, S.R_J.len a, .inr (.inl v))) b = wPF cyI cyJ cyZ { S with R_J := { S.R_J with row := va_up S.R_J.row a v } } b := by by_cases hb : b = a <;> first | (simp only [wPF, va_up_ne _ _ hb]; done) | (simp only [wPF, va_up, if_neg hb]; done) | simp [wPF, va_re, va_up, va_rf, hb, h]
theorem wPu_R_J_row (cyI : ClassId) (cyJ : ClassId) (cyZ : ClassId) (X : va_W) (S : wPS) {A : Nat → Prop} {a k : Nat} (hD : va_D A (X ++ va_pl S.L (wPF cyI cyJ cyZ S))) (hL : a ∈ S.L) (h : S.K a = 5) (hk : (X ++ va_pl S.L (wPF cyI cyJ cyZ S))[k]? = some (a, wPF cyI cyJ cyZ S a)) (v : Nat → Int64) : (X ++ va_pl S.L (wPF cyI cyJ cyZ S)).set k (a, .inl (cyJ, S.R_J.len a, .inr (.inl v))) = X ++ va_pl S.L (wPF cyI cyJ cyZ { S with R_J := { S.R_J with row := va_up S.R_J.row a v } }) := by
  rw [va_pl_set hD hL hk]
  exact congrArg (fun l => X ++ l) (va_pl_congr (wSt_R_J_row cyI cyJ cyZ S h v))
theorem wNw_R_J (cyI : ClassId) (cyJ : ClassId) (cyZ : ClassId) (S : wPS) (a : Nat) (z : Nat) (f : Nat → Int64) (b : Nat) : va_up (wPF cyI cyJ cyZ S) a (.inl (cyJ, z, .inr (.inl f))) b = wPF cyI cyJ cyZ { S with L := S.L ++ [a], K := va_up S.K a 5, R_J := { len := va_up S.R_J.len a z, row := va_up S.R_J.row a f } } b := by by_cases hb : b = a <;> first | (simp only [wPF, va_up_ne _ _ hb]; done) | (simp only [wPF, va_up, if_neg hb]; done) | simp [wPF, va_re, va_up, va_rf, hb]
theorem wAt_R_Z (cyI : ClassId) (cyJ : ClassId) (cyZ : ClassId) (S : wPS) {a : Nat} (h : S.K a = 6) : wPF cyI cyJ cyZ S a = .inl (cyZ, S.R_Z.len a, .inl (S.R_Z.row a)) := by simp [wPF, h]
theorem wGt_R_Z (cyI : ClassId) (cyJ : ClassId) (cyZ : ClassId) (X : va_W) (S : wPS) {a : Nat} (hL : a ∈ S.L) (h : S.K a = 6) : ∃ k : Nat, (X ++ va_pl S.L (wPF cyI cyJ cyZ S))[k]? = some (a, wPF cyI cyJ cyZ S a) ∧ (X ++ va_pl S.L (wPF cyI cyJ cyZ S))[k]? = some (a, .inl (cyZ, S.R_Z.len a, .inl (S.R_Z.row a))) := by
  obtain ⟨k, hk⟩ := va_pl_get (X := X) (f := wPF cyI cyJ cyZ S) hL
  exact ⟨k, hk, hk.trans (congrArg (fun e => some (a, e)) (wAt_R_Z cyI cyJ cyZ S h))⟩
theorem wSt_R_Z_row (cyI : ClassId) (cyJ : ClassId) (cyZ : ClassId) (S : wPS) {a : Nat} (h : S.K a = 6) (v : Nat → Int32) (b : Nat) : va_up (wPF cyI cyJ cyZ S) a (.inl (cyZ, S.R_Z.len a, .inl v)) b = wPF cyI cyJ cyZ { S with R_Z := { S.R_Z with row := va_up S.R_Z.row a v } } b := by by_cases hb : b = a <;> first | (simp only [wPF, va_up_ne _ _ hb]; done) | (simp only [wPF, va_up, if_neg hb]; done) | simp [wPF, va_re, va_up, va_rf, hb, h]
theorem wPu_R_Z_row (cyI : ClassId) (cyJ : ClassId) (cyZ : ClassId) (X : va_W) (S : wPS) {A : Nat → Prop} {a k : Nat} (hD : va_D A (X ++ va_pl S.L (wPF cyI cyJ cyZ S))) (hL : a ∈ S.L) (h : S.K a = 6) (hk : (X ++ va_pl S.L (wPF cyI cyJ cyZ S))[k]? = some (a, wPF cyI cyJ cyZ S a)) (v : Nat → Int32) : (X ++ va_pl S.L (wPF cyI cyJ cyZ S)).set k (a, .inl (cyZ, S.R_Z.len a, .inl v)) = X ++ va_pl S.L (wPF cyI cyJ cyZ { S with R_Z := { S.R_Z with row := va_up S.R_Z.row a v } }) := by
  rw [va_pl_set hD hL hk]
  exact congrArg (fun l => X ++ l) (va_pl_congr (wSt_R_Z_row cyI cyJ cyZ S h v))
theorem wNw_R_Z (cyI : ClassId) (cyJ : ClassId) (cyZ : ClassId) (S : wPS) (a : Nat) (z : Nat) (f : Nat → Int32) (b : Nat) : va_up (wPF cyI cyJ cyZ S) a (.inl (cyZ, z, .inl f)) b = wPF cyI cyJ cyZ { S with L := S.L ++ [a], K := va_up S.K a 6, R_Z := { len := va_up S.R_Z.len a z, row := va_up S.R_Z.row a f } } b := by by_cases hb : b = a <;> first | (simp only [wPF, va_up_ne _ _ hb]; done) | (simp only [wPF, va_up, if_neg hb]; done) | simp [wPF, va_re, va_up, va_rf, hb]
/-! ===== END printed: names ===== -/
