section
-- ===== PART A: goes FIRST, ahead of the names: the tables' words, and 'selects' of the private methods out of them =====
/-- a private method of a class that the tables say can be made, by its rows of tables_1 -/
def lw_okq (q : MethodName × Nat) : Prop := (q.1.cls ≠ "java/lang/invoke/MethodHandle" ∧ q.1.cls ≠ "java/lang/invoke/VarHandle") ∧ Cond.instantiable q.1.cls q.2 ∈ tables_1 ∧ Cond.privateMethod q.1 ∈ tables_1 ∧ Cond.instanceMethod q.1 ∈ tables_1
theorem lw_p0 : lw_okq (⟨"java/lang/Throwable", "fillInStackTrace", "(I)Ljava/lang/Throwable;"⟩, 6) := ⟨⟨by decide +kernel, by decide +kernel⟩, List.mem_of_getElem? (i := 136) (by decide +kernel), List.mem_of_getElem? (i := 134) (by decide +kernel), List.mem_of_getElem? (i := 135) (by decide +kernel)⟩
theorem lw_p1 : lw_okq (⟨"GhostGame$Dictionary", "placeOf", "(J)I"⟩, 3) := ⟨⟨by decide +kernel, by decide +kernel⟩, List.mem_of_getElem? (i := 22) (by decide +kernel), List.mem_of_getElem? (i := 224) (by decide +kernel), List.mem_of_getElem? (i := 225) (by decide +kernel)⟩
theorem lw_p2 : lw_okq (⟨"GhostGame$Game", "endRound", "(I)I"⟩, 6) := ⟨⟨by decide +kernel, by decide +kernel⟩, List.mem_of_getElem? (i := 39) (by decide +kernel), List.mem_of_getElem? (i := 228) (by decide +kernel), List.mem_of_getElem? (i := 229) (by decide +kernel)⟩
theorem lw_p3 : lw_okq (⟨"GhostGame$Game", "hasPlayer", "(I)Z"⟩, 6) := ⟨⟨by decide +kernel, by decide +kernel⟩, List.mem_of_getElem? (i := 39) (by decide +kernel), List.mem_of_getElem? (i := 232) (by decide +kernel), List.mem_of_getElem? (i := 233) (by decide +kernel)⟩
theorem lw_p4 : lw_okq (⟨"GhostGame$Game", "playersLeft", "()I"⟩, 6) := ⟨⟨by decide +kernel, by decide +kernel⟩, List.mem_of_getElem? (i := 39) (by decide +kernel), List.mem_of_getElem? (i := 236) (by decide +kernel), List.mem_of_getElem? (i := 237) (by decide +kernel)⟩
theorem lw_p5 : lw_okq (⟨"GhostGame$Game", "isOut", "(I)Z"⟩, 6) := ⟨⟨by decide +kernel, by decide +kernel⟩, List.mem_of_getElem? (i := 39) (by decide +kernel), List.mem_of_getElem? (i := 240) (by decide +kernel), List.mem_of_getElem? (i := 241) (by decide +kernel)⟩
theorem lw_p6 : lw_okq (⟨"GhostGame$Game", "nextBehind", "(I)I"⟩, 6) := ⟨⟨by decide +kernel, by decide +kernel⟩, List.mem_of_getElem? (i := 39) (by decide +kernel), List.mem_of_getElem? (i := 248) (by decide +kernel), List.mem_of_getElem? (i := 249) (by decide +kernel)⟩
theorem lw_p7 : lw_okq (⟨"GhostGame$Dictionary", "lengthSharedBefore", "(I)I"⟩, 3) := ⟨⟨by decide +kernel, by decide +kernel⟩, List.mem_of_getElem? (i := 22) (by decide +kernel), List.mem_of_getElem? (i := 380) (by decide +kernel), List.mem_of_getElem? (i := 381) (by decide +kernel)⟩
def lw_privs_1 : List (MethodName × Nat) := [(⟨"java/lang/Throwable", "fillInStackTrace", "(I)Ljava/lang/Throwable;"⟩, 6), (⟨"GhostGame$Dictionary", "placeOf", "(J)I"⟩, 3), (⟨"GhostGame$Game", "endRound", "(I)I"⟩, 6), (⟨"GhostGame$Game", "hasPlayer", "(I)Z"⟩, 6), (⟨"GhostGame$Game", "playersLeft", "()I"⟩, 6), (⟨"GhostGame$Game", "isOut", "(I)Z"⟩, 6), (⟨"GhostGame$Game", "nextBehind", "(I)I"⟩, 6), (⟨"GhostGame$Dictionary", "lengthSharedBefore", "(I)I"⟩, 3)]
theorem lw_r1 : ∀ q ∈ lw_privs_1, lw_okq q := List.forall_mem_cons.mpr ⟨lw_p0, List.forall_mem_cons.mpr ⟨lw_p1, List.forall_mem_cons.mpr ⟨lw_p2, List.forall_mem_cons.mpr ⟨lw_p3, List.forall_mem_cons.mpr ⟨lw_p4, List.forall_mem_cons.mpr ⟨lw_p5, List.forall_mem_cons.mpr ⟨lw_p6, List.forall_mem_cons.mpr ⟨lw_p7, fun _ h => absurd h List.not_mem_nil⟩⟩⟩⟩⟩⟩⟩⟩
def lw_privs : List (MethodName × Nat) := lw_privs_1
def lw_tbl : List Cond := k2_sels lw_privs ++ tables_1
theorem lw_privs_ok : ∀ q ∈ lw_privs, lw_okq q := lw_r1
end
section
/-! ===== BEGIN words of one list among another's, by their places ===== -/
theorem goodIn_r {big : List Cond} (ws : List Cond) (ps : List Nat) (hp : ws = ps.filterMap (fun i => big[i]?)) (h : ws.all goodWord = true) : GoodIn big ws := by
  intro w hw
  have h1 := List.all_eq_true.mp h w hw
  rw [hp] at hw
  obtain ⟨i, -, hi⟩ := List.mem_filterMap.mp hw
  have hm : w ∈ big := by first | exact List.mem_of_getElem? hi | exact List.getElem?_mem hi
  exact ⟨hm, good_of_word h1⟩
theorem goodIn_app {big a b : List Cond} (ha : GoodIn big a) (hb : GoodIn big b) : GoodIn big (a ++ b) := fun w h => (List.mem_append.mp h).elim (ha w) (hb w)
theorem goodIn_ca {big a b : List Cond} {c : Cond} (ha : GoodIn big (c :: a)) (hb : GoodIn big b) : GoodIn big (c :: (a ++ b)) := fun w h => (List.mem_cons.mp h).elim (fun e => ha w (List.mem_cons.mpr (Or.inl e))) (fun h => (List.mem_append.mp h).elim (fun h => ha w (List.mem_cons.mpr (Or.inr h))) (hb w))
theorem goodIn_sub {big ws : List Cond} (hm : ∀ w ∈ ws, w ∈ big) (h : ws.all goodWord = true) : GoodIn big ws := fun w hw => ⟨hm w hw, good_of_word (List.all_eq_true.mp h w hw)⟩
/-! ===== END ===== -/

/-! ===== BEGIN exceptions that leave a method, and their catching by the caller (launches without stack traces) ===== -/
section VXA
/-! The laws vx_back, vx_callV, vx_callS, vx_callSW, vx_throw0, vx_throwS follow proofs of the library, with one case more: JvmDerived/Free/Laws.lean (Back.of_free), Shelf42/LK1.lean (callV, callS), Shelf/KitTraced.lean (throwNew0V, throwNewS). -/
/-- where a method has thrown q: the class by its name, the cell, what was written, the world -/
def vx_T (XC : String → State → State → Prop) (st : State) (q : Addr) (t : State) (mc ms : Nat) (free : Addr → Prop) : Prop :=
  ∃ (E : String) (ce : Cell) (L : List Loc), XC E st t ∧ t.heap[q]? = some ce ∧ ce.vm = .none ∧ st.vm.findClass E = some ce.cls ∧ st.WarmedH t.vm ∧ st.sameButNew ({ t with vm := st.vm } : State) L mc ms ∧ ∀ z ∈ L, free z.base
def vx_Q (Qc : Array Value → State → Outcome → State → Prop) (XC : String → State → State → Prop) (mc ms : Nat) (free : Addr → Prop) : Array Value → State → Outcome → State → Prop := fun a st o t =>
  (Qc a st o t ∧ ∃ L, FrameEnd st o t L mc ms ∧ ∀ q ∈ L, free q.base) ∨ ∃ q, o = .threw q ∧ vx_T XC st q t mc ms free
/-- a callee that returns or throws -/
def vx_Met (l : Launch) (y : MethodName) (ws : List Cond) (rm : Room) (Pc : Array Value → State → Prop) (Qc : Array Value → State → Outcome → State → Prop) (XC : String → State → State → Prop) (mc ms : Nat) (free : Addr → Prop) : Prop :=
  MetFree l y (headSpec ws rm) Pc (fun _ _ _ _ _ => True) (vx_Q Qc XC mc ms free)
def vx_Post (XC : String → State → State → Prop) (mc ms : Nat) (free : Addr → Prop) : Pt → Array Value → Addr → Pt → Prop := fun A a q B =>
  ∃ (g : JFrame) (mk : MethodId) (t : State) (L : List Loc) (E : String) (ce : Cell), B.U.heap = t.heap ∧ B.U.vm = t.vm ∧ XC E (A.U.calling g mk a) t ∧ t.heap[q]? = some ce ∧ ce.vm = .none ∧ A.U.vm.findClass E = some ce.cls ∧ B.locs = A.locs ++ L ∧ (∀ z ∈ L, free z.base) ∧ B.cells = A.cells + mc ∧ B.slots = A.slots + ms
def vx_Back (l : Launch) (R : Room) (p : Program) (e : Env) (below : List Frame) (s : State) (sargs : Array Value) (y : MethodName) (len W9 : Nat)
    (Pre : Pt → Array Value → Prop) (Post : Pt → Array Value → Option Value → Pt → Prop) (PostX : Pt → Array Value → Addr → Pt → Prop) : Prop :=
  ∀ (m : MethodId) (meth : Method) (c : Code) (A : Pt) (g : JFrame) (ig : Instr) (mk : MethodId) (a : Array Value),
    Stand p l e R s m sargs below meth c A.U A.locs A.cells A.slots → g.method = m → g.locals.size = c.maxLocals → decode c.code g.pc = .ok (ig, len) →
    2 * g.monitorRoom + (g.stack.map fun v => v.category).sum ≤ W9 → A.U.methodNamed? y = some mk → Pre A a →
    (∃ (v : Option Value) (B : Pt), Stand p l e R s m sargs below meth c B.U B.locs B.cells B.slots ∧ Post A a v B ∧
      Steps p.tables e below (doInvoke e (A.U.setTop g) [] mk a).1 (B.U.setTop { g with pc := g.pc + len, stack := v.toList ++ g.stack })) ∨
    (∃ (q : Addr) (B : Pt), Stand p l e R s m sargs below meth c B.U B.locs B.cells B.slots ∧ PostX A a q B ∧
      Steps p.tables e below (doInvoke e (A.U.setTop g) [] mk a).1 ((B.U.setTop g).pushFrame (.throwing q)))
section Payer
variable {l : Launch} {R : Room} {p : Program} {e : Env} {below : List Frame} {s : State} {sargs : Array Value} {y : MethodName} {len W9 : Nat}
theorem vx_back {ws : List Cond} {rm : Room} {Pc : Array Value → State → Prop} {Qc : Array Value → State → Outcome → State → Prop} {XC : String → State → State → Prop} {mc ms : Nat} {free : Addr → Prop} {bytes : ByteArray} {maxL : Nat} {ret : Option FieldType}
    (hM : vx_Met l y ws rm Pc Qc XC mc ms free) (hblind : FrameBlind Pc) (hrc : rm.cells = mc) (hrs : rm.slots = ms)
    (hframes : rm.frames + 1 ≤ R.frames) (hlocals : W9 + (maxL + 11) + rm.locals ≤ R.locals)
    (hws : ∀ w ∈ ws, ∀ a' U, s.WarmedH U.vm → w.before a' U = true) (hcode : Cond.code y bytes maxL ret ∈ ws) (hinit : ∀ a' U, s.WarmedH U.vm → (Cond.initialized y.cls).before a' U = true) :
    vx_Back l R p e below s sargs y len W9 (PreOf R mc ms Pc) (PostOf Qc mc ms free) (vx_Post XC mc ms free) := by
  intro m meth c A g ig mk a X hg hsize hdg hW hn hp
  have h1 : (headSpec ws rm).pre.before a A.U = true := atoms_intro fun w hw => hws w hw _ _ X.warmed
  have h2 : (Cond.code y bytes maxL ret).before a A.U = true := hws _ hcode _ _ X.warmed
  have h3 : (Cond.initialized y.cls).before a A.U = true := hinit _ _ X.warmed
  have h4 : A.cells + (headSpec ws rm).room.cells ≤ R.cells := by rw [show (headSpec ws rm).room.cells = mc from hrc]; exact hp.1
  have h5 : A.slots + (headSpec ws rm).room.slots ≤ R.slots := by rw [show (headSpec ws rm).room.slots = ms from hrs]; exact hp.2.1
  have hPc : Pc a (A.U.calling g mk a) := hblind _ _ _ _ hp.2.2
  obtain ⟨U, Ls, c0, s0⟩ := A
  dsimp only [Pt.U, Pt.locs, Pt.cells, Pt.slots] at h1 h2 h3 h4 h5 X hn hPc ⊢
  obtain ⟨methY, cY, hmY, hcY, -, hlY, -, -, -, -⟩ := Cond.code_spec hn h2
  obtain ⟨kY, hkY, -⟩ := className_of_methodNamed hn
  have hinitY : kY.init = .initialized := Cond.initialized_spec (findClass_of_methodNamed hn) hkY h3
  have h : At U g.method c below := by rw [hg]; exact X.here
  have hlocals9 : W9 + (maxL + 11) + (headSpec ws rm).room.locals ≤ R.locals := hlocals
  have happ : (headSpec ws rm).appliesLoose y e.platform (U.calling g mk a) = true :=
    Spec.appliesLoose_calling (g := g) h hdg hn hkY hinitY
      (X.room_calling (g := g) (R' := (headSpec ws rm).room) hsize hmY hcY hframes (by rw [hlY]; omega) h4 h5) h1
  obtain ⟨mid, hmid⟩ := h.above
  have hfr : (U.setTop g).frames = (.java g :: mid) ++ below := by rw [State.frames_setTop' g h.top, hmid]; rfl
  obtain ⟨o, s₂, hsteps, -, hend, hq⟩ := Steps.callFree hM p X.admits X.cas X.clock (acts := []) hfr happ hPc trivial
  have hq' : vx_Q Qc XC mc ms free a (U.calling g mk a) o s₂ := hq
  rw [State.frames_setTop' g h.top] at hend
  obtain ⟨g₀, hg0⟩ := Option.isSome_iff_exists.mp h.top
  obtain ⟨r, hr⟩ := State.topJava?_eq_some.mp hg0
  have hr' : (({ U with heap := s₂.heap, slotsUsed := s₂.slotsUsed } : State).setVm s₂.vm).frames = .java g₀ :: r := hr
  rcases hq' with ⟨hqc, L, hfe, hL⟩ | ⟨q, rfl, E, ce, L, hx, hce, hcv, hcl, hW₂, hsm, hL⟩
  · obtain ⟨⟨v, rfl⟩, hW₂, e2, q2, q3, q4, q5, q6⟩ := id hfe
    have e3 : s₂ = ({ (U.calling g mk a).setFrames s₂.frames with heap := s₂.heap, slotsUsed := s₂.slotsUsed } : State).setVm s₂.vm := by
      have : s₂ = ({ s₂ with vm := (U.calling g mk a).vm } : State).setVm s₂.vm := rfl
      rw [e2] at this
      exact this
    obtain ⟨c₂, i₂, len₂, hc₂, hd₂, hf₂⟩ := hend
    have hW' : U.WarmedH s₂.vm := hW₂
    have hcc : c₂ = c := by
      have h1 : s₂.code? g.method = U.code? g.method := by
        rw [State.code?_eq, State.code?_eq, hW'.alike.method?]
      exact Option.some.inj (hc₂.symm.trans (h1.trans h.code))
    subst hcc
    have hlen : len₂ = len := by rw [hdg] at hd₂; cases hd₂; rfl
    subst hlen
    have hs₂ : s₂ = (({ U with heap := s₂.heap, slotsUsed := s₂.slotsUsed } : State).setVm s₂.vm).setTop { g with pc := g.pc + len₂, stack := v.toList ++ g.stack } := by
      refine e3.trans ?_
      rw [hf₂, State.calling_eq h.top, State.setFrames_setFrames, State.setTop_of_frames _ hr', hr]
      rfl
    have hsame : U.sameButNew ({ U with heap := s₂.heap, slotsUsed := s₂.slotsUsed } : State) L mc ms := by
      refine ⟨?_, q2, q3, q4, q5, q6⟩
      obtain ⟨t, ht, -⟩ := State.frames_cons hr
      show ({ U with heap := s₂.heap, slotsUsed := s₂.slotsUsed } : State) = { U.setFrames U.frames with heap := s₂.heap, slotsUsed := s₂.slotsUsed }
      rw [State.setFrames_self ht]
    subst hg
    refine Or.inl ⟨v, ⟨(({ U with heap := s₂.heap, slotsUsed := s₂.slotsUsed } : State).setVm s₂.vm), Ls ++ L, c0 + mc, s0 + ms⟩,
      ⟨X.admits, X.cas, X.clock, X.frames, X.room, X.hears, X.method, X.code, (X.here.setHeapUsed s₂.heap s₂.slotsUsed).setVm hW'.alike, X.tail, State.WarmedH.trans X.warmed hW', X.limits, X.bytes, X.same.trans (hsame.setVm s.vm)⟩,
      ⟨g, mk, s₂, L, rfl, rfl, hqc, rfl, hL, rfl, rfl⟩, ?_⟩
    show Steps p.tables e below _ ((({ U with heap := s₂.heap, slotsUsed := s₂.slotsUsed } : State).setVm s₂.vm).setTop { g with pc := g.pc + len₂, stack := v.toList ++ g.stack })
    rw [← hs₂]
    exact hsteps
  · obtain ⟨e2, q2, q3, q4, q5, q6⟩ := id hsm
    have e3 : s₂ = ({ (U.calling g mk a).setFrames s₂.frames with heap := s₂.heap, slotsUsed := s₂.slotsUsed } : State).setVm s₂.vm := by
      have : s₂ = ({ s₂ with vm := (U.calling g mk a).vm } : State).setVm s₂.vm := rfl
      rw [e2] at this
      exact this
    have hf₂ : s₂.frames = .throwing q :: .java g :: U.frames.tail := hend
    have hW' : U.WarmedH s₂.vm := hW₂
    have hs₂ : s₂ = ((({ U with heap := s₂.heap, slotsUsed := s₂.slotsUsed } : State).setVm s₂.vm).setTop g).pushFrame (.throwing q) := by
      refine e3.trans ?_
      rw [hf₂, State.calling_eq h.top, State.setFrames_setFrames, State.pushFrame, State.frames_setTop _ hr', State.setTop_of_frames _ hr', State.setFrames_setFrames, hr]
      rfl
    have hsame : U.sameButNew ({ U with heap := s₂.heap, slotsUsed := s₂.slotsUsed } : State) L mc ms := by
      refine ⟨?_, q2, q3, q4, q5, q6⟩
      obtain ⟨t, ht, -⟩ := State.frames_cons hr
      show ({ U with heap := s₂.heap, slotsUsed := s₂.slotsUsed } : State) = { U.setFrames U.frames with heap := s₂.heap, slotsUsed := s₂.slotsUsed }
      rw [State.setFrames_self ht]
    subst hg
    refine Or.inr ⟨q, ⟨(({ U with heap := s₂.heap, slotsUsed := s₂.slotsUsed } : State).setVm s₂.vm), Ls ++ L, c0 + mc, s0 + ms⟩,
      ⟨X.admits, X.cas, X.clock, X.frames, X.room, X.hears, X.method, X.code, (X.here.setHeapUsed s₂.heap s₂.slotsUsed).setVm hW'.alike, X.tail, State.WarmedH.trans X.warmed hW', X.limits, X.bytes, X.same.trans (hsame.setVm s.vm)⟩,
      ⟨g, mk, s₂, L, E, ce, rfl, rfl, hx, hce, hcv, hcl, rfl, hL, rfl, rfl⟩, ?_⟩
    show Steps p.tables e below _ (((({ U with heap := s₂.heap, slotsUsed := s₂.slotsUsed } : State).setVm s₂.vm).setTop g).pushFrame (.throwing q))
    rw [← hs₂]
    exact hsteps
end Payer
section Calls
variable {p : Program} {l : Launch} {e : Env} {R : Room} {s : State} {m : MethodId} {args : Array Value} {below : List Frame} {meth : Method} {c : Code} {T : State} {locs : List Loc} {cells slots : Nat}
theorem vx_callV (X : Stand p l e R s m args below meth c T locs cells slots) (hexec : p.tables.exec = Jvm.exec) {own C : String} {index : Nat} {y : MethodName} {bytes : ByteArray} {maxL : Nat} {ret : Option FieldType}
    (hown : s.vm.findClass own = some m.cls) (hlink : (Cond.methodLink own index y).before args s = true) (hinst : (Cond.instanceMethod y).before args s = true) (hsel : (Cond.selects C y y).before args s = true)
    (hcode : (Cond.code y bytes maxL ret).before args s = true) (hy : y.cls ≠ "java/lang/invoke/MethodHandle" ∧ y.cls ≠ "java/lang/invoke/VarHandle")
    {W9 : Nat} {Pre : Pt → Array Value → Prop} {Post : Pt → Array Value → Option Value → Pt → Prop} {PostX : Pt → Array Value → Addr → Pt → Prop} (hK : vx_Back l R p e below s args y 3 W9 Pre Post PostX)
    {b : Addr} {cellB : Cell} (hcell : T.heap[b]? = some cellB) (hobj : cellB.vm.isStatics = false) (hcls : s.vm.findClass C = some cellB.cls)
    {g : JFrame} (hg : g.method = m) (hsize : g.locals.size = c.maxLocals) {argsL rest : List Value} (hlen : ∀ sig, parseMethodDescriptor y.desc = some sig → argsL.length = sig.parameters.length)
    (hstack : g.stack = argsL.reverse ++ .ref b :: rest) (hW : 2 * g.monitorRoom + (rest.map fun v => v.category).sum ≤ W9) (hdg : decode c.code g.pc = .ok (.invokevirtual index, 3))
    (hpre : ∀ vm₁, s.WarmedH vm₁ → Pre ⟨T.setVm vm₁, locs, cells, slots⟩ (Value.ref b :: argsL).toArray) :
    (∃ (v : Option Value) (vm₁ : Vm) (B : Pt), s.WarmedH vm₁ ∧ Stand p l e R s m args below meth c B.U B.locs B.cells B.slots ∧ Post ⟨T.setVm vm₁, locs, cells, slots⟩ (Value.ref b :: argsL).toArray v B ∧
      ∀ target, Steps p.tables e below (B.U.setTop { g with pc := g.pc + 3, stack := v.toList ++ rest }) target → Steps p.tables e below (T.setTop g) target) ∨
    (∃ (q : Addr) (vm₁ : Vm) (B : Pt), s.WarmedH vm₁ ∧ Stand p l e R s m args below meth c B.U B.locs B.cells B.slots ∧ PostX ⟨T.setVm vm₁, locs, cells, slots⟩ (Value.ref b :: argsL).toArray q B ∧
      Steps p.tables e below (T.setTop g) ((B.U.setTop { g with stack := rest }).pushFrame (.throwing q))) := by
  obtain ⟨mk, methM, hnamed, hmethM, hstM, habM⟩ := Cond.instanceMethod_spec hinst
  obtain ⟨methM', cM, hmethM', -, -, -, -, -, -, hsigM⟩ := Cond.code_spec hnamed hcode
  cases hmethM.symm.trans hmethM'
  obtain ⟨c2, r2, m2, q1, q2, q3, q4, kP, hkP, hkPi⟩ := Cond.selects_spec hsel
  cases hcls.symm.trans q1
  cases (State.methodFound?_of_named hnamed hy).symm.trans q2
  cases hnamed.symm.trans q3
  have hselP : selectMethod e.platform s.vm cellB.cls mk = .method mk := by rw [Launch.admits_selectMethod X.admits]; exact q4
  obtain ⟨vm₁, X₁, hstep₁⟩ := X.invokevirtual hexec hown hlink hnamed hmethM hstM hkP hkPi hy (a := b) (cell := cellB) hcell
    (fun z h => by rw [h] at hobj; cases hobj) hselP hmethM habM hkP hkPi (g := g) hg (argsL := argsL) (rest := rest) (hlen _ hsigM) hstack hdg
  rcases hK m meth c ⟨T.setVm vm₁, locs, cells, slots⟩ { g with stack := rest } (.invokevirtual index) mk (Value.ref b :: argsL).toArray X₁ hg hsize hdg hW (X₁.named hnamed) (hpre vm₁ X₁.warmed) with ⟨v, B, X', hpost, hsteps⟩ | ⟨q, B, X', hpost, hsteps⟩
  · exact Or.inl ⟨v, vm₁, B, X₁.warmed, X', hpost, fun target h => hstep₁ _ fun acts => by rw [doInvoke_state]; exact hsteps.trans h⟩
  · exact Or.inr ⟨q, vm₁, B, X₁.warmed, X', hpost, hstep₁ _ fun acts => by rw [doInvoke_state]; exact hsteps⟩
theorem vx_callS (X : Stand p l e R s m args below meth c T locs cells slots) (hexec : p.tables.exec = Jvm.exec) {own : String} {index : Nat} {y : MethodName} {bytes : ByteArray} {maxL : Nat} {ret : Option FieldType}
    (hown : s.vm.findClass own = some m.cls) (hlink : (Cond.methodLink own index y).before args s = true) (hstat : (Cond.static y).before args s = true) (hinit : (Cond.initialized y.cls).before args s = true)
    (hcode : (Cond.code y bytes maxL ret).before args s = true) (hy : y.cls ≠ "java/lang/invoke/MethodHandle" ∧ y.cls ≠ "java/lang/invoke/VarHandle")
    {W9 : Nat} {Pre : Pt → Array Value → Prop} {Post : Pt → Array Value → Option Value → Pt → Prop} {PostX : Pt → Array Value → Addr → Pt → Prop} (hK : vx_Back l R p e below s args y 3 W9 Pre Post PostX)
    {g : JFrame} (hg : g.method = m) (hsize : g.locals.size = c.maxLocals) {argsL rest : List Value} (hlen : ∀ sig, parseMethodDescriptor y.desc = some sig → argsL.length = sig.parameters.length)
    (hstack : g.stack = argsL.reverse ++ rest) (hW : 2 * g.monitorRoom + (rest.map fun v => v.category).sum ≤ W9) (hdg : decode c.code g.pc = .ok (.invokestatic index, 3))
    (hpre : ∀ vm₁, s.WarmedH vm₁ → Pre ⟨T.setVm vm₁, locs, cells, slots⟩ argsL.toArray) :
    (∃ (v : Option Value) (vm₁ : Vm) (B : Pt), s.WarmedH vm₁ ∧ Stand p l e R s m args below meth c B.U B.locs B.cells B.slots ∧ Post ⟨T.setVm vm₁, locs, cells, slots⟩ argsL.toArray v B ∧
      ∀ target, Steps p.tables e below (B.U.setTop { g with pc := g.pc + 3, stack := v.toList ++ rest }) target → Steps p.tables e below (T.setTop g) target) ∨
    (∃ (q : Addr) (vm₁ : Vm) (B : Pt), s.WarmedH vm₁ ∧ Stand p l e R s m args below meth c B.U B.locs B.cells B.slots ∧ PostX ⟨T.setVm vm₁, locs, cells, slots⟩ argsL.toArray q B ∧
      Steps p.tables e below (T.setTop g) ((B.U.setTop { g with stack := rest }).pushFrame (.throwing q))) := by
  obtain ⟨mk, hnamed⟩ := Cond.code_named hcode
  obtain ⟨methM, cM, hmethM, -, -, -, -, -, -, hsigM⟩ := Cond.code_spec hnamed hcode
  have hstatic : methM.isStatic = true := Cond.static_spec hnamed hmethM hstat
  obtain ⟨kP, hkP, -⟩ := className_of_methodNamed hnamed
  have hinitP : kP.init = .initialized := Cond.initialized_spec (findClass_of_methodNamed hnamed) hkP hinit
  obtain ⟨vm₁, X₁, hstep₁⟩ := X.invokestatic hexec hown hlink hnamed hmethM hstatic hkP hinitP hy (g := g) hg (argsL := argsL) (rest := rest) (hlen _ hsigM) hstack hdg
  rcases hK m meth c ⟨T.setVm vm₁, locs, cells, slots⟩ { g with stack := rest } (.invokestatic index) mk argsL.toArray X₁ hg hsize hdg hW (X₁.named hnamed) (hpre vm₁ X₁.warmed) with ⟨v, B, X', hpost, hsteps⟩ | ⟨q, B, X', hpost, hsteps⟩
  · exact Or.inl ⟨v, vm₁, B, X₁.warmed, X', hpost, fun target h => hstep₁ _ fun acts => by rw [doInvoke_state]; exact hsteps.trans h⟩
  · exact Or.inr ⟨q, vm₁, B, X₁.warmed, X', hpost, hstep₁ _ fun acts => by rw [doInvoke_state]; exact hsteps⟩
end Calls
theorem vx_cls {s : State} {T : State} {vm₁ : Vm} {E : String} {k : ClassId} (hW : s.WarmedH vm₁) (h : (T.setVm vm₁).vm.findClass E = some k) : s.vm.findClass E = some k := by
  have h1 : vm₁.findClass E = some k := h
  rw [hW.alike.findClass] at h1
  exact h1
/-- the method's frame g, with q thrown over it -/
def vx_W (p : Program) (l : Launch) (e : Env) (R : Room) (s : State) (m : MethodId) (args : Array Value) (below : List Frame) (meth : Method) (c : Code) (H : Heap) (locs : List Loc) (cells slots : Nat) (Q : State → Prop) (g : JFrame) (q : Addr) : Prop :=
  ∀ T : State, T.heap = H → Stand p l e R s m args below meth c T locs cells slots → ∃ t, Steps p.tables e below ((T.setTop g).pushFrame (.throwing q)) t ∧ Q t
def vx_Run (p : Program) (l : Launch) (e : Env) (R : Room) (s : State) (m : MethodId) (args : Array Value) (below : List Frame) (meth : Method) (c : Code) (H : Heap) (locs : List Loc) (cells slots mc ms : Nat) (g : JFrame) (rest : List Value) (Qa : State → Outcome → State → Prop) (XC : String → State → State → Prop) (free : Addr → Prop) : Prop :=
  ∀ T : State, T.heap = H → Stand p l e R s m args below meth c T locs cells slots →
    (∃ (v : Option Value) (st₀ t T' : State) (L : List Loc), st₀.heap = H ∧ Stand p l e R s m args below meth c T' (locs ++ L) (cells + mc) (slots + ms) ∧ (∀ q ∈ L, free q.base) ∧ T'.heap = t.heap ∧ T'.vm = t.vm ∧ Qa st₀ (.returned v) t ∧
      Goes p e below T g T' { g with pc := g.pc + 3, stack := v.toList ++ rest }) ∨
    (∃ (q : Addr) (st₀ t T' : State) (L : List Loc) (E : String) (ce : Cell), st₀.heap = H ∧ Stand p l e R s m args below meth c T' (locs ++ L) (cells + mc) (slots + ms) ∧ (∀ z ∈ L, free z.base) ∧ T'.heap = t.heap ∧ T'.vm = t.vm ∧ XC E st₀ t ∧ t.heap[q]? = some ce ∧ ce.vm = .none ∧ s.vm.findClass E = some ce.cls ∧
      Steps p.tables e below (T.setTop g) ((T'.setTop { g with stack := rest }).pushFrame (.throwing q)))
def vx_X {S : Type} (px : S → Prop) (B : String → S → State → Prop) (A : Nat → Prop) : String → State → State → Prop := fun E st t => ∃ u : S, px u ∧ B E u t ∧ va_F A st t
section Runs
variable {p : Program} {l : Launch} {e : Env} {R : Room} {s : State} {m : MethodId} {args : Array Value} {below : List Frame} {meth : Method} {c : Code} {H : Heap} {locs : List Loc} {cells slots : Nat}
variable {y : MethodName} {bytes cc : ByteArray} {maxL nL mc ms n index : Nat} {ret : Option FieldType} {ws : List Cond} {rm : Room} {Pc : Array Value → State → Prop} {Qc : Array Value → State → Outcome → State → Prop} {XC : String → State → State → Prop} {free : Addr → Prop} {Ts : List Cond} {own C : String} {b : Addr} {As rest : List Value} {g : JFrame}
theorem vx_callBack (cb : CallB R s args own index y bytes maxL ret ws rm mc ms n) (hM : vx_Met l y ws rm Pc Qc XC mc ms free) (hbl : FrameBlind Pc) : vx_Back l R p e below s args y 3 8 (PreOf R mc ms Pc) (PostOf Qc mc ms free) (vx_Post XC mc ms free) := by
  obtain ⟨hrc, hrs, hfr, hlo, hws, hcw, -, hini, -⟩ := cb
  exact vx_back (bytes := bytes) (maxL := maxL) (ret := ret) hM hbl hrc hrs hfr hlo hws hcw (fun a' U hW => word_at hW (Or.inl (by first | rfl | simp [Cond.onTables, Cond.keeps, Cond.steady])) hini)
theorem vx_runV (S : CallFix p m c cc nL s args Ts own) (hM : vx_Met l y ws rm Pc Qc XC mc ms free) (cw : CallW R s args own C index y bytes maxL ret ws rm mc ms n) (hp : PreV s H C b Pc As)
    (hg : g.method = m) (hn : As.length = n) (hsize : g.locals.size = nL) (hstack : g.stack = As.reverse ++ .ref b :: rest) (hW : 2 * g.monitorRoom + (rest.map fun v => v.category).sum ≤ 8) (hdg : decode cc g.pc = .ok (.invokevirtual index, 3)) (hf : cells + mc ≤ R.cells ∧ slots + ms ≤ R.slots) :
    vx_Run p l e R s m args below meth c H locs cells slots mc ms g rest (Qc (Value.ref b :: As).toArray) XC free := by
  have hK : vx_Back l R p e below s args y 3 8 (PreOf R mc ms Pc) (PostOf Qc mc ms free) (vx_Post XC mc ms free) := vx_callBack cw.1 hM hp.1
  obtain ⟨⟨-, -, -, -, -, -, hcode, -, hy, hlen, hl⟩, hin, hse⟩ := cw
  obtain ⟨hx, hb, hml, ho, -⟩ := S
  obtain ⟨-, ⟨cellB, hcB, hoB, hclB⟩, hPc⟩ := hp
  intro T hT X
  rcases vx_callV X hx (C := C) (bytes := bytes) (maxL := maxL) (ret := ret) ho hl hin hse hcode hy hK (by rw [hT]; exact hcB) hoB hclB hg (hsize.trans hml.symm) (argsL := As) (rest := rest) (fun sig h => hn.trans (hlen sig h)) hstack hW (by rw [hb]; exact hdg)
    (fun vm₁ hW₁ => ⟨hf.1, hf.2, hPc (T.setVm vm₁) hT hW₁⟩) with ⟨v, vm₁, ⟨U', l2, c2, s2⟩, hW₁, X', ⟨g', mk, t, L, e1, e2, hq, h1, hL, h2, h3⟩, st⟩ | ⟨q, vm₁, ⟨U', l2, c2, s2⟩, hW₁, X', ⟨g', mk, t, L, E, ce, e1, e2, hq, hce, hcv, hcl, h1, hL, h2, h3⟩, st⟩
  · dsimp only [Pt.U, Pt.locs, Pt.cells, Pt.slots] at X' e1 e2 h1 h2 h3 st
    subst h1; subst h2; subst h3
    exact Or.inl ⟨v, (T.setVm vm₁).calling g' mk (Value.ref b :: As).toArray, t, U', L, hT, X', hL, e1, e2, hq, st⟩
  · dsimp only [Pt.U, Pt.locs, Pt.cells, Pt.slots] at X' e1 e2 h1 h2 h3 st hcl
    subst h1; subst h2; subst h3
    exact Or.inr ⟨q, (T.setVm vm₁).calling g' mk (Value.ref b :: As).toArray, t, U', L, E, ce, hT, X', hL, e1, e2, hq, hce, hcv, vx_cls hW₁ hcl, st⟩
theorem vx_runS (S : CallFix p m c cc nL s args Ts own) (hM : vx_Met l y ws rm Pc Qc XC mc ms free) (cw : CallB R s args own index y bytes maxL ret ws rm mc ms n ∧ (Cond.static y).before args s = true) (hp : PreS s H Pc As)
    (hg : g.method = m) (hn : As.length = n) (hsize : g.locals.size = nL) (hstack : g.stack = As.reverse ++ rest) (hW : 2 * g.monitorRoom + (rest.map fun v => v.category).sum ≤ 8) (hdg : decode cc g.pc = .ok (.invokestatic index, 3)) (hf : cells + mc ≤ R.cells ∧ slots + ms ≤ R.slots) :
    vx_Run p l e R s m args below meth c H locs cells slots mc ms g rest (Qc As.toArray) XC free := by
  have hK : vx_Back l R p e below s args y 3 8 (PreOf R mc ms Pc) (PostOf Qc mc ms free) (vx_Post XC mc ms free) := vx_callBack cw.1 hM hp.1
  obtain ⟨⟨-, -, -, -, -, -, hcode, hini, hy, hlen, hl⟩, hstt⟩ := cw
  obtain ⟨hx, hb, hml, ho, -⟩ := S
  intro T hT X
  rcases vx_callS X hx (bytes := bytes) (maxL := maxL) (ret := ret) ho hl hstt hini hcode hy hK hg (hsize.trans hml.symm) (argsL := As) (rest := rest) (fun sig h => hn.trans (hlen sig h)) hstack hW (by rw [hb]; exact hdg)
    (fun vm₁ hW₁ => ⟨hf.1, hf.2, hp.2 (T.setVm vm₁) hT hW₁⟩) with ⟨v, vm₁, ⟨U', l2, c2, s2⟩, hW₁, X', ⟨g', mk, t, L, e1, e2, hq, h1, hL, h2, h3⟩, st⟩ | ⟨q, vm₁, ⟨U', l2, c2, s2⟩, hW₁, X', ⟨g', mk, t, L, E, ce, e1, e2, hq, hce, hcv, hcl, h1, hL, h2, h3⟩, st⟩
  · dsimp only [Pt.U, Pt.locs, Pt.cells, Pt.slots] at X' e1 e2 h1 h2 h3 st
    subst h1; subst h2; subst h3
    exact Or.inl ⟨v, (T.setVm vm₁).calling g' mk As.toArray, t, U', L, hT, X', hL, e1, e2, hq, st⟩
  · dsimp only [Pt.U, Pt.locs, Pt.cells, Pt.slots] at X' e1 e2 h1 h2 h3 st hcl
    subst h1; subst h2; subst h3
    exact Or.inr ⟨q, (T.setVm vm₁).calling g' mk As.toArray, t, U', L, E, ce, hT, X', hL, e1, e2, hq, hce, hcv, vx_cls hW₁ hcl, st⟩
end Runs
section Rows
variable {p : Program} {l : Launch} {e : Env} {R : Room} {s : State} {m : MethodId} {args : Array Value} {below : List Frame} {meth : Method} {c : Code} {H : Heap} {locs : List Loc} {cells slots : Nat} {Q : State → Prop}
variable {mc ms : Nat} {free : Addr → Prop} {A0 A1 : Nat → Prop} {H0 : Heap} {a : Array Value} {pc : Nat} {ls : Array Slot} {st0 rest : List Value}
theorem vx_keep {st₀ t T' : State} {L : List Loc} (h0 : st₀.heap = H) (e1 : T'.heap = t.heap) (hS : va_S A0 H0 H locs) (hA : ∀ q, q < H.size → A1 q → A0 q) (hf : ∀ q, free q → A0 q) (hL : ∀ q ∈ L, free q.base) (hF : va_F A1 st₀ t) :
    H.size ≤ T'.heap.size ∧ (∀ q : Nat, q < H.size → ¬ A1 q → T'.heap[q]? = H[q]?) ∧ va_S A0 H0 T'.heap (locs ++ L) := by
  obtain ⟨hz, hk⟩ := hF
  rw [h0] at hz hk
  exact ⟨by rw [e1]; exact hz, fun q h1 h2 => by rw [e1]; exact hk q h1 h2,
    ⟨Nat.le_trans hS.1 (by rw [e1]; exact hz), fun q h1 h2 => by rw [e1, hk q (Nat.lt_of_lt_of_le h1 hS.1) (fun z => h2 (hA q (Nat.lt_of_lt_of_le h1 hS.1) z))]; exact hS.2.1 q h1 h2, fun q hq => by
      rcases List.mem_append.mp hq with h | h
      · exact hS.2.2 q h
      · exact hf _ (hL q h)⟩⟩
theorem vx_calli {S SX : Type} {post : Int32 → S → Prop} {px : SX → Prop} {B : S → State → Prop} {BX : String → SX → State → Prop} {AX : Nat → Prop} (hr : vx_Run p l e R s m args below meth c H locs cells slots mc ms (F0 m pc ls st0) rest (va_Qi post B A1 a) (vx_X px BX AX) free) (hS : va_S A0 H0 H locs) (hA : ∀ q, q < H.size → A1 q → A0 q) (hf : ∀ q, free q → A0 q) (hAX : ∀ q, q < H.size → AX q → A0 q)
    (kx : ∀ (E : String) (ce : Cell) (q9 : Addr) (u : SX) (t : State) (H1 : Heap) (locs1 : List Loc), t.heap = H1 → s.vm.Alike t.vm → px u → BX E u t → H.size ≤ H1.size → (∀ q : Nat, q < H.size → ¬ AX q → H1[q]? = H[q]?) → va_S A0 H0 H1 locs1 → H1[q9]? = some ce → ce.vm = .none → s.vm.findClass E = some ce.cls → vx_W p l e R s m args below meth c H1 locs1 (cells + mc) (slots + ms) Q (F0 m pc ls rest) q9)
    (kk : ∀ (r : Int32) (u : S) (t : State) (H1 : Heap) (locs1 : List Loc), t.heap = H1 → s.vm.Alike t.vm → post r u → B u t → H.size ≤ H1.size → (∀ q : Nat, q < H.size → ¬ A1 q → H1[q]? = H[q]?) → va_S A0 H0 H1 locs1 → W p l e R s m args below meth c H1 locs1 (cells + mc) (slots + ms) Q (F0 m (pc + 3) ls (.int r :: rest))) : W p l e R s m args below meth c H locs cells slots Q (F0 m pc ls st0) := by
  intro T hT X
  rcases hr T hT X with ⟨v, st₀, t, T', L, h0, X', hL, e1, e2, ⟨⟨r, u, hv, hp, hb⟩, hF⟩, st⟩ | ⟨q, st₀, t, T', L, E, ce, h0, X', hL, e1, e2, ⟨u, hp, hb, hF⟩, hce, hcv, hcl, st⟩
  · cases hv
    obtain ⟨k1, k2, k3⟩ := vx_keep h0 e1 hS hA hf hL hF
    obtain ⟨t2, a1, b1⟩ := kk r u t T'.heap (locs ++ L) e1.symm (by rw [← e2]; exact X'.warmed.alike) hp hb k1 k2 k3 T' rfl X'
    exact ⟨t2, st t2 a1, b1⟩
  · obtain ⟨k1, k2, k3⟩ := vx_keep h0 e1 hS hAX hf hL hF
    obtain ⟨t2, a1, b1⟩ := kx E ce q u t T'.heap (locs ++ L) e1.symm (by rw [← e2]; exact X'.warmed.alike) hp hb k1 k2 k3 (by rw [e1]; exact hce) hcv hcl T' rfl X'
    exact ⟨t2, st.trans a1, b1⟩
theorem vx_calll {S SX : Type} {post : Int64 → S → Prop} {px : SX → Prop} {B : S → State → Prop} {BX : String → SX → State → Prop} {AX : Nat → Prop} (hr : vx_Run p l e R s m args below meth c H locs cells slots mc ms (F0 m pc ls st0) rest (va_Ql post B A1 a) (vx_X px BX AX) free) (hS : va_S A0 H0 H locs) (hA : ∀ q, q < H.size → A1 q → A0 q) (hf : ∀ q, free q → A0 q) (hAX : ∀ q, q < H.size → AX q → A0 q)
    (kx : ∀ (E : String) (ce : Cell) (q9 : Addr) (u : SX) (t : State) (H1 : Heap) (locs1 : List Loc), t.heap = H1 → s.vm.Alike t.vm → px u → BX E u t → H.size ≤ H1.size → (∀ q : Nat, q < H.size → ¬ AX q → H1[q]? = H[q]?) → va_S A0 H0 H1 locs1 → H1[q9]? = some ce → ce.vm = .none → s.vm.findClass E = some ce.cls → vx_W p l e R s m args below meth c H1 locs1 (cells + mc) (slots + ms) Q (F0 m pc ls rest) q9)
    (kk : ∀ (r : Int64) (u : S) (t : State) (H1 : Heap) (locs1 : List Loc), t.heap = H1 → s.vm.Alike t.vm → post r u → B u t → H.size ≤ H1.size → (∀ q : Nat, q < H.size → ¬ A1 q → H1[q]? = H[q]?) → va_S A0 H0 H1 locs1 → W p l e R s m args below meth c H1 locs1 (cells + mc) (slots + ms) Q (F0 m (pc + 3) ls (.long r :: rest))) : W p l e R s m args below meth c H locs cells slots Q (F0 m pc ls st0) := by
  intro T hT X
  rcases hr T hT X with ⟨v, st₀, t, T', L, h0, X', hL, e1, e2, ⟨⟨r, u, hv, hp, hb⟩, hF⟩, st⟩ | ⟨q, st₀, t, T', L, E, ce, h0, X', hL, e1, e2, ⟨u, hp, hb, hF⟩, hce, hcv, hcl, st⟩
  · cases hv
    obtain ⟨k1, k2, k3⟩ := vx_keep h0 e1 hS hA hf hL hF
    obtain ⟨t2, a1, b1⟩ := kk r u t T'.heap (locs ++ L) e1.symm (by rw [← e2]; exact X'.warmed.alike) hp hb k1 k2 k3 T' rfl X'
    exact ⟨t2, st t2 a1, b1⟩
  · obtain ⟨k1, k2, k3⟩ := vx_keep h0 e1 hS hAX hf hL hF
    obtain ⟨t2, a1, b1⟩ := kx E ce q u t T'.heap (locs ++ L) e1.symm (by rw [← e2]; exact X'.warmed.alike) hp hb k1 k2 k3 (by rw [e1]; exact hce) hcv hcl T' rfl X'
    exact ⟨t2, st.trans a1, b1⟩
theorem vx_callf {S SX : Type} {post : UInt32 → S → Prop} {px : SX → Prop} {B : S → State → Prop} {BX : String → SX → State → Prop} {AX : Nat → Prop} (hr : vx_Run p l e R s m args below meth c H locs cells slots mc ms (F0 m pc ls st0) rest (va_Qf post B A1 a) (vx_X px BX AX) free) (hS : va_S A0 H0 H locs) (hA : ∀ q, q < H.size → A1 q → A0 q) (hf : ∀ q, free q → A0 q) (hAX : ∀ q, q < H.size → AX q → A0 q)
    (kx : ∀ (E : String) (ce : Cell) (q9 : Addr) (u : SX) (t : State) (H1 : Heap) (locs1 : List Loc), t.heap = H1 → s.vm.Alike t.vm → px u → BX E u t → H.size ≤ H1.size → (∀ q : Nat, q < H.size → ¬ AX q → H1[q]? = H[q]?) → va_S A0 H0 H1 locs1 → H1[q9]? = some ce → ce.vm = .none → s.vm.findClass E = some ce.cls → vx_W p l e R s m args below meth c H1 locs1 (cells + mc) (slots + ms) Q (F0 m pc ls rest) q9)
    (kk : ∀ (r : UInt32) (u : S) (t : State) (H1 : Heap) (locs1 : List Loc), t.heap = H1 → s.vm.Alike t.vm → post r u → B u t → H.size ≤ H1.size → (∀ q : Nat, q < H.size → ¬ A1 q → H1[q]? = H[q]?) → va_S A0 H0 H1 locs1 → W p l e R s m args below meth c H1 locs1 (cells + mc) (slots + ms) Q (F0 m (pc + 3) ls (.float r :: rest))) : W p l e R s m args below meth c H locs cells slots Q (F0 m pc ls st0) := by
  intro T hT X
  rcases hr T hT X with ⟨v, st₀, t, T', L, h0, X', hL, e1, e2, ⟨⟨r, u, hv, hp, hb⟩, hF⟩, st⟩ | ⟨q, st₀, t, T', L, E, ce, h0, X', hL, e1, e2, ⟨u, hp, hb, hF⟩, hce, hcv, hcl, st⟩
  · cases hv
    obtain ⟨k1, k2, k3⟩ := vx_keep h0 e1 hS hA hf hL hF
    obtain ⟨t2, a1, b1⟩ := kk r u t T'.heap (locs ++ L) e1.symm (by rw [← e2]; exact X'.warmed.alike) hp hb k1 k2 k3 T' rfl X'
    exact ⟨t2, st t2 a1, b1⟩
  · obtain ⟨k1, k2, k3⟩ := vx_keep h0 e1 hS hAX hf hL hF
    obtain ⟨t2, a1, b1⟩ := kx E ce q u t T'.heap (locs ++ L) e1.symm (by rw [← e2]; exact X'.warmed.alike) hp hb k1 k2 k3 (by rw [e1]; exact hce) hcv hcl T' rfl X'
    exact ⟨t2, st.trans a1, b1⟩
theorem vx_calld {S SX : Type} {post : UInt64 → S → Prop} {px : SX → Prop} {B : S → State → Prop} {BX : String → SX → State → Prop} {AX : Nat → Prop} (hr : vx_Run p l e R s m args below meth c H locs cells slots mc ms (F0 m pc ls st0) rest (va_Qd post B A1 a) (vx_X px BX AX) free) (hS : va_S A0 H0 H locs) (hA : ∀ q, q < H.size → A1 q → A0 q) (hf : ∀ q, free q → A0 q) (hAX : ∀ q, q < H.size → AX q → A0 q)
    (kx : ∀ (E : String) (ce : Cell) (q9 : Addr) (u : SX) (t : State) (H1 : Heap) (locs1 : List Loc), t.heap = H1 → s.vm.Alike t.vm → px u → BX E u t → H.size ≤ H1.size → (∀ q : Nat, q < H.size → ¬ AX q → H1[q]? = H[q]?) → va_S A0 H0 H1 locs1 → H1[q9]? = some ce → ce.vm = .none → s.vm.findClass E = some ce.cls → vx_W p l e R s m args below meth c H1 locs1 (cells + mc) (slots + ms) Q (F0 m pc ls rest) q9)
    (kk : ∀ (r : UInt64) (u : S) (t : State) (H1 : Heap) (locs1 : List Loc), t.heap = H1 → s.vm.Alike t.vm → post r u → B u t → H.size ≤ H1.size → (∀ q : Nat, q < H.size → ¬ A1 q → H1[q]? = H[q]?) → va_S A0 H0 H1 locs1 → W p l e R s m args below meth c H1 locs1 (cells + mc) (slots + ms) Q (F0 m (pc + 3) ls (.double r :: rest))) : W p l e R s m args below meth c H locs cells slots Q (F0 m pc ls st0) := by
  intro T hT X
  rcases hr T hT X with ⟨v, st₀, t, T', L, h0, X', hL, e1, e2, ⟨⟨r, u, hv, hp, hb⟩, hF⟩, st⟩ | ⟨q, st₀, t, T', L, E, ce, h0, X', hL, e1, e2, ⟨u, hp, hb, hF⟩, hce, hcv, hcl, st⟩
  · cases hv
    obtain ⟨k1, k2, k3⟩ := vx_keep h0 e1 hS hA hf hL hF
    obtain ⟨t2, a1, b1⟩ := kk r u t T'.heap (locs ++ L) e1.symm (by rw [← e2]; exact X'.warmed.alike) hp hb k1 k2 k3 T' rfl X'
    exact ⟨t2, st t2 a1, b1⟩
  · obtain ⟨k1, k2, k3⟩ := vx_keep h0 e1 hS hAX hf hL hF
    obtain ⟨t2, a1, b1⟩ := kx E ce q u t T'.heap (locs ++ L) e1.symm (by rw [← e2]; exact X'.warmed.alike) hp hb k1 k2 k3 (by rw [e1]; exact hce) hcv hcl T' rfl X'
    exact ⟨t2, st.trans a1, b1⟩
theorem vx_callv {S SX : Type} {post : S → Prop} {px : SX → Prop} {B : S → State → Prop} {BX : String → SX → State → Prop} {AX : Nat → Prop} (hr : vx_Run p l e R s m args below meth c H locs cells slots mc ms (F0 m pc ls st0) rest (va_Qv post B A1 a) (vx_X px BX AX) free) (hS : va_S A0 H0 H locs) (hA : ∀ q, q < H.size → A1 q → A0 q) (hf : ∀ q, free q → A0 q) (hAX : ∀ q, q < H.size → AX q → A0 q)
    (kx : ∀ (E : String) (ce : Cell) (q9 : Addr) (u : SX) (t : State) (H1 : Heap) (locs1 : List Loc), t.heap = H1 → s.vm.Alike t.vm → px u → BX E u t → H.size ≤ H1.size → (∀ q : Nat, q < H.size → ¬ AX q → H1[q]? = H[q]?) → va_S A0 H0 H1 locs1 → H1[q9]? = some ce → ce.vm = .none → s.vm.findClass E = some ce.cls → vx_W p l e R s m args below meth c H1 locs1 (cells + mc) (slots + ms) Q (F0 m pc ls rest) q9)
    (kk : ∀ (u : S) (t : State) (H1 : Heap) (locs1 : List Loc), t.heap = H1 → s.vm.Alike t.vm → post u → B u t → H.size ≤ H1.size → (∀ q : Nat, q < H.size → ¬ A1 q → H1[q]? = H[q]?) → va_S A0 H0 H1 locs1 → W p l e R s m args below meth c H1 locs1 (cells + mc) (slots + ms) Q (F0 m (pc + 3) ls (rest))) : W p l e R s m args below meth c H locs cells slots Q (F0 m pc ls st0) := by
  intro T hT X
  rcases hr T hT X with ⟨v, st₀, t, T', L, h0, X', hL, e1, e2, ⟨⟨u, hv, hp, hb⟩, hF⟩, st⟩ | ⟨q, st₀, t, T', L, E, ce, h0, X', hL, e1, e2, ⟨u, hp, hb, hF⟩, hce, hcv, hcl, st⟩
  · cases hv
    obtain ⟨k1, k2, k3⟩ := vx_keep h0 e1 hS hA hf hL hF
    obtain ⟨t2, a1, b1⟩ := kk u t T'.heap (locs ++ L) e1.symm (by rw [← e2]; exact X'.warmed.alike) hp hb k1 k2 k3 T' rfl X'
    exact ⟨t2, st t2 a1, b1⟩
  · obtain ⟨k1, k2, k3⟩ := vx_keep h0 e1 hS hAX hf hL hF
    obtain ⟨t2, a1, b1⟩ := kx E ce q u t T'.heap (locs ++ L) e1.symm (by rw [← e2]; exact X'.warmed.alike) hp hb k1 k2 k3 (by rw [e1]; exact hce) hcv hcl T' rfl X'
    exact ⟨t2, st.trans a1, b1⟩
/-- caught by the row x of this method's table; the rows ahead don't take it -/
theorem vx_catch {own name : String} {E : String} {ce : Cell} {q : Addr} (hown : s.vm.findClass own = some m.cls) (pre : List ExceptionTableEntry) (x : ExceptionTableEntry) (suf : List ExceptionTableEntry) (hsplit : c.exceptionTable.toList = pre ++ x :: suf)
    (hpass : ∀ z ∈ pre, covers z pc = false ∨ (z.catchType ≠ 0 ∧ ∃ nm : String, (Cond.classLink own z.catchType nm).before args s = true ∧ va_Nc E nm s)) (hx : covers x pc = true) (h0 : x.catchType ≠ 0)
    (hlink : (Cond.classLink own x.catchType name).before args s = true) (hcast : (Cond.castable E name).before args s = true) (hcell : H[q]? = some ce) (hv : ce.vm = .none) (hcl : s.vm.findClass E = some ce.cls)
    (kk : W p l e R s m args below meth c H locs cells slots Q (F0 m x.handlerPc ls [.ref q])) : vx_W p l e R s m args below meth c H locs cells slots Q (F0 m pc ls rest) q := by
  intro T hT X
  have hpl : e.platform.magicAccessors = ({} : Platform).magicAccessors := by rw [X.admits.platform]
  obtain ⟨c3, c4, hc3, hc4, hasg⟩ := Cond.castable_spec hcast
  cases Option.some.inj (hc3.symm.trans hcl)
  obtain ⟨c5, hc5, hcl5⟩ := Cond.classLink_spec hown hlink e.platform hpl
  cases Option.some.inj (hc4.symm.trans hc5)
  obtain ⟨vm', X', st⟩ := X.thenCaughtThrough q (g := F0 m pc ls rest) rfl (Steps.refl _) (by rw [hT]; exact hcell) (by rw [hv]; rfl) (by obtain ⟨k9, h9, -⟩ := Vm.findClass_spec hcl; exact ⟨k9, h9⟩) pre x suf hsplit
    (fun z hz => by
      rcases hpass z hz with h | ⟨hz0, nm, hl1, hn1⟩
      · exact Or.inl h
      · obtain ⟨c6, hc6, hcl6⟩ := Cond.classLink_spec hown hl1 e.platform hpl
        obtain ⟨a8, b8, h1, h2, h3⟩ := hn1
        cases Option.some.inj (h1.symm.trans hcl)
        cases Option.some.inj (h2.symm.trans hc6)
        exact Or.inr ⟨hz0, _, hcl6, h3⟩) hx (Or.inr ⟨h0, c4, hcl5, hasg⟩)
  obtain ⟨t, a1, b1⟩ := kk (T.setVm vm') hT X'
  exact ⟨t, st.trans a1, b1⟩
end Rows
section Ends
variable {p : Program} {l : Launch} {e : Env} {R : Room} {s : State} {m : MethodId} {args : Array Value} {below : List Frame} {meth : Method} {c : Code} {H : Heap} {locs : List Loc} {cells slots : Nat} {Q : State → Prop}
variable {mc ms : Nat} {free : Addr → Prop} {A0 A1 : Nat → Prop} {H0 : Heap} {a : Array Value} {ls : Array Slot} {st0 rest : List Value}
variable {Qc : Array Value → State → Outcome → State → Prop} {XC : String → State → State → Prop}
/-- what a body that may throw owes at its end -/
def vx_MQ (below : List Frame) (Qc : Array Value → State → Outcome → State → Prop) (XC : String → State → State → Prop) (a : Array Value) (s : State) (mc ms : Nat) (free : Addr → Prop) : State → Prop := fun t =>
  ∃ o, t.status = .running ∧ Ended t below o ∧ vx_Q Qc XC mc ms free a s o t
theorem vx_ret {g : JFrame} {mc ms : Nat} (k : W p l e R s m args below meth c H locs cells slots (MQ below Qc args s mc ms free) g) : W p l e R s m args below meth c H locs cells slots (vx_MQ below Qc XC args s mc ms free) g := by
  intro T hT X
  obtain ⟨t, a1, o, b1, b2, b3, b4⟩ := k T hT X
  exact ⟨t, a1, o, b1, b2, Or.inl ⟨b3, b4⟩⟩
/-- not caught here: it goes on to the caller -/
theorem vx_widen {g : JFrame} {q : Addr} {k n : Nat} (h1 : cells ≤ k) (h2 : slots ≤ n) (kk : vx_W p l e R s m args below meth c H locs k n Q g q) : vx_W p l e R s m args below meth c H locs cells slots Q g q := fun T hT X => kk T hT (stand_widen X h1 h2)
theorem vx_out {pc : Nat} {E : String} {ce : Cell} {q : Addr} {mc ms : Nat} (hout : ∀ x ∈ c.exceptionTable.toList, covers x pc = false) (hlocks : meth.locks = false) (hcell : H[q]? = some ce) (hv : ce.vm = .none) (hcl : s.vm.findClass E = some ce.cls)
    (hx : ∀ t : State, t.heap = H → s.vm.Alike t.vm → XC E s t) (hf : ∀ z ∈ locs, free z.base) (hc : cells ≤ mc) (hs : slots ≤ ms) :
    vx_W p l e R s m args below meth c H locs cells slots (vx_MQ below Qc XC args s mc ms free) (F0 m pc ls rest) q := by
  intro T hT X
  obtain ⟨st1, hrun, hend, hW, hsm⟩ := X.leaveThrown q (g := F0 m pc ls rest) rfl rfl rfl hout hlocks
  have hcell9 : (T.setFrames (.throwing q :: below)).heap[q]? = some ce := by
    show T.heap[q]? = some ce
    rw [hT]; exact hcell
  exact ⟨_, st1, .threw q, hrun, hend, Or.inr ⟨q, rfl, E, ce, locs, hx _ hT hW.alike, hcell9, hv, hcl, hW, hsm.mono hc hs, hf⟩⟩
theorem vx_frame {U : State} {k n : Nat} (h : s.sameButNew ({ U with vm := s.vm } : State) locs k n) : s.heap.size ≤ U.heap.size ∧ ∀ q : Nat, q < s.heap.size → (∀ z ∈ locs, z.base ≠ q) → U.heap[q]? = s.heap[q]? := by
  obtain ⟨-, h2, -, -, -, h6⟩ := h
  refine ⟨h2, fun q hq hz => ?_⟩
  obtain ⟨c9, e1, e2, e3, e4⟩ := h6 q _ (Array.getElem?_eq_getElem hq)
  have hs : c9.slots = (s.heap[q]).slots := Array.ext_getElem? fun i => e4 i fun hm => hz _ hm rfl
  have h9 : c9 = s.heap[q] := by
    rw [hs] at e2
    exact e2
  have e5 : U.heap[q]? = some c9 := e1
  rw [e5, h9, Array.getElem?_eq_getElem hq]
/-- the words of a throw but the four that speak of the heap -/
def vx_no (w : Cond) : Bool := decide (w ≠ .isRef (.static Bundle.tN "UNASSIGNED_STACK" Bundle.steD)) && decide (w ≠ .isRef (.static Bundle.tN "SUPPRESSED_SENTINEL" Bundle.listD)) && decide (w ≠ .laysStatic Bundle.tN "UNASSIGNED_STACK" Bundle.steD) && decide (w ≠ .laysStatic Bundle.tN "SUPPRESSED_SENTINEL" Bundle.listD)
def vx_at0 (own : String) (ic : Nat) (X : String) (names : List String) : List Cond := (Bundle.ownAtoms0 own ic X names).filter vx_no
def vx_atS (own : String) (ic : Nat) (X : String) (names : List String) : List Cond := (Bundle.ownAtoms own ic X names).filter vx_no
/-- a word that the tables alone decide, or a good one -/
def vx_ot (w : Cond) : Bool := w.onTables || goodWord w
theorem vx_ot_at {args a' : Array Value} {s U : State} {w : Cond} (hW : s.WarmedH U.vm) (hvm : s.vm = U.vm) (hg : vx_ot w = true) (h : w.before args s = true) : w.before a' U = true := by
  simp only [vx_ot, Bool.or_eq_true] at hg
  rcases hg with hg | hg
  · exact va_tabs hg hvm h
  · exact word_at hW (good_of_word hg) h
/-- a list's words: the good ones out of the method's own list, the others by premises of their own -/
theorem vx_hat {args : Array Value} {s : State} {L B : List Cond} (h1 : ∀ w ∈ L.filter goodWord, w.before args s = true) (h2 : ∀ w ∈ L.filter (fun w => !goodWord w), w ∈ B) (h3 : ∀ w ∈ B, w.before args s = true) : ∀ w ∈ L, w.before args s = true := by
  intro w hw
  by_cases g : goodWord w = true
  · exact h1 w (List.mem_filter.mpr ⟨hw, g⟩)
  · refine h3 w (h2 w (List.mem_filter.mpr ⟨hw, ?_⟩))
    show (!goodWord w) = true
    cases hgw : goodWord w
    · rfl
    · exact absurd hgw g
theorem vx_c {args : Array Value} {s : State} {w : Cond} {B : List Cond} (h : w.before args s = true) (t : ∀ w ∈ B, w.before args s = true) : ∀ w' ∈ w :: B, w'.before args s = true := fun w' h' => (List.mem_cons.mp h').elim (fun e => by rw [e]; exact h) (t w')
theorem vx_n {args : Array Value} {s : State} : ∀ w ∈ ([] : List Cond), w.before args s = true := fun _ h => nomatch h
theorem vx_own {args : Array Value} {s : State} {L : List Cond} (h1 : ∀ w ∈ L.filter vx_no, w.before args s = true)
    (hU : (Cond.isRef (.static Bundle.tN "UNASSIGNED_STACK" Bundle.steD)).before args s = true) (hN : (Cond.isRef (.static Bundle.tN "SUPPRESSED_SENTINEL" Bundle.listD)).before args s = true)
    (lU : (Cond.laysStatic Bundle.tN "UNASSIGNED_STACK" Bundle.steD).before args s = true) (lN : (Cond.laysStatic Bundle.tN "SUPPRESSED_SENTINEL" Bundle.listD).before args s = true) : ∀ w ∈ L, w.before args s = true := by
  intro w hw
  by_cases e1 : w = .isRef (.static Bundle.tN "UNASSIGNED_STACK" Bundle.steD)
  · rw [e1]; exact hU
  · by_cases e2 : w = .isRef (.static Bundle.tN "SUPPRESSED_SENTINEL" Bundle.listD)
    · rw [e2]; exact hN
    · by_cases e3 : w = .laysStatic Bundle.tN "UNASSIGNED_STACK" Bundle.steD
      · rw [e3]; exact lU
      · by_cases e4 : w = .laysStatic Bundle.tN "SUPPRESSED_SENTINEL" Bundle.listD
        · rw [e4]; exact lN
        · exact h1 w (List.mem_filter.mpr ⟨hw, by unfold vx_no; rw [decide_eq_true e1, decide_eq_true e2, decide_eq_true e3, decide_eq_true e4]; rfl⟩)
/-- where a static field lies, its class's statics cell in H -/
def vx_L (C n d : String) (A : Nat → Prop) (U : State) (H : Heap) : Prop := ∃ (c : ClassId) (k : Class) (i : Nat) (f : Field) (a : Nat) (cell : Cell), U.vm.findClass C = some c ∧ U.fieldFound? C n d = some (c, k, i, f) ∧ f.isStatic = true ∧ k.statics = some a ∧ H[a]? = some cell ∧ cell.vm.isStatics = true ∧ cell.cls = c ∧ f.slot < cell.slots.size ∧ k.staticTypes[f.slot]? = some f.type ∧ ¬ A a
theorem vx_L.moved {C n d : String} {A : Nat → Prop} {u U : State} {H : Heap} (hvm : u.vm.Alike U.vm) (h : vx_L C n d A u H) : vx_L C n d A U H := by
  obtain ⟨c, k, i, f, a, cell, h1, h2, h3, h4, h5, h6, h7, h8, h9, h10⟩ := h
  obtain ⟨k', hi', he⟩ := State.fieldFound?_setVm hvm h2
  exact ⟨c, k', i, f, a, cell, by rw [hvm.findClass]; exact h1, hi', h3, by rw [he]; exact h4, h5, h6, h7, h8, by rw [he]; exact h9, h10⟩
theorem vx_L.kept {C n d : String} {A : Nat → Prop} {U : State} {H H1 : Heap} (h : vx_L C n d A U H) (hq : ∀ a : Nat, a < H.size → ¬ A a → H1[a]? = H[a]?) : vx_L C n d A U H1 := by
  obtain ⟨c, k, i, f, a, cell, h1, h2, h3, h4, h5, h6, h7, h8, h9, h10⟩ := h
  exact ⟨c, k, i, f, a, cell, h1, h2, h3, h4, by rw [hq a (Array.getElem?_eq_some_iff.mp h5).1 h10]; exact h5, h6, h7, h8, h9, h10⟩
theorem vx_L.narrow {C n d : String} {A B : Nat → Prop} {U : State} {H : Heap} (h : vx_L C n d A U H) (hAB : ∀ q, B q → A q) : vx_L C n d B U H := by
  obtain ⟨c, k, i, f, a, cell, h1, h2, h3, h4, h5, h6, h7, h8, h9, h10⟩ := h
  exact ⟨c, k, i, f, a, cell, h1, h2, h3, h4, h5, h6, h7, h8, h9, fun z => h10 (hAB _ z)⟩
theorem vx_L.word {C n d : String} {A : Nat → Prop} {s : State} {args : Array Value} (h : vx_L C n d A s s.heap) : (Cond.laysStatic C n d).before args s = true := by
  obtain ⟨c, k, i, f, a, cell, h1, h2, h3, h4, h5, h6, h7, h8, h9, -⟩ := h
  show (Cond.laysStatic C n d).holds args s none s [] = true
  exact Cond.laysStatic_of h1 h2 h3 h4 h5 h6 h7 h8 h9
/-- .. and what it holds: null or some reference -/
def vx_Zq (C n d : String) (A : Nat → Prop) (U : State) (H : Heap) : Prop := va_Zq C n d A U H ∧ vx_L C n d A U H
theorem vx_Zq.moved {C n d : String} {A : Nat → Prop} {u U : State} {H : Heap} (hvm : u.vm.Alike U.vm) (h : vx_Zq C n d A u H) : vx_Zq C n d A U H := ⟨va_Zq.moved hvm h.1, vx_L.moved hvm h.2⟩
theorem vx_Zq.kept {C n d : String} {A : Nat → Prop} {U : State} {H H1 : Heap} (h : vx_Zq C n d A U H) (hq : ∀ a : Nat, a < H.size → ¬ A a → H1[a]? = H[a]?) : vx_Zq C n d A U H1 := ⟨va_Zq.kept h.1 hq, vx_L.kept h.2 hq⟩
theorem vx_Zq.narrow {C n d : String} {A B : Nat → Prop} {U : State} {H : Heap} (h : vx_Zq C n d A U H) (hAB : ∀ q, B q → A q) : vx_Zq C n d B U H := ⟨va_Zq.narrow h.1 hAB, vx_L.narrow h.2 hAB⟩
theorem vx_Zqof {args : Array Value} {s : State} {C n d : String} {A : Nat → Prop} (hl : (Cond.laysStatic C n d).before args s = true) (hini : (Cond.initialized C).before args s = true) (h : (Cond.isRef (.static C n d)).before args s = true) (hA : ∀ a : Nat, a < s.heap.size → ¬ A a) : vx_Zq C n d A s s.heap := by
  refine ⟨va_Zqof hl hini h hA, ?_⟩
  obtain ⟨c, k, i, f, a, cell, h1, h2, h3, h4, h5, h6, h7, h8, h9⟩ := Cond.laysStatic_spec hl
  exact ⟨c, k, i, f, a, cell, h1, h2, h3, h4, h5, h6, h7, h8, h9, hA a (Array.getElem?_eq_some_iff.mp h5).1⟩
theorem vx_isRef {C n d : String} {v : Value} {A : Nat → Prop} {s : State} {args : Array Value} (h : va_Z C n d v A s s.heap) (hv : v.isRef = true) : (Cond.isRef (.static C n d)).before args s = true := by
  obtain ⟨cf, kf, fi, f, a, cell, h1, h2, h3, h4, h5, h6, h7, -⟩ := h
  have he : (Term.static C n d).eval args s none [] s = some v := by
    simp [Term.eval, State.fieldNamed?, h1, h2, h4, h5, h6, h7]
  simp only [Cond.before, Cond.holds, Cond.value, he]
  cases v <;> simp_all [Value.isRef]
theorem vx_isRefq {C n d : String} {A : Nat → Prop} {s : State} {args : Array Value} (h : va_Zq C n d A s s.heap) : (Cond.isRef (.static C n d)).before args s = true := by
  rcases h with h | ⟨t, h⟩
  · exact vx_isRef h rfl
  · exact vx_isRef h rfl
/-- the same frame, seen from here: as if the method were called anew in this heap -/
theorem vx_rebase {T : State} (X : Stand p l e R s m args below meth c T locs cells slots) {R' : Room} (hf : R'.frames ≤ R.frames) (hl : R'.locals ≤ R.locals) (hc : cells + R'.cells ≤ R.cells) (hs : slots + R'.slots ≤ R.slots) :
    Stand p l e R' ((T.setVm s.vm).setFrames (.invoking m args :: below)) m args below meth c T [] 0 0 := by
  have htop : (T.setVm s.vm).topJava?.isSome := X.here.top
  have hF : ((T.setVm s.vm).setFrames (.invoking m args :: below)).frames = .invoking m args :: below := State.frames_setFrames _ (State.cur_lt_of_top htop)
  obtain ⟨g₀, hg0⟩ := Option.isSome_iff_exists.mp htop
  obtain ⟨r, hr⟩ := State.topJava?_eq_some.mp hg0
  have hl9 : e.platform.stackLimits (T.setVm s.vm).me = e.platform.stackLimits s.me := X.limits
  have hb9 : (T.setVm s.vm).me.stackBytes = s.me.stackBytes := X.bytes
  refine ⟨X.admits, X.cas, X.clock, hF, ?_, X.hears, X.method, X.code, X.here, X.tail, X.warmed, ?_, ?_, ?_⟩
  · have h := X.room
    have hU : ((T.setVm s.vm).setFrames (.invoking m args :: below)).localsInUse = s.localsInUse := by
      rw [State.localsInUse_invoking hF (meth := meth) (c := c) X.method X.code, State.localsInUse_invoking X.frames X.method X.code]
    simp only [State.hasRoom, Bool.and_eq_true, decide_eq_true_eq] at h ⊢
    obtain ⟨⟨⟨⟨h1, h2, h3, h4, h5, h6⟩, h7⟩, h8⟩, h9⟩ := h
    rw [X.frames, List.length_cons] at h2 h3
    have q1 := X.heapSize
    have q2 := X.used
    simp only [hF, hU, List.length_cons, State.stackLimits_setFrames, State.stackBytes_setFrames, hl9, hb9]
    refine ⟨⟨⟨⟨by omega, by omega, by omega, by omega, by omega, h6⟩, ?_⟩, ?_⟩, X.book⟩
    · show T.heap.size + R'.cells ≤ e.platform.maxCells
      omega
    · show T.slotsUsed + R'.slots ≤ e.platform.maxSlots
      omega
  · rw [State.stackLimits_setFrames]; rfl
  · rw [State.stackBytes_setFrames]; rfl
  · refine ⟨?_, Nat.le_refl _, Nat.le_refl _, ?_, ?_, fun a c9 h9 => ⟨c9, h9, rfl, rfl, fun _ _ => rfl⟩⟩
    · obtain ⟨t, ht, -⟩ := State.frames_cons hr
      show T.setVm s.vm = { ((T.setVm s.vm).setFrames (.invoking m args :: below)).setFrames (T.setVm s.vm).frames with heap := T.heap, slotsUsed := T.slotsUsed }
      rw [State.setFrames_setFrames, State.setFrames_self ht]
      rfl
    · show T.slotsUsed = T.slotsUsed + ((T.heap.toList.drop T.heap.size).map (·.slots.size)).sum
      rw [List.drop_eq_nil_of_le (Nat.le_of_eq Array.length_toList)]
      rfl
    · show ((T.heap.toList.drop T.heap.size).map (·.slots.size)).sum ≤ 0
      rw [List.drop_eq_nil_of_le (Nat.le_of_eq Array.length_toList)]
      exact Nat.le_refl _
/-- 'throw new E()': new; dup; invokespecial; athrow -/
theorem vx_throw0 {cc : ByteArray} {pc : Nat} (hexec : p.tables.exec = Jvm.exec) (hb : c.code = cc) (hl : l.stackTraces = false) {own cls : String} {names : List String} {ik ic mc ms : Nat} {A : Nat → Prop}
    (hown : s.vm.findClass own = some m.cls) (hcls : Bundle.fit cls = true) (hnames : ∀ n ∈ names, Bundle.fit n = true)
    (hk : (Cond.classLink own ik cls).before args s = true) (hini : (Cond.initialized cls).before args s = true) (hat : ∀ w ∈ vx_at0 own ic cls names, w.before args s = true)
    (hgood : ∀ w ∈ Cond.classLink own ik cls :: Cond.initialized cls :: vx_at0 own ic cls names, vx_ot w = true)
    (hU : vx_Zq Bundle.tN "UNASSIGNED_STACK" Bundle.steD A s s.heap) (hN : vx_Zq Bundle.tN "SUPPRESSED_SENTINEL" Bundle.listD A s s.heap) (hS : va_S A s.heap H locs) (hsize : ls.size = c.maxLocals)
    (d0 : decode cc pc = .ok (.new ik, 3)) (d3 : decode cc (pc + 3) = .ok (.dup, 1)) (d4 : decode cc (pc + 4) = .ok (.invokespecial ic, 3)) (d7 : decode cc (pc + 7) = .ok (.athrow, 1))
    (hout : ∀ x ∈ c.exceptionTable.toList, covers x (pc + 7) = false)
    (hRframes : names.length + 3 < R.frames) (hRlocals : (rest.map fun v => v.category).sum + (13 * (names.length + 1) + 42) ≤ R.locals) (hRcells : cells + 1 ≤ R.cells) (hRslots : slots + 6 ≤ R.slots) (hlocks : meth.locks = false)
    (hx : ∀ t : State, s.vm.Alike t.vm → H.size ≤ t.heap.size → (∀ q : Nat, q < H.size → t.heap[q]? = H[q]?) → XC cls s t)
    (hf : ∀ z ∈ locs, free z.base) (hc : cells + 1 ≤ mc) (hs : slots + 6 ≤ ms) :
    W p l e R s m args below meth c H locs cells slots (vx_MQ below Qc XC args s mc ms free) (F0 m pc ls rest) := by
  intro T hT X
  have htr : e.platform.stackTraces = false := (show e.platform.stackTraces = l.stackTraces by rw [X.admits.platform]).trans hl
  have Y := vx_rebase X (R' := { frames := R.frames, locals := R.locals, cells := 1, slots := 6 }) (Nat.le_refl _) (Nat.le_refl _) hRcells hRslots
  obtain ⟨s', hA⟩ : ∃ z, z = (T.setVm s.vm).setFrames (.invoking m args :: below) := ⟨_, rfl⟩
  rw [← hA] at Y
  have hvm : s'.vm = s.vm := by rw [hA]; rfl
  have hhp : s'.heap = H := by rw [hA]; exact hT
  have hW0 : s.WarmedH s'.vm := by rw [hvm]; exact State.WarmedH.refl s
  have hat' : ∀ w ∈ vx_at0 own ic cls names, w.before args s' = true := fun w hw => vx_ot_at hW0 hvm.symm (hgood w (List.mem_cons_of_mem _ (List.mem_cons_of_mem _ hw))) (hat w hw)
  have hk' : (Cond.classLink own ik cls).before args s' = true := vx_ot_at hW0 hvm.symm (hgood _ List.mem_cons_self) hk
  have hini' : (Cond.initialized cls).before args s' = true := vx_ot_at hW0 hvm.symm (hgood _ (List.mem_cons_of_mem _ List.mem_cons_self)) hini
  have hU' : vx_Zq Bundle.tN "UNASSIGNED_STACK" Bundle.steD A s' s'.heap := by rw [hhp]; exact vx_Zq.moved hW0.alike (hU.kept hS.2.1)
  have hN' : vx_Zq Bundle.tN "SUPPRESSED_SENTINEL" Bundle.listD A s' s'.heap := by rw [hhp]; exact vx_Zq.moved hW0.alike (hN.kept hS.2.1)
  have h : ∀ w ∈ Bundle.ownAtoms0 own ic cls names, w.before args s' = true := vx_own hat' (vx_isRefq hU'.1) (vx_isRefq hN'.1) hU'.2.word hN'.2.word
  have hown' : s'.vm.findClass own = some m.cls := by rw [hvm]; exact hown
  have hins : (Cond.instantiable cls 6).before args s' = true := h _ (by simp [Bundle.ownAtoms0])
  obtain ⟨vm₁, cX, kX, hfX, hkX, -, -, X₁, st1⟩ := Y.newCold hexec (own := own) (C := cls) (index := ik) (n := 6) hown' hk' hins hini'
    (g := F0 m pc ls rest) rfl (by rw [hb]; exact d0) (Nat.le_refl _) (Nat.le_refl _)
  generalize hT1 : (T.setVm vm₁).pushCell { cls := cX, slots := kX.instanceTypes.map defaultValue, vm := .none } = T1 at X₁ st1
  have hcat : (Value.ref T.heap.size).category = 1 := rfl
  have hcellA : T1.heap[T.heap.size]? = some (freshCell cX kX) := by rw [← hT1]; exact State.heap_pushCell_size _ _
  have d3' : decode c.code (pc + 3) = .ok (.dup, 1) := by rw [hb]; exact d3
  obtain ⟨U, hsteps, hrun, hend, hW, hsame, ce, hce, hO⟩ := X₁.ctorThrow0 hexec htr (own := own) (cls := cls) (names := names) (ic := ic) hown' hcls hnames h (fun x hx => nomatch hx) hfX hkX hcellA (by rw [hhp, hT]; exact Nat.le_refl _)
    (g := { method := m, pc := pc + 4, locals := ls, stack := .ref T.heap.size :: .ref T.heap.size :: rest, locked := none }) rfl hsize rfl rfl (rest := rest) rfl
    (by rw [hb]; exact d4) (by rw [hb]; exact d7) hout hRframes (by simp only [List.map_cons, List.sum_cons, hcat]; omega) hlocks
  obtain ⟨f1, f2⟩ := vx_frame hsame
  rw [hhp] at f1 f2
  have hWs : s.WarmedH U.vm := State.WarmedH.trans hW0 hW
  have hcl : s.vm.findClass cls = some ce.cls := by
    have h9 := hO.cls
    rw [hvm] at h9
    exact h9
  have hall : s.sameButNew ({ U with vm := s.vm } : State) locs mc ms := by
    subst hA
    obtain ⟨e1, e2⟩ := hsame
    rw [State.setFrames_setFrames] at e1
    have h2 : (T.setVm s.vm).sameButNew ({ U with vm := s.vm } : State) [] (0 + 1) (0 + 6) := ⟨e1, e2⟩
    have h3 := X.same.trans h2
    rw [List.append_nil] at h3
    exact h3.mono hc hs
  refine ⟨U, ?_, .threw T.heap.size, hrun, hend, Or.inr ⟨T.heap.size, rfl, cls, ce, locs, hx U hWs.alike f1 (fun q hq => f2 q hq (fun z hz => nomatch hz)), hce, hO.vm, hcl, hWs, hall, hf⟩⟩
  refine st1 _ ?_
  show Steps p.tables e below (T1.setTop { method := m, pc := pc + 3, locals := ls, stack := .ref T.heap.size :: rest, locked := none }) _
  jvm_step X₁.here [X₁.here.top, hexec, d3', Value.category]
  exact hsteps
/-- 'throw new E("text")': new; dup; ldc; invokespecial; athrow -/
theorem vx_throwS {cc : ByteArray} {pc : Nat} (hexec : p.tables.exec = Jvm.exec) (hb : c.code = cc) (hl : l.stackTraces = false) {own cls text : String} {names : List String} {ik is ic mc ms sa : Nat} {A : Nat → Prop}
    (hown : s.vm.findClass own = some m.cls) (hcls : Bundle.fit cls = true) (hnames : ∀ n ∈ names, Bundle.fit n = true)
    (hk : (Cond.classLink own ik cls).before args s = true) (hini : (Cond.initialized cls).before args s = true) (hstr : vk_R own is text sa s) (hat : ∀ w ∈ vx_atS own ic cls names, w.before args s = true)
    (hgood : ∀ w ∈ Cond.classLink own ik cls :: Cond.initialized cls :: vx_atS own ic cls names, vx_ot w = true)
    (hU : vx_Zq Bundle.tN "UNASSIGNED_STACK" Bundle.steD A s s.heap) (hN : vx_Zq Bundle.tN "SUPPRESSED_SENTINEL" Bundle.listD A s s.heap) (hS : va_S A s.heap H locs) (hsize : ls.size = c.maxLocals)
    (d0 : decode cc pc = .ok (.new ik, 3)) (d3 : decode cc (pc + 3) = .ok (.dup, 1)) (d4 : decode cc (pc + 4) = .ok (.ldc is, 2)) (d6 : decode cc (pc + 6) = .ok (.invokespecial ic, 3)) (d9 : decode cc (pc + 9) = .ok (.athrow, 1))
    (hout : ∀ x ∈ c.exceptionTable.toList, covers x (pc + 9) = false)
    (hRframes : names.length + 3 < R.frames) (hRlocals : (rest.map fun v => v.category).sum + (13 * (names.length + 1) + 43) ≤ R.locals) (hRcells : cells + 1 ≤ R.cells) (hRslots : slots + 6 ≤ R.slots) (hlocks : meth.locks = false)
    (hx : ∀ t : State, s.vm.Alike t.vm → H.size ≤ t.heap.size → (∀ q : Nat, q < H.size → t.heap[q]? = H[q]?) → XC cls s t)
    (hf : ∀ z ∈ locs, free z.base) (hc : cells + 1 ≤ mc) (hs : slots + 6 ≤ ms) :
    W p l e R s m args below meth c H locs cells slots (vx_MQ below Qc XC args s mc ms free) (F0 m pc ls rest) := by
  intro T hT X
  have htr : e.platform.stackTraces = false := (show e.platform.stackTraces = l.stackTraces by rw [X.admits.platform]).trans hl
  have Y := vx_rebase X (R' := { frames := R.frames, locals := R.locals, cells := 1, slots := 6 }) (Nat.le_refl _) (Nat.le_refl _) hRcells hRslots
  obtain ⟨s', hA⟩ : ∃ z, z = (T.setVm s.vm).setFrames (.invoking m args :: below) := ⟨_, rfl⟩
  rw [← hA] at Y
  have hvm : s'.vm = s.vm := by rw [hA]; rfl
  have hhp : s'.heap = H := by rw [hA]; exact hT
  have hW0 : s.WarmedH s'.vm := by rw [hvm]; exact State.WarmedH.refl s
  have hat' : ∀ w ∈ vx_atS own ic cls names, w.before args s' = true := fun w hw => vx_ot_at hW0 hvm.symm (hgood w (List.mem_cons_of_mem _ (List.mem_cons_of_mem _ hw))) (hat w hw)
  have hk' : (Cond.classLink own ik cls).before args s' = true := vx_ot_at hW0 hvm.symm (hgood _ List.mem_cons_self) hk
  have hini' : (Cond.initialized cls).before args s' = true := vx_ot_at hW0 hvm.symm (hgood _ (List.mem_cons_of_mem _ List.mem_cons_self)) hini
  have hU' : vx_Zq Bundle.tN "UNASSIGNED_STACK" Bundle.steD A s' s'.heap := by rw [hhp]; exact vx_Zq.moved hW0.alike (hU.kept hS.2.1)
  have hN' : vx_Zq Bundle.tN "SUPPRESSED_SENTINEL" Bundle.listD A s' s'.heap := by rw [hhp]; exact vx_Zq.moved hW0.alike (hN.kept hS.2.1)
  have h : ∀ w ∈ Bundle.ownAtoms own ic cls names, w.before args s' = true := vx_own hat' (vx_isRefq hU'.1) (vx_isRefq hN'.1) hU'.2.word hN'.2.word
  have hown' : s'.vm.findClass own = some m.cls := by rw [hvm]; exact hown
  have hins : (Cond.instantiable cls 6).before args s' = true := h _ (by simp [Bundle.ownAtoms])
  obtain ⟨vm₁, cX, kX, hfX, hkX, -, -, X₁, st1⟩ := Y.newCold hexec (own := own) (C := cls) (index := ik) (n := 6) hown' hk' hins hini'
    (g := F0 m pc ls rest) rfl (by rw [hb]; exact d0) (Nat.le_refl _) (Nat.le_refl _)
  generalize hT1 : (T.setVm vm₁).pushCell { cls := cX, slots := kX.instanceTypes.map defaultValue, vm := .none } = T1 at X₁ st1
  have hcat : (Value.ref T.heap.size).category = 1 := rfl
  have hcellA : T1.heap[T.heap.size]? = some (freshCell cX kX) := by rw [← hT1]; exact State.heap_pushCell_size _ _
  have d3' : decode c.code (pc + 3) = .ok (.dup, 1) := by rw [hb]; exact d3
  have d4' : decode c.code (pc + 4) = .ok (.ldc is, 2) := by rw [hb]; exact d4
  have hstr' : vk_R own is text sa s' := vk_R.warm hW0 hstr
  obtain ⟨U, hsteps, hrun, hend, hW, hsame, ce, hce, hO⟩ := X₁.ctorThrowS hexec htr (own := own) (cls := cls) (names := names) (ic := ic) hown' hcls hnames h (fun x hx => nomatch hx) hfX hkX hcellA (by rw [hhp, hT]; exact Nat.le_refl _) (msg := .ref sa) rfl
    (g := { method := m, pc := pc + 6, locals := ls, stack := .ref sa :: .ref T.heap.size :: .ref T.heap.size :: rest, locked := none }) rfl hsize rfl rfl (rest := rest) rfl
    (by rw [hb]; exact d6) (by rw [hb]; exact d9) hout hRframes (by simp only [List.map_cons, List.sum_cons, hcat]; omega) hlocks
  obtain ⟨f1, f2⟩ := vx_frame hsame
  rw [hhp] at f1 f2
  have hWs : s.WarmedH U.vm := State.WarmedH.trans hW0 hW
  have hcl : s.vm.findClass cls = some ce.cls := by
    have h9 := hO.cls
    rw [hvm] at h9
    exact h9
  have hall : s.sameButNew ({ U with vm := s.vm } : State) locs mc ms := by
    subst hA
    obtain ⟨e1, e2⟩ := hsame
    rw [State.setFrames_setFrames] at e1
    have h2 : (T.setVm s.vm).sameButNew ({ U with vm := s.vm } : State) [] (0 + 1) (0 + 6) := ⟨e1, e2⟩
    have h3 := X.same.trans h2
    rw [List.append_nil] at h3
    exact h3.mono hc hs
  refine ⟨U, ?_, .threw T.heap.size, hrun, hend, Or.inr ⟨T.heap.size, rfl, cls, ce, locs, hx U hWs.alike f1 (fun q hq => f2 q hq (fun z hz => nomatch hz)), hce, hO.vm, hcl, hWs, hall, hf⟩⟩
  refine st1 _ ?_
  show Steps p.tables e below (T1.setTop { method := m, pc := pc + 3, locals := ls, stack := .ref T.heap.size :: rest, locked := none }) _
  jvm_step X₁.here [X₁.here.top, hexec, d3', Value.category]
  exact X₁.ldcString hexec (own := own) (text := text) (index := is) (a := sa) hown' hstr'.1 hstr'.2
    (g := { method := m, pc := pc + 4, locals := ls, stack := .ref T.heap.size :: .ref T.heap.size :: rest, locked := none }) rfl d4' _ hsteps
/-- 'throw new E("text")', the text by a wide index -/
theorem vx_throwSW {cc : ByteArray} {pc : Nat} (hexec : p.tables.exec = Jvm.exec) (hb : c.code = cc) (hl : l.stackTraces = false) {own cls text : String} {names : List String} {ik is ic mc ms sa : Nat} {A : Nat → Prop}
    (hown : s.vm.findClass own = some m.cls) (hcls : Bundle.fit cls = true) (hnames : ∀ n ∈ names, Bundle.fit n = true)
    (hk : (Cond.classLink own ik cls).before args s = true) (hini : (Cond.initialized cls).before args s = true) (hstr : vk_R own is text sa s) (hat : ∀ w ∈ vx_atS own ic cls names, w.before args s = true)
    (hgood : ∀ w ∈ Cond.classLink own ik cls :: Cond.initialized cls :: vx_atS own ic cls names, vx_ot w = true)
    (hU : vx_Zq Bundle.tN "UNASSIGNED_STACK" Bundle.steD A s s.heap) (hN : vx_Zq Bundle.tN "SUPPRESSED_SENTINEL" Bundle.listD A s s.heap) (hS : va_S A s.heap H locs) (hsize : ls.size = c.maxLocals)
    (d0 : decode cc pc = .ok (.new ik, 3)) (d3 : decode cc (pc + 3) = .ok (.dup, 1)) (d4 : decode cc (pc + 4) = .ok (.ldc_w is, 3)) (d7 : decode cc (pc + 7) = .ok (.invokespecial ic, 3)) (d10 : decode cc (pc + 10) = .ok (.athrow, 1))
    (hout : ∀ x ∈ c.exceptionTable.toList, covers x (pc + 10) = false)
    (hRframes : names.length + 3 < R.frames) (hRlocals : (rest.map fun v => v.category).sum + (13 * (names.length + 1) + 43) ≤ R.locals) (hRcells : cells + 1 ≤ R.cells) (hRslots : slots + 6 ≤ R.slots) (hlocks : meth.locks = false)
    (hx : ∀ t : State, s.vm.Alike t.vm → H.size ≤ t.heap.size → (∀ q : Nat, q < H.size → t.heap[q]? = H[q]?) → XC cls s t)
    (hf : ∀ z ∈ locs, free z.base) (hc : cells + 1 ≤ mc) (hs : slots + 6 ≤ ms) :
    W p l e R s m args below meth c H locs cells slots (vx_MQ below Qc XC args s mc ms free) (F0 m pc ls rest) := by
  intro T hT X
  have htr : e.platform.stackTraces = false := (show e.platform.stackTraces = l.stackTraces by rw [X.admits.platform]).trans hl
  have Y := vx_rebase X (R' := { frames := R.frames, locals := R.locals, cells := 1, slots := 6 }) (Nat.le_refl _) (Nat.le_refl _) hRcells hRslots
  obtain ⟨s', hA⟩ : ∃ z, z = (T.setVm s.vm).setFrames (.invoking m args :: below) := ⟨_, rfl⟩
  rw [← hA] at Y
  have hvm : s'.vm = s.vm := by rw [hA]; rfl
  have hhp : s'.heap = H := by rw [hA]; exact hT
  have hW0 : s.WarmedH s'.vm := by rw [hvm]; exact State.WarmedH.refl s
  have hat' : ∀ w ∈ vx_atS own ic cls names, w.before args s' = true := fun w hw => vx_ot_at hW0 hvm.symm (hgood w (List.mem_cons_of_mem _ (List.mem_cons_of_mem _ hw))) (hat w hw)
  have hk' : (Cond.classLink own ik cls).before args s' = true := vx_ot_at hW0 hvm.symm (hgood _ List.mem_cons_self) hk
  have hini' : (Cond.initialized cls).before args s' = true := vx_ot_at hW0 hvm.symm (hgood _ (List.mem_cons_of_mem _ List.mem_cons_self)) hini
  have hU' : vx_Zq Bundle.tN "UNASSIGNED_STACK" Bundle.steD A s' s'.heap := by rw [hhp]; exact vx_Zq.moved hW0.alike (hU.kept hS.2.1)
  have hN' : vx_Zq Bundle.tN "SUPPRESSED_SENTINEL" Bundle.listD A s' s'.heap := by rw [hhp]; exact vx_Zq.moved hW0.alike (hN.kept hS.2.1)
  have h : ∀ w ∈ Bundle.ownAtoms own ic cls names, w.before args s' = true := vx_own hat' (vx_isRefq hU'.1) (vx_isRefq hN'.1) hU'.2.word hN'.2.word
  have hown' : s'.vm.findClass own = some m.cls := by rw [hvm]; exact hown
  have hins : (Cond.instantiable cls 6).before args s' = true := h _ (by simp [Bundle.ownAtoms])
  obtain ⟨vm₁, cX, kX, hfX, hkX, -, -, X₁, st1⟩ := Y.newCold hexec (own := own) (C := cls) (index := ik) (n := 6) hown' hk' hins hini'
    (g := F0 m pc ls rest) rfl (by rw [hb]; exact d0) (Nat.le_refl _) (Nat.le_refl _)
  generalize hT1 : (T.setVm vm₁).pushCell { cls := cX, slots := kX.instanceTypes.map defaultValue, vm := .none } = T1 at X₁ st1
  have hcat : (Value.ref T.heap.size).category = 1 := rfl
  have hcellA : T1.heap[T.heap.size]? = some (freshCell cX kX) := by rw [← hT1]; exact State.heap_pushCell_size _ _
  have d3' : decode c.code (pc + 3) = .ok (.dup, 1) := by rw [hb]; exact d3
  have d4' : decode c.code (pc + 4) = .ok (.ldc_w is, 3) := by rw [hb]; exact d4
  have hstr' : vk_R own is text sa s' := vk_R.warm hW0 hstr
  obtain ⟨U, hsteps, hrun, hend, hW, hsame, ce, hce, hO⟩ := X₁.ctorThrowS hexec htr (own := own) (cls := cls) (names := names) (ic := ic) hown' hcls hnames h (fun x hx => nomatch hx) hfX hkX hcellA (by rw [hhp, hT]; exact Nat.le_refl _) (msg := .ref sa) rfl
    (g := { method := m, pc := pc + 7, locals := ls, stack := .ref sa :: .ref T.heap.size :: .ref T.heap.size :: rest, locked := none }) rfl hsize rfl rfl (rest := rest) rfl
    (by rw [hb]; exact d7) (by rw [hb]; exact d10) hout hRframes (by simp only [List.map_cons, List.sum_cons, hcat]; omega) hlocks
  obtain ⟨f1, f2⟩ := vx_frame hsame
  rw [hhp] at f1 f2
  have hWs : s.WarmedH U.vm := State.WarmedH.trans hW0 hW
  have hcl : s.vm.findClass cls = some ce.cls := by
    have h9 := hO.cls
    rw [hvm] at h9
    exact h9
  have hall : s.sameButNew ({ U with vm := s.vm } : State) locs mc ms := by
    subst hA
    obtain ⟨e1, e2⟩ := hsame
    rw [State.setFrames_setFrames] at e1
    have h2 : (T.setVm s.vm).sameButNew ({ U with vm := s.vm } : State) [] (0 + 1) (0 + 6) := ⟨e1, e2⟩
    have h3 := X.same.trans h2
    rw [List.append_nil] at h3
    exact h3.mono hc hs
  refine ⟨U, ?_, .threw T.heap.size, hrun, hend, Or.inr ⟨T.heap.size, rfl, cls, ce, locs, hx U hWs.alike f1 (fun q hq => f2 q hq (fun z hz => nomatch hz)), hce, hO.vm, hcl, hWs, hall, hf⟩⟩
  refine st1 _ ?_
  show Steps p.tables e below (T1.setTop { method := m, pc := pc + 3, locals := ls, stack := .ref T.heap.size :: rest, locked := none }) _
  jvm_step X₁.here [X₁.here.top, hexec, d3', Value.category]
  exact X₁.ldcStringW hexec (own := own) (text := text) (index := is) (a := sa) hown' hstr'.1 hstr'.2
    (g := { method := m, pc := pc + 4, locals := ls, stack := .ref T.heap.size :: .ref T.heap.size :: rest, locked := none }) rfl d4' _ hsteps
end Ends
section Bodies
variable {l : Launch}
theorem vx_ofW {y : MethodName} {ws ws' : List Cond} {rm : Room} {Pc : Array Value → State → Prop} {Qc : Array Value → State → Outcome → State → Prop} {XC : String → State → State → Prop} {mc ms : Nat} {free : Addr → Prop} {cc : ByteArray} {maxL : Nat} {ret : Option FieldType}
    (hy : plainName y.cls = true) (hw : ws = Cond.code y cc maxL ret :: ws')
    (body : ∀ p e s m args below meth c s₁, BodyLoose p l y (headSpec ws rm) cc maxL ret e s m args below meth c s₁ → c.maxLocals = maxL → (∀ x ∈ c.exceptionTable.toList, False) → Pc args s →
      W p l e (headSpec ws rm).room s m args below meth c s.heap [] 0 0 (vx_MQ below Qc XC args s mc ms free) (entryFrame m args maxL)) : vx_Met l y ws rm Pc Qc XC mc ms free := by
  refine MetFree.of_bodyS (code := cc) (maxLocals := maxL) (ret := ret) hy ?_ ?_
  · intro args s m h hn
    obtain ⟨meth, c, h1, h2, h3, h4, h5, h6, -, -⟩ := Cond.code_spec hn (atoms_spec (ws := ws) h _ (by rw [hw]; exact List.mem_cons_self))
    exact ⟨meth, c, h1, h2, h3, h4, h5, h6⟩
  · intro p e s m args below meth c s₁ B hml hP _
    have hh0 : s₁.heap = s.heap := by rw [B.state]; rfl
    have ht : ∀ x ∈ c.exceptionTable.toList, False := by
      obtain ⟨meth9, c9, h1, h2, -, -, -, -, h7, -⟩ := Cond.code_spec B.named (atoms_spec (ws := ws) B.pre _ (by rw [hw]; exact List.mem_cons_self))
      cases Option.some.inj (h1.symm.trans B.method)
      cases Option.some.inj (h2.symm.trans (Stand.of_body B).code)
      intro x hx
      rw [Array.isEmpty_iff.mp h7] at hx
      cases hx
    obtain ⟨t, a1, o, b1, b2, b3⟩ := body p e s m args below meth c s₁ B hml ht hP s₁ hh0 (Stand.of_body B)
    exact ⟨t, o, a1, b1, b2, b3⟩
/-- the table of a body with handlers -/
theorem vx_table {p : Program} {x y : MethodName} {S : Spec} {cc bytes : ByteArray} {maxL maxL' : Nat} {ret ret' : Option FieldType} {e : Env} {s s₁ : State} {m : MethodId} {args : Array Value} {below : List Frame} {meth : Method} {c : Code} {hh : List (Nat × Nat × Nat × Nat)}
    (B : BodyLoose p l y S cc maxL ret e s m args below meth c s₁) (h : (Cond.codeWith y bytes maxL' ret' hh).before args s = true) : c.exceptionTable.toList = tableOf hh := by
  obtain ⟨m9, meth9, c9, hn9, h1, h2, -, -, h6, -⟩ := Cond.codeWith_spec h
  cases Option.some.inj (hn9.symm.trans B.named)
  cases Option.some.inj (h1.symm.trans B.method)
  cases Option.some.inj (h2.symm.trans (Stand.of_body B).code)
  rw [← h6, table_eq]
end Bodies
end VXA
/-! ===== END ===== -/
/-! ===== BEGIN a static call of a method with an exception table ===== -/
section VXS
variable {p : Program} {l : Launch} {e : Env} {R : Room} {s : State} {m : MethodId} {args : Array Value} {below : List Frame} {meth : Method} {c : Code} {T : State} {H : Heap} {locs : List Loc} {cells slots : Nat}
abbrev vx_CSW (R : Room) (s : State) (args : Array Value) (own : String) (index : Nat) (y : MethodName) (bytes : ByteArray) (maxL : Nat) (ret : Option FieldType) (hh : List (Nat × Nat × Nat × Nat)) (ws : List Cond) (rm : Room) (mc ms n : Nat) : Prop :=
  (rm.cells = mc ∧ rm.slots = ms ∧ rm.frames + 1 ≤ R.frames ∧ 8 + (maxL + 11) + rm.locals ≤ R.locals ∧ (∀ w ∈ ws, ∀ (a' : Array Value) (U : State), s.WarmedH U.vm → w.before a' U = true) ∧ Cond.codeWith y bytes maxL ret hh ∈ ws) ∧
  (Cond.codeWith y bytes maxL ret hh).before args s = true ∧ (Cond.initialized y.cls).before args s = true ∧ (y.cls ≠ "java/lang/invoke/MethodHandle" ∧ y.cls ≠ "java/lang/invoke/VarHandle") ∧
  (∀ sig, parseMethodDescriptor y.desc = some sig → n = sig.parameters.length) ∧ (Cond.methodLink own index y).before args s = true ∧ (Cond.static y).before args s = true
theorem vx_cwSW {own : String} {index maxL mc ms : Nat} {y : MethodName} {bytes : ByteArray} {ret : Option FieldType} {hh : List (Nat × Nat × Nat × Nat)} {Ts ws ws' : List Cond} {rm : Room} (n : Nat) (ht : ∀ w ∈ Ts, w.before args s = true) (hT : GoodIn Ts (va_wsS own index y ws)) (hw : ws = Cond.codeWith y bytes maxL ret hh :: ws') (hrc : rm.cells = mc) (hrs : rm.slots = ms)
    (hd : y.cls ≠ "java/lang/invoke/MethodHandle" ∧ y.cls ≠ "java/lang/invoke/VarHandle" ∧ (parseMethodDescriptor y.desc).map (fun d => d.parameters.length) = some n) (hR : rm.frames + 1 ≤ R.frames ∧ 8 + (maxL + 11) + rm.locals ≤ R.locals) :
    vx_CSW R s args own index y bytes maxL ret hh ws rm mc ms n := by
  have ok : ∀ w ∈ va_wsS own index y ws, w.before args s = true := fun w h => ht w (hT w h).1
  have hG : GoodIn Ts ws := fun w h => hT w (by unfold va_wsS; exact List.mem_append_right _ h)
  have hc : Cond.codeWith y bytes maxL ret hh ∈ ws := by rw [hw]; exact List.mem_cons_self
  refine ⟨⟨hrc, hrs, hR.1, hR.2, pay_in ht hG, hc⟩, ht _ (hG _ hc).1, ok _ (by simp [va_wsS]), ⟨hd.1, hd.2.1⟩, fun sig h => ?_, ok _ (by simp [va_wsS]), ok _ (by simp [va_wsS])⟩
  have h2 := hd.2.2
  rw [h] at h2
  exact (Option.some.inj h2).symm
theorem vx_callSW (X : Stand p l e R s m args below meth c T locs cells slots) (hexec : p.tables.exec = Jvm.exec) {own : String} {index : Nat} {y : MethodName} {bytes : ByteArray} {maxL : Nat} {ret : Option FieldType} {hh : List (Nat × Nat × Nat × Nat)}
    (hown : s.vm.findClass own = some m.cls) (hlink : (Cond.methodLink own index y).before args s = true) (hstat : (Cond.static y).before args s = true) (hinit : (Cond.initialized y.cls).before args s = true)
    (hcode : (Cond.codeWith y bytes maxL ret hh).before args s = true) (hy : y.cls ≠ "java/lang/invoke/MethodHandle" ∧ y.cls ≠ "java/lang/invoke/VarHandle")
    {W9 : Nat} {Pre : Pt → Array Value → Prop} {Post : Pt → Array Value → Option Value → Pt → Prop} (hK : Back l R p e below s args y 3 W9 Pre Post)
    {g : JFrame} (hg : g.method = m) (hsize : g.locals.size = c.maxLocals) {argsL rest : List Value} (hlen : ∀ sig, parseMethodDescriptor y.desc = some sig → argsL.length = sig.parameters.length)
    (hstack : g.stack = argsL.reverse ++ rest) (hW : 2 * g.monitorRoom + (rest.map fun v => v.category).sum ≤ W9) (hdg : decode c.code g.pc = .ok (.invokestatic index, 3))
    (hpre : ∀ vm₁, s.WarmedH vm₁ → Pre ⟨T.setVm vm₁, locs, cells, slots⟩ argsL.toArray) :
    ∃ (v : Option Value) (vm₁ : Vm) (B : Pt), s.WarmedH vm₁ ∧ Stand p l e R s m args below meth c B.U B.locs B.cells B.slots ∧ Post ⟨T.setVm vm₁, locs, cells, slots⟩ argsL.toArray v B ∧
      ∀ target, Steps p.tables e below (B.U.setTop { g with pc := g.pc + 3, stack := v.toList ++ rest }) target → Steps p.tables e below (T.setTop g) target := by
  obtain ⟨mk, methM, cM, hnamed, hmethM, -, -, -, -, -, -, hsigM⟩ := Cond.codeWith_spec hcode
  have hstatic : methM.isStatic = true := Cond.static_spec hnamed hmethM hstat
  obtain ⟨kP, hkP, -⟩ := className_of_methodNamed hnamed
  have hinitP : kP.init = .initialized := Cond.initialized_spec (findClass_of_methodNamed hnamed) hkP hinit
  obtain ⟨vm₁, X₁, hstep₁⟩ := X.invokestatic hexec hown hlink hnamed hmethM hstatic hkP hinitP hy (g := g) hg (argsL := argsL) (rest := rest) (hlen _ hsigM) hstack hdg
  obtain ⟨v, B, X', hpost, hsteps⟩ := hK m meth c ⟨T.setVm vm₁, locs, cells, slots⟩ { g with stack := rest } (.invokestatic index) mk argsL.toArray X₁ hg hsize hdg hW (X₁.named hnamed) (hpre vm₁ X₁.warmed)
  exact ⟨v, vm₁, B, X₁.warmed, X', hpost, fun target h => hstep₁ _ fun acts => by rw [doInvoke_state]; exact hsteps.trans h⟩
theorem vx_runSW {y : MethodName} {bytes cc : ByteArray} {maxL nL mc ms n index : Nat} {ret : Option FieldType} {hh : List (Nat × Nat × Nat × Nat)} {ws : List Cond} {rm : Room} {Pc : Array Value → State → Prop} {Qc : Array Value → State → Outcome → State → Prop} {free : Addr → Prop} {Ts : List Cond} {own : String} {As rest : List Value} {g : JFrame}
    (S : CallFix p m c cc nL s args Ts own) (hM : Met l y ws rm Pc Qc mc ms free) (cw : vx_CSW R s args own index y bytes maxL ret hh ws rm mc ms n) (hp : PreS s H Pc As)
    (hg : g.method = m) (hn : As.length = n) (hsize : g.locals.size = nL) (hstack : g.stack = As.reverse ++ rest) (hW : 2 * g.monitorRoom + (rest.map fun v => v.category).sum ≤ 8) (hdg : decode cc g.pc = .ok (.invokestatic index, 3)) (hf : cells + mc ≤ R.cells ∧ slots + ms ≤ R.slots) :
    va_Run p l e R s m args below meth c H locs cells slots mc ms g rest (Qc As.toArray) (free) := by
  obtain ⟨⟨hrc, hrs, hfr, hlo, hws, hcw⟩, hcode, hini, hy, hlen, hl, hstt⟩ := cw
  have hK : Back l R p e below s args y 3 8 (PreOf R mc ms Pc) (PostOf Qc mc ms free) := va_backW (hh := hh) (bytes := bytes) (maxL := maxL) (ret := ret) hM hp.1 hrc hrs hfr hlo hws hcw (fun a' U hW => word_at hW (Or.inl (by first | rfl | simp [Cond.onTables, Cond.keeps, Cond.steady])) hini)
  obtain ⟨hx, hb, hml, ho, -⟩ := S
  intro T hT X
  obtain ⟨v, vm₁, ⟨U', l2, c2, s2⟩, hW₁, X', ⟨g', mk, t, L, e1, e2, hq, h1, hL, h2, h3⟩, st⟩ := vx_callSW X hx (hh := hh) (bytes := bytes) (maxL := maxL) (ret := ret) ho hl hstt hini hcode hy hK hg (hsize.trans hml.symm) (argsL := As) (rest := rest) (fun sig h => hn.trans (hlen sig h)) hstack hW (by rw [hb]; exact hdg)
    (fun vm₁ hW₁ => ⟨hf.1, hf.2, hp.2 (T.setVm vm₁) hT hW₁⟩)
  dsimp only [Pt.U, Pt.locs, Pt.cells, Pt.slots] at X' e1 e2 h1 h2 h3 st
  subst h1; subst h2; subst h3
  exact ⟨v, (T.setVm vm₁).calling g' mk As.toArray, t, U', L, hT, X', hL, e1, e2, hq, st⟩
/-- not caught here, past rows that name other classes: it goes on to the caller -/
theorem vx_outP {p : Program} {l : Launch} {e : Env} {R : Room} {s : State} {m : MethodId} {args : Array Value} {below : List Frame} {meth : Method} {c : Code} {H : Heap} {locs : List Loc} {cells slots : Nat} {free : Addr → Prop} {ls : Array Slot} {rest : List Value} {Qc : Array Value → State → Outcome → State → Prop} {XC : String → State → State → Prop}
    {pc : Nat} {own E : String} {ce : Cell} {q : Addr} {mc ms : Nat} (hown : s.vm.findClass own = some m.cls) (hlocks : meth.locks = false)
    (hpass : ∀ z ∈ c.exceptionTable.toList, covers z pc = false ∨ (z.catchType ≠ 0 ∧ ∃ nm : String, (Cond.classLink own z.catchType nm).before args s = true ∧ va_Nc E nm s)) (hcell : H[q]? = some ce) (hv : ce.vm = .none) (hcl : s.vm.findClass E = some ce.cls)
    (hx : ∀ t : State, t.heap = H → s.vm.Alike t.vm → XC E s t) (hf : ∀ z ∈ locs, free z.base) (hc : cells ≤ mc) (hs : slots ≤ ms) :
    vx_W p l e R s m args below meth c H locs cells slots (vx_MQ below Qc XC args s mc ms free) (F0 m pc ls rest) q := by
  intro T hT X
  have hpl : e.platform.magicAccessors = ({} : Platform).magicAccessors := by rw [X.admits.platform]
  obtain ⟨vm', hW', X', st⟩ := X.outThrough hlocks q (g := F0 m pc ls rest) rfl rfl rfl (cell := ce) (by rw [hT]; exact hcell) (by rw [hv]; rfl)
    (by obtain ⟨k9, h9, -⟩ := Vm.findClass_spec hcl; exact ⟨k9, h9⟩) (fun z hz => by
      rcases hpass z hz with h | ⟨hz0, nm, hl1, hn1⟩
      · exact Or.inl h
      · obtain ⟨c6, hc6, hcl6⟩ := Cond.classLink_spec hown hl1 e.platform hpl
        obtain ⟨a8, b8, h1, h2, h3⟩ := hn1
        cases Option.some.inj (h1.symm.trans hcl)
        cases Option.some.inj (h2.symm.trans hc6)
        exact Or.inr ⟨hz0, _, hcl6, h3⟩)
  obtain ⟨g₀, hfr⟩ := X'.frames_eq
  have hcell9 : ((T.setVm vm').setFrames (.throwing q :: below)).heap[q]? = some ce := by
    show T.heap[q]? = some ce
    rw [hT]; exact hcell
  have hend : Ended ((T.setVm vm').setFrames (.throwing q :: below)) below (.threw q) := State.frames_setFrames _ (State.cur_lt_of_frames hfr)
  refine ⟨(T.setVm vm').setFrames (.throwing q :: below), ?_, .threw q, X'.here.running, hend, Or.inr ⟨q, rfl, E, ce, locs, hx _ hT (X'.ends _).1.alike, hcell9, hv, hcl, (X'.ends _).1, (X'.ends _).2.mono hc hs, hf⟩⟩
  rw [X.pushThrowing_eq]
  exact st
/-- a thing of a world lies in the heap -/
theorem vx_lt {D : va_G} {cl : List vw_C} {ws : va_W} {H1 : Heap} (h : va_P D cl ws H1) {k : Nat} {q : Nat × va_E} (hk : ws[k]? = some q) : q.1 < H1.size := (h k q hk).lt
end VXS
/-! ===== END ===== -/
/-! ===== BEGIN methods with a table of their own: called by a name, returning or throwing ===== -/
section VXH
/-! vx_backW, vx_callVX, vx_callSX, vx_callVW, vx_runVW, vx_runVX, vx_runSX, vx_ofWH follow the same proofs as their sisters above (Free/Laws.lean, Shelf42/LK1.lean); vx_outP calls Shelf42/NT130.lean (outThrough). -/
section
variable {l : Launch} {R : Room} {p : Program} {e : Env} {below : List Frame} {s : State} {sargs : Array Value} {y : MethodName} {len W9 : Nat}
theorem vx_backW {ws : List Cond} {rm : Room} {Pc : Array Value → State → Prop} {Qc : Array Value → State → Outcome → State → Prop} {XC : String → State → State → Prop} {mc ms : Nat} {free : Addr → Prop} {bytes : ByteArray} {maxL : Nat} {ret : Option FieldType} {hh : List (Nat × Nat × Nat × Nat)}
    (hM : vx_Met l y ws rm Pc Qc XC mc ms free) (hblind : FrameBlind Pc) (hrc : rm.cells = mc) (hrs : rm.slots = ms)
    (hframes : rm.frames + 1 ≤ R.frames) (hlocals : W9 + (maxL + 11) + rm.locals ≤ R.locals)
    (hws : ∀ w ∈ ws, ∀ a' U, s.WarmedH U.vm → w.before a' U = true) (hcode : Cond.codeWith y bytes maxL ret hh ∈ ws) (hinit : ∀ a' U, s.WarmedH U.vm → (Cond.initialized y.cls).before a' U = true) :
    vx_Back l R p e below s sargs y len W9 (PreOf R mc ms Pc) (PostOf Qc mc ms free) (vx_Post XC mc ms free) := by
  intro m meth c A g ig mk a X hg hsize hdg hW hn hp
  have h1 : (headSpec ws rm).pre.before a A.U = true := atoms_intro fun w hw => hws w hw _ _ X.warmed
  have h2 : (Cond.codeWith y bytes maxL ret hh).before a A.U = true := hws _ hcode _ _ X.warmed
  have h3 : (Cond.initialized y.cls).before a A.U = true := hinit _ _ X.warmed
  have h4 : A.cells + (headSpec ws rm).room.cells ≤ R.cells := by rw [show (headSpec ws rm).room.cells = mc from hrc]; exact hp.1
  have h5 : A.slots + (headSpec ws rm).room.slots ≤ R.slots := by rw [show (headSpec ws rm).room.slots = ms from hrs]; exact hp.2.1
  have hPc : Pc a (A.U.calling g mk a) := hblind _ _ _ _ hp.2.2
  obtain ⟨U, Ls, c0, s0⟩ := A
  dsimp only [Pt.U, Pt.locs, Pt.cells, Pt.slots] at h1 h2 h3 h4 h5 X hn hPc ⊢
  obtain ⟨m9, methY, cY, hn9, hmY, hcY, -, hlY, -⟩ := Cond.codeWith_spec h2
  cases Option.some.inj (hn9.symm.trans hn)
  obtain ⟨kY, hkY, -⟩ := className_of_methodNamed hn
  have hinitY : kY.init = .initialized := Cond.initialized_spec (findClass_of_methodNamed hn) hkY h3
  have h : At U g.method c below := by rw [hg]; exact X.here
  have hlocals9 : W9 + (maxL + 11) + (headSpec ws rm).room.locals ≤ R.locals := hlocals
  have happ : (headSpec ws rm).appliesLoose y e.platform (U.calling g mk a) = true :=
    Spec.appliesLoose_calling (g := g) h hdg hn hkY hinitY
      (X.room_calling (g := g) (R' := (headSpec ws rm).room) hsize hmY hcY hframes (by rw [hlY]; omega) h4 h5) h1
  obtain ⟨mid, hmid⟩ := h.above
  have hfr : (U.setTop g).frames = (.java g :: mid) ++ below := by rw [State.frames_setTop' g h.top, hmid]; rfl
  obtain ⟨o, s₂, hsteps, -, hend, hq⟩ := Steps.callFree hM p X.admits X.cas X.clock (acts := []) hfr happ hPc trivial
  have hq' : vx_Q Qc XC mc ms free a (U.calling g mk a) o s₂ := hq
  rw [State.frames_setTop' g h.top] at hend
  obtain ⟨g₀, hg0⟩ := Option.isSome_iff_exists.mp h.top
  obtain ⟨r, hr⟩ := State.topJava?_eq_some.mp hg0
  have hr' : (({ U with heap := s₂.heap, slotsUsed := s₂.slotsUsed } : State).setVm s₂.vm).frames = .java g₀ :: r := hr
  rcases hq' with ⟨hqc, L, hfe, hL⟩ | ⟨q, rfl, E, ce, L, hx, hce, hcv, hcl, hW₂, hsm, hL⟩
  · obtain ⟨⟨v, rfl⟩, hW₂, e2, q2, q3, q4, q5, q6⟩ := id hfe
    have e3 : s₂ = ({ (U.calling g mk a).setFrames s₂.frames with heap := s₂.heap, slotsUsed := s₂.slotsUsed } : State).setVm s₂.vm := by
      have : s₂ = ({ s₂ with vm := (U.calling g mk a).vm } : State).setVm s₂.vm := rfl
      rw [e2] at this
      exact this
    obtain ⟨c₂, i₂, len₂, hc₂, hd₂, hf₂⟩ := hend
    have hW' : U.WarmedH s₂.vm := hW₂
    have hcc : c₂ = c := by
      have h1 : s₂.code? g.method = U.code? g.method := by
        rw [State.code?_eq, State.code?_eq, hW'.alike.method?]
      exact Option.some.inj (hc₂.symm.trans (h1.trans h.code))
    subst hcc
    have hlen : len₂ = len := by rw [hdg] at hd₂; cases hd₂; rfl
    subst hlen
    have hs₂ : s₂ = (({ U with heap := s₂.heap, slotsUsed := s₂.slotsUsed } : State).setVm s₂.vm).setTop { g with pc := g.pc + len₂, stack := v.toList ++ g.stack } := by
      refine e3.trans ?_
      rw [hf₂, State.calling_eq h.top, State.setFrames_setFrames, State.setTop_of_frames _ hr', hr]
      rfl
    have hsame : U.sameButNew ({ U with heap := s₂.heap, slotsUsed := s₂.slotsUsed } : State) L mc ms := by
      refine ⟨?_, q2, q3, q4, q5, q6⟩
      obtain ⟨t, ht, -⟩ := State.frames_cons hr
      show ({ U with heap := s₂.heap, slotsUsed := s₂.slotsUsed } : State) = { U.setFrames U.frames with heap := s₂.heap, slotsUsed := s₂.slotsUsed }
      rw [State.setFrames_self ht]
    subst hg
    refine Or.inl ⟨v, ⟨(({ U with heap := s₂.heap, slotsUsed := s₂.slotsUsed } : State).setVm s₂.vm), Ls ++ L, c0 + mc, s0 + ms⟩,
      ⟨X.admits, X.cas, X.clock, X.frames, X.room, X.hears, X.method, X.code, (X.here.setHeapUsed s₂.heap s₂.slotsUsed).setVm hW'.alike, X.tail, State.WarmedH.trans X.warmed hW', X.limits, X.bytes, X.same.trans (hsame.setVm s.vm)⟩,
      ⟨g, mk, s₂, L, rfl, rfl, hqc, rfl, hL, rfl, rfl⟩, ?_⟩
    show Steps p.tables e below _ ((({ U with heap := s₂.heap, slotsUsed := s₂.slotsUsed } : State).setVm s₂.vm).setTop { g with pc := g.pc + len₂, stack := v.toList ++ g.stack })
    rw [← hs₂]
    exact hsteps
  · obtain ⟨e2, q2, q3, q4, q5, q6⟩ := id hsm
    have e3 : s₂ = ({ (U.calling g mk a).setFrames s₂.frames with heap := s₂.heap, slotsUsed := s₂.slotsUsed } : State).setVm s₂.vm := by
      have : s₂ = ({ s₂ with vm := (U.calling g mk a).vm } : State).setVm s₂.vm := rfl
      rw [e2] at this
      exact this
    have hf₂ : s₂.frames = .throwing q :: .java g :: U.frames.tail := hend
    have hW' : U.WarmedH s₂.vm := hW₂
    have hs₂ : s₂ = ((({ U with heap := s₂.heap, slotsUsed := s₂.slotsUsed } : State).setVm s₂.vm).setTop g).pushFrame (.throwing q) := by
      refine e3.trans ?_
      rw [hf₂, State.calling_eq h.top, State.setFrames_setFrames, State.pushFrame, State.frames_setTop _ hr', State.setTop_of_frames _ hr', State.setFrames_setFrames, hr]
      rfl
    have hsame : U.sameButNew ({ U with heap := s₂.heap, slotsUsed := s₂.slotsUsed } : State) L mc ms := by
      refine ⟨?_, q2, q3, q4, q5, q6⟩
      obtain ⟨t, ht, -⟩ := State.frames_cons hr
      show ({ U with heap := s₂.heap, slotsUsed := s₂.slotsUsed } : State) = { U.setFrames U.frames with heap := s₂.heap, slotsUsed := s₂.slotsUsed }
      rw [State.setFrames_self ht]
    subst hg
    refine Or.inr ⟨q, ⟨(({ U with heap := s₂.heap, slotsUsed := s₂.slotsUsed } : State).setVm s₂.vm), Ls ++ L, c0 + mc, s0 + ms⟩,
      ⟨X.admits, X.cas, X.clock, X.frames, X.room, X.hears, X.method, X.code, (X.here.setHeapUsed s₂.heap s₂.slotsUsed).setVm hW'.alike, X.tail, State.WarmedH.trans X.warmed hW', X.limits, X.bytes, X.same.trans (hsame.setVm s.vm)⟩,
      ⟨g, mk, s₂, L, E, ce, rfl, rfl, hx, hce, hcv, hcl, rfl, hL, rfl, rfl⟩, ?_⟩
    show Steps p.tables e below _ (((({ U with heap := s₂.heap, slotsUsed := s₂.slotsUsed } : State).setVm s₂.vm).setTop g).pushFrame (.throwing q))
    rw [← hs₂]
    exact hsteps
end
variable {p : Program} {l : Launch} {e : Env} {R : Room} {s : State} {m : MethodId} {args : Array Value} {below : List Frame} {meth : Method} {c : Code} {T : State} {H : Heap} {locs : List Loc} {cells slots : Nat}
theorem vx_callVX (X : Stand p l e R s m args below meth c T locs cells slots) (hexec : p.tables.exec = Jvm.exec) {own C : String} {index : Nat} {y : MethodName} {bytes : ByteArray} {maxL : Nat} {ret : Option FieldType} {hh : List (Nat × Nat × Nat × Nat)}
    (hown : s.vm.findClass own = some m.cls) (hlink : (Cond.methodLink own index y).before args s = true) (hinst : (Cond.instanceMethod y).before args s = true) (hsel : (Cond.selects C y y).before args s = true)
    (hcode : (Cond.codeWith y bytes maxL ret hh).before args s = true) (hy : y.cls ≠ "java/lang/invoke/MethodHandle" ∧ y.cls ≠ "java/lang/invoke/VarHandle")
    {W9 : Nat} {Pre : Pt → Array Value → Prop} {Post : Pt → Array Value → Option Value → Pt → Prop} {PostX : Pt → Array Value → Addr → Pt → Prop} (hK : vx_Back l R p e below s args y 3 W9 Pre Post PostX)
    {b : Addr} {cellB : Cell} (hcell : T.heap[b]? = some cellB) (hobj : cellB.vm.isStatics = false) (hcls : s.vm.findClass C = some cellB.cls)
    {g : JFrame} (hg : g.method = m) (hsize : g.locals.size = c.maxLocals) {argsL rest : List Value} (hlen : ∀ sig, parseMethodDescriptor y.desc = some sig → argsL.length = sig.parameters.length)
    (hstack : g.stack = argsL.reverse ++ .ref b :: rest) (hW : 2 * g.monitorRoom + (rest.map fun v => v.category).sum ≤ W9) (hdg : decode c.code g.pc = .ok (.invokevirtual index, 3))
    (hpre : ∀ vm₁, s.WarmedH vm₁ → Pre ⟨T.setVm vm₁, locs, cells, slots⟩ (Value.ref b :: argsL).toArray) :
    (∃ (v : Option Value) (vm₁ : Vm) (B : Pt), s.WarmedH vm₁ ∧ Stand p l e R s m args below meth c B.U B.locs B.cells B.slots ∧ Post ⟨T.setVm vm₁, locs, cells, slots⟩ (Value.ref b :: argsL).toArray v B ∧
      ∀ target, Steps p.tables e below (B.U.setTop { g with pc := g.pc + 3, stack := v.toList ++ rest }) target → Steps p.tables e below (T.setTop g) target) ∨
    (∃ (q : Addr) (vm₁ : Vm) (B : Pt), s.WarmedH vm₁ ∧ Stand p l e R s m args below meth c B.U B.locs B.cells B.slots ∧ PostX ⟨T.setVm vm₁, locs, cells, slots⟩ (Value.ref b :: argsL).toArray q B ∧
      Steps p.tables e below (T.setTop g) ((B.U.setTop { g with stack := rest }).pushFrame (.throwing q))) := by
  obtain ⟨mk, methM, hnamed, hmethM, hstM, habM⟩ := Cond.instanceMethod_spec hinst
  obtain ⟨m8, methM', cM, hn8, hmethM', -, -, -, -, -, -, hsigM⟩ := Cond.codeWith_spec hcode
  cases Option.some.inj (hn8.symm.trans hnamed)
  cases hmethM.symm.trans hmethM'
  obtain ⟨c2, r2, m2, q1, q2, q3, q4, kP, hkP, hkPi⟩ := Cond.selects_spec hsel
  cases hcls.symm.trans q1
  cases (State.methodFound?_of_named hnamed hy).symm.trans q2
  cases hnamed.symm.trans q3
  have hselP : selectMethod e.platform s.vm cellB.cls mk = .method mk := by rw [Launch.admits_selectMethod X.admits]; exact q4
  obtain ⟨vm₁, X₁, hstep₁⟩ := X.invokevirtual hexec hown hlink hnamed hmethM hstM hkP hkPi hy (a := b) (cell := cellB) hcell
    (fun z h => by rw [h] at hobj; cases hobj) hselP hmethM habM hkP hkPi (g := g) hg (argsL := argsL) (rest := rest) (hlen _ hsigM) hstack hdg
  rcases hK m meth c ⟨T.setVm vm₁, locs, cells, slots⟩ { g with stack := rest } (.invokevirtual index) mk (Value.ref b :: argsL).toArray X₁ hg hsize hdg hW (X₁.named hnamed) (hpre vm₁ X₁.warmed) with ⟨v, B, X', hpost, hsteps⟩ | ⟨q, B, X', hpost, hsteps⟩
  · exact Or.inl ⟨v, vm₁, B, X₁.warmed, X', hpost, fun target h => hstep₁ _ fun acts => by rw [doInvoke_state]; exact hsteps.trans h⟩
  · exact Or.inr ⟨q, vm₁, B, X₁.warmed, X', hpost, hstep₁ _ fun acts => by rw [doInvoke_state]; exact hsteps⟩
theorem vx_callSX (X : Stand p l e R s m args below meth c T locs cells slots) (hexec : p.tables.exec = Jvm.exec) {own : String} {index : Nat} {y : MethodName} {bytes : ByteArray} {maxL : Nat} {ret : Option FieldType} {hh : List (Nat × Nat × Nat × Nat)}
    (hown : s.vm.findClass own = some m.cls) (hlink : (Cond.methodLink own index y).before args s = true) (hstat : (Cond.static y).before args s = true) (hinit : (Cond.initialized y.cls).before args s = true)
    (hcode : (Cond.codeWith y bytes maxL ret hh).before args s = true) (hy : y.cls ≠ "java/lang/invoke/MethodHandle" ∧ y.cls ≠ "java/lang/invoke/VarHandle")
    {W9 : Nat} {Pre : Pt → Array Value → Prop} {Post : Pt → Array Value → Option Value → Pt → Prop} {PostX : Pt → Array Value → Addr → Pt → Prop} (hK : vx_Back l R p e below s args y 3 W9 Pre Post PostX)
    {g : JFrame} (hg : g.method = m) (hsize : g.locals.size = c.maxLocals) {argsL rest : List Value} (hlen : ∀ sig, parseMethodDescriptor y.desc = some sig → argsL.length = sig.parameters.length)
    (hstack : g.stack = argsL.reverse ++ rest) (hW : 2 * g.monitorRoom + (rest.map fun v => v.category).sum ≤ W9) (hdg : decode c.code g.pc = .ok (.invokestatic index, 3))
    (hpre : ∀ vm₁, s.WarmedH vm₁ → Pre ⟨T.setVm vm₁, locs, cells, slots⟩ argsL.toArray) :
    (∃ (v : Option Value) (vm₁ : Vm) (B : Pt), s.WarmedH vm₁ ∧ Stand p l e R s m args below meth c B.U B.locs B.cells B.slots ∧ Post ⟨T.setVm vm₁, locs, cells, slots⟩ argsL.toArray v B ∧
      ∀ target, Steps p.tables e below (B.U.setTop { g with pc := g.pc + 3, stack := v.toList ++ rest }) target → Steps p.tables e below (T.setTop g) target) ∨
    (∃ (q : Addr) (vm₁ : Vm) (B : Pt), s.WarmedH vm₁ ∧ Stand p l e R s m args below meth c B.U B.locs B.cells B.slots ∧ PostX ⟨T.setVm vm₁, locs, cells, slots⟩ argsL.toArray q B ∧
      Steps p.tables e below (T.setTop g) ((B.U.setTop { g with stack := rest }).pushFrame (.throwing q))) := by
  obtain ⟨mk, methM, cM, hnamed, hmethM, -, -, -, -, -, -, hsigM⟩ := Cond.codeWith_spec hcode
  have hstatic : methM.isStatic = true := Cond.static_spec hnamed hmethM hstat
  obtain ⟨kP, hkP, -⟩ := className_of_methodNamed hnamed
  have hinitP : kP.init = .initialized := Cond.initialized_spec (findClass_of_methodNamed hnamed) hkP hinit
  obtain ⟨vm₁, X₁, hstep₁⟩ := X.invokestatic hexec hown hlink hnamed hmethM hstatic hkP hinitP hy (g := g) hg (argsL := argsL) (rest := rest) (hlen _ hsigM) hstack hdg
  rcases hK m meth c ⟨T.setVm vm₁, locs, cells, slots⟩ { g with stack := rest } (.invokestatic index) mk argsL.toArray X₁ hg hsize hdg hW (X₁.named hnamed) (hpre vm₁ X₁.warmed) with ⟨v, B, X', hpost, hsteps⟩ | ⟨q, B, X', hpost, hsteps⟩
  · exact Or.inl ⟨v, vm₁, B, X₁.warmed, X', hpost, fun target h => hstep₁ _ fun acts => by rw [doInvoke_state]; exact hsteps.trans h⟩
  · exact Or.inr ⟨q, vm₁, B, X₁.warmed, X', hpost, hstep₁ _ fun acts => by rw [doInvoke_state]; exact hsteps⟩
theorem vx_callVW (X : Stand p l e R s m args below meth c T locs cells slots) (hexec : p.tables.exec = Jvm.exec) {own C : String} {index : Nat} {y : MethodName} {bytes : ByteArray} {maxL : Nat} {ret : Option FieldType} {hh : List (Nat × Nat × Nat × Nat)}
    (hown : s.vm.findClass own = some m.cls) (hlink : (Cond.methodLink own index y).before args s = true) (hinst : (Cond.instanceMethod y).before args s = true) (hsel : (Cond.selects C y y).before args s = true)
    (hcode : (Cond.codeWith y bytes maxL ret hh).before args s = true) (hy : y.cls ≠ "java/lang/invoke/MethodHandle" ∧ y.cls ≠ "java/lang/invoke/VarHandle")
    {W9 : Nat} {Pre : Pt → Array Value → Prop} {Post : Pt → Array Value → Option Value → Pt → Prop} (hK : Back l R p e below s args y 3 W9 Pre Post)
    {b : Addr} {cellB : Cell} (hcell : T.heap[b]? = some cellB) (hobj : cellB.vm.isStatics = false) (hcls : s.vm.findClass C = some cellB.cls)
    {g : JFrame} (hg : g.method = m) (hsize : g.locals.size = c.maxLocals) {argsL rest : List Value} (hlen : ∀ sig, parseMethodDescriptor y.desc = some sig → argsL.length = sig.parameters.length)
    (hstack : g.stack = argsL.reverse ++ .ref b :: rest) (hW : 2 * g.monitorRoom + (rest.map fun v => v.category).sum ≤ W9) (hdg : decode c.code g.pc = .ok (.invokevirtual index, 3))
    (hpre : ∀ vm₁, s.WarmedH vm₁ → Pre ⟨T.setVm vm₁, locs, cells, slots⟩ (Value.ref b :: argsL).toArray) :
    ∃ (v : Option Value) (vm₁ : Vm) (B : Pt), s.WarmedH vm₁ ∧ Stand p l e R s m args below meth c B.U B.locs B.cells B.slots ∧ Post ⟨T.setVm vm₁, locs, cells, slots⟩ (Value.ref b :: argsL).toArray v B ∧
      ∀ target, Steps p.tables e below (B.U.setTop { g with pc := g.pc + 3, stack := v.toList ++ rest }) target → Steps p.tables e below (T.setTop g) target := by
  obtain ⟨mk, methM, hnamed, hmethM, hstM, habM⟩ := Cond.instanceMethod_spec hinst
  obtain ⟨m8, methM', cM, hn8, hmethM', -, -, -, -, -, -, hsigM⟩ := Cond.codeWith_spec hcode
  cases Option.some.inj (hn8.symm.trans hnamed)
  cases hmethM.symm.trans hmethM'
  obtain ⟨c2, r2, m2, q1, q2, q3, q4, kP, hkP, hkPi⟩ := Cond.selects_spec hsel
  cases hcls.symm.trans q1
  cases (State.methodFound?_of_named hnamed hy).symm.trans q2
  cases hnamed.symm.trans q3
  have hselP : selectMethod e.platform s.vm cellB.cls mk = .method mk := by rw [Launch.admits_selectMethod X.admits]; exact q4
  obtain ⟨vm₁, X₁, hstep₁⟩ := X.invokevirtual hexec hown hlink hnamed hmethM hstM hkP hkPi hy (a := b) (cell := cellB) hcell
    (fun z h => by rw [h] at hobj; cases hobj) hselP hmethM habM hkP hkPi (g := g) hg (argsL := argsL) (rest := rest) (hlen _ hsigM) hstack hdg
  obtain ⟨v, B, X', hpost, hsteps⟩ := hK m meth c ⟨T.setVm vm₁, locs, cells, slots⟩ { g with stack := rest } (.invokevirtual index) mk (Value.ref b :: argsL).toArray X₁ hg hsize hdg hW (X₁.named hnamed) (hpre vm₁ X₁.warmed)
  exact ⟨v, vm₁, B, X₁.warmed, X', hpost, fun target h => hstep₁ _ fun acts => by rw [doInvoke_state]; exact hsteps.trans h⟩
abbrev vx_CVW (R : Room) (s : State) (args : Array Value) (own C : String) (index : Nat) (y : MethodName) (bytes : ByteArray) (maxL : Nat) (ret : Option FieldType) (hh : List (Nat × Nat × Nat × Nat)) (ws : List Cond) (rm : Room) (mc ms n : Nat) : Prop :=
  (rm.cells = mc ∧ rm.slots = ms ∧ rm.frames + 1 ≤ R.frames ∧ 8 + (maxL + 11) + rm.locals ≤ R.locals ∧ (∀ w ∈ ws, ∀ (a' : Array Value) (U : State), s.WarmedH U.vm → w.before a' U = true) ∧ Cond.codeWith y bytes maxL ret hh ∈ ws) ∧
  (Cond.codeWith y bytes maxL ret hh).before args s = true ∧ (Cond.initialized y.cls).before args s = true ∧ (y.cls ≠ "java/lang/invoke/MethodHandle" ∧ y.cls ≠ "java/lang/invoke/VarHandle") ∧
  (∀ sig, parseMethodDescriptor y.desc = some sig → n = sig.parameters.length) ∧ (Cond.methodLink own index y).before args s = true ∧ (Cond.instanceMethod y).before args s = true ∧ (Cond.selects C y y).before args s = true
theorem vx_cwVW {own C : String} {index maxL mc ms : Nat} {y : MethodName} {bytes : ByteArray} {ret : Option FieldType} {hh : List (Nat × Nat × Nat × Nat)} {Ts ws ws' : List Cond} {rm : Room} (n : Nat) (ht : ∀ w ∈ Ts, w.before args s = true) (hT : GoodIn Ts (wsV own index C y ws)) (hw : ws = Cond.codeWith y bytes maxL ret hh :: ws') (hrc : rm.cells = mc) (hrs : rm.slots = ms)
    (hd : y.cls = C ∧ y.cls ≠ "java/lang/invoke/MethodHandle" ∧ y.cls ≠ "java/lang/invoke/VarHandle" ∧ (parseMethodDescriptor y.desc).map (fun d => d.parameters.length) = some n) (hR : rm.frames + 1 ≤ R.frames ∧ 8 + (maxL + 11) + rm.locals ≤ R.locals) :
    vx_CVW R s args own C index y bytes maxL ret hh ws rm mc ms n := by
  obtain ⟨hC, hd⟩ := hd
  subst hC
  have ok : ∀ w ∈ wsV own index y.cls y ws, w.before args s = true := fun w h => ht w (hT w h).1
  have hG : GoodIn Ts ws := fun w h => hT w (by unfold wsV; exact List.mem_append_right _ h)
  have hc : Cond.codeWith y bytes maxL ret hh ∈ ws := by rw [hw]; exact List.mem_cons_self
  refine ⟨⟨hrc, hrs, hR.1, hR.2, pay_in ht hG, hc⟩, ht _ (hG _ hc).1, ok _ (by simp [wsV]), ⟨hd.1, hd.2.1⟩, fun sig h => ?_, ok _ (by simp [wsV]), ok _ (by simp [wsV]), ok _ (by simp [wsV])⟩
  have h2 := hd.2.2
  rw [h] at h2
  exact (Option.some.inj h2).symm
theorem vx_runVW {y : MethodName} {bytes cc : ByteArray} {maxL nL mc ms n index : Nat} {ret : Option FieldType} {hh : List (Nat × Nat × Nat × Nat)} {ws : List Cond} {rm : Room} {Pc : Array Value → State → Prop} {Qc : Array Value → State → Outcome → State → Prop} {free : Addr → Prop} {Ts : List Cond} {own C : String} {b : Addr} {As rest : List Value} {g : JFrame}
    (S : CallFix p m c cc nL s args Ts own) (hM : Met l y ws rm Pc Qc mc ms free) (cw : vx_CVW R s args own C index y bytes maxL ret hh ws rm mc ms n) (hp : PreV s H C b Pc As)
    (hg : g.method = m) (hn : As.length = n) (hsize : g.locals.size = nL) (hstack : g.stack = As.reverse ++ .ref b :: rest) (hW : 2 * g.monitorRoom + (rest.map fun v => v.category).sum ≤ 8) (hdg : decode cc g.pc = .ok (.invokevirtual index, 3)) (hf : cells + mc ≤ R.cells ∧ slots + ms ≤ R.slots) :
    va_Run p l e R s m args below meth c H locs cells slots mc ms g rest (Qc (Value.ref b :: As).toArray) free := by
  obtain ⟨⟨hrc, hrs, hfr, hlo, hws, hcw⟩, hcode, hini, hy, hlen, hl, hin, hse⟩ := cw
  have hK : Back l R p e below s args y 3 8 (PreOf R mc ms Pc) (PostOf Qc mc ms free) := va_backW (hh := hh) (bytes := bytes) (maxL := maxL) (ret := ret) hM hp.1 hrc hrs hfr hlo hws hcw (fun a' U hW => word_at hW (Or.inl (by first | rfl | simp [Cond.onTables, Cond.keeps, Cond.steady])) hini)
  obtain ⟨hx, hb, hml, ho, -⟩ := S
  obtain ⟨-, ⟨cellB, hcB, hoB, hclB⟩, hPc⟩ := hp
  intro T hT X
  obtain ⟨v, vm₁, ⟨U', l2, c2, s2⟩, hW₁, X', ⟨g', mk, t, L, e1, e2, hq, h1, hL, h2, h3⟩, st⟩ := vx_callVW X hx (C := C) (hh := hh) (bytes := bytes) (maxL := maxL) (ret := ret) ho hl hin hse hcode hy hK (by rw [hT]; exact hcB) hoB hclB hg (hsize.trans hml.symm) (argsL := As) (rest := rest) (fun sig h => hn.trans (hlen sig h)) hstack hW (by rw [hb]; exact hdg)
    (fun vm₁ hW₁ => ⟨hf.1, hf.2, hPc (T.setVm vm₁) hT hW₁⟩)
  dsimp only [Pt.U, Pt.locs, Pt.cells, Pt.slots] at X' e1 e2 h1 h2 h3 st
  subst h1; subst h2; subst h3
  exact ⟨v, (T.setVm vm₁).calling g' mk (Value.ref b :: As).toArray, t, U', L, hT, X', hL, e1, e2, hq, st⟩
section
variable {y : MethodName} {bytes cc : ByteArray} {maxL nL mc ms n index : Nat} {ret : Option FieldType} {ws : List Cond} {rm : Room} {Pc : Array Value → State → Prop} {Qc : Array Value → State → Outcome → State → Prop} {XC : String → State → State → Prop} {free : Addr → Prop} {Ts : List Cond} {own C : String} {b : Addr} {As rest : List Value} {g : JFrame}
theorem vx_runVX {hh : List (Nat × Nat × Nat × Nat)} (S : CallFix p m c cc nL s args Ts own) (hM : vx_Met l y ws rm Pc Qc XC mc ms free) (cw : vx_CVW R s args own C index y bytes maxL ret hh ws rm mc ms n) (hp : PreV s H C b Pc As)
    (hg : g.method = m) (hn : As.length = n) (hsize : g.locals.size = nL) (hstack : g.stack = As.reverse ++ .ref b :: rest) (hW : 2 * g.monitorRoom + (rest.map fun v => v.category).sum ≤ 8) (hdg : decode cc g.pc = .ok (.invokevirtual index, 3)) (hf : cells + mc ≤ R.cells ∧ slots + ms ≤ R.slots) :
    vx_Run p l e R s m args below meth c H locs cells slots mc ms g rest (Qc (Value.ref b :: As).toArray) XC free := by
  obtain ⟨⟨hrc, hrs, hfr, hlo, hws, hcw⟩, hcode, hini, hy, hlen, hl, hin, hse⟩ := cw
  have hK : vx_Back l R p e below s args y 3 8 (PreOf R mc ms Pc) (PostOf Qc mc ms free) (vx_Post XC mc ms free) := vx_backW (hh := hh) (bytes := bytes) (maxL := maxL) (ret := ret) hM hp.1 hrc hrs hfr hlo hws hcw (fun a' U hW => word_at hW (Or.inl (by first | rfl | simp [Cond.onTables, Cond.keeps, Cond.steady])) hini)
  obtain ⟨hx, hb, hml, ho, -⟩ := S
  obtain ⟨-, ⟨cellB, hcB, hoB, hclB⟩, hPc⟩ := hp
  intro T hT X
  rcases vx_callVX X hx (C := C) (hh := hh) (bytes := bytes) (maxL := maxL) (ret := ret) ho hl hin hse hcode hy hK (by rw [hT]; exact hcB) hoB hclB hg (hsize.trans hml.symm) (argsL := As) (rest := rest) (fun sig h => hn.trans (hlen sig h)) hstack hW (by rw [hb]; exact hdg)
    (fun vm₁ hW₁ => ⟨hf.1, hf.2, hPc (T.setVm vm₁) hT hW₁⟩) with ⟨v, vm₁, ⟨U', l2, c2, s2⟩, hW₁, X', ⟨g', mk, t, L, e1, e2, hq, h1, hL, h2, h3⟩, st⟩ | ⟨q, vm₁, ⟨U', l2, c2, s2⟩, hW₁, X', ⟨g', mk, t, L, E, ce, e1, e2, hq, hce, hcv, hcl, h1, hL, h2, h3⟩, st⟩
  · dsimp only [Pt.U, Pt.locs, Pt.cells, Pt.slots] at X' e1 e2 h1 h2 h3 st
    subst h1; subst h2; subst h3
    exact Or.inl ⟨v, (T.setVm vm₁).calling g' mk (Value.ref b :: As).toArray, t, U', L, hT, X', hL, e1, e2, hq, st⟩
  · dsimp only [Pt.U, Pt.locs, Pt.cells, Pt.slots] at X' e1 e2 h1 h2 h3 st hcl
    subst h1; subst h2; subst h3
    exact Or.inr ⟨q, (T.setVm vm₁).calling g' mk (Value.ref b :: As).toArray, t, U', L, E, ce, hT, X', hL, e1, e2, hq, hce, hcv, vx_cls hW₁ hcl, st⟩
theorem vx_runSX {hh : List (Nat × Nat × Nat × Nat)} (S : CallFix p m c cc nL s args Ts own) (hM : vx_Met l y ws rm Pc Qc XC mc ms free) (cw : vx_CSW R s args own index y bytes maxL ret hh ws rm mc ms n) (hp : PreS s H Pc As)
    (hg : g.method = m) (hn : As.length = n) (hsize : g.locals.size = nL) (hstack : g.stack = As.reverse ++ rest) (hW : 2 * g.monitorRoom + (rest.map fun v => v.category).sum ≤ 8) (hdg : decode cc g.pc = .ok (.invokestatic index, 3)) (hf : cells + mc ≤ R.cells ∧ slots + ms ≤ R.slots) :
    vx_Run p l e R s m args below meth c H locs cells slots mc ms g rest (Qc As.toArray) XC free := by
  obtain ⟨⟨hrc, hrs, hfr, hlo, hws, hcw⟩, hcode, hini, hy, hlen, hl, hstt⟩ := cw
  have hK : vx_Back l R p e below s args y 3 8 (PreOf R mc ms Pc) (PostOf Qc mc ms free) (vx_Post XC mc ms free) := vx_backW (hh := hh) (bytes := bytes) (maxL := maxL) (ret := ret) hM hp.1 hrc hrs hfr hlo hws hcw (fun a' U hW => word_at hW (Or.inl (by first | rfl | simp [Cond.onTables, Cond.keeps, Cond.steady])) hini)
  obtain ⟨hx, hb, hml, ho, -⟩ := S
  intro T hT X
  rcases vx_callSX X hx (hh := hh) (bytes := bytes) (maxL := maxL) (ret := ret) ho hl hstt hini hcode hy hK hg (hsize.trans hml.symm) (argsL := As) (rest := rest) (fun sig h => hn.trans (hlen sig h)) hstack hW (by rw [hb]; exact hdg)
    (fun vm₁ hW₁ => ⟨hf.1, hf.2, hp.2 (T.setVm vm₁) hT hW₁⟩) with ⟨v, vm₁, ⟨U', l2, c2, s2⟩, hW₁, X', ⟨g', mk, t, L, e1, e2, hq, h1, hL, h2, h3⟩, st⟩ | ⟨q, vm₁, ⟨U', l2, c2, s2⟩, hW₁, X', ⟨g', mk, t, L, E, ce, e1, e2, hq, hce, hcv, hcl, h1, hL, h2, h3⟩, st⟩
  · dsimp only [Pt.U, Pt.locs, Pt.cells, Pt.slots] at X' e1 e2 h1 h2 h3 st
    subst h1; subst h2; subst h3
    exact Or.inl ⟨v, (T.setVm vm₁).calling g' mk As.toArray, t, U', L, hT, X', hL, e1, e2, hq, st⟩
  · dsimp only [Pt.U, Pt.locs, Pt.cells, Pt.slots] at X' e1 e2 h1 h2 h3 st hcl
    subst h1; subst h2; subst h3
    exact Or.inr ⟨q, (T.setVm vm₁).calling g' mk As.toArray, t, U', L, E, ce, hT, X', hL, e1, e2, hq, hce, hcv, vx_cls hW₁ hcl, st⟩
end
end VXH
theorem vx_ofWH {l : Launch} {y : MethodName} {ws ws' : List Cond} {rm : Room} {Pc : Array Value → State → Prop} {Qc : Array Value → State → Outcome → State → Prop} {XC : String → State → State → Prop} {mc ms : Nat} {free : Addr → Prop} {cc : ByteArray} {maxL : Nat} {ret : Option FieldType} {hh : List (Nat × Nat × Nat × Nat)}
    (hy : plainName y.cls = true) (hw : ws = Cond.codeWith y cc maxL ret hh :: ws')
    (body : ∀ p e s m args below meth c s₁, BodyLoose p l y (headSpec ws rm) cc maxL ret e s m args below meth c s₁ → c.maxLocals = maxL → Pc args s →
      W p l e (headSpec ws rm).room s m args below meth c s.heap [] 0 0 (vx_MQ below Qc XC args s mc ms free) (entryFrame m args maxL)) : vx_Met l y ws rm Pc Qc XC mc ms free := by
  refine MetFree.of_bodyS (code := cc) (maxLocals := maxL) (ret := ret) hy ?_ ?_
  · intro args s m h hn
    obtain ⟨m9, meth, c, hn9, h1, h2, h3, h4, -, h5, h6, -⟩ := Cond.codeWith_spec (atoms_spec (ws := ws) h _ (by rw [hw]; exact List.mem_cons_self))
    cases hn.symm.trans hn9
    exact ⟨meth, c, h1, h2, h3, h4, h5, h6⟩
  · intro p e s m args below meth c s₁ B hml hP _
    have hh0 : s₁.heap = s.heap := by rw [B.state]; rfl
    obtain ⟨t, a1, o, b1, b2, b3⟩ := body p e s m args below meth c s₁ B hml hP s₁ hh0 (Stand.of_body B)
    exact ⟨t, o, a1, b1, b2, b3⟩
/-! ===== END ===== -/
end
section
/-! ===== BEGIN printed: names, fields, word lists, decode rows ===== -/
def RX0 : String := "GhostGame$Dictionary"
def TX0 : u_T := fun k => match k with
  | 0 => ("GhostGame$Dictionary", "words", "[J", true)
  | 1 => ("GhostGame$Dictionary", "count", "I", false)
  | _ => ("GhostGame$Dictionary", "leastLength", "I", false)
def tyX0 : Nat → FieldType := fun k => match k with
  | 0 => .array .long
  | 1 => .int
  | _ => .int
abbrev wsX00 : List Cond := u_ws RX0 TX0 3
theorem nmX0 : ∀ a, a < 3 → ∀ b, b < 3 → a ≠ b → (TX0 a).2.1 ≠ (TX0 b).2.1 := by decide +kernel
theorem tyX0_ok : ∀ k, k < 3 → parseFieldDescriptor (TX0 k).2.2.1 = some (tyX0 k) := by decide +kernel
abbrev cX0_init : ByteArray := prog_2_method_1_code
def yX0_init : MethodName := ⟨RX0, "<init>", "()V"⟩
abbrev cX0_size : ByteArray := prog_2_method_2_code
def yX0_size : MethodName := ⟨RX0, "size", "()I"⟩
abbrev cX0_has : ByteArray := prog_2_method_3_code
def yX0_has : MethodName := ⟨RX0, "has", "(J)Z"⟩
abbrev cX0_wordAt : ByteArray := prog_2_method_4_code
def yX0_wordAt : MethodName := ⟨RX0, "wordAt", "(I)J"⟩
abbrev cX0_add : ByteArray := prog_2_method_5_code
def yX0_add : MethodName := ⟨RX0, "add", "(J)Z"⟩
abbrev cX0_remove : ByteArray := prog_2_method_6_code
def yX0_remove : MethodName := ⟨RX0, "remove", "(J)Z"⟩
abbrev cX0_countFrom : ByteArray := prog_2_method_7_code
def yX0_countFrom : MethodName := ⟨RX0, "countFrom", "(J)I"⟩
abbrev cX0_countBeginnings : ByteArray := prog_2_method_8_code
def yX0_countBeginnings : MethodName := ⟨RX0, "countBeginnings", "()I"⟩
abbrev cX0_changeLeastLength : ByteArray := prog_2_method_9_code
def yX0_changeLeastLength : MethodName := ⟨RX0, "changeLeastLength", "(I)I"⟩
abbrev cX0_isLongEnough : ByteArray := prog_2_method_10_code
def yX0_isLongEnough : MethodName := ⟨RX0, "isLongEnough", "(J)Z"⟩
abbrev cX0_hasCounting : ByteArray := prog_2_method_11_code
def yX0_hasCounting : MethodName := ⟨RX0, "hasCounting", "(J)Z"⟩
abbrev cX0_hasCountingFrom : ByteArray := prog_2_method_12_code
def yX0_hasCountingFrom : MethodName := ⟨RX0, "hasCountingFrom", "(J)Z"⟩
abbrev cX0_placeOf : ByteArray := prog_2_method_13_code
def yX0_placeOf : MethodName := ⟨RX0, "placeOf", "(J)I"⟩
abbrev cX0_lengthSharedBefore : ByteArray := prog_2_method_14_code
def yX0_lengthSharedBefore : MethodName := ⟨RX0, "lengthSharedBefore", "(I)I"⟩
def RX1 : String := "GhostGame$Game"
def TX1 : u_T := fun k => match k with
  | 0 => ("GhostGame$Game", "strikes", "[I", true)
  | 1 => ("GhostGame$Game", "playerCount", "I", false)
  | 2 => ("GhostGame$Game", "mover", "I", false)
  | 3 => ("GhostGame$Game", "lastMover", "I", false)
  | 4 => ("GhostGame$Game", "champion", "I", false)
  | _ => ("GhostGame$Game", "fragment", "J", false)
def tyX1 : Nat → FieldType := fun k => match k with
  | 0 => .array .int
  | 1 => .int
  | 2 => .int
  | 3 => .int
  | 4 => .int
  | _ => .long
abbrev wsX10 : List Cond := u_ws RX1 TX1 6
theorem nmX1 : ∀ a, a < 6 → ∀ b, b < 6 → a ≠ b → (TX1 a).2.1 ≠ (TX1 b).2.1 := by decide +kernel
theorem tyX1_ok : ∀ k, k < 6 → parseFieldDescriptor (TX1 k).2.2.1 = some (tyX1 k) := by decide +kernel
abbrev cX1_init : ByteArray := prog_3_method_1_code
def yX1_init : MethodName := ⟨RX1, "<init>", "()V"⟩
abbrev cX1_begin : ByteArray := prog_3_method_2_code
def yX1_begin : MethodName := ⟨RX1, "begin", "(I)V"⟩
abbrev cX1_isOn : ByteArray := prog_3_method_3_code
def yX1_isOn : MethodName := ⟨RX1, "isOn", "()Z"⟩
abbrev cX1_mover : ByteArray := prog_3_method_4_code
def yX1_mover : MethodName := ⟨RX1, "mover", "()I"⟩
abbrev cX1_champion : ByteArray := prog_3_method_5_code
def yX1_champion : MethodName := ⟨RX1, "champion", "()I"⟩
abbrev cX1_playerCount : ByteArray := prog_3_method_6_code
def yX1_playerCount : MethodName := ⟨RX1, "playerCount", "()I"⟩
abbrev cX1_fragment : ByteArray := prog_3_method_7_code
def yX1_fragment : MethodName := ⟨RX1, "fragment", "()J"⟩
abbrev cX1_strikesOf : ByteArray := prog_3_method_8_code
def yX1_strikesOf : MethodName := ⟨RX1, "strikesOf", "(I)I"⟩
abbrev cX1_addLetter : ByteArray := prog_3_method_9_code
def yX1_addLetter : MethodName := ⟨RX1, "addLetter", "(ILGhostGame$Dictionary;)I"⟩
abbrev cX1_settleChallenge : ByteArray := prog_3_method_10_code
def yX1_settleChallenge : MethodName := ⟨RX1, "settleChallenge", "(LGhostGame$Dictionary;)I"⟩
abbrev cX1_endRound : ByteArray := prog_3_method_11_code
def yX1_endRound : MethodName := ⟨RX1, "endRound", "(I)I"⟩
abbrev cX1_hasPlayer : ByteArray := prog_3_method_12_code
def yX1_hasPlayer : MethodName := ⟨RX1, "hasPlayer", "(I)Z"⟩
abbrev cX1_isOut : ByteArray := prog_3_method_13_code
def yX1_isOut : MethodName := ⟨RX1, "isOut", "(I)Z"⟩
abbrev cX1_playersLeft : ByteArray := prog_3_method_14_code
def yX1_playersLeft : MethodName := ⟨RX1, "playersLeft", "()I"⟩
abbrev cX1_nextBehind : ByteArray := prog_3_method_15_code
def yX1_nextBehind : MethodName := ⟨RX1, "nextBehind", "(I)I"⟩
def RX2 : String := "GhostGame$Row"
def TX2 : u_T := fun k => match k with
  | _ => ("", "", "", false)
def tyX2 : Nat → FieldType := fun k => match k with
  | _ => .int
abbrev wsX20 : List Cond := u_ws RX2 TX2 0
theorem nmX2 : ∀ a, a < 0 → ∀ b, b < 0 → a ≠ b → (TX2 a).2.1 ≠ (TX2 b).2.1 := by decide +kernel
theorem tyX2_ok : ∀ k, k < 0 → parseFieldDescriptor (TX2 k).2.2.1 = some (tyX2 k) := by decide +kernel
abbrev cX2_lengthOf : ByteArray := prog_4_method_2_code
def yX2_lengthOf : MethodName := ⟨RX2, "lengthOf", "(J)I"⟩
abbrev cX2_isFull : ByteArray := prog_4_method_3_code
def yX2_isFull : MethodName := ⟨RX2, "isFull", "(J)Z"⟩
abbrev cX2_letterAt : ByteArray := prog_4_method_4_code
def yX2_letterAt : MethodName := ⟨RX2, "letterAt", "(JI)I"⟩
abbrev cX2_with : ByteArray := prog_4_method_5_code
def yX2_with : MethodName := ⟨RX2, "with", "(JI)J"⟩
abbrev cX2_beginning : ByteArray := prog_4_method_6_code
def yX2_beginning : MethodName := ⟨RX2, "beginning", "(JI)J"⟩
abbrev cX2_beginsWith : ByteArray := prog_4_method_7_code
def yX2_beginsWith : MethodName := ⟨RX2, "beginsWith", "(JJ)Z"⟩
abbrev cX2_lengthShared : ByteArray := prog_4_method_8_code
def yX2_lengthShared : MethodName := ⟨RX2, "lengthShared", "(JJ)I"⟩
abbrev cX2_pack : ByteArray := prog_4_method_9_code
def yX2_pack : MethodName := ⟨RX2, "pack", "(IJ)J"⟩
def RX3 : String := "GhostGame$Solver"
def TX3 : u_T := fun k => match k with
  | _ => ("", "", "", false)
def tyX3 : Nat → FieldType := fun k => match k with
  | _ => .int
abbrev wsX30 : List Cond := u_ws RX3 TX3 0
theorem nmX3 : ∀ a, a < 0 → ∀ b, b < 0 → a ≠ b → (TX3 a).2.1 ≠ (TX3 b).2.1 := by decide +kernel
theorem tyX3_ok : ∀ k, k < 0 → parseFieldDescriptor (TX3 k).2.2.1 = some (tyX3 k) := by decide +kernel
abbrev cX3_lettersOpenBehind : ByteArray := prog_5_method_2_code
def yX3_lettersOpenBehind : MethodName := ⟨RX3, "lettersOpenBehind", "(LGhostGame$Dictionary;J)I"⟩
abbrev cX3_lettersWinningBehind : ByteArray := prog_5_method_3_code
def yX3_lettersWinningBehind : MethodName := ⟨RX3, "lettersWinningBehind", "(LGhostGame$Dictionary;J)I"⟩
abbrev cX3_moverWins : ByteArray := prog_5_method_4_code
def yX3_moverWins : MethodName := ⟨RX3, "moverWins", "(LGhostGame$Dictionary;J)Z"⟩
abbrev cX3_endBehind : ByteArray := prog_5_method_5_code
def yX3_endBehind : MethodName := ⟨RX3, "endBehind", "(LGhostGame$Dictionary;J)I"⟩
abbrev cX3_letterChosenBehind : ByteArray := prog_5_method_6_code
def yX3_letterChosenBehind : MethodName := ⟨RX3, "letterChosenBehind", "(LGhostGame$Dictionary;J)I"⟩
abbrev cX3_countWays : ByteArray := prog_5_method_7_code
def yX3_countWays : MethodName := ⟨RX3, "countWays", "(LGhostGame$Dictionary;J)I"⟩
abbrev cX3_countWonWays : ByteArray := prog_5_method_8_code
def yX3_countWonWays : MethodName := ⟨RX3, "countWonWays", "(LGhostGame$Dictionary;J)I"⟩
abbrev cX3_score : ByteArray := prog_5_method_9_code
def yX3_score : MethodName := ⟨RX3, "score", "(LGhostGame$Dictionary;J)I"⟩
abbrev cX3_scoreOfLetter : ByteArray := prog_5_method_10_code
def yX3_scoreOfLetter : MethodName := ⟨RX3, "scoreOfLetter", "(LGhostGame$Dictionary;JI)I"⟩
abbrev cX3_leadsOn : ByteArray := prog_5_method_11_code
def yX3_leadsOn : MethodName := ⟨RX3, "leadsOn", "(LGhostGame$Dictionary;JJ)Z"⟩
abbrev cX3_isWay : ByteArray := prog_5_method_12_code
def yX3_isWay : MethodName := ⟨RX3, "isWay", "(LGhostGame$Dictionary;JJ)Z"⟩
abbrev cX3_otherSideCompletes : ByteArray := prog_5_method_13_code
def yX3_otherSideCompletes : MethodName := ⟨RX3, "otherSideCompletes", "(JJ)Z"⟩
abbrev cX3_isIn : ByteArray := prog_5_method_14_code
def yX3_isIn : MethodName := ⟨RX3, "isIn", "(II)Z"⟩
def RX4 : String := "GhostGame"
def TX4 : u_T := fun k => match k with
  | 0 => ("GhostGame", "dictionary", "LGhostGame$Dictionary;", true)
  | 1 => ("GhostGame", "game", "LGhostGame$Game;", true)
  | _ => ("GhostGame", "slip", "J", false)
def tyX4 : Nat → FieldType := fun k => match k with
  | 0 => .object "GhostGame$Dictionary"
  | 1 => .object "GhostGame$Game"
  | _ => .long
abbrev wsX40 : List Cond := u_ws RX4 TX4 3
theorem nmX4 : ∀ a, a < 3 → ∀ b, b < 3 → a ≠ b → (TX4 a).2.1 ≠ (TX4 b).2.1 := by decide +kernel
theorem tyX4_ok : ∀ k, k < 3 → parseFieldDescriptor (TX4 k).2.2.1 = some (tyX4 k) := by decide +kernel
abbrev cX4_init : ByteArray := prog_1_method_1_code
def yX4_init : MethodName := ⟨RX4, "<init>", "()V"⟩
abbrev cX4_write : ByteArray := prog_1_method_2_code
def yX4_write : MethodName := ⟨RX4, "write", "(I)I"⟩
abbrev cX4_wipe : ByteArray := prog_1_method_3_code
def yX4_wipe : MethodName := ⟨RX4, "wipe", "()I"⟩
abbrev cX4_slipLength : ByteArray := prog_1_method_4_code
def yX4_slipLength : MethodName := ⟨RX4, "slipLength", "()I"⟩
abbrev cX4_slipAt : ByteArray := prog_1_method_5_code
def yX4_slipAt : MethodName := ⟨RX4, "slipAt", "(I)I"⟩
abbrev cX4_addWord : ByteArray := prog_1_method_6_code
def yX4_addWord : MethodName := ⟨RX4, "addWord", "()I"⟩
abbrev cX4_removeWord : ByteArray := prog_1_method_7_code
def yX4_removeWord : MethodName := ⟨RX4, "removeWord", "()I"⟩
abbrev cX4_isWord : ByteArray := prog_1_method_8_code
def yX4_isWord : MethodName := ⟨RX4, "isWord", "()Z"⟩
abbrev cX4_words : ByteArray := prog_1_method_9_code
def yX4_words : MethodName := ⟨RX4, "words", "()I"⟩
abbrev cX4_wordsFromSlip : ByteArray := prog_1_method_10_code
def yX4_wordsFromSlip : MethodName := ⟨RX4, "wordsFromSlip", "()I"⟩
abbrev cX4_beginnings : ByteArray := prog_1_method_11_code
def yX4_beginnings : MethodName := ⟨RX4, "beginnings", "()I"⟩
abbrev cX4_copyWord : ByteArray := prog_1_method_12_code
def yX4_copyWord : MethodName := ⟨RX4, "copyWord", "(I)I"⟩
abbrev cX4_setLeastLength : ByteArray := prog_1_method_13_code
def yX4_setLeastLength : MethodName := ⟨RX4, "setLeastLength", "(I)I"⟩
abbrev cX4_start : ByteArray := prog_1_method_14_code
def yX4_start : MethodName := ⟨RX4, "start", "(I)V"⟩
abbrev cX4_play : ByteArray := prog_1_method_15_code
def yX4_play : MethodName := ⟨RX4, "play", "(I)I"⟩
abbrev cX4_challenge : ByteArray := prog_1_method_16_code
def yX4_challenge : MethodName := ⟨RX4, "challenge", "()I"⟩
abbrev cX4_turn : ByteArray := prog_1_method_17_code
def yX4_turn : MethodName := ⟨RX4, "turn", "()I"⟩
abbrev cX4_winner : ByteArray := prog_1_method_18_code
def yX4_winner : MethodName := ⟨RX4, "winner", "()I"⟩
abbrev cX4_players : ByteArray := prog_1_method_19_code
def yX4_players : MethodName := ⟨RX4, "players", "()I"⟩
abbrev cX4_strikes : ByteArray := prog_1_method_20_code
def yX4_strikes : MethodName := ⟨RX4, "strikes", "(I)I"⟩
abbrev cX4_fragmentLength : ByteArray := prog_1_method_21_code
def yX4_fragmentLength : MethodName := ⟨RX4, "fragmentLength", "()I"⟩
abbrev cX4_fragmentAt : ByteArray := prog_1_method_22_code
def yX4_fragmentAt : MethodName := ⟨RX4, "fragmentAt", "(I)I"⟩
abbrev cX4_openLetters : ByteArray := prog_1_method_23_code
def yX4_openLetters : MethodName := ⟨RX4, "openLetters", "()I"⟩
abbrev cX4_winningLetters : ByteArray := prog_1_method_24_code
def yX4_winningLetters : MethodName := ⟨RX4, "winningLetters", "()I"⟩
abbrev cX4_canWin : ByteArray := prog_1_method_25_code
def yX4_canWin : MethodName := ⟨RX4, "canWin", "()Z"⟩
abbrev cX4_end : ByteArray := prog_1_method_26_code
def yX4_end : MethodName := ⟨RX4, "end", "()I"⟩
abbrev cX4_bestLetter : ByteArray := prog_1_method_27_code
def yX4_bestLetter : MethodName := ⟨RX4, "bestLetter", "()I"⟩
abbrev cX4_waysToPlay : ByteArray := prog_1_method_28_code
def yX4_waysToPlay : MethodName := ⟨RX4, "waysToPlay", "()I"⟩
abbrev cX4_waysToWin : ByteArray := prog_1_method_29_code
def yX4_waysToWin : MethodName := ⟨RX4, "waysToWin", "()I"⟩
abbrev cX4_isLetter : ByteArray := prog_1_method_30_code
def yX4_isLetter : MethodName := ⟨RX4, "isLetter", "(I)Z"⟩
def RX5 : String := "GhostGameModel"
def TX5 : u_T := fun k => match k with
  | _ => ("", "", "", false)
def tyX5 : Nat → FieldType := fun k => match k with
  | _ => .int
abbrev wsX50 : List Cond := u_ws RX5 TX5 0
theorem nmX5 : ∀ a, a < 0 → ∀ b, b < 0 → a ≠ b → (TX5 a).2.1 ≠ (TX5 b).2.1 := by decide +kernel
theorem tyX5_ok : ∀ k, k < 0 → parseFieldDescriptor (TX5 k).2.2.1 = some (tyX5 k) := by decide +kernel
def RJ9 : String := "java/lang/Math"
def TJ9 : u_T := fun k => match k with
  | _ => ("", "", "", false)
def tyJ9 : Nat → FieldType := fun k => match k with
  | _ => .int
abbrev wsJ90 : List Cond := u_ws RJ9 TJ9 0
theorem nmJ9 : ∀ a, a < 0 → ∀ b, b < 0 → a ≠ b → (TJ9 a).2.1 ≠ (TJ9 b).2.1 := by decide +kernel
theorem tyJ9_ok : ∀ k, k < 0 → parseFieldDescriptor (TJ9 k).2.2.1 = some (tyJ9 k) := by decide +kernel
abbrev cJ9_abs_0f7a4 : ByteArray := prog_12_method_59_code
def yJ9_abs_0f7a4 : MethodName := ⟨RJ9, "abs", "(I)I"⟩
abbrev cJ9_max_7cf53 : ByteArray := prog_12_method_65_code
def yJ9_max_7cf53 : MethodName := ⟨RJ9, "max", "(II)I"⟩
abbrev cJ9_min_7cf53 : ByteArray := prog_12_method_69_code
def yJ9_min_7cf53 : MethodName := ⟨RJ9, "min", "(II)I"⟩
def RJ0 : String := "java/lang/String"
def TJ0 : u_T := fun k => match k with
  | _ => ("", "", "", false)
def tyJ0 : Nat → FieldType := fun k => match k with
  | _ => .int
abbrev wsJ00 : List Cond := u_ws RJ0 TJ0 0
theorem nmJ0 : ∀ a, a < 0 → ∀ b, b < 0 → a ≠ b → (TJ0 a).2.1 ≠ (TJ0 b).2.1 := by decide +kernel
theorem tyJ0_ok : ∀ k, k < 0 → parseFieldDescriptor (TJ0 k).2.2.1 = some (tyJ0 k) := by decide +kernel
def RL : String := "GhostGameLaw"
abbrev cL_drawn : ByteArray := method_2_code
def yL_drawn : MethodName := ⟨RL, "drawn", "([II)I"⟩
abbrev cL_with : ByteArray := method_3_code
def yL_with : MethodName := ⟨RL, "with", "(LGhostGame;ZI)I"⟩
abbrev cL_does : ByteArray := method_4_code
def yL_does : MethodName := ⟨RL, "does", "(LGhostGame;I)I"⟩
abbrev cL_at : ByteArray := method_5_code
def yL_at : MethodName := ⟨RL, "at", "(LGhostGame;II)I"⟩
abbrev cL_least : ByteArray := method_6_code
def yL_least : MethodName := ⟨RL, "least", "(LGhostGame;I)I"⟩
abbrev cL_starts : ByteArray := method_7_code
def yL_starts : MethodName := ⟨RL, "starts", "(LGhostGame;I)Z"⟩
abbrev cL_areAlike : ByteArray := method_8_code
def yL_areAlike : MethodName := ⟨RL, "areAlike", "(LGhostGame;LGhostGame;I)Z"⟩
abbrev cL_law : ByteArray := code
def yL_law : MethodName := ⟨RL, "law", "([I)Z"⟩
def wsX0_init : List Cond := .code yX0_init cX0_init 1 none :: ([.methodLink RX0 3 objectInit, .instanceMethod objectInit, .code objectInit ⟨#[0xb1]⟩ 1 none, .arrayClass .long, .fieldLink RX0 9 "GhostGame$Dictionary" "words" "[J", .fieldLink RX0 15 "GhostGame$Dictionary" "count" "I", .fieldLink RX0 19 "GhostGame$Dictionary" "leastLength" "I"] ++ wsX00)
def wsX0_size : List Cond := .code yX0_size cX0_size 1 (some .int) :: ([.fieldLink RX0 15 "GhostGame$Dictionary" "count" "I"] ++ wsX00)
def wsX0_placeOf : List Cond := .code yX0_placeOf cX0_placeOf 4 (some .int) :: ([.fieldLink RX0 15 "GhostGame$Dictionary" "count" "I", .fieldLink RX0 9 "GhostGame$Dictionary" "words" "[J"] ++ wsX00)
def wsX0_has : List Cond := .code yX0_has cX0_has 3 (some .boolean) :: ([.methodLink RX0 22 yX0_placeOf, .instanceMethod yX0_placeOf, .selects RX0 yX0_placeOf yX0_placeOf, .initialized RX0, .code yX0_placeOf cX0_placeOf 4 (some .int), .fieldLink RX0 15 "GhostGame$Dictionary" "count" "I", .fieldLink RX0 9 "GhostGame$Dictionary" "words" "[J"] ++ wsX00)
def wsX0_wordAt : List Cond := .code yX0_wordAt cX0_wordAt 2 (some .long) :: ([.fieldLink RX0 15 "GhostGame$Dictionary" "count" "I", .fieldLink RX0 9 "GhostGame$Dictionary" "words" "[J"] ++ wsX00)
def wsX0_add : List Cond := .code yX0_add cX0_add 4 (some .boolean) :: ([.fieldLink RX0 15 "GhostGame$Dictionary" "count" "I", .fieldLink RX0 9 "GhostGame$Dictionary" "words" "[J", .methodLink RX0 28 yX0_has, .instanceMethod yX0_has, .selects RX0 yX0_has yX0_has, .initialized RX0, .code yX0_has cX0_has 3 (some .boolean), .methodLink RX0 22 yX0_placeOf, .instanceMethod yX0_placeOf, .selects RX0 yX0_placeOf yX0_placeOf, .code yX0_placeOf cX0_placeOf 4 (some .int)] ++ wsX00)
def wsX0_remove : List Cond := .code yX0_remove cX0_remove 5 (some .boolean) :: ([.fieldLink RX0 15 "GhostGame$Dictionary" "count" "I", .fieldLink RX0 9 "GhostGame$Dictionary" "words" "[J", .methodLink RX0 22 yX0_placeOf, .instanceMethod yX0_placeOf, .selects RX0 yX0_placeOf yX0_placeOf, .initialized RX0, .code yX0_placeOf cX0_placeOf 4 (some .int)] ++ wsX00)
def wsX2_lengthOf : List Cond := .code yX2_lengthOf cX2_lengthOf 2 (some .int) :: ([])
def wsX2_beginsWith : List Cond := .code yX2_beginsWith cX2_beginsWith 5 (some .boolean) :: ([.constantLong RX2 15 (1125899906842623), .methodLink RX2 11 yX2_lengthOf, .static yX2_lengthOf, .initialized RX2, .code yX2_lengthOf cX2_lengthOf 2 (some .int)])
def wsX0_countFrom : List Cond := .code yX0_countFrom cX0_countFrom 5 (some .int) :: ([.fieldLink RX0 15 "GhostGame$Dictionary" "count" "I", .fieldLink RX0 9 "GhostGame$Dictionary" "words" "[J", .methodLink RX0 32 yX2_beginsWith, .static yX2_beginsWith, .initialized RX2, .code yX2_beginsWith cX2_beginsWith 5 (some .boolean), .constantLong RX2 15 (1125899906842623), .methodLink RX2 11 yX2_lengthOf, .static yX2_lengthOf, .code yX2_lengthOf cX2_lengthOf 2 (some .int)] ++ wsX00)
def wsX2_pack : List Cond := .code yX2_pack cX2_pack 3 (some .long) :: ([])
def wsX2_beginning : List Cond := .code yX2_beginning cX2_beginning 4 (some .long) :: ([.constantLong RX2 15 (1125899906842623), .methodLink RX2 11 yX2_lengthOf, .static yX2_lengthOf, .initialized RX2, .code yX2_lengthOf cX2_lengthOf 2 (some .int), .methodLink RX2 17 yX2_pack, .static yX2_pack, .code yX2_pack cX2_pack 3 (some .long)])
def wsX2_lengthShared : List Cond := .code yX2_lengthShared cX2_lengthShared 5 (some .int) :: ([.methodLink RX2 21 Lib.Math.min.name, .static Lib.Math.min.name, .initialized "java/lang/Math", .code Lib.Math.min.name Lib.Math.min.code 2 (some .int), .methodLink RX2 11 yX2_lengthOf, .static yX2_lengthOf, .initialized RX2, .code yX2_lengthOf cX2_lengthOf 2 (some .int), .methodLink RX2 27 yX2_beginning, .static yX2_beginning, .code yX2_beginning cX2_beginning 4 (some .long), .constantLong RX2 15 (1125899906842623), .methodLink RX2 17 yX2_pack, .static yX2_pack, .code yX2_pack cX2_pack 3 (some .long)])
def wsX0_lengthSharedBefore : List Cond := .code yX0_lengthSharedBefore cX0_lengthSharedBefore 4 (some .int) :: ([.fieldLink RX0 9 "GhostGame$Dictionary" "words" "[J", .methodLink RX0 50 Lib.Math.max.name, .static Lib.Math.max.name, .initialized "java/lang/Math", .code Lib.Math.max.name Lib.Math.max.code 2 (some .int), .methodLink RX0 46 yX2_lengthShared, .static yX2_lengthShared, .initialized RX2, .code yX2_lengthShared cX2_lengthShared 5 (some .int), .methodLink RX2 21 Lib.Math.min.name, .static Lib.Math.min.name, .code Lib.Math.min.name Lib.Math.min.code 2 (some .int), .methodLink RX2 11 yX2_lengthOf, .static yX2_lengthOf, .code yX2_lengthOf cX2_lengthOf 2 (some .int), .methodLink RX2 27 yX2_beginning, .static yX2_beginning, .code yX2_beginning cX2_beginning 4 (some .long), .constantLong RX2 15 (1125899906842623), .methodLink RX2 17 yX2_pack, .static yX2_pack, .code yX2_pack cX2_pack 3 (some .long)] ++ wsX00)
def wsX0_countBeginnings_r1 : List Cond := [Cond.fieldLink RX0 15 "GhostGame$Dictionary" "count" "I", Cond.fieldLink RX0 9 "GhostGame$Dictionary" "words" "[J", Cond.methodLink RX0 36 yX2_lengthOf, Cond.static yX2_lengthOf, Cond.initialized RX2, Cond.code yX2_lengthOf cX2_lengthOf 2 (some .int), Cond.methodLink RX0 39 yX0_lengthSharedBefore, Cond.instanceMethod yX0_lengthSharedBefore, Cond.selects RX0 yX0_lengthSharedBefore yX0_lengthSharedBefore, Cond.initialized RX0, Cond.code yX0_lengthSharedBefore cX0_lengthSharedBefore 4 (some .int), Cond.methodLink RX0 50 Lib.Math.max.name, Cond.static Lib.Math.max.name, Cond.initialized "java/lang/Math", Cond.code Lib.Math.max.name Lib.Math.max.code 2 (some .int), Cond.methodLink RX0 46 yX2_lengthShared, Cond.static yX2_lengthShared, Cond.code yX2_lengthShared cX2_lengthShared 5 (some .int), Cond.methodLink RX2 21 Lib.Math.min.name, Cond.static Lib.Math.min.name, Cond.code Lib.Math.min.name Lib.Math.min.code 2 (some .int), Cond.methodLink RX2 11 yX2_lengthOf, Cond.methodLink RX2 27 yX2_beginning, Cond.static yX2_beginning]
def wsX0_countBeginnings_r2 : List Cond := [Cond.code yX2_beginning cX2_beginning 4 (some .long), Cond.constantLong RX2 15 (1125899906842623), Cond.methodLink RX2 17 yX2_pack, Cond.static yX2_pack, Cond.code yX2_pack cX2_pack 3 (some .long)]
def wsX0_countBeginnings : List Cond := .code yX0_countBeginnings cX0_countBeginnings 3 (some .int) :: ((wsX0_countBeginnings_r1 ++ wsX0_countBeginnings_r2) ++ wsX00)
def wsX0_changeLeastLength : List Cond := .code yX0_changeLeastLength cX0_changeLeastLength 3 (some .int) :: ([.fieldLink RX0 19 "GhostGame$Dictionary" "leastLength" "I"] ++ wsX00)
def wsX0_isLongEnough : List Cond := .code yX0_isLongEnough cX0_isLongEnough 3 (some .boolean) :: ([.fieldLink RX0 19 "GhostGame$Dictionary" "leastLength" "I", .methodLink RX0 36 yX2_lengthOf, .static yX2_lengthOf, .initialized RX2, .code yX2_lengthOf cX2_lengthOf 2 (some .int)] ++ wsX00)
def wsX0_hasCounting : List Cond := .code yX0_hasCounting cX0_hasCounting 3 (some .boolean) :: ([.methodLink RX0 43 yX0_isLongEnough, .instanceMethod yX0_isLongEnough, .selects RX0 yX0_isLongEnough yX0_isLongEnough, .initialized RX0, .code yX0_isLongEnough cX0_isLongEnough 3 (some .boolean), .fieldLink RX0 19 "GhostGame$Dictionary" "leastLength" "I", .methodLink RX0 36 yX2_lengthOf, .static yX2_lengthOf, .initialized RX2, .code yX2_lengthOf cX2_lengthOf 2 (some .int), .methodLink RX0 28 yX0_has, .instanceMethod yX0_has, .selects RX0 yX0_has yX0_has, .code yX0_has cX0_has 3 (some .boolean), .methodLink RX0 22 yX0_placeOf, .instanceMethod yX0_placeOf, .selects RX0 yX0_placeOf yX0_placeOf, .code yX0_placeOf cX0_placeOf 4 (some .int), .fieldLink RX0 15 "GhostGame$Dictionary" "count" "I", .fieldLink RX0 9 "GhostGame$Dictionary" "words" "[J"] ++ wsX00)
def wsX0_hasCountingFrom : List Cond := .code yX0_hasCountingFrom cX0_hasCountingFrom 4 (some .boolean) :: ([.fieldLink RX0 15 "GhostGame$Dictionary" "count" "I", .fieldLink RX0 9 "GhostGame$Dictionary" "words" "[J", .methodLink RX0 43 yX0_isLongEnough, .instanceMethod yX0_isLongEnough, .selects RX0 yX0_isLongEnough yX0_isLongEnough, .initialized RX0, .code yX0_isLongEnough cX0_isLongEnough 3 (some .boolean), .fieldLink RX0 19 "GhostGame$Dictionary" "leastLength" "I", .methodLink RX0 36 yX2_lengthOf, .static yX2_lengthOf, .initialized RX2, .code yX2_lengthOf cX2_lengthOf 2 (some .int), .methodLink RX0 32 yX2_beginsWith, .static yX2_beginsWith, .code yX2_beginsWith cX2_beginsWith 5 (some .boolean), .constantLong RX2 15 (1125899906842623), .methodLink RX2 11 yX2_lengthOf] ++ wsX00)
def wsX1_init : List Cond := .code yX1_init cX1_init 1 none :: ([.methodLink RX1 3 objectInit, .instanceMethod objectInit, .code objectInit ⟨#[0xb1]⟩ 1 none, .arrayClass .int, .fieldLink RX1 9 "GhostGame$Game" "strikes" "[I", .fieldLink RX1 15 "GhostGame$Game" "playerCount" "I", .fieldLink RX1 19 "GhostGame$Game" "mover" "I", .fieldLink RX1 22 "GhostGame$Game" "lastMover" "I", .fieldLink RX1 25 "GhostGame$Game" "champion" "I", .fieldLink RX1 30 "GhostGame$Game" "fragment" "J"] ++ wsX10)
def wsX1_begin : List Cond := .code yX1_begin cX1_begin 3 none :: ([.fieldLink RX1 9 "GhostGame$Game" "strikes" "[I", .fieldLink RX1 15 "GhostGame$Game" "playerCount" "I", .fieldLink RX1 19 "GhostGame$Game" "mover" "I", .fieldLink RX1 22 "GhostGame$Game" "lastMover" "I", .fieldLink RX1 25 "GhostGame$Game" "champion" "I", .fieldLink RX1 30 "GhostGame$Game" "fragment" "J"] ++ wsX10)
def wsX1_isOn : List Cond := .code yX1_isOn cX1_isOn 1 (some .boolean) :: ([.fieldLink RX1 19 "GhostGame$Game" "mover" "I"] ++ wsX10)
def wsX1_mover : List Cond := .code yX1_mover cX1_mover 1 (some .int) :: ([.fieldLink RX1 19 "GhostGame$Game" "mover" "I"] ++ wsX10)
def wsX1_champion : List Cond := .code yX1_champion cX1_champion 1 (some .int) :: ([.fieldLink RX1 25 "GhostGame$Game" "champion" "I"] ++ wsX10)
def wsX1_playerCount : List Cond := .code yX1_playerCount cX1_playerCount 1 (some .int) :: ([.fieldLink RX1 15 "GhostGame$Game" "playerCount" "I"] ++ wsX10)
def wsX1_fragment : List Cond := .code yX1_fragment cX1_fragment 1 (some .long) :: ([.fieldLink RX1 30 "GhostGame$Game" "fragment" "J"] ++ wsX10)
def wsX1_hasPlayer : List Cond := .code yX1_hasPlayer cX1_hasPlayer 2 (some .boolean) :: ([.fieldLink RX1 15 "GhostGame$Game" "playerCount" "I", .fieldLink RX1 9 "GhostGame$Game" "strikes" "[I"] ++ wsX10)
def wsX1_strikesOf : List Cond := .code yX1_strikesOf cX1_strikesOf 2 (some .int) :: ([.fieldLink RX1 9 "GhostGame$Game" "strikes" "[I", .methodLink RX1 34 yX1_hasPlayer, .instanceMethod yX1_hasPlayer, .selects RX1 yX1_hasPlayer yX1_hasPlayer, .initialized RX1, .code yX1_hasPlayer cX1_hasPlayer 2 (some .boolean), .fieldLink RX1 15 "GhostGame$Game" "playerCount" "I"] ++ wsX10)
def wsX2_with : List Cond := .code yX2_with cX2_with 3 (some .long) :: ([.constantLong RX2 15 (1125899906842623), .methodLink RX2 11 yX2_lengthOf, .static yX2_lengthOf, .initialized RX2, .code yX2_lengthOf cX2_lengthOf 2 (some .int), .methodLink RX2 17 yX2_pack, .static yX2_pack, .code yX2_pack cX2_pack 3 (some .long)])
def wsX1_isOut : List Cond := .code yX1_isOut cX1_isOut 2 (some .boolean) :: ([.methodLink RX1 65 yX1_strikesOf, .instanceMethod yX1_strikesOf, .selects RX1 yX1_strikesOf yX1_strikesOf, .initialized RX1, .code yX1_strikesOf cX1_strikesOf 2 (some .int), .fieldLink RX1 9 "GhostGame$Game" "strikes" "[I", .methodLink RX1 34 yX1_hasPlayer, .instanceMethod yX1_hasPlayer, .selects RX1 yX1_hasPlayer yX1_hasPlayer, .code yX1_hasPlayer cX1_hasPlayer 2 (some .boolean), .fieldLink RX1 15 "GhostGame$Game" "playerCount" "I"] ++ wsX10)
def wsX1_playersLeft : List Cond := .code yX1_playersLeft cX1_playersLeft 3 (some .int) :: ([.fieldLink RX1 15 "GhostGame$Game" "playerCount" "I", .methodLink RX1 62 yX1_isOut, .instanceMethod yX1_isOut, .selects RX1 yX1_isOut yX1_isOut, .initialized RX1, .code yX1_isOut cX1_isOut 2 (some .boolean), .methodLink RX1 65 yX1_strikesOf, .instanceMethod yX1_strikesOf, .selects RX1 yX1_strikesOf yX1_strikesOf, .code yX1_strikesOf cX1_strikesOf 2 (some .int), .fieldLink RX1 9 "GhostGame$Game" "strikes" "[I", .methodLink RX1 34 yX1_hasPlayer, .instanceMethod yX1_hasPlayer, .selects RX1 yX1_hasPlayer yX1_hasPlayer, .code yX1_hasPlayer cX1_hasPlayer 2 (some .boolean)] ++ wsX10)
def wsX1_nextBehind : List Cond := .code yX1_nextBehind cX1_nextBehind 4 (some .int) :: ([.fieldLink RX1 15 "GhostGame$Game" "playerCount" "I", .methodLink RX1 62 yX1_isOut, .instanceMethod yX1_isOut, .selects RX1 yX1_isOut yX1_isOut, .initialized RX1, .code yX1_isOut cX1_isOut 2 (some .boolean), .methodLink RX1 65 yX1_strikesOf, .instanceMethod yX1_strikesOf, .selects RX1 yX1_strikesOf yX1_strikesOf, .code yX1_strikesOf cX1_strikesOf 2 (some .int), .fieldLink RX1 9 "GhostGame$Game" "strikes" "[I", .methodLink RX1 34 yX1_hasPlayer, .instanceMethod yX1_hasPlayer, .selects RX1 yX1_hasPlayer yX1_hasPlayer, .code yX1_hasPlayer cX1_hasPlayer 2 (some .boolean)] ++ wsX10)
def wsX1_endRound_r1 : List Cond := [Cond.fieldLink RX1 9 "GhostGame$Game" "strikes" "[I", Cond.fieldLink RX1 30 "GhostGame$Game" "fragment" "J", Cond.fieldLink RX1 25 "GhostGame$Game" "champion" "I", Cond.fieldLink RX1 19 "GhostGame$Game" "mover" "I", Cond.methodLink RX1 34 yX1_hasPlayer, Cond.instanceMethod yX1_hasPlayer, Cond.selects RX1 yX1_hasPlayer yX1_hasPlayer, Cond.initialized RX1, Cond.code yX1_hasPlayer cX1_hasPlayer 2 (some .boolean), Cond.fieldLink RX1 15 "GhostGame$Game" "playerCount" "I", Cond.methodLink RX1 58 yX1_playersLeft, Cond.instanceMethod yX1_playersLeft, Cond.selects RX1 yX1_playersLeft yX1_playersLeft, Cond.code yX1_playersLeft cX1_playersLeft 3 (some .int), Cond.methodLink RX1 62 yX1_isOut, Cond.instanceMethod yX1_isOut, Cond.selects RX1 yX1_isOut yX1_isOut, Cond.code yX1_isOut cX1_isOut 2 (some .boolean), Cond.methodLink RX1 65 yX1_strikesOf, Cond.instanceMethod yX1_strikesOf, Cond.selects RX1 yX1_strikesOf yX1_strikesOf, Cond.code yX1_strikesOf cX1_strikesOf 2 (some .int), Cond.methodLink RX1 52 yX1_nextBehind, Cond.instanceMethod yX1_nextBehind]
def wsX1_endRound_r2 : List Cond := [Cond.selects RX1 yX1_nextBehind yX1_nextBehind, Cond.code yX1_nextBehind cX1_nextBehind 4 (some .int)]
def wsX1_endRound : List Cond := .code yX1_endRound cX1_endRound 2 (some .int) :: ((wsX1_endRound_r1 ++ wsX1_endRound_r2) ++ wsX10)
def wsX1_addLetter_r1 : List Cond := [Cond.fieldLink RX1 30 "GhostGame$Game" "fragment" "J", Cond.fieldLink RX1 19 "GhostGame$Game" "mover" "I", Cond.fieldLink RX1 22 "GhostGame$Game" "lastMover" "I", Cond.methodLink RX1 38 yX2_with, Cond.static yX2_with, Cond.initialized RX2, Cond.code yX2_with cX2_with 3 (some .long), Cond.constantLong RX2 15 (1125899906842623), Cond.methodLink RX2 11 yX2_lengthOf, Cond.static yX2_lengthOf, Cond.code yX2_lengthOf cX2_lengthOf 2 (some .int), Cond.methodLink RX2 17 yX2_pack, Cond.static yX2_pack, Cond.code yX2_pack cX2_pack 3 (some .long), Cond.methodLink RX1 42 yX0_hasCounting, Cond.instanceMethod yX0_hasCounting, Cond.selects RX0 yX0_hasCounting yX0_hasCounting, Cond.initialized RX0, Cond.code yX0_hasCounting cX0_hasCounting 3 (some .boolean), Cond.methodLink RX0 43 yX0_isLongEnough, Cond.instanceMethod yX0_isLongEnough, Cond.selects RX0 yX0_isLongEnough yX0_isLongEnough, Cond.code yX0_isLongEnough cX0_isLongEnough 3 (some .boolean), Cond.fieldLink RX0 19 "GhostGame$Dictionary" "leastLength" "I"]
def wsX1_addLetter_r2 : List Cond := [Cond.methodLink RX0 36 yX2_lengthOf, Cond.methodLink RX0 28 yX0_has, Cond.instanceMethod yX0_has, Cond.selects RX0 yX0_has yX0_has, Cond.code yX0_has cX0_has 3 (some .boolean), Cond.methodLink RX0 22 yX0_placeOf, Cond.instanceMethod yX0_placeOf, Cond.selects RX0 yX0_placeOf yX0_placeOf, Cond.code yX0_placeOf cX0_placeOf 4 (some .int), Cond.fieldLink RX0 15 "GhostGame$Dictionary" "count" "I", Cond.fieldLink RX0 9 "GhostGame$Dictionary" "words" "[J", Cond.methodLink RX1 48 yX1_endRound, Cond.instanceMethod yX1_endRound, Cond.selects RX1 yX1_endRound yX1_endRound, Cond.initialized RX1, Cond.code yX1_endRound cX1_endRound 2 (some .int), Cond.fieldLink RX1 9 "GhostGame$Game" "strikes" "[I", Cond.fieldLink RX1 25 "GhostGame$Game" "champion" "I", Cond.methodLink RX1 34 yX1_hasPlayer, Cond.instanceMethod yX1_hasPlayer, Cond.selects RX1 yX1_hasPlayer yX1_hasPlayer, Cond.code yX1_hasPlayer cX1_hasPlayer 2 (some .boolean), Cond.fieldLink RX1 15 "GhostGame$Game" "playerCount" "I", Cond.methodLink RX1 58 yX1_playersLeft]
def wsX1_addLetter_r3 : List Cond := [Cond.instanceMethod yX1_playersLeft, Cond.selects RX1 yX1_playersLeft yX1_playersLeft, Cond.code yX1_playersLeft cX1_playersLeft 3 (some .int), Cond.methodLink RX1 62 yX1_isOut, Cond.instanceMethod yX1_isOut, Cond.selects RX1 yX1_isOut yX1_isOut, Cond.code yX1_isOut cX1_isOut 2 (some .boolean), Cond.methodLink RX1 65 yX1_strikesOf, Cond.instanceMethod yX1_strikesOf, Cond.selects RX1 yX1_strikesOf yX1_strikesOf, Cond.code yX1_strikesOf cX1_strikesOf 2 (some .int), Cond.methodLink RX1 52 yX1_nextBehind, Cond.instanceMethod yX1_nextBehind, Cond.selects RX1 yX1_nextBehind yX1_nextBehind, Cond.code yX1_nextBehind cX1_nextBehind 4 (some .int)]
def wsX1_addLetter : List Cond := .code yX1_addLetter cX1_addLetter 3 (some .int) :: ((wsX1_addLetter_r1 ++ (wsX1_addLetter_r2 ++ wsX1_addLetter_r3)) ++ wsX10 ++ wsX00)
def wsX1_settleChallenge_r1 : List Cond := [Cond.fieldLink RX1 30 "GhostGame$Game" "fragment" "J", Cond.fieldLink RX1 19 "GhostGame$Game" "mover" "I", Cond.fieldLink RX1 22 "GhostGame$Game" "lastMover" "I", Cond.methodLink RX1 55 yX0_hasCountingFrom, Cond.instanceMethod yX0_hasCountingFrom, Cond.selects RX0 yX0_hasCountingFrom yX0_hasCountingFrom, Cond.initialized RX0, Cond.code yX0_hasCountingFrom cX0_hasCountingFrom 4 (some .boolean), Cond.fieldLink RX0 15 "GhostGame$Dictionary" "count" "I", Cond.fieldLink RX0 9 "GhostGame$Dictionary" "words" "[J", Cond.methodLink RX0 43 yX0_isLongEnough, Cond.instanceMethod yX0_isLongEnough, Cond.selects RX0 yX0_isLongEnough yX0_isLongEnough, Cond.code yX0_isLongEnough cX0_isLongEnough 3 (some .boolean), Cond.fieldLink RX0 19 "GhostGame$Dictionary" "leastLength" "I", Cond.methodLink RX0 36 yX2_lengthOf, Cond.static yX2_lengthOf, Cond.initialized RX2, Cond.code yX2_lengthOf cX2_lengthOf 2 (some .int), Cond.methodLink RX0 32 yX2_beginsWith, Cond.static yX2_beginsWith, Cond.code yX2_beginsWith cX2_beginsWith 5 (some .boolean), Cond.constantLong RX2 15 (1125899906842623), Cond.methodLink RX2 11 yX2_lengthOf]
def wsX1_settleChallenge_r2 : List Cond := [Cond.methodLink RX1 48 yX1_endRound, Cond.instanceMethod yX1_endRound, Cond.selects RX1 yX1_endRound yX1_endRound, Cond.initialized RX1, Cond.code yX1_endRound cX1_endRound 2 (some .int), Cond.fieldLink RX1 9 "GhostGame$Game" "strikes" "[I", Cond.fieldLink RX1 25 "GhostGame$Game" "champion" "I", Cond.methodLink RX1 34 yX1_hasPlayer, Cond.instanceMethod yX1_hasPlayer, Cond.selects RX1 yX1_hasPlayer yX1_hasPlayer, Cond.code yX1_hasPlayer cX1_hasPlayer 2 (some .boolean), Cond.fieldLink RX1 15 "GhostGame$Game" "playerCount" "I", Cond.methodLink RX1 58 yX1_playersLeft, Cond.instanceMethod yX1_playersLeft, Cond.selects RX1 yX1_playersLeft yX1_playersLeft, Cond.code yX1_playersLeft cX1_playersLeft 3 (some .int), Cond.methodLink RX1 62 yX1_isOut, Cond.instanceMethod yX1_isOut, Cond.selects RX1 yX1_isOut yX1_isOut, Cond.code yX1_isOut cX1_isOut 2 (some .boolean), Cond.methodLink RX1 65 yX1_strikesOf, Cond.instanceMethod yX1_strikesOf, Cond.selects RX1 yX1_strikesOf yX1_strikesOf, Cond.code yX1_strikesOf cX1_strikesOf 2 (some .int)]
def wsX1_settleChallenge_r3 : List Cond := [Cond.methodLink RX1 52 yX1_nextBehind, Cond.instanceMethod yX1_nextBehind, Cond.selects RX1 yX1_nextBehind yX1_nextBehind, Cond.code yX1_nextBehind cX1_nextBehind 4 (some .int)]
def wsX1_settleChallenge : List Cond := .code yX1_settleChallenge cX1_settleChallenge 2 (some .int) :: ((wsX1_settleChallenge_r1 ++ (wsX1_settleChallenge_r2 ++ wsX1_settleChallenge_r3)) ++ wsX10 ++ wsX00)
def wsX2_isFull : List Cond := .code yX2_isFull cX2_isFull 2 (some .boolean) :: ([.methodLink RX2 11 yX2_lengthOf, .static yX2_lengthOf, .initialized RX2, .code yX2_lengthOf cX2_lengthOf 2 (some .int)])
def wsX2_letterAt : List Cond := .code yX2_letterAt cX2_letterAt 4 (some .int) :: ([.methodLink RX2 11 yX2_lengthOf, .static yX2_lengthOf, .initialized RX2, .code yX2_lengthOf cX2_lengthOf 2 (some .int)])
def wsX3_leadsOn : List Cond := .code yX3_leadsOn cX3_leadsOn 5 (some .boolean) :: ([.methodLink RX3 78 yX0_isLongEnough, .instanceMethod yX0_isLongEnough, .selects RX0 yX0_isLongEnough yX0_isLongEnough, .initialized RX0, .code yX0_isLongEnough cX0_isLongEnough 3 (some .boolean), .fieldLink RX0 19 "GhostGame$Dictionary" "leastLength" "I", .methodLink RX0 36 yX2_lengthOf, .static yX2_lengthOf, .initialized RX2, .code yX2_lengthOf cX2_lengthOf 2 (some .int), .methodLink RX3 81 yX2_beginsWith, .static yX2_beginsWith, .code yX2_beginsWith cX2_beginsWith 5 (some .boolean), .constantLong RX2 15 (1125899906842623), .methodLink RX2 11 yX2_lengthOf] ++ wsX00)
def wsX3_lettersOpenBehind_r1 : List Cond := [Cond.methodLink RX3 9 yX0_size, Cond.instanceMethod yX0_size, Cond.selects RX0 yX0_size yX0_size, Cond.initialized RX0, Cond.code yX0_size cX0_size 1 (some .int), Cond.fieldLink RX0 15 "GhostGame$Dictionary" "count" "I", Cond.methodLink RX3 15 yX0_wordAt, Cond.instanceMethod yX0_wordAt, Cond.selects RX0 yX0_wordAt yX0_wordAt, Cond.code yX0_wordAt cX0_wordAt 2 (some .long), Cond.fieldLink RX0 9 "GhostGame$Dictionary" "words" "[J", Cond.methodLink RX3 19 yX3_leadsOn, Cond.static yX3_leadsOn, Cond.initialized RX3, Cond.code yX3_leadsOn cX3_leadsOn 5 (some .boolean), Cond.methodLink RX3 78 yX0_isLongEnough, Cond.instanceMethod yX0_isLongEnough, Cond.selects RX0 yX0_isLongEnough yX0_isLongEnough, Cond.code yX0_isLongEnough cX0_isLongEnough 3 (some .boolean), Cond.fieldLink RX0 19 "GhostGame$Dictionary" "leastLength" "I", Cond.methodLink RX0 36 yX2_lengthOf, Cond.static yX2_lengthOf, Cond.initialized RX2, Cond.code yX2_lengthOf cX2_lengthOf 2 (some .int)]
def wsX3_lettersOpenBehind_r2 : List Cond := [Cond.methodLink RX3 81 yX2_beginsWith, Cond.static yX2_beginsWith, Cond.code yX2_beginsWith cX2_beginsWith 5 (some .boolean), Cond.constantLong RX2 15 (1125899906842623), Cond.methodLink RX2 11 yX2_lengthOf, Cond.methodLink RX3 25 yX2_lengthOf, Cond.methodLink RX3 31 yX2_letterAt, Cond.static yX2_letterAt, Cond.code yX2_letterAt cX2_letterAt 4 (some .int)]
def wsX3_lettersOpenBehind : List Cond := .code yX3_lettersOpenBehind cX3_lettersOpenBehind 7 (some .int) :: ((wsX3_lettersOpenBehind_r1 ++ wsX3_lettersOpenBehind_r2) ++ wsX00)
def wsX3_isIn : List Cond := .code yX3_isIn cX3_isIn 2 (some .boolean) :: ([])
def wsX3_score_r1 : List Cond := [Cond.methodLink RX3 67 Lib.Math.max.name, Cond.static Lib.Math.max.name, Cond.initialized "java/lang/Math", Cond.code Lib.Math.max.name Lib.Math.max.code 2 (some .int), Cond.methodLink RX3 63 yX2_isFull, Cond.static yX2_isFull, Cond.initialized RX2, Cond.code yX2_isFull cX2_isFull 2 (some .boolean), Cond.methodLink RX2 11 yX2_lengthOf, Cond.static yX2_lengthOf, Cond.code yX2_lengthOf cX2_lengthOf 2 (some .int), Cond.methodLink RX3 35 yX3_lettersOpenBehind, Cond.static yX3_lettersOpenBehind, Cond.initialized RX3, Cond.code yX3_lettersOpenBehind cX3_lettersOpenBehind 7 (some .int), Cond.methodLink RX3 9 yX0_size, Cond.instanceMethod yX0_size, Cond.selects RX0 yX0_size yX0_size, Cond.initialized RX0, Cond.code yX0_size cX0_size 1 (some .int), Cond.fieldLink RX0 15 "GhostGame$Dictionary" "count" "I", Cond.methodLink RX3 15 yX0_wordAt, Cond.instanceMethod yX0_wordAt, Cond.selects RX0 yX0_wordAt yX0_wordAt]
def wsX3_score_r2 : List Cond := [Cond.code yX0_wordAt cX0_wordAt 2 (some .long), Cond.fieldLink RX0 9 "GhostGame$Dictionary" "words" "[J", Cond.methodLink RX3 19 yX3_leadsOn, Cond.static yX3_leadsOn, Cond.code yX3_leadsOn cX3_leadsOn 5 (some .boolean), Cond.methodLink RX3 78 yX0_isLongEnough, Cond.instanceMethod yX0_isLongEnough, Cond.selects RX0 yX0_isLongEnough yX0_isLongEnough, Cond.code yX0_isLongEnough cX0_isLongEnough 3 (some .boolean), Cond.fieldLink RX0 19 "GhostGame$Dictionary" "leastLength" "I", Cond.methodLink RX0 36 yX2_lengthOf, Cond.methodLink RX3 81 yX2_beginsWith, Cond.static yX2_beginsWith, Cond.code yX2_beginsWith cX2_beginsWith 5 (some .boolean), Cond.constantLong RX2 15 (1125899906842623), Cond.methodLink RX3 25 yX2_lengthOf, Cond.methodLink RX3 31 yX2_letterAt, Cond.static yX2_letterAt, Cond.code yX2_letterAt cX2_letterAt 4 (some .int), Cond.methodLink RX3 39 yX3_isIn, Cond.static yX3_isIn, Cond.code yX3_isIn cX3_isIn 2 (some .boolean), Cond.methodLink RX3 43 yX3_scoreOfLetter, Cond.static yX3_scoreOfLetter]
def wsX3_score_r3 : List Cond := [Cond.code yX3_scoreOfLetter cX3_scoreOfLetter 7 (some .int), Cond.methodLink RX3 71 yX2_with, Cond.static yX2_with, Cond.code yX2_with cX2_with 3 (some .long), Cond.methodLink RX2 17 yX2_pack, Cond.static yX2_pack, Cond.code yX2_pack cX2_pack 3 (some .long), Cond.methodLink RX3 75 yX0_hasCounting, Cond.instanceMethod yX0_hasCounting, Cond.selects RX0 yX0_hasCounting yX0_hasCounting, Cond.code yX0_hasCounting cX0_hasCounting 3 (some .boolean), Cond.methodLink RX0 43 yX0_isLongEnough, Cond.methodLink RX0 28 yX0_has, Cond.instanceMethod yX0_has, Cond.selects RX0 yX0_has yX0_has, Cond.code yX0_has cX0_has 3 (some .boolean), Cond.methodLink RX0 22 yX0_placeOf, Cond.instanceMethod yX0_placeOf, Cond.selects RX0 yX0_placeOf yX0_placeOf, Cond.code yX0_placeOf cX0_placeOf 4 (some .int), Cond.methodLink RX3 47 yX3_score, Cond.static yX3_score]
def wsX3_score : List Cond := .code yX3_score cX3_score 6 (some .int) :: ((wsX3_score_r1 ++ (wsX3_score_r2 ++ wsX3_score_r3)) ++ wsX00)
def wsX3_scoreOfLetter_r1 : List Cond := [Cond.methodLink RX3 71 yX2_with, Cond.static yX2_with, Cond.initialized RX2, Cond.code yX2_with cX2_with 3 (some .long), Cond.constantLong RX2 15 (1125899906842623), Cond.methodLink RX2 11 yX2_lengthOf, Cond.static yX2_lengthOf, Cond.code yX2_lengthOf cX2_lengthOf 2 (some .int), Cond.methodLink RX2 17 yX2_pack, Cond.static yX2_pack, Cond.code yX2_pack cX2_pack 3 (some .long), Cond.methodLink RX3 75 yX0_hasCounting, Cond.instanceMethod yX0_hasCounting, Cond.selects RX0 yX0_hasCounting yX0_hasCounting, Cond.initialized RX0, Cond.code yX0_hasCounting cX0_hasCounting 3 (some .boolean), Cond.methodLink RX0 43 yX0_isLongEnough, Cond.instanceMethod yX0_isLongEnough, Cond.selects RX0 yX0_isLongEnough yX0_isLongEnough, Cond.code yX0_isLongEnough cX0_isLongEnough 3 (some .boolean), Cond.fieldLink RX0 19 "GhostGame$Dictionary" "leastLength" "I", Cond.methodLink RX0 36 yX2_lengthOf, Cond.methodLink RX0 28 yX0_has, Cond.instanceMethod yX0_has]
def wsX3_scoreOfLetter_r2 : List Cond := [Cond.selects RX0 yX0_has yX0_has, Cond.code yX0_has cX0_has 3 (some .boolean), Cond.methodLink RX0 22 yX0_placeOf, Cond.instanceMethod yX0_placeOf, Cond.selects RX0 yX0_placeOf yX0_placeOf, Cond.code yX0_placeOf cX0_placeOf 4 (some .int), Cond.fieldLink RX0 15 "GhostGame$Dictionary" "count" "I", Cond.fieldLink RX0 9 "GhostGame$Dictionary" "words" "[J", Cond.methodLink RX3 47 yX3_score, Cond.static yX3_score, Cond.initialized RX3, Cond.code yX3_score cX3_score 6 (some .int), Cond.methodLink RX3 67 Lib.Math.max.name, Cond.static Lib.Math.max.name, Cond.initialized "java/lang/Math", Cond.code Lib.Math.max.name Lib.Math.max.code 2 (some .int), Cond.methodLink RX3 63 yX2_isFull, Cond.static yX2_isFull, Cond.code yX2_isFull cX2_isFull 2 (some .boolean), Cond.methodLink RX3 35 yX3_lettersOpenBehind, Cond.static yX3_lettersOpenBehind, Cond.code yX3_lettersOpenBehind cX3_lettersOpenBehind 7 (some .int), Cond.methodLink RX3 9 yX0_size, Cond.instanceMethod yX0_size]
def wsX3_scoreOfLetter_r3 : List Cond := [Cond.selects RX0 yX0_size yX0_size, Cond.code yX0_size cX0_size 1 (some .int), Cond.methodLink RX3 15 yX0_wordAt, Cond.instanceMethod yX0_wordAt, Cond.selects RX0 yX0_wordAt yX0_wordAt, Cond.code yX0_wordAt cX0_wordAt 2 (some .long), Cond.methodLink RX3 19 yX3_leadsOn, Cond.static yX3_leadsOn, Cond.code yX3_leadsOn cX3_leadsOn 5 (some .boolean), Cond.methodLink RX3 78 yX0_isLongEnough, Cond.methodLink RX3 81 yX2_beginsWith, Cond.static yX2_beginsWith, Cond.code yX2_beginsWith cX2_beginsWith 5 (some .boolean), Cond.methodLink RX3 25 yX2_lengthOf, Cond.methodLink RX3 31 yX2_letterAt, Cond.static yX2_letterAt, Cond.code yX2_letterAt cX2_letterAt 4 (some .int), Cond.methodLink RX3 39 yX3_isIn, Cond.static yX3_isIn, Cond.code yX3_isIn cX3_isIn 2 (some .boolean), Cond.methodLink RX3 43 yX3_scoreOfLetter, Cond.static yX3_scoreOfLetter]
def wsX3_scoreOfLetter : List Cond := .code yX3_scoreOfLetter cX3_scoreOfLetter 7 (some .int) :: ((wsX3_scoreOfLetter_r1 ++ (wsX3_scoreOfLetter_r2 ++ wsX3_scoreOfLetter_r3)) ++ wsX00)
def wsX3_lettersWinningBehind_r1 : List Cond := [Cond.methodLink RX3 35 yX3_lettersOpenBehind, Cond.static yX3_lettersOpenBehind, Cond.initialized RX3, Cond.code yX3_lettersOpenBehind cX3_lettersOpenBehind 7 (some .int), Cond.methodLink RX3 9 yX0_size, Cond.instanceMethod yX0_size, Cond.selects RX0 yX0_size yX0_size, Cond.initialized RX0, Cond.code yX0_size cX0_size 1 (some .int), Cond.fieldLink RX0 15 "GhostGame$Dictionary" "count" "I", Cond.methodLink RX3 15 yX0_wordAt, Cond.instanceMethod yX0_wordAt, Cond.selects RX0 yX0_wordAt yX0_wordAt, Cond.code yX0_wordAt cX0_wordAt 2 (some .long), Cond.fieldLink RX0 9 "GhostGame$Dictionary" "words" "[J", Cond.methodLink RX3 19 yX3_leadsOn, Cond.static yX3_leadsOn, Cond.code yX3_leadsOn cX3_leadsOn 5 (some .boolean), Cond.methodLink RX3 78 yX0_isLongEnough, Cond.instanceMethod yX0_isLongEnough, Cond.selects RX0 yX0_isLongEnough yX0_isLongEnough, Cond.code yX0_isLongEnough cX0_isLongEnough 3 (some .boolean), Cond.fieldLink RX0 19 "GhostGame$Dictionary" "leastLength" "I", Cond.methodLink RX0 36 yX2_lengthOf]
def wsX3_lettersWinningBehind_r2 : List Cond := [Cond.static yX2_lengthOf, Cond.initialized RX2, Cond.code yX2_lengthOf cX2_lengthOf 2 (some .int), Cond.methodLink RX3 81 yX2_beginsWith, Cond.static yX2_beginsWith, Cond.code yX2_beginsWith cX2_beginsWith 5 (some .boolean), Cond.constantLong RX2 15 (1125899906842623), Cond.methodLink RX2 11 yX2_lengthOf, Cond.methodLink RX3 25 yX2_lengthOf, Cond.methodLink RX3 31 yX2_letterAt, Cond.static yX2_letterAt, Cond.code yX2_letterAt cX2_letterAt 4 (some .int), Cond.methodLink RX3 39 yX3_isIn, Cond.static yX3_isIn, Cond.code yX3_isIn cX3_isIn 2 (some .boolean), Cond.methodLink RX3 43 yX3_scoreOfLetter, Cond.static yX3_scoreOfLetter, Cond.code yX3_scoreOfLetter cX3_scoreOfLetter 7 (some .int), Cond.methodLink RX3 71 yX2_with, Cond.static yX2_with, Cond.code yX2_with cX2_with 3 (some .long), Cond.methodLink RX2 17 yX2_pack, Cond.static yX2_pack, Cond.code yX2_pack cX2_pack 3 (some .long)]
def wsX3_lettersWinningBehind_r3 : List Cond := [Cond.methodLink RX3 75 yX0_hasCounting, Cond.instanceMethod yX0_hasCounting, Cond.selects RX0 yX0_hasCounting yX0_hasCounting, Cond.code yX0_hasCounting cX0_hasCounting 3 (some .boolean), Cond.methodLink RX0 43 yX0_isLongEnough, Cond.methodLink RX0 28 yX0_has, Cond.instanceMethod yX0_has, Cond.selects RX0 yX0_has yX0_has, Cond.code yX0_has cX0_has 3 (some .boolean), Cond.methodLink RX0 22 yX0_placeOf, Cond.instanceMethod yX0_placeOf, Cond.selects RX0 yX0_placeOf yX0_placeOf, Cond.code yX0_placeOf cX0_placeOf 4 (some .int), Cond.methodLink RX3 47 yX3_score, Cond.static yX3_score, Cond.code yX3_score cX3_score 6 (some .int), Cond.methodLink RX3 67 Lib.Math.max.name, Cond.static Lib.Math.max.name, Cond.initialized "java/lang/Math", Cond.code Lib.Math.max.name Lib.Math.max.code 2 (some .int), Cond.methodLink RX3 63 yX2_isFull, Cond.static yX2_isFull, Cond.code yX2_isFull cX2_isFull 2 (some .boolean)]
def wsX3_lettersWinningBehind : List Cond := .code yX3_lettersWinningBehind cX3_lettersWinningBehind 6 (some .int) :: ((wsX3_lettersWinningBehind_r1 ++ (wsX3_lettersWinningBehind_r2 ++ wsX3_lettersWinningBehind_r3)) ++ wsX00)
def wsX3_moverWins_r1 : List Cond := [Cond.methodLink RX3 47 yX3_score, Cond.static yX3_score, Cond.initialized RX3, Cond.code yX3_score cX3_score 6 (some .int), Cond.methodLink RX3 67 Lib.Math.max.name, Cond.static Lib.Math.max.name, Cond.initialized "java/lang/Math", Cond.code Lib.Math.max.name Lib.Math.max.code 2 (some .int), Cond.methodLink RX3 63 yX2_isFull, Cond.static yX2_isFull, Cond.initialized RX2, Cond.code yX2_isFull cX2_isFull 2 (some .boolean), Cond.methodLink RX2 11 yX2_lengthOf, Cond.static yX2_lengthOf, Cond.code yX2_lengthOf cX2_lengthOf 2 (some .int), Cond.methodLink RX3 35 yX3_lettersOpenBehind, Cond.static yX3_lettersOpenBehind, Cond.code yX3_lettersOpenBehind cX3_lettersOpenBehind 7 (some .int), Cond.methodLink RX3 9 yX0_size, Cond.instanceMethod yX0_size, Cond.selects RX0 yX0_size yX0_size, Cond.initialized RX0, Cond.code yX0_size cX0_size 1 (some .int), Cond.fieldLink RX0 15 "GhostGame$Dictionary" "count" "I"]
def wsX3_moverWins_r2 : List Cond := [Cond.methodLink RX3 15 yX0_wordAt, Cond.instanceMethod yX0_wordAt, Cond.selects RX0 yX0_wordAt yX0_wordAt, Cond.code yX0_wordAt cX0_wordAt 2 (some .long), Cond.fieldLink RX0 9 "GhostGame$Dictionary" "words" "[J", Cond.methodLink RX3 19 yX3_leadsOn, Cond.static yX3_leadsOn, Cond.code yX3_leadsOn cX3_leadsOn 5 (some .boolean), Cond.methodLink RX3 78 yX0_isLongEnough, Cond.instanceMethod yX0_isLongEnough, Cond.selects RX0 yX0_isLongEnough yX0_isLongEnough, Cond.code yX0_isLongEnough cX0_isLongEnough 3 (some .boolean), Cond.fieldLink RX0 19 "GhostGame$Dictionary" "leastLength" "I", Cond.methodLink RX0 36 yX2_lengthOf, Cond.methodLink RX3 81 yX2_beginsWith, Cond.static yX2_beginsWith, Cond.code yX2_beginsWith cX2_beginsWith 5 (some .boolean), Cond.constantLong RX2 15 (1125899906842623), Cond.methodLink RX3 25 yX2_lengthOf, Cond.methodLink RX3 31 yX2_letterAt, Cond.static yX2_letterAt, Cond.code yX2_letterAt cX2_letterAt 4 (some .int), Cond.methodLink RX3 39 yX3_isIn, Cond.static yX3_isIn]
def wsX3_moverWins_r3 : List Cond := [Cond.code yX3_isIn cX3_isIn 2 (some .boolean), Cond.methodLink RX3 43 yX3_scoreOfLetter, Cond.static yX3_scoreOfLetter, Cond.code yX3_scoreOfLetter cX3_scoreOfLetter 7 (some .int), Cond.methodLink RX3 71 yX2_with, Cond.static yX2_with, Cond.code yX2_with cX2_with 3 (some .long), Cond.methodLink RX2 17 yX2_pack, Cond.static yX2_pack, Cond.code yX2_pack cX2_pack 3 (some .long), Cond.methodLink RX3 75 yX0_hasCounting, Cond.instanceMethod yX0_hasCounting, Cond.selects RX0 yX0_hasCounting yX0_hasCounting, Cond.code yX0_hasCounting cX0_hasCounting 3 (some .boolean), Cond.methodLink RX0 43 yX0_isLongEnough, Cond.methodLink RX0 28 yX0_has, Cond.instanceMethod yX0_has, Cond.selects RX0 yX0_has yX0_has, Cond.code yX0_has cX0_has 3 (some .boolean), Cond.methodLink RX0 22 yX0_placeOf, Cond.instanceMethod yX0_placeOf, Cond.selects RX0 yX0_placeOf yX0_placeOf, Cond.code yX0_placeOf cX0_placeOf 4 (some .int)]
def wsX3_moverWins : List Cond := .code yX3_moverWins cX3_moverWins 3 (some .boolean) :: ((wsX3_moverWins_r1 ++ (wsX3_moverWins_r2 ++ wsX3_moverWins_r3)) ++ wsX00)
def wsX3_endBehind_r1 : List Cond := [Cond.methodLink RX3 50 Lib.Math.abs.name, Cond.static Lib.Math.abs.name, Cond.initialized "java/lang/Math", Cond.code Lib.Math.abs.name Lib.Math.abs.code 1 (some .int), Cond.methodLink RX3 47 yX3_score, Cond.static yX3_score, Cond.initialized RX3, Cond.code yX3_score cX3_score 6 (some .int), Cond.methodLink RX3 67 Lib.Math.max.name, Cond.static Lib.Math.max.name, Cond.code Lib.Math.max.name Lib.Math.max.code 2 (some .int), Cond.methodLink RX3 63 yX2_isFull, Cond.static yX2_isFull, Cond.initialized RX2, Cond.code yX2_isFull cX2_isFull 2 (some .boolean), Cond.methodLink RX2 11 yX2_lengthOf, Cond.static yX2_lengthOf, Cond.code yX2_lengthOf cX2_lengthOf 2 (some .int), Cond.methodLink RX3 35 yX3_lettersOpenBehind, Cond.static yX3_lettersOpenBehind, Cond.code yX3_lettersOpenBehind cX3_lettersOpenBehind 7 (some .int), Cond.methodLink RX3 9 yX0_size, Cond.instanceMethod yX0_size, Cond.selects RX0 yX0_size yX0_size]
def wsX3_endBehind_r2 : List Cond := [Cond.initialized RX0, Cond.code yX0_size cX0_size 1 (some .int), Cond.fieldLink RX0 15 "GhostGame$Dictionary" "count" "I", Cond.methodLink RX3 15 yX0_wordAt, Cond.instanceMethod yX0_wordAt, Cond.selects RX0 yX0_wordAt yX0_wordAt, Cond.code yX0_wordAt cX0_wordAt 2 (some .long), Cond.fieldLink RX0 9 "GhostGame$Dictionary" "words" "[J", Cond.methodLink RX3 19 yX3_leadsOn, Cond.static yX3_leadsOn, Cond.code yX3_leadsOn cX3_leadsOn 5 (some .boolean), Cond.methodLink RX3 78 yX0_isLongEnough, Cond.instanceMethod yX0_isLongEnough, Cond.selects RX0 yX0_isLongEnough yX0_isLongEnough, Cond.code yX0_isLongEnough cX0_isLongEnough 3 (some .boolean), Cond.fieldLink RX0 19 "GhostGame$Dictionary" "leastLength" "I", Cond.methodLink RX0 36 yX2_lengthOf, Cond.methodLink RX3 81 yX2_beginsWith, Cond.static yX2_beginsWith, Cond.code yX2_beginsWith cX2_beginsWith 5 (some .boolean), Cond.constantLong RX2 15 (1125899906842623), Cond.methodLink RX3 25 yX2_lengthOf, Cond.methodLink RX3 31 yX2_letterAt, Cond.static yX2_letterAt]
def wsX3_endBehind_r3 : List Cond := [Cond.code yX2_letterAt cX2_letterAt 4 (some .int), Cond.methodLink RX3 39 yX3_isIn, Cond.static yX3_isIn, Cond.code yX3_isIn cX3_isIn 2 (some .boolean), Cond.methodLink RX3 43 yX3_scoreOfLetter, Cond.static yX3_scoreOfLetter, Cond.code yX3_scoreOfLetter cX3_scoreOfLetter 7 (some .int), Cond.methodLink RX3 71 yX2_with, Cond.static yX2_with, Cond.code yX2_with cX2_with 3 (some .long), Cond.methodLink RX2 17 yX2_pack, Cond.static yX2_pack, Cond.code yX2_pack cX2_pack 3 (some .long), Cond.methodLink RX3 75 yX0_hasCounting, Cond.instanceMethod yX0_hasCounting, Cond.selects RX0 yX0_hasCounting yX0_hasCounting, Cond.code yX0_hasCounting cX0_hasCounting 3 (some .boolean), Cond.methodLink RX0 43 yX0_isLongEnough, Cond.methodLink RX0 28 yX0_has, Cond.instanceMethod yX0_has, Cond.selects RX0 yX0_has yX0_has, Cond.code yX0_has cX0_has 3 (some .boolean), Cond.methodLink RX0 22 yX0_placeOf, Cond.instanceMethod yX0_placeOf]
def wsX3_endBehind_r4 : List Cond := [Cond.selects RX0 yX0_placeOf yX0_placeOf, Cond.code yX0_placeOf cX0_placeOf 4 (some .int)]
def wsX3_endBehind : List Cond := .code yX3_endBehind cX3_endBehind 3 (some .int) :: ((wsX3_endBehind_r1 ++ (wsX3_endBehind_r2 ++ (wsX3_endBehind_r3 ++ wsX3_endBehind_r4))) ++ wsX00)
def wsX3_letterChosenBehind_r1 : List Cond := [Cond.methodLink RX3 35 yX3_lettersOpenBehind, Cond.static yX3_lettersOpenBehind, Cond.initialized RX3, Cond.code yX3_lettersOpenBehind cX3_lettersOpenBehind 7 (some .int), Cond.methodLink RX3 9 yX0_size, Cond.instanceMethod yX0_size, Cond.selects RX0 yX0_size yX0_size, Cond.initialized RX0, Cond.code yX0_size cX0_size 1 (some .int), Cond.fieldLink RX0 15 "GhostGame$Dictionary" "count" "I", Cond.methodLink RX3 15 yX0_wordAt, Cond.instanceMethod yX0_wordAt, Cond.selects RX0 yX0_wordAt yX0_wordAt, Cond.code yX0_wordAt cX0_wordAt 2 (some .long), Cond.fieldLink RX0 9 "GhostGame$Dictionary" "words" "[J", Cond.methodLink RX3 19 yX3_leadsOn, Cond.static yX3_leadsOn, Cond.code yX3_leadsOn cX3_leadsOn 5 (some .boolean), Cond.methodLink RX3 78 yX0_isLongEnough, Cond.instanceMethod yX0_isLongEnough, Cond.selects RX0 yX0_isLongEnough yX0_isLongEnough, Cond.code yX0_isLongEnough cX0_isLongEnough 3 (some .boolean), Cond.fieldLink RX0 19 "GhostGame$Dictionary" "leastLength" "I", Cond.methodLink RX0 36 yX2_lengthOf]
def wsX3_letterChosenBehind_r2 : List Cond := [Cond.static yX2_lengthOf, Cond.initialized RX2, Cond.code yX2_lengthOf cX2_lengthOf 2 (some .int), Cond.methodLink RX3 81 yX2_beginsWith, Cond.static yX2_beginsWith, Cond.code yX2_beginsWith cX2_beginsWith 5 (some .boolean), Cond.constantLong RX2 15 (1125899906842623), Cond.methodLink RX2 11 yX2_lengthOf, Cond.methodLink RX3 25 yX2_lengthOf, Cond.methodLink RX3 31 yX2_letterAt, Cond.static yX2_letterAt, Cond.code yX2_letterAt cX2_letterAt 4 (some .int), Cond.methodLink RX3 47 yX3_score, Cond.static yX3_score, Cond.code yX3_score cX3_score 6 (some .int), Cond.methodLink RX3 67 Lib.Math.max.name, Cond.static Lib.Math.max.name, Cond.initialized "java/lang/Math", Cond.code Lib.Math.max.name Lib.Math.max.code 2 (some .int), Cond.methodLink RX3 63 yX2_isFull, Cond.static yX2_isFull, Cond.code yX2_isFull cX2_isFull 2 (some .boolean), Cond.methodLink RX3 39 yX3_isIn, Cond.static yX3_isIn]
def wsX3_letterChosenBehind_r3 : List Cond := [Cond.code yX3_isIn cX3_isIn 2 (some .boolean), Cond.methodLink RX3 43 yX3_scoreOfLetter, Cond.static yX3_scoreOfLetter, Cond.code yX3_scoreOfLetter cX3_scoreOfLetter 7 (some .int), Cond.methodLink RX3 71 yX2_with, Cond.static yX2_with, Cond.code yX2_with cX2_with 3 (some .long), Cond.methodLink RX2 17 yX2_pack, Cond.static yX2_pack, Cond.code yX2_pack cX2_pack 3 (some .long), Cond.methodLink RX3 75 yX0_hasCounting, Cond.instanceMethod yX0_hasCounting, Cond.selects RX0 yX0_hasCounting yX0_hasCounting, Cond.code yX0_hasCounting cX0_hasCounting 3 (some .boolean), Cond.methodLink RX0 43 yX0_isLongEnough, Cond.methodLink RX0 28 yX0_has, Cond.instanceMethod yX0_has, Cond.selects RX0 yX0_has yX0_has, Cond.code yX0_has cX0_has 3 (some .boolean), Cond.methodLink RX0 22 yX0_placeOf, Cond.instanceMethod yX0_placeOf, Cond.selects RX0 yX0_placeOf yX0_placeOf, Cond.code yX0_placeOf cX0_placeOf 4 (some .int)]
def wsX3_letterChosenBehind : List Cond := .code yX3_letterChosenBehind cX3_letterChosenBehind 6 (some .int) :: ((wsX3_letterChosenBehind_r1 ++ (wsX3_letterChosenBehind_r2 ++ wsX3_letterChosenBehind_r3)) ++ wsX00)
def wsX3_isWay_r1 : List Cond := [Cond.methodLink RX3 19 yX3_leadsOn, Cond.static yX3_leadsOn, Cond.initialized RX3, Cond.code yX3_leadsOn cX3_leadsOn 5 (some .boolean), Cond.methodLink RX3 78 yX0_isLongEnough, Cond.instanceMethod yX0_isLongEnough, Cond.selects RX0 yX0_isLongEnough yX0_isLongEnough, Cond.initialized RX0, Cond.code yX0_isLongEnough cX0_isLongEnough 3 (some .boolean), Cond.fieldLink RX0 19 "GhostGame$Dictionary" "leastLength" "I", Cond.methodLink RX0 36 yX2_lengthOf, Cond.static yX2_lengthOf, Cond.initialized RX2, Cond.code yX2_lengthOf cX2_lengthOf 2 (some .int), Cond.methodLink RX3 81 yX2_beginsWith, Cond.static yX2_beginsWith, Cond.code yX2_beginsWith cX2_beginsWith 5 (some .boolean), Cond.constantLong RX2 15 (1125899906842623), Cond.methodLink RX2 11 yX2_lengthOf, Cond.methodLink RX3 25 yX2_lengthOf, Cond.methodLink RX3 84 yX2_beginning, Cond.static yX2_beginning, Cond.code yX2_beginning cX2_beginning 4 (some .long), Cond.methodLink RX2 17 yX2_pack]
def wsX3_isWay_r2 : List Cond := [Cond.static yX2_pack, Cond.code yX2_pack cX2_pack 3 (some .long), Cond.methodLink RX3 75 yX0_hasCounting, Cond.instanceMethod yX0_hasCounting, Cond.selects RX0 yX0_hasCounting yX0_hasCounting, Cond.code yX0_hasCounting cX0_hasCounting 3 (some .boolean), Cond.methodLink RX0 43 yX0_isLongEnough, Cond.methodLink RX0 28 yX0_has, Cond.instanceMethod yX0_has, Cond.selects RX0 yX0_has yX0_has, Cond.code yX0_has cX0_has 3 (some .boolean), Cond.methodLink RX0 22 yX0_placeOf, Cond.instanceMethod yX0_placeOf, Cond.selects RX0 yX0_placeOf yX0_placeOf, Cond.code yX0_placeOf cX0_placeOf 4 (some .int), Cond.fieldLink RX0 15 "GhostGame$Dictionary" "count" "I", Cond.fieldLink RX0 9 "GhostGame$Dictionary" "words" "[J"]
def wsX3_isWay : List Cond := .code yX3_isWay cX3_isWay 6 (some .boolean) :: ((wsX3_isWay_r1 ++ wsX3_isWay_r2) ++ wsX00)
def wsX3_countWays_r1 : List Cond := [Cond.methodLink RX3 9 yX0_size, Cond.instanceMethod yX0_size, Cond.selects RX0 yX0_size yX0_size, Cond.initialized RX0, Cond.code yX0_size cX0_size 1 (some .int), Cond.fieldLink RX0 15 "GhostGame$Dictionary" "count" "I", Cond.methodLink RX3 15 yX0_wordAt, Cond.instanceMethod yX0_wordAt, Cond.selects RX0 yX0_wordAt yX0_wordAt, Cond.code yX0_wordAt cX0_wordAt 2 (some .long), Cond.fieldLink RX0 9 "GhostGame$Dictionary" "words" "[J", Cond.methodLink RX3 56 yX3_isWay, Cond.static yX3_isWay, Cond.initialized RX3, Cond.code yX3_isWay cX3_isWay 6 (some .boolean), Cond.methodLink RX3 19 yX3_leadsOn, Cond.static yX3_leadsOn, Cond.code yX3_leadsOn cX3_leadsOn 5 (some .boolean), Cond.methodLink RX3 78 yX0_isLongEnough, Cond.instanceMethod yX0_isLongEnough, Cond.selects RX0 yX0_isLongEnough yX0_isLongEnough, Cond.code yX0_isLongEnough cX0_isLongEnough 3 (some .boolean), Cond.fieldLink RX0 19 "GhostGame$Dictionary" "leastLength" "I", Cond.methodLink RX0 36 yX2_lengthOf]
def wsX3_countWays_r2 : List Cond := [Cond.static yX2_lengthOf, Cond.initialized RX2, Cond.code yX2_lengthOf cX2_lengthOf 2 (some .int), Cond.methodLink RX3 81 yX2_beginsWith, Cond.static yX2_beginsWith, Cond.code yX2_beginsWith cX2_beginsWith 5 (some .boolean), Cond.constantLong RX2 15 (1125899906842623), Cond.methodLink RX2 11 yX2_lengthOf, Cond.methodLink RX3 25 yX2_lengthOf, Cond.methodLink RX3 84 yX2_beginning, Cond.static yX2_beginning, Cond.code yX2_beginning cX2_beginning 4 (some .long), Cond.methodLink RX2 17 yX2_pack, Cond.static yX2_pack, Cond.code yX2_pack cX2_pack 3 (some .long), Cond.methodLink RX3 75 yX0_hasCounting, Cond.instanceMethod yX0_hasCounting, Cond.selects RX0 yX0_hasCounting yX0_hasCounting, Cond.code yX0_hasCounting cX0_hasCounting 3 (some .boolean), Cond.methodLink RX0 43 yX0_isLongEnough, Cond.methodLink RX0 28 yX0_has, Cond.instanceMethod yX0_has, Cond.selects RX0 yX0_has yX0_has, Cond.code yX0_has cX0_has 3 (some .boolean)]
def wsX3_countWays_r3 : List Cond := [Cond.methodLink RX0 22 yX0_placeOf, Cond.instanceMethod yX0_placeOf, Cond.selects RX0 yX0_placeOf yX0_placeOf, Cond.code yX0_placeOf cX0_placeOf 4 (some .int)]
def wsX3_countWays : List Cond := .code yX3_countWays cX3_countWays 5 (some .int) :: ((wsX3_countWays_r1 ++ (wsX3_countWays_r2 ++ wsX3_countWays_r3)) ++ wsX00)
def wsX3_otherSideCompletes : List Cond := .code yX3_otherSideCompletes cX3_otherSideCompletes 4 (some .boolean) :: ([.methodLink RX3 25 yX2_lengthOf, .static yX2_lengthOf, .initialized RX2, .code yX2_lengthOf cX2_lengthOf 2 (some .int)])
def wsX3_countWonWays_r1 : List Cond := [Cond.methodLink RX3 9 yX0_size, Cond.instanceMethod yX0_size, Cond.selects RX0 yX0_size yX0_size, Cond.initialized RX0, Cond.code yX0_size cX0_size 1 (some .int), Cond.fieldLink RX0 15 "GhostGame$Dictionary" "count" "I", Cond.methodLink RX3 15 yX0_wordAt, Cond.instanceMethod yX0_wordAt, Cond.selects RX0 yX0_wordAt yX0_wordAt, Cond.code yX0_wordAt cX0_wordAt 2 (some .long), Cond.fieldLink RX0 9 "GhostGame$Dictionary" "words" "[J", Cond.methodLink RX3 56 yX3_isWay, Cond.static yX3_isWay, Cond.initialized RX3, Cond.code yX3_isWay cX3_isWay 6 (some .boolean), Cond.methodLink RX3 19 yX3_leadsOn, Cond.static yX3_leadsOn, Cond.code yX3_leadsOn cX3_leadsOn 5 (some .boolean), Cond.methodLink RX3 78 yX0_isLongEnough, Cond.instanceMethod yX0_isLongEnough, Cond.selects RX0 yX0_isLongEnough yX0_isLongEnough, Cond.code yX0_isLongEnough cX0_isLongEnough 3 (some .boolean), Cond.fieldLink RX0 19 "GhostGame$Dictionary" "leastLength" "I", Cond.methodLink RX0 36 yX2_lengthOf]
def wsX3_countWonWays_r2 : List Cond := [Cond.static yX2_lengthOf, Cond.initialized RX2, Cond.code yX2_lengthOf cX2_lengthOf 2 (some .int), Cond.methodLink RX3 81 yX2_beginsWith, Cond.static yX2_beginsWith, Cond.code yX2_beginsWith cX2_beginsWith 5 (some .boolean), Cond.constantLong RX2 15 (1125899906842623), Cond.methodLink RX2 11 yX2_lengthOf, Cond.methodLink RX3 25 yX2_lengthOf, Cond.methodLink RX3 84 yX2_beginning, Cond.static yX2_beginning, Cond.code yX2_beginning cX2_beginning 4 (some .long), Cond.methodLink RX2 17 yX2_pack, Cond.static yX2_pack, Cond.code yX2_pack cX2_pack 3 (some .long), Cond.methodLink RX3 75 yX0_hasCounting, Cond.instanceMethod yX0_hasCounting, Cond.selects RX0 yX0_hasCounting yX0_hasCounting, Cond.code yX0_hasCounting cX0_hasCounting 3 (some .boolean), Cond.methodLink RX0 43 yX0_isLongEnough, Cond.methodLink RX0 28 yX0_has, Cond.instanceMethod yX0_has, Cond.selects RX0 yX0_has yX0_has, Cond.code yX0_has cX0_has 3 (some .boolean)]
def wsX3_countWonWays_r3 : List Cond := [Cond.methodLink RX0 22 yX0_placeOf, Cond.instanceMethod yX0_placeOf, Cond.selects RX0 yX0_placeOf yX0_placeOf, Cond.code yX0_placeOf cX0_placeOf 4 (some .int), Cond.methodLink RX3 59 yX3_otherSideCompletes, Cond.static yX3_otherSideCompletes, Cond.code yX3_otherSideCompletes cX3_otherSideCompletes 4 (some .boolean)]
def wsX3_countWonWays : List Cond := .code yX3_countWonWays cX3_countWonWays 7 (some .int) :: ((wsX3_countWonWays_r1 ++ (wsX3_countWonWays_r2 ++ wsX3_countWonWays_r3)) ++ wsX00)
def wsX4_init_r1 : List Cond := [Cond.methodLink RX4 1 objectInit, Cond.instanceMethod objectInit, Cond.code objectInit ⟨#[0xb1]⟩ 1 none, Cond.classLink RX4 7 RX0, Cond.instantiable RX0 3, Cond.initialized RX0, Cond.fieldLink RX4 10 "GhostGame" "dictionary" "LGhostGame$Dictionary;", Cond.classLink RX4 16 RX1, Cond.instantiable RX1 6, Cond.initialized RX1, Cond.fieldLink RX4 19 "GhostGame" "game" "LGhostGame$Game;", Cond.fieldLink RX4 25 "GhostGame" "slip" "J", Cond.methodLink RX4 9 yX0_init, Cond.instanceMethod yX0_init, Cond.code yX0_init cX0_init 1 none, Cond.methodLink RX0 3 objectInit, Cond.arrayClass .long, Cond.fieldLink RX0 9 "GhostGame$Dictionary" "words" "[J", Cond.fieldLink RX0 15 "GhostGame$Dictionary" "count" "I", Cond.fieldLink RX0 19 "GhostGame$Dictionary" "leastLength" "I", Cond.methodLink RX4 18 yX1_init, Cond.instanceMethod yX1_init, Cond.code yX1_init cX1_init 1 none, Cond.methodLink RX1 3 objectInit]
def wsX4_init_r2 : List Cond := [Cond.arrayClass .int, Cond.fieldLink RX1 9 "GhostGame$Game" "strikes" "[I", Cond.fieldLink RX1 15 "GhostGame$Game" "playerCount" "I", Cond.fieldLink RX1 19 "GhostGame$Game" "mover" "I", Cond.fieldLink RX1 22 "GhostGame$Game" "lastMover" "I", Cond.fieldLink RX1 25 "GhostGame$Game" "champion" "I", Cond.fieldLink RX1 30 "GhostGame$Game" "fragment" "J"]
def wsX4_init : List Cond := .code yX4_init cX4_init 1 none :: ((wsX4_init_r1 ++ wsX4_init_r2) ++ wsX00 ++ wsX40 ++ wsX10)
def wsX4_isLetter : List Cond := .code yX4_isLetter cX4_isLetter 1 (some .boolean) :: ([])
def wsX4_write : List Cond := .code yX4_write cX4_write 2 (some .int) :: ([.classLink RX4 33 "java/lang/IllegalArgumentException", .initialized "java/lang/IllegalArgumentException", .classLink RX4 44 "java/lang/IllegalStateException", .initialized "java/lang/IllegalStateException", .fieldLink RX4 25 "GhostGame" "slip" "J", .methodLink RX4 29 yX4_isLetter, .static yX4_isLetter, .initialized RX4, .code yX4_isLetter cX4_isLetter 1 (some .boolean), .methodLink RX4 40 yX2_isFull, .static yX2_isFull, .initialized RX2, .code yX2_isFull cX2_isFull 2 (some .boolean), .methodLink RX2 11 yX2_lengthOf, .static yX2_lengthOf, .code yX2_lengthOf cX2_lengthOf 2 (some .int), .methodLink RX4 49 yX2_with, .static yX2_with, .code yX2_with cX2_with 3 (some .long), .constantLong RX2 15 (1125899906842623), .methodLink RX2 17 yX2_pack, .static yX2_pack, .code yX2_pack cX2_pack 3 (some .long), .methodLink RX4 53 yX2_lengthOf] ++ wsX40 ++ (vx_atS RX4 37 "java/lang/IllegalArgumentException" ["java/lang/RuntimeException", "java/lang/Exception"]).filter goodWord ++ (vx_atS RX4 48 "java/lang/IllegalStateException" ["java/lang/RuntimeException", "java/lang/Exception"]).filter goodWord)
def wsX4_wipe : List Cond := .code yX4_wipe cX4_wipe 2 (some .int) :: ([.fieldLink RX4 25 "GhostGame" "slip" "J", .methodLink RX4 53 yX2_lengthOf, .static yX2_lengthOf, .initialized RX2, .code yX2_lengthOf cX2_lengthOf 2 (some .int)] ++ wsX40)
def wsX4_slipLength : List Cond := .code yX4_slipLength cX4_slipLength 1 (some .int) :: ([.fieldLink RX4 25 "GhostGame" "slip" "J", .methodLink RX4 53 yX2_lengthOf, .static yX2_lengthOf, .initialized RX2, .code yX2_lengthOf cX2_lengthOf 2 (some .int)] ++ wsX40)
def wsX4_slipAt : List Cond := .code yX4_slipAt cX4_slipAt 3 (some .int) :: ([.classLink RX4 61 "java/lang/IndexOutOfBoundsException", .initialized "java/lang/IndexOutOfBoundsException", .fieldLink RX4 25 "GhostGame" "slip" "J", .methodLink RX4 57 yX2_letterAt, .static yX2_letterAt, .initialized RX2, .code yX2_letterAt cX2_letterAt 4 (some .int), .methodLink RX2 11 yX2_lengthOf, .static yX2_lengthOf, .code yX2_lengthOf cX2_lengthOf 2 (some .int)] ++ wsX40 ++ (vx_atS RX4 65 "java/lang/IndexOutOfBoundsException" ["java/lang/RuntimeException", "java/lang/Exception"]).filter goodWord)
def wsX4_addWord_r1 : List Cond := [Cond.classLink RX4 33 "java/lang/IllegalArgumentException", Cond.initialized "java/lang/IllegalArgumentException", Cond.classLink RX4 44 "java/lang/IllegalStateException", Cond.initialized "java/lang/IllegalStateException", Cond.fieldLink RX4 25 "GhostGame" "slip" "J", Cond.fieldLink RX4 10 "GhostGame" "dictionary" "LGhostGame$Dictionary;", Cond.methodLink RX4 53 yX2_lengthOf, Cond.static yX2_lengthOf, Cond.initialized RX2, Cond.code yX2_lengthOf cX2_lengthOf 2 (some .int), Cond.methodLink RX4 68 yX0_add, Cond.instanceMethod yX0_add, Cond.selects RX0 yX0_add yX0_add, Cond.initialized RX0, Cond.code yX0_add cX0_add 4 (some .boolean), Cond.fieldLink RX0 15 "GhostGame$Dictionary" "count" "I", Cond.fieldLink RX0 9 "GhostGame$Dictionary" "words" "[J", Cond.methodLink RX0 28 yX0_has, Cond.instanceMethod yX0_has, Cond.selects RX0 yX0_has yX0_has, Cond.code yX0_has cX0_has 3 (some .boolean), Cond.methodLink RX0 22 yX0_placeOf, Cond.instanceMethod yX0_placeOf, Cond.selects RX0 yX0_placeOf yX0_placeOf]
def wsX4_addWord_r2 : List Cond := [Cond.code yX0_placeOf cX0_placeOf 4 (some .int), Cond.methodLink RX4 73 yX0_size, Cond.instanceMethod yX0_size, Cond.selects RX0 yX0_size yX0_size, Cond.code yX0_size cX0_size 1 (some .int)]
def wsX4_addWord : List Cond := .code yX4_addWord cX4_addWord 1 (some .int) :: ((wsX4_addWord_r1 ++ wsX4_addWord_r2) ++ wsX40 ++ wsX00 ++ (vx_atS RX4 37 "java/lang/IllegalArgumentException" ["java/lang/RuntimeException", "java/lang/Exception"]).filter goodWord ++ (vx_atS RX4 48 "java/lang/IllegalStateException" ["java/lang/RuntimeException", "java/lang/Exception"]).filter goodWord)
def wsX4_removeWord : List Cond := .code yX4_removeWord cX4_removeWord 1 (some .int) :: ([.classLink RX4 44 "java/lang/IllegalStateException", .initialized "java/lang/IllegalStateException", .fieldLink RX4 10 "GhostGame" "dictionary" "LGhostGame$Dictionary;", .fieldLink RX4 25 "GhostGame" "slip" "J", .methodLink RX4 77 yX0_remove, .instanceMethod yX0_remove, .selects RX0 yX0_remove yX0_remove, .initialized RX0, .code yX0_remove cX0_remove 5 (some .boolean), .fieldLink RX0 15 "GhostGame$Dictionary" "count" "I", .fieldLink RX0 9 "GhostGame$Dictionary" "words" "[J", .methodLink RX0 22 yX0_placeOf, .instanceMethod yX0_placeOf, .selects RX0 yX0_placeOf yX0_placeOf, .code yX0_placeOf cX0_placeOf 4 (some .int), .methodLink RX4 73 yX0_size, .instanceMethod yX0_size, .selects RX0 yX0_size yX0_size, .code yX0_size cX0_size 1 (some .int)] ++ wsX40 ++ wsX00 ++ (vx_atS RX4 48 "java/lang/IllegalStateException" ["java/lang/RuntimeException", "java/lang/Exception"]).filter goodWord)
def wsX4_isWord : List Cond := .code yX4_isWord cX4_isWord 1 (some .boolean) :: ([.fieldLink RX4 10 "GhostGame" "dictionary" "LGhostGame$Dictionary;", .fieldLink RX4 25 "GhostGame" "slip" "J", .methodLink RX4 82 yX0_has, .instanceMethod yX0_has, .selects RX0 yX0_has yX0_has, .initialized RX0, .code yX0_has cX0_has 3 (some .boolean), .methodLink RX0 22 yX0_placeOf, .instanceMethod yX0_placeOf, .selects RX0 yX0_placeOf yX0_placeOf, .code yX0_placeOf cX0_placeOf 4 (some .int), .fieldLink RX0 15 "GhostGame$Dictionary" "count" "I", .fieldLink RX0 9 "GhostGame$Dictionary" "words" "[J"] ++ wsX40 ++ wsX00)
def wsX4_words : List Cond := .code yX4_words cX4_words 1 (some .int) :: ([.fieldLink RX4 10 "GhostGame" "dictionary" "LGhostGame$Dictionary;", .methodLink RX4 73 yX0_size, .instanceMethod yX0_size, .selects RX0 yX0_size yX0_size, .initialized RX0, .code yX0_size cX0_size 1 (some .int), .fieldLink RX0 15 "GhostGame$Dictionary" "count" "I"] ++ wsX40 ++ wsX00)
def wsX4_wordsFromSlip : List Cond := .code yX4_wordsFromSlip cX4_wordsFromSlip 1 (some .int) :: ([.fieldLink RX4 10 "GhostGame" "dictionary" "LGhostGame$Dictionary;", .fieldLink RX4 25 "GhostGame" "slip" "J", .methodLink RX4 85 yX0_countFrom, .instanceMethod yX0_countFrom, .selects RX0 yX0_countFrom yX0_countFrom, .initialized RX0, .code yX0_countFrom cX0_countFrom 5 (some .int), .fieldLink RX0 15 "GhostGame$Dictionary" "count" "I", .fieldLink RX0 9 "GhostGame$Dictionary" "words" "[J", .methodLink RX0 32 yX2_beginsWith, .static yX2_beginsWith, .initialized RX2, .code yX2_beginsWith cX2_beginsWith 5 (some .boolean), .constantLong RX2 15 (1125899906842623), .methodLink RX2 11 yX2_lengthOf, .static yX2_lengthOf, .code yX2_lengthOf cX2_lengthOf 2 (some .int)] ++ wsX40 ++ wsX00)
def wsX4_beginnings_r1 : List Cond := [Cond.fieldLink RX4 10 "GhostGame" "dictionary" "LGhostGame$Dictionary;", Cond.methodLink RX4 88 yX0_countBeginnings, Cond.instanceMethod yX0_countBeginnings, Cond.selects RX0 yX0_countBeginnings yX0_countBeginnings, Cond.initialized RX0, Cond.code yX0_countBeginnings cX0_countBeginnings 3 (some .int), Cond.fieldLink RX0 15 "GhostGame$Dictionary" "count" "I", Cond.fieldLink RX0 9 "GhostGame$Dictionary" "words" "[J", Cond.methodLink RX0 36 yX2_lengthOf, Cond.static yX2_lengthOf, Cond.initialized RX2, Cond.code yX2_lengthOf cX2_lengthOf 2 (some .int), Cond.methodLink RX0 39 yX0_lengthSharedBefore, Cond.instanceMethod yX0_lengthSharedBefore, Cond.selects RX0 yX0_lengthSharedBefore yX0_lengthSharedBefore, Cond.code yX0_lengthSharedBefore cX0_lengthSharedBefore 4 (some .int), Cond.methodLink RX0 50 Lib.Math.max.name, Cond.static Lib.Math.max.name, Cond.initialized "java/lang/Math", Cond.code Lib.Math.max.name Lib.Math.max.code 2 (some .int), Cond.methodLink RX0 46 yX2_lengthShared, Cond.static yX2_lengthShared, Cond.code yX2_lengthShared cX2_lengthShared 5 (some .int), Cond.methodLink RX2 21 Lib.Math.min.name]
def wsX4_beginnings_r2 : List Cond := [Cond.static Lib.Math.min.name, Cond.code Lib.Math.min.name Lib.Math.min.code 2 (some .int), Cond.methodLink RX2 11 yX2_lengthOf, Cond.methodLink RX2 27 yX2_beginning, Cond.static yX2_beginning, Cond.code yX2_beginning cX2_beginning 4 (some .long), Cond.constantLong RX2 15 (1125899906842623), Cond.methodLink RX2 17 yX2_pack, Cond.static yX2_pack, Cond.code yX2_pack cX2_pack 3 (some .long)]
def wsX4_beginnings : List Cond := .code yX4_beginnings cX4_beginnings 1 (some .int) :: ((wsX4_beginnings_r1 ++ wsX4_beginnings_r2) ++ wsX40 ++ wsX00)
def wsX4_copyWord : List Cond := .code yX4_copyWord cX4_copyWord 4 (some .int) :: ([.classLink RX4 61 "java/lang/IndexOutOfBoundsException", .initialized "java/lang/IndexOutOfBoundsException", .fieldLink RX4 10 "GhostGame" "dictionary" "LGhostGame$Dictionary;", .fieldLink RX4 25 "GhostGame" "slip" "J", .methodLink RX4 91 yX0_wordAt, .instanceMethod yX0_wordAt, .selects RX0 yX0_wordAt yX0_wordAt, .initialized RX0, .code yX0_wordAt cX0_wordAt 2 (some .long), .fieldLink RX0 15 "GhostGame$Dictionary" "count" "I", .fieldLink RX0 9 "GhostGame$Dictionary" "words" "[J", .methodLink RX4 53 yX2_lengthOf, .static yX2_lengthOf, .initialized RX2, .code yX2_lengthOf cX2_lengthOf 2 (some .int)] ++ wsX40 ++ wsX00 ++ (vx_atS RX4 65 "java/lang/IndexOutOfBoundsException" ["java/lang/RuntimeException", "java/lang/Exception"]).filter goodWord)
def wsX4_setLeastLength : List Cond := .code yX4_setLeastLength cX4_setLeastLength 2 (some .int) :: ([.classLink RX4 33 "java/lang/IllegalArgumentException", .initialized "java/lang/IllegalArgumentException", .fieldLink RX4 10 "GhostGame" "dictionary" "LGhostGame$Dictionary;", .methodLink RX4 99 yX0_changeLeastLength, .instanceMethod yX0_changeLeastLength, .selects RX0 yX0_changeLeastLength yX0_changeLeastLength, .initialized RX0, .code yX0_changeLeastLength cX0_changeLeastLength 3 (some .int), .fieldLink RX0 19 "GhostGame$Dictionary" "leastLength" "I"] ++ wsX40 ++ wsX00 ++ (vx_atS RX4 37 "java/lang/IllegalArgumentException" ["java/lang/RuntimeException", "java/lang/Exception"]).filter goodWord)
def wsX4_start : List Cond := .code yX4_start cX4_start 2 none :: ([.classLink RX4 33 "java/lang/IllegalArgumentException", .initialized "java/lang/IllegalArgumentException", .fieldLink RX4 19 "GhostGame" "game" "LGhostGame$Game;", .methodLink RX4 105 yX1_begin, .instanceMethod yX1_begin, .selects RX1 yX1_begin yX1_begin, .initialized RX1, .code yX1_begin cX1_begin 3 none, .fieldLink RX1 9 "GhostGame$Game" "strikes" "[I", .fieldLink RX1 15 "GhostGame$Game" "playerCount" "I", .fieldLink RX1 19 "GhostGame$Game" "mover" "I", .fieldLink RX1 22 "GhostGame$Game" "lastMover" "I", .fieldLink RX1 25 "GhostGame$Game" "champion" "I", .fieldLink RX1 30 "GhostGame$Game" "fragment" "J"] ++ wsX40 ++ wsX10 ++ (vx_atS RX4 37 "java/lang/IllegalArgumentException" ["java/lang/RuntimeException", "java/lang/Exception"]).filter goodWord)
def wsX4_play_r1 : List Cond := [Cond.classLink RX4 33 "java/lang/IllegalArgumentException", Cond.initialized "java/lang/IllegalArgumentException", Cond.classLink RX4 44 "java/lang/IllegalStateException", Cond.initialized "java/lang/IllegalStateException", Cond.fieldLink RX4 19 "GhostGame" "game" "LGhostGame$Game;", Cond.fieldLink RX4 10 "GhostGame" "dictionary" "LGhostGame$Dictionary;", Cond.methodLink RX4 29 yX4_isLetter, Cond.static yX4_isLetter, Cond.initialized RX4, Cond.code yX4_isLetter cX4_isLetter 1 (some .boolean), Cond.methodLink RX4 109 yX1_isOn, Cond.instanceMethod yX1_isOn, Cond.selects RX1 yX1_isOn yX1_isOn, Cond.initialized RX1, Cond.code yX1_isOn cX1_isOn 1 (some .boolean), Cond.fieldLink RX1 19 "GhostGame$Game" "mover" "I", Cond.methodLink RX4 113 yX1_fragment, Cond.instanceMethod yX1_fragment, Cond.selects RX1 yX1_fragment yX1_fragment, Cond.code yX1_fragment cX1_fragment 1 (some .long), Cond.fieldLink RX1 30 "GhostGame$Game" "fragment" "J", Cond.methodLink RX4 40 yX2_isFull, Cond.static yX2_isFull, Cond.initialized RX2]
def wsX4_play_r2 : List Cond := [Cond.code yX2_isFull cX2_isFull 2 (some .boolean), Cond.methodLink RX2 11 yX2_lengthOf, Cond.static yX2_lengthOf, Cond.code yX2_lengthOf cX2_lengthOf 2 (some .int), Cond.methodLink RX4 119 yX1_addLetter, Cond.instanceMethod yX1_addLetter, Cond.selects RX1 yX1_addLetter yX1_addLetter, Cond.code yX1_addLetter cX1_addLetter 3 (some .int), Cond.fieldLink RX1 22 "GhostGame$Game" "lastMover" "I", Cond.methodLink RX1 38 yX2_with, Cond.static yX2_with, Cond.code yX2_with cX2_with 3 (some .long), Cond.constantLong RX2 15 (1125899906842623), Cond.methodLink RX2 17 yX2_pack, Cond.static yX2_pack, Cond.code yX2_pack cX2_pack 3 (some .long), Cond.methodLink RX1 42 yX0_hasCounting, Cond.instanceMethod yX0_hasCounting, Cond.selects RX0 yX0_hasCounting yX0_hasCounting, Cond.initialized RX0, Cond.code yX0_hasCounting cX0_hasCounting 3 (some .boolean), Cond.methodLink RX0 43 yX0_isLongEnough, Cond.instanceMethod yX0_isLongEnough, Cond.selects RX0 yX0_isLongEnough yX0_isLongEnough]
def wsX4_play_r3 : List Cond := [Cond.code yX0_isLongEnough cX0_isLongEnough 3 (some .boolean), Cond.fieldLink RX0 19 "GhostGame$Dictionary" "leastLength" "I", Cond.methodLink RX0 36 yX2_lengthOf, Cond.methodLink RX0 28 yX0_has, Cond.instanceMethod yX0_has, Cond.selects RX0 yX0_has yX0_has, Cond.code yX0_has cX0_has 3 (some .boolean), Cond.methodLink RX0 22 yX0_placeOf, Cond.instanceMethod yX0_placeOf, Cond.selects RX0 yX0_placeOf yX0_placeOf, Cond.code yX0_placeOf cX0_placeOf 4 (some .int), Cond.fieldLink RX0 15 "GhostGame$Dictionary" "count" "I", Cond.fieldLink RX0 9 "GhostGame$Dictionary" "words" "[J", Cond.methodLink RX1 48 yX1_endRound, Cond.instanceMethod yX1_endRound, Cond.selects RX1 yX1_endRound yX1_endRound, Cond.code yX1_endRound cX1_endRound 2 (some .int), Cond.fieldLink RX1 9 "GhostGame$Game" "strikes" "[I", Cond.fieldLink RX1 25 "GhostGame$Game" "champion" "I", Cond.methodLink RX1 34 yX1_hasPlayer, Cond.instanceMethod yX1_hasPlayer, Cond.selects RX1 yX1_hasPlayer yX1_hasPlayer, Cond.code yX1_hasPlayer cX1_hasPlayer 2 (some .boolean), Cond.fieldLink RX1 15 "GhostGame$Game" "playerCount" "I"]
def wsX4_play_r4 : List Cond := [Cond.methodLink RX1 58 yX1_playersLeft, Cond.instanceMethod yX1_playersLeft, Cond.selects RX1 yX1_playersLeft yX1_playersLeft, Cond.code yX1_playersLeft cX1_playersLeft 3 (some .int), Cond.methodLink RX1 62 yX1_isOut, Cond.instanceMethod yX1_isOut, Cond.selects RX1 yX1_isOut yX1_isOut, Cond.code yX1_isOut cX1_isOut 2 (some .boolean), Cond.methodLink RX1 65 yX1_strikesOf, Cond.instanceMethod yX1_strikesOf, Cond.selects RX1 yX1_strikesOf yX1_strikesOf, Cond.code yX1_strikesOf cX1_strikesOf 2 (some .int), Cond.methodLink RX1 52 yX1_nextBehind, Cond.instanceMethod yX1_nextBehind, Cond.selects RX1 yX1_nextBehind yX1_nextBehind, Cond.code yX1_nextBehind cX1_nextBehind 4 (some .int)]
def wsX4_play : List Cond := .code yX4_play cX4_play 2 (some .int) :: ((wsX4_play_r1 ++ (wsX4_play_r2 ++ (wsX4_play_r3 ++ wsX4_play_r4))) ++ wsX40 ++ wsX10 ++ wsX00 ++ (vx_atS RX4 37 "java/lang/IllegalArgumentException" ["java/lang/RuntimeException", "java/lang/Exception"]).filter goodWord ++ (vx_atS RX4 48 "java/lang/IllegalStateException" ["java/lang/RuntimeException", "java/lang/Exception"]).filter goodWord)
def wsX4_challenge_r1 : List Cond := [Cond.classLink RX4 44 "java/lang/IllegalStateException", Cond.initialized "java/lang/IllegalStateException", Cond.fieldLink RX4 19 "GhostGame" "game" "LGhostGame$Game;", Cond.fieldLink RX4 10 "GhostGame" "dictionary" "LGhostGame$Dictionary;", Cond.methodLink RX4 109 yX1_isOn, Cond.instanceMethod yX1_isOn, Cond.selects RX1 yX1_isOn yX1_isOn, Cond.initialized RX1, Cond.code yX1_isOn cX1_isOn 1 (some .boolean), Cond.fieldLink RX1 19 "GhostGame$Game" "mover" "I", Cond.methodLink RX4 113 yX1_fragment, Cond.instanceMethod yX1_fragment, Cond.selects RX1 yX1_fragment yX1_fragment, Cond.code yX1_fragment cX1_fragment 1 (some .long), Cond.fieldLink RX1 30 "GhostGame$Game" "fragment" "J", Cond.methodLink RX4 125 yX1_settleChallenge, Cond.instanceMethod yX1_settleChallenge, Cond.selects RX1 yX1_settleChallenge yX1_settleChallenge, Cond.code yX1_settleChallenge cX1_settleChallenge 2 (some .int), Cond.fieldLink RX1 22 "GhostGame$Game" "lastMover" "I", Cond.methodLink RX1 55 yX0_hasCountingFrom, Cond.instanceMethod yX0_hasCountingFrom, Cond.selects RX0 yX0_hasCountingFrom yX0_hasCountingFrom, Cond.initialized RX0]
def wsX4_challenge_r2 : List Cond := [Cond.code yX0_hasCountingFrom cX0_hasCountingFrom 4 (some .boolean), Cond.fieldLink RX0 15 "GhostGame$Dictionary" "count" "I", Cond.fieldLink RX0 9 "GhostGame$Dictionary" "words" "[J", Cond.methodLink RX0 43 yX0_isLongEnough, Cond.instanceMethod yX0_isLongEnough, Cond.selects RX0 yX0_isLongEnough yX0_isLongEnough, Cond.code yX0_isLongEnough cX0_isLongEnough 3 (some .boolean), Cond.fieldLink RX0 19 "GhostGame$Dictionary" "leastLength" "I", Cond.methodLink RX0 36 yX2_lengthOf, Cond.static yX2_lengthOf, Cond.initialized RX2, Cond.code yX2_lengthOf cX2_lengthOf 2 (some .int), Cond.methodLink RX0 32 yX2_beginsWith, Cond.static yX2_beginsWith, Cond.code yX2_beginsWith cX2_beginsWith 5 (some .boolean), Cond.constantLong RX2 15 (1125899906842623), Cond.methodLink RX2 11 yX2_lengthOf, Cond.methodLink RX1 48 yX1_endRound, Cond.instanceMethod yX1_endRound, Cond.selects RX1 yX1_endRound yX1_endRound, Cond.code yX1_endRound cX1_endRound 2 (some .int), Cond.fieldLink RX1 9 "GhostGame$Game" "strikes" "[I", Cond.fieldLink RX1 25 "GhostGame$Game" "champion" "I", Cond.methodLink RX1 34 yX1_hasPlayer]
def wsX4_challenge_r3 : List Cond := [Cond.instanceMethod yX1_hasPlayer, Cond.selects RX1 yX1_hasPlayer yX1_hasPlayer, Cond.code yX1_hasPlayer cX1_hasPlayer 2 (some .boolean), Cond.fieldLink RX1 15 "GhostGame$Game" "playerCount" "I", Cond.methodLink RX1 58 yX1_playersLeft, Cond.instanceMethod yX1_playersLeft, Cond.selects RX1 yX1_playersLeft yX1_playersLeft, Cond.code yX1_playersLeft cX1_playersLeft 3 (some .int), Cond.methodLink RX1 62 yX1_isOut, Cond.instanceMethod yX1_isOut, Cond.selects RX1 yX1_isOut yX1_isOut, Cond.code yX1_isOut cX1_isOut 2 (some .boolean), Cond.methodLink RX1 65 yX1_strikesOf, Cond.instanceMethod yX1_strikesOf, Cond.selects RX1 yX1_strikesOf yX1_strikesOf, Cond.code yX1_strikesOf cX1_strikesOf 2 (some .int), Cond.methodLink RX1 52 yX1_nextBehind, Cond.instanceMethod yX1_nextBehind, Cond.selects RX1 yX1_nextBehind yX1_nextBehind, Cond.code yX1_nextBehind cX1_nextBehind 4 (some .int)]
def wsX4_challenge : List Cond := .code yX4_challenge cX4_challenge 1 (some .int) :: ((wsX4_challenge_r1 ++ (wsX4_challenge_r2 ++ wsX4_challenge_r3)) ++ wsX40 ++ wsX10 ++ wsX00 ++ (vx_atS RX4 48 "java/lang/IllegalStateException" ["java/lang/RuntimeException", "java/lang/Exception"]).filter goodWord)
def wsX4_turn : List Cond := .code yX4_turn cX4_turn 1 (some .int) :: ([.fieldLink RX4 19 "GhostGame" "game" "LGhostGame$Game;", .methodLink RX4 129 yX1_mover, .instanceMethod yX1_mover, .selects RX1 yX1_mover yX1_mover, .initialized RX1, .code yX1_mover cX1_mover 1 (some .int), .fieldLink RX1 19 "GhostGame$Game" "mover" "I"] ++ wsX40 ++ wsX10)
def wsX4_winner : List Cond := .code yX4_winner cX4_winner 1 (some .int) :: ([.fieldLink RX4 19 "GhostGame" "game" "LGhostGame$Game;", .methodLink RX4 132 yX1_champion, .instanceMethod yX1_champion, .selects RX1 yX1_champion yX1_champion, .initialized RX1, .code yX1_champion cX1_champion 1 (some .int), .fieldLink RX1 25 "GhostGame$Game" "champion" "I"] ++ wsX40 ++ wsX10)
def wsX4_players : List Cond := .code yX4_players cX4_players 1 (some .int) :: ([.fieldLink RX4 19 "GhostGame" "game" "LGhostGame$Game;", .methodLink RX4 135 yX1_playerCount, .instanceMethod yX1_playerCount, .selects RX1 yX1_playerCount yX1_playerCount, .initialized RX1, .code yX1_playerCount cX1_playerCount 1 (some .int), .fieldLink RX1 15 "GhostGame$Game" "playerCount" "I"] ++ wsX40 ++ wsX10)
def wsX4_strikes : List Cond := .code yX4_strikes cX4_strikes 3 (some .int) :: ([.classLink RX4 61 "java/lang/IndexOutOfBoundsException", .initialized "java/lang/IndexOutOfBoundsException", .fieldLink RX4 19 "GhostGame" "game" "LGhostGame$Game;", .methodLink RX4 138 yX1_strikesOf, .instanceMethod yX1_strikesOf, .selects RX1 yX1_strikesOf yX1_strikesOf, .initialized RX1, .code yX1_strikesOf cX1_strikesOf 2 (some .int), .fieldLink RX1 9 "GhostGame$Game" "strikes" "[I", .methodLink RX1 34 yX1_hasPlayer, .instanceMethod yX1_hasPlayer, .selects RX1 yX1_hasPlayer yX1_hasPlayer, .code yX1_hasPlayer cX1_hasPlayer 2 (some .boolean), .fieldLink RX1 15 "GhostGame$Game" "playerCount" "I"] ++ wsX40 ++ wsX10 ++ (vx_atS RX4 65 "java/lang/IndexOutOfBoundsException" ["java/lang/RuntimeException", "java/lang/Exception"]).filter goodWord)
def wsX4_fragmentLength : List Cond := .code yX4_fragmentLength cX4_fragmentLength 1 (some .int) :: ([.fieldLink RX4 19 "GhostGame" "game" "LGhostGame$Game;", .methodLink RX4 113 yX1_fragment, .instanceMethod yX1_fragment, .selects RX1 yX1_fragment yX1_fragment, .initialized RX1, .code yX1_fragment cX1_fragment 1 (some .long), .fieldLink RX1 30 "GhostGame$Game" "fragment" "J", .methodLink RX4 53 yX2_lengthOf, .static yX2_lengthOf, .initialized RX2, .code yX2_lengthOf cX2_lengthOf 2 (some .int)] ++ wsX40 ++ wsX10)
def wsX4_fragmentAt : List Cond := .code yX4_fragmentAt cX4_fragmentAt 3 (some .int) :: ([.classLink RX4 61 "java/lang/IndexOutOfBoundsException", .initialized "java/lang/IndexOutOfBoundsException", .fieldLink RX4 19 "GhostGame" "game" "LGhostGame$Game;", .methodLink RX4 113 yX1_fragment, .instanceMethod yX1_fragment, .selects RX1 yX1_fragment yX1_fragment, .initialized RX1, .code yX1_fragment cX1_fragment 1 (some .long), .fieldLink RX1 30 "GhostGame$Game" "fragment" "J", .methodLink RX4 57 yX2_letterAt, .static yX2_letterAt, .initialized RX2, .code yX2_letterAt cX2_letterAt 4 (some .int), .methodLink RX2 11 yX2_lengthOf, .static yX2_lengthOf, .code yX2_lengthOf cX2_lengthOf 2 (some .int)] ++ wsX40 ++ wsX10 ++ (vx_atS RX4 65 "java/lang/IndexOutOfBoundsException" ["java/lang/RuntimeException", "java/lang/Exception"]).filter goodWord)
def wsX4_openLetters_r1 : List Cond := [Cond.fieldLink RX4 10 "GhostGame" "dictionary" "LGhostGame$Dictionary;", Cond.fieldLink RX4 19 "GhostGame" "game" "LGhostGame$Game;", Cond.methodLink RX4 113 yX1_fragment, Cond.instanceMethod yX1_fragment, Cond.selects RX1 yX1_fragment yX1_fragment, Cond.initialized RX1, Cond.code yX1_fragment cX1_fragment 1 (some .long), Cond.fieldLink RX1 30 "GhostGame$Game" "fragment" "J", Cond.methodLink RX4 145 yX3_lettersOpenBehind, Cond.static yX3_lettersOpenBehind, Cond.initialized RX3, Cond.code yX3_lettersOpenBehind cX3_lettersOpenBehind 7 (some .int), Cond.methodLink RX3 9 yX0_size, Cond.instanceMethod yX0_size, Cond.selects RX0 yX0_size yX0_size, Cond.initialized RX0, Cond.code yX0_size cX0_size 1 (some .int), Cond.fieldLink RX0 15 "GhostGame$Dictionary" "count" "I", Cond.methodLink RX3 15 yX0_wordAt, Cond.instanceMethod yX0_wordAt, Cond.selects RX0 yX0_wordAt yX0_wordAt, Cond.code yX0_wordAt cX0_wordAt 2 (some .long), Cond.fieldLink RX0 9 "GhostGame$Dictionary" "words" "[J", Cond.methodLink RX3 19 yX3_leadsOn]
def wsX4_openLetters_r2 : List Cond := [Cond.static yX3_leadsOn, Cond.code yX3_leadsOn cX3_leadsOn 5 (some .boolean), Cond.methodLink RX3 78 yX0_isLongEnough, Cond.instanceMethod yX0_isLongEnough, Cond.selects RX0 yX0_isLongEnough yX0_isLongEnough, Cond.code yX0_isLongEnough cX0_isLongEnough 3 (some .boolean), Cond.fieldLink RX0 19 "GhostGame$Dictionary" "leastLength" "I", Cond.methodLink RX0 36 yX2_lengthOf, Cond.static yX2_lengthOf, Cond.initialized RX2, Cond.code yX2_lengthOf cX2_lengthOf 2 (some .int), Cond.methodLink RX3 81 yX2_beginsWith, Cond.static yX2_beginsWith, Cond.code yX2_beginsWith cX2_beginsWith 5 (some .boolean), Cond.constantLong RX2 15 (1125899906842623), Cond.methodLink RX2 11 yX2_lengthOf, Cond.methodLink RX3 25 yX2_lengthOf, Cond.methodLink RX3 31 yX2_letterAt, Cond.static yX2_letterAt, Cond.code yX2_letterAt cX2_letterAt 4 (some .int)]
def wsX4_openLetters : List Cond := .code yX4_openLetters cX4_openLetters 1 (some .int) :: ((wsX4_openLetters_r1 ++ wsX4_openLetters_r2) ++ wsX40 ++ wsX10 ++ wsX00)
def wsX4_winningLetters_r1 : List Cond := [Cond.fieldLink RX4 10 "GhostGame" "dictionary" "LGhostGame$Dictionary;", Cond.fieldLink RX4 19 "GhostGame" "game" "LGhostGame$Game;", Cond.methodLink RX4 113 yX1_fragment, Cond.instanceMethod yX1_fragment, Cond.selects RX1 yX1_fragment yX1_fragment, Cond.initialized RX1, Cond.code yX1_fragment cX1_fragment 1 (some .long), Cond.fieldLink RX1 30 "GhostGame$Game" "fragment" "J", Cond.methodLink RX4 151 yX3_lettersWinningBehind, Cond.static yX3_lettersWinningBehind, Cond.initialized RX3, Cond.code yX3_lettersWinningBehind cX3_lettersWinningBehind 6 (some .int), Cond.methodLink RX3 35 yX3_lettersOpenBehind, Cond.static yX3_lettersOpenBehind, Cond.code yX3_lettersOpenBehind cX3_lettersOpenBehind 7 (some .int), Cond.methodLink RX3 9 yX0_size, Cond.instanceMethod yX0_size, Cond.selects RX0 yX0_size yX0_size, Cond.initialized RX0, Cond.code yX0_size cX0_size 1 (some .int), Cond.fieldLink RX0 15 "GhostGame$Dictionary" "count" "I", Cond.methodLink RX3 15 yX0_wordAt, Cond.instanceMethod yX0_wordAt, Cond.selects RX0 yX0_wordAt yX0_wordAt]
def wsX4_winningLetters_r2 : List Cond := [Cond.code yX0_wordAt cX0_wordAt 2 (some .long), Cond.fieldLink RX0 9 "GhostGame$Dictionary" "words" "[J", Cond.methodLink RX3 19 yX3_leadsOn, Cond.static yX3_leadsOn, Cond.code yX3_leadsOn cX3_leadsOn 5 (some .boolean), Cond.methodLink RX3 78 yX0_isLongEnough, Cond.instanceMethod yX0_isLongEnough, Cond.selects RX0 yX0_isLongEnough yX0_isLongEnough, Cond.code yX0_isLongEnough cX0_isLongEnough 3 (some .boolean), Cond.fieldLink RX0 19 "GhostGame$Dictionary" "leastLength" "I", Cond.methodLink RX0 36 yX2_lengthOf, Cond.static yX2_lengthOf, Cond.initialized RX2, Cond.code yX2_lengthOf cX2_lengthOf 2 (some .int), Cond.methodLink RX3 81 yX2_beginsWith, Cond.static yX2_beginsWith, Cond.code yX2_beginsWith cX2_beginsWith 5 (some .boolean), Cond.constantLong RX2 15 (1125899906842623), Cond.methodLink RX2 11 yX2_lengthOf, Cond.methodLink RX3 25 yX2_lengthOf, Cond.methodLink RX3 31 yX2_letterAt, Cond.static yX2_letterAt, Cond.code yX2_letterAt cX2_letterAt 4 (some .int), Cond.methodLink RX3 39 yX3_isIn]
def wsX4_winningLetters_r3 : List Cond := [Cond.static yX3_isIn, Cond.code yX3_isIn cX3_isIn 2 (some .boolean), Cond.methodLink RX3 43 yX3_scoreOfLetter, Cond.static yX3_scoreOfLetter, Cond.code yX3_scoreOfLetter cX3_scoreOfLetter 7 (some .int), Cond.methodLink RX3 71 yX2_with, Cond.static yX2_with, Cond.code yX2_with cX2_with 3 (some .long), Cond.methodLink RX2 17 yX2_pack, Cond.static yX2_pack, Cond.code yX2_pack cX2_pack 3 (some .long), Cond.methodLink RX3 75 yX0_hasCounting, Cond.instanceMethod yX0_hasCounting, Cond.selects RX0 yX0_hasCounting yX0_hasCounting, Cond.code yX0_hasCounting cX0_hasCounting 3 (some .boolean), Cond.methodLink RX0 43 yX0_isLongEnough, Cond.methodLink RX0 28 yX0_has, Cond.instanceMethod yX0_has, Cond.selects RX0 yX0_has yX0_has, Cond.code yX0_has cX0_has 3 (some .boolean), Cond.methodLink RX0 22 yX0_placeOf, Cond.instanceMethod yX0_placeOf, Cond.selects RX0 yX0_placeOf yX0_placeOf, Cond.code yX0_placeOf cX0_placeOf 4 (some .int)]
def wsX4_winningLetters_r4 : List Cond := [Cond.methodLink RX3 47 yX3_score, Cond.static yX3_score, Cond.code yX3_score cX3_score 6 (some .int), Cond.methodLink RX3 67 Lib.Math.max.name, Cond.static Lib.Math.max.name, Cond.initialized "java/lang/Math", Cond.code Lib.Math.max.name Lib.Math.max.code 2 (some .int), Cond.methodLink RX3 63 yX2_isFull, Cond.static yX2_isFull, Cond.code yX2_isFull cX2_isFull 2 (some .boolean)]
def wsX4_winningLetters : List Cond := .code yX4_winningLetters cX4_winningLetters 1 (some .int) :: ((wsX4_winningLetters_r1 ++ (wsX4_winningLetters_r2 ++ (wsX4_winningLetters_r3 ++ wsX4_winningLetters_r4))) ++ wsX40 ++ wsX10 ++ wsX00)
def wsX4_canWin_r1 : List Cond := [Cond.fieldLink RX4 10 "GhostGame" "dictionary" "LGhostGame$Dictionary;", Cond.fieldLink RX4 19 "GhostGame" "game" "LGhostGame$Game;", Cond.methodLink RX4 113 yX1_fragment, Cond.instanceMethod yX1_fragment, Cond.selects RX1 yX1_fragment yX1_fragment, Cond.initialized RX1, Cond.code yX1_fragment cX1_fragment 1 (some .long), Cond.fieldLink RX1 30 "GhostGame$Game" "fragment" "J", Cond.methodLink RX4 154 yX3_moverWins, Cond.static yX3_moverWins, Cond.initialized RX3, Cond.code yX3_moverWins cX3_moverWins 3 (some .boolean), Cond.methodLink RX3 47 yX3_score, Cond.static yX3_score, Cond.code yX3_score cX3_score 6 (some .int), Cond.methodLink RX3 67 Lib.Math.max.name, Cond.static Lib.Math.max.name, Cond.initialized "java/lang/Math", Cond.code Lib.Math.max.name Lib.Math.max.code 2 (some .int), Cond.methodLink RX3 63 yX2_isFull, Cond.static yX2_isFull, Cond.initialized RX2, Cond.code yX2_isFull cX2_isFull 2 (some .boolean), Cond.methodLink RX2 11 yX2_lengthOf]
def wsX4_canWin_r2 : List Cond := [Cond.static yX2_lengthOf, Cond.code yX2_lengthOf cX2_lengthOf 2 (some .int), Cond.methodLink RX3 35 yX3_lettersOpenBehind, Cond.static yX3_lettersOpenBehind, Cond.code yX3_lettersOpenBehind cX3_lettersOpenBehind 7 (some .int), Cond.methodLink RX3 9 yX0_size, Cond.instanceMethod yX0_size, Cond.selects RX0 yX0_size yX0_size, Cond.initialized RX0, Cond.code yX0_size cX0_size 1 (some .int), Cond.fieldLink RX0 15 "GhostGame$Dictionary" "count" "I", Cond.methodLink RX3 15 yX0_wordAt, Cond.instanceMethod yX0_wordAt, Cond.selects RX0 yX0_wordAt yX0_wordAt, Cond.code yX0_wordAt cX0_wordAt 2 (some .long), Cond.fieldLink RX0 9 "GhostGame$Dictionary" "words" "[J", Cond.methodLink RX3 19 yX3_leadsOn, Cond.static yX3_leadsOn, Cond.code yX3_leadsOn cX3_leadsOn 5 (some .boolean), Cond.methodLink RX3 78 yX0_isLongEnough, Cond.instanceMethod yX0_isLongEnough, Cond.selects RX0 yX0_isLongEnough yX0_isLongEnough, Cond.code yX0_isLongEnough cX0_isLongEnough 3 (some .boolean), Cond.fieldLink RX0 19 "GhostGame$Dictionary" "leastLength" "I"]
def wsX4_canWin_r3 : List Cond := [Cond.methodLink RX0 36 yX2_lengthOf, Cond.methodLink RX3 81 yX2_beginsWith, Cond.static yX2_beginsWith, Cond.code yX2_beginsWith cX2_beginsWith 5 (some .boolean), Cond.constantLong RX2 15 (1125899906842623), Cond.methodLink RX3 25 yX2_lengthOf, Cond.methodLink RX3 31 yX2_letterAt, Cond.static yX2_letterAt, Cond.code yX2_letterAt cX2_letterAt 4 (some .int), Cond.methodLink RX3 39 yX3_isIn, Cond.static yX3_isIn, Cond.code yX3_isIn cX3_isIn 2 (some .boolean), Cond.methodLink RX3 43 yX3_scoreOfLetter, Cond.static yX3_scoreOfLetter, Cond.code yX3_scoreOfLetter cX3_scoreOfLetter 7 (some .int), Cond.methodLink RX3 71 yX2_with, Cond.static yX2_with, Cond.code yX2_with cX2_with 3 (some .long), Cond.methodLink RX2 17 yX2_pack, Cond.static yX2_pack, Cond.code yX2_pack cX2_pack 3 (some .long), Cond.methodLink RX3 75 yX0_hasCounting, Cond.instanceMethod yX0_hasCounting, Cond.selects RX0 yX0_hasCounting yX0_hasCounting]
def wsX4_canWin_r4 : List Cond := [Cond.code yX0_hasCounting cX0_hasCounting 3 (some .boolean), Cond.methodLink RX0 43 yX0_isLongEnough, Cond.methodLink RX0 28 yX0_has, Cond.instanceMethod yX0_has, Cond.selects RX0 yX0_has yX0_has, Cond.code yX0_has cX0_has 3 (some .boolean), Cond.methodLink RX0 22 yX0_placeOf, Cond.instanceMethod yX0_placeOf, Cond.selects RX0 yX0_placeOf yX0_placeOf, Cond.code yX0_placeOf cX0_placeOf 4 (some .int)]
def wsX4_canWin : List Cond := .code yX4_canWin cX4_canWin 1 (some .boolean) :: ((wsX4_canWin_r1 ++ (wsX4_canWin_r2 ++ (wsX4_canWin_r3 ++ wsX4_canWin_r4))) ++ wsX40 ++ wsX10 ++ wsX00)
def wsX4_end_r1 : List Cond := [Cond.fieldLink RX4 10 "GhostGame" "dictionary" "LGhostGame$Dictionary;", Cond.fieldLink RX4 19 "GhostGame" "game" "LGhostGame$Game;", Cond.methodLink RX4 113 yX1_fragment, Cond.instanceMethod yX1_fragment, Cond.selects RX1 yX1_fragment yX1_fragment, Cond.initialized RX1, Cond.code yX1_fragment cX1_fragment 1 (some .long), Cond.fieldLink RX1 30 "GhostGame$Game" "fragment" "J", Cond.methodLink RX4 158 yX3_endBehind, Cond.static yX3_endBehind, Cond.initialized RX3, Cond.code yX3_endBehind cX3_endBehind 3 (some .int), Cond.methodLink RX3 50 Lib.Math.abs.name, Cond.static Lib.Math.abs.name, Cond.initialized "java/lang/Math", Cond.code Lib.Math.abs.name Lib.Math.abs.code 1 (some .int), Cond.methodLink RX3 47 yX3_score, Cond.static yX3_score, Cond.code yX3_score cX3_score 6 (some .int), Cond.methodLink RX3 67 Lib.Math.max.name, Cond.static Lib.Math.max.name, Cond.code Lib.Math.max.name Lib.Math.max.code 2 (some .int), Cond.methodLink RX3 63 yX2_isFull, Cond.static yX2_isFull]
def wsX4_end_r2 : List Cond := [Cond.initialized RX2, Cond.code yX2_isFull cX2_isFull 2 (some .boolean), Cond.methodLink RX2 11 yX2_lengthOf, Cond.static yX2_lengthOf, Cond.code yX2_lengthOf cX2_lengthOf 2 (some .int), Cond.methodLink RX3 35 yX3_lettersOpenBehind, Cond.static yX3_lettersOpenBehind, Cond.code yX3_lettersOpenBehind cX3_lettersOpenBehind 7 (some .int), Cond.methodLink RX3 9 yX0_size, Cond.instanceMethod yX0_size, Cond.selects RX0 yX0_size yX0_size, Cond.initialized RX0, Cond.code yX0_size cX0_size 1 (some .int), Cond.fieldLink RX0 15 "GhostGame$Dictionary" "count" "I", Cond.methodLink RX3 15 yX0_wordAt, Cond.instanceMethod yX0_wordAt, Cond.selects RX0 yX0_wordAt yX0_wordAt, Cond.code yX0_wordAt cX0_wordAt 2 (some .long), Cond.fieldLink RX0 9 "GhostGame$Dictionary" "words" "[J", Cond.methodLink RX3 19 yX3_leadsOn, Cond.static yX3_leadsOn, Cond.code yX3_leadsOn cX3_leadsOn 5 (some .boolean), Cond.methodLink RX3 78 yX0_isLongEnough, Cond.instanceMethod yX0_isLongEnough]
def wsX4_end_r3 : List Cond := [Cond.selects RX0 yX0_isLongEnough yX0_isLongEnough, Cond.code yX0_isLongEnough cX0_isLongEnough 3 (some .boolean), Cond.fieldLink RX0 19 "GhostGame$Dictionary" "leastLength" "I", Cond.methodLink RX0 36 yX2_lengthOf, Cond.methodLink RX3 81 yX2_beginsWith, Cond.static yX2_beginsWith, Cond.code yX2_beginsWith cX2_beginsWith 5 (some .boolean), Cond.constantLong RX2 15 (1125899906842623), Cond.methodLink RX3 25 yX2_lengthOf, Cond.methodLink RX3 31 yX2_letterAt, Cond.static yX2_letterAt, Cond.code yX2_letterAt cX2_letterAt 4 (some .int), Cond.methodLink RX3 39 yX3_isIn, Cond.static yX3_isIn, Cond.code yX3_isIn cX3_isIn 2 (some .boolean), Cond.methodLink RX3 43 yX3_scoreOfLetter, Cond.static yX3_scoreOfLetter, Cond.code yX3_scoreOfLetter cX3_scoreOfLetter 7 (some .int), Cond.methodLink RX3 71 yX2_with, Cond.static yX2_with, Cond.code yX2_with cX2_with 3 (some .long), Cond.methodLink RX2 17 yX2_pack, Cond.static yX2_pack, Cond.code yX2_pack cX2_pack 3 (some .long)]
def wsX4_end_r4 : List Cond := [Cond.methodLink RX3 75 yX0_hasCounting, Cond.instanceMethod yX0_hasCounting, Cond.selects RX0 yX0_hasCounting yX0_hasCounting, Cond.code yX0_hasCounting cX0_hasCounting 3 (some .boolean), Cond.methodLink RX0 43 yX0_isLongEnough, Cond.methodLink RX0 28 yX0_has, Cond.instanceMethod yX0_has, Cond.selects RX0 yX0_has yX0_has, Cond.code yX0_has cX0_has 3 (some .boolean), Cond.methodLink RX0 22 yX0_placeOf, Cond.instanceMethod yX0_placeOf, Cond.selects RX0 yX0_placeOf yX0_placeOf, Cond.code yX0_placeOf cX0_placeOf 4 (some .int)]
def wsX4_end : List Cond := .code yX4_end cX4_end 1 (some .int) :: ((wsX4_end_r1 ++ (wsX4_end_r2 ++ (wsX4_end_r3 ++ wsX4_end_r4))) ++ wsX40 ++ wsX10 ++ wsX00)
def wsX4_bestLetter_r1 : List Cond := [Cond.fieldLink RX4 10 "GhostGame" "dictionary" "LGhostGame$Dictionary;", Cond.fieldLink RX4 19 "GhostGame" "game" "LGhostGame$Game;", Cond.methodLink RX4 113 yX1_fragment, Cond.instanceMethod yX1_fragment, Cond.selects RX1 yX1_fragment yX1_fragment, Cond.initialized RX1, Cond.code yX1_fragment cX1_fragment 1 (some .long), Cond.fieldLink RX1 30 "GhostGame$Game" "fragment" "J", Cond.methodLink RX4 161 yX3_letterChosenBehind, Cond.static yX3_letterChosenBehind, Cond.initialized RX3, Cond.code yX3_letterChosenBehind cX3_letterChosenBehind 6 (some .int), Cond.methodLink RX3 35 yX3_lettersOpenBehind, Cond.static yX3_lettersOpenBehind, Cond.code yX3_lettersOpenBehind cX3_lettersOpenBehind 7 (some .int), Cond.methodLink RX3 9 yX0_size, Cond.instanceMethod yX0_size, Cond.selects RX0 yX0_size yX0_size, Cond.initialized RX0, Cond.code yX0_size cX0_size 1 (some .int), Cond.fieldLink RX0 15 "GhostGame$Dictionary" "count" "I", Cond.methodLink RX3 15 yX0_wordAt, Cond.instanceMethod yX0_wordAt, Cond.selects RX0 yX0_wordAt yX0_wordAt]
def wsX4_bestLetter_r2 : List Cond := [Cond.code yX0_wordAt cX0_wordAt 2 (some .long), Cond.fieldLink RX0 9 "GhostGame$Dictionary" "words" "[J", Cond.methodLink RX3 19 yX3_leadsOn, Cond.static yX3_leadsOn, Cond.code yX3_leadsOn cX3_leadsOn 5 (some .boolean), Cond.methodLink RX3 78 yX0_isLongEnough, Cond.instanceMethod yX0_isLongEnough, Cond.selects RX0 yX0_isLongEnough yX0_isLongEnough, Cond.code yX0_isLongEnough cX0_isLongEnough 3 (some .boolean), Cond.fieldLink RX0 19 "GhostGame$Dictionary" "leastLength" "I", Cond.methodLink RX0 36 yX2_lengthOf, Cond.static yX2_lengthOf, Cond.initialized RX2, Cond.code yX2_lengthOf cX2_lengthOf 2 (some .int), Cond.methodLink RX3 81 yX2_beginsWith, Cond.static yX2_beginsWith, Cond.code yX2_beginsWith cX2_beginsWith 5 (some .boolean), Cond.constantLong RX2 15 (1125899906842623), Cond.methodLink RX2 11 yX2_lengthOf, Cond.methodLink RX3 25 yX2_lengthOf, Cond.methodLink RX3 31 yX2_letterAt, Cond.static yX2_letterAt, Cond.code yX2_letterAt cX2_letterAt 4 (some .int), Cond.methodLink RX3 47 yX3_score]
def wsX4_bestLetter_r3 : List Cond := [Cond.static yX3_score, Cond.code yX3_score cX3_score 6 (some .int), Cond.methodLink RX3 67 Lib.Math.max.name, Cond.static Lib.Math.max.name, Cond.initialized "java/lang/Math", Cond.code Lib.Math.max.name Lib.Math.max.code 2 (some .int), Cond.methodLink RX3 63 yX2_isFull, Cond.static yX2_isFull, Cond.code yX2_isFull cX2_isFull 2 (some .boolean), Cond.methodLink RX3 39 yX3_isIn, Cond.static yX3_isIn, Cond.code yX3_isIn cX3_isIn 2 (some .boolean), Cond.methodLink RX3 43 yX3_scoreOfLetter, Cond.static yX3_scoreOfLetter, Cond.code yX3_scoreOfLetter cX3_scoreOfLetter 7 (some .int), Cond.methodLink RX3 71 yX2_with, Cond.static yX2_with, Cond.code yX2_with cX2_with 3 (some .long), Cond.methodLink RX2 17 yX2_pack, Cond.static yX2_pack, Cond.code yX2_pack cX2_pack 3 (some .long), Cond.methodLink RX3 75 yX0_hasCounting, Cond.instanceMethod yX0_hasCounting, Cond.selects RX0 yX0_hasCounting yX0_hasCounting]
def wsX4_bestLetter_r4 : List Cond := [Cond.code yX0_hasCounting cX0_hasCounting 3 (some .boolean), Cond.methodLink RX0 43 yX0_isLongEnough, Cond.methodLink RX0 28 yX0_has, Cond.instanceMethod yX0_has, Cond.selects RX0 yX0_has yX0_has, Cond.code yX0_has cX0_has 3 (some .boolean), Cond.methodLink RX0 22 yX0_placeOf, Cond.instanceMethod yX0_placeOf, Cond.selects RX0 yX0_placeOf yX0_placeOf, Cond.code yX0_placeOf cX0_placeOf 4 (some .int)]
def wsX4_bestLetter : List Cond := .code yX4_bestLetter cX4_bestLetter 1 (some .int) :: ((wsX4_bestLetter_r1 ++ (wsX4_bestLetter_r2 ++ (wsX4_bestLetter_r3 ++ wsX4_bestLetter_r4))) ++ wsX40 ++ wsX10 ++ wsX00)
def wsX4_waysToPlay_r1 : List Cond := [Cond.fieldLink RX4 10 "GhostGame" "dictionary" "LGhostGame$Dictionary;", Cond.fieldLink RX4 19 "GhostGame" "game" "LGhostGame$Game;", Cond.methodLink RX4 113 yX1_fragment, Cond.instanceMethod yX1_fragment, Cond.selects RX1 yX1_fragment yX1_fragment, Cond.initialized RX1, Cond.code yX1_fragment cX1_fragment 1 (some .long), Cond.fieldLink RX1 30 "GhostGame$Game" "fragment" "J", Cond.methodLink RX4 164 yX3_countWays, Cond.static yX3_countWays, Cond.initialized RX3, Cond.code yX3_countWays cX3_countWays 5 (some .int), Cond.methodLink RX3 9 yX0_size, Cond.instanceMethod yX0_size, Cond.selects RX0 yX0_size yX0_size, Cond.initialized RX0, Cond.code yX0_size cX0_size 1 (some .int), Cond.fieldLink RX0 15 "GhostGame$Dictionary" "count" "I", Cond.methodLink RX3 15 yX0_wordAt, Cond.instanceMethod yX0_wordAt, Cond.selects RX0 yX0_wordAt yX0_wordAt, Cond.code yX0_wordAt cX0_wordAt 2 (some .long), Cond.fieldLink RX0 9 "GhostGame$Dictionary" "words" "[J", Cond.methodLink RX3 56 yX3_isWay]
def wsX4_waysToPlay_r2 : List Cond := [Cond.static yX3_isWay, Cond.code yX3_isWay cX3_isWay 6 (some .boolean), Cond.methodLink RX3 19 yX3_leadsOn, Cond.static yX3_leadsOn, Cond.code yX3_leadsOn cX3_leadsOn 5 (some .boolean), Cond.methodLink RX3 78 yX0_isLongEnough, Cond.instanceMethod yX0_isLongEnough, Cond.selects RX0 yX0_isLongEnough yX0_isLongEnough, Cond.code yX0_isLongEnough cX0_isLongEnough 3 (some .boolean), Cond.fieldLink RX0 19 "GhostGame$Dictionary" "leastLength" "I", Cond.methodLink RX0 36 yX2_lengthOf, Cond.static yX2_lengthOf, Cond.initialized RX2, Cond.code yX2_lengthOf cX2_lengthOf 2 (some .int), Cond.methodLink RX3 81 yX2_beginsWith, Cond.static yX2_beginsWith, Cond.code yX2_beginsWith cX2_beginsWith 5 (some .boolean), Cond.constantLong RX2 15 (1125899906842623), Cond.methodLink RX2 11 yX2_lengthOf, Cond.methodLink RX3 25 yX2_lengthOf, Cond.methodLink RX3 84 yX2_beginning, Cond.static yX2_beginning, Cond.code yX2_beginning cX2_beginning 4 (some .long), Cond.methodLink RX2 17 yX2_pack]
def wsX4_waysToPlay_r3 : List Cond := [Cond.static yX2_pack, Cond.code yX2_pack cX2_pack 3 (some .long), Cond.methodLink RX3 75 yX0_hasCounting, Cond.instanceMethod yX0_hasCounting, Cond.selects RX0 yX0_hasCounting yX0_hasCounting, Cond.code yX0_hasCounting cX0_hasCounting 3 (some .boolean), Cond.methodLink RX0 43 yX0_isLongEnough, Cond.methodLink RX0 28 yX0_has, Cond.instanceMethod yX0_has, Cond.selects RX0 yX0_has yX0_has, Cond.code yX0_has cX0_has 3 (some .boolean), Cond.methodLink RX0 22 yX0_placeOf, Cond.instanceMethod yX0_placeOf, Cond.selects RX0 yX0_placeOf yX0_placeOf, Cond.code yX0_placeOf cX0_placeOf 4 (some .int)]
def wsX4_waysToPlay : List Cond := .code yX4_waysToPlay cX4_waysToPlay 1 (some .int) :: ((wsX4_waysToPlay_r1 ++ (wsX4_waysToPlay_r2 ++ wsX4_waysToPlay_r3)) ++ wsX40 ++ wsX10 ++ wsX00)
def wsX4_waysToWin_r1 : List Cond := [Cond.fieldLink RX4 10 "GhostGame" "dictionary" "LGhostGame$Dictionary;", Cond.fieldLink RX4 19 "GhostGame" "game" "LGhostGame$Game;", Cond.methodLink RX4 113 yX1_fragment, Cond.instanceMethod yX1_fragment, Cond.selects RX1 yX1_fragment yX1_fragment, Cond.initialized RX1, Cond.code yX1_fragment cX1_fragment 1 (some .long), Cond.fieldLink RX1 30 "GhostGame$Game" "fragment" "J", Cond.methodLink RX4 167 yX3_countWonWays, Cond.static yX3_countWonWays, Cond.initialized RX3, Cond.code yX3_countWonWays cX3_countWonWays 7 (some .int), Cond.methodLink RX3 9 yX0_size, Cond.instanceMethod yX0_size, Cond.selects RX0 yX0_size yX0_size, Cond.initialized RX0, Cond.code yX0_size cX0_size 1 (some .int), Cond.fieldLink RX0 15 "GhostGame$Dictionary" "count" "I", Cond.methodLink RX3 15 yX0_wordAt, Cond.instanceMethod yX0_wordAt, Cond.selects RX0 yX0_wordAt yX0_wordAt, Cond.code yX0_wordAt cX0_wordAt 2 (some .long), Cond.fieldLink RX0 9 "GhostGame$Dictionary" "words" "[J", Cond.methodLink RX3 56 yX3_isWay]
def wsX4_waysToWin_r2 : List Cond := [Cond.static yX3_isWay, Cond.code yX3_isWay cX3_isWay 6 (some .boolean), Cond.methodLink RX3 19 yX3_leadsOn, Cond.static yX3_leadsOn, Cond.code yX3_leadsOn cX3_leadsOn 5 (some .boolean), Cond.methodLink RX3 78 yX0_isLongEnough, Cond.instanceMethod yX0_isLongEnough, Cond.selects RX0 yX0_isLongEnough yX0_isLongEnough, Cond.code yX0_isLongEnough cX0_isLongEnough 3 (some .boolean), Cond.fieldLink RX0 19 "GhostGame$Dictionary" "leastLength" "I", Cond.methodLink RX0 36 yX2_lengthOf, Cond.static yX2_lengthOf, Cond.initialized RX2, Cond.code yX2_lengthOf cX2_lengthOf 2 (some .int), Cond.methodLink RX3 81 yX2_beginsWith, Cond.static yX2_beginsWith, Cond.code yX2_beginsWith cX2_beginsWith 5 (some .boolean), Cond.constantLong RX2 15 (1125899906842623), Cond.methodLink RX2 11 yX2_lengthOf, Cond.methodLink RX3 25 yX2_lengthOf, Cond.methodLink RX3 84 yX2_beginning, Cond.static yX2_beginning, Cond.code yX2_beginning cX2_beginning 4 (some .long), Cond.methodLink RX2 17 yX2_pack]
def wsX4_waysToWin_r3 : List Cond := [Cond.static yX2_pack, Cond.code yX2_pack cX2_pack 3 (some .long), Cond.methodLink RX3 75 yX0_hasCounting, Cond.instanceMethod yX0_hasCounting, Cond.selects RX0 yX0_hasCounting yX0_hasCounting, Cond.code yX0_hasCounting cX0_hasCounting 3 (some .boolean), Cond.methodLink RX0 43 yX0_isLongEnough, Cond.methodLink RX0 28 yX0_has, Cond.instanceMethod yX0_has, Cond.selects RX0 yX0_has yX0_has, Cond.code yX0_has cX0_has 3 (some .boolean), Cond.methodLink RX0 22 yX0_placeOf, Cond.instanceMethod yX0_placeOf, Cond.selects RX0 yX0_placeOf yX0_placeOf, Cond.code yX0_placeOf cX0_placeOf 4 (some .int), Cond.methodLink RX3 59 yX3_otherSideCompletes, Cond.static yX3_otherSideCompletes, Cond.code yX3_otherSideCompletes cX3_otherSideCompletes 4 (some .boolean)]
def wsX4_waysToWin : List Cond := .code yX4_waysToWin cX4_waysToWin 1 (some .int) :: ((wsX4_waysToWin_r1 ++ (wsX4_waysToWin_r2 ++ wsX4_waysToWin_r3)) ++ wsX40 ++ wsX10 ++ wsX00)
def wsJ9_abs_0f7a4 : List Cond := .code yJ9_abs_0f7a4 cJ9_abs_0f7a4 1 (some .int) :: ([])
def wsJ9_max_7cf53 : List Cond := .code yJ9_max_7cf53 cJ9_max_7cf53 2 (some .int) :: ([])
def wsJ9_min_7cf53 : List Cond := .code yJ9_min_7cf53 cJ9_min_7cf53 2 (some .int) :: ([])
theorem inJ9 : ∀ w ∈ wsJ90, w ∈ lw_tbl := by decide +kernel
theorem inJ0 : ∀ w ∈ wsJ00, w ∈ lw_tbl := by decide +kernel
abbrev vwCl : List vw_C := [(RX0, TX0, 3), (RX1, TX1, 6), (RX4, TX4, 3)]
end
section
section BASE
/-- the array classes of a run: of int and long arrays (the third is of no use here) -/
abbrev GG : Type := va_G × (ClassId × ClassId × ClassId)
abbrev tyG (g : GG) : List (ClassId × FieldType) := [(g.2.1, .int), (g.2.2.1, .long)]
def Pw (g : GG) (wd : va_W) (sz : Nat) (U : State) : Prop := U.heap.size = sz ∧ va_P g.1 vwCl wd U.heap ∧ va_K g.1 vwCl (tyG g) U ∧ va_D (fun _ => True) wd
def Bw (g : GG) (A : Nat → Prop) (wd : va_W) (t : State) : Prop := va_P g.1 vwCl wd t.heap ∧ va_K g.1 vwCl (tyG g) t ∧ va_D A wd
/-- contracts over a world that makes nothing: with an int (or boolean), a long, nothing as the answer -/
def Ci (l : Launch) (y : MethodName) (ws : List Cond) (rm : Room) (g : GG) (av : List Value) (wd : va_W) (post : Int32 → va_W → Prop) : Prop := ∀ sz : Nat, Met l y ws rm (va_Pc av (Pw g wd sz)) (va_Qi post (fun w t => Bw g (va_A wd sz) w t) (va_A wd sz)) 0 0 (va_A wd sz)
def Cl (l : Launch) (y : MethodName) (ws : List Cond) (rm : Room) (g : GG) (av : List Value) (wd : va_W) (post : Int64 → va_W → Prop) : Prop := ∀ sz : Nat, Met l y ws rm (va_Pc av (Pw g wd sz)) (va_Ql post (fun w t => Bw g (va_A wd sz) w t) (va_A wd sz)) 0 0 (va_A wd sz)
def Cv (l : Launch) (y : MethodName) (ws : List Cond) (rm : Room) (g : GG) (av : List Value) (wd : va_W) (post : va_W → Prop) : Prop := ∀ sz : Nat, Met l y ws rm (va_Pc av (Pw g wd sz)) (va_Qv post (fun w t => Bw g (va_A wd sz) w t) (va_A wd sz)) 0 0 (va_A wd sz)
/-- pure static methods -/
def Pi (l : Launch) (y : MethodName) (ws : List Cond) (rm : Room) (av : List Value) (post : Int32 → Prop) : Prop := ∀ g : GG, Ci l y ws rm g av [] (fun r w => w = [] ∧ post r)
def Pl (l : Launch) (y : MethodName) (ws : List Cond) (rm : Room) (av : List Value) (post : Int64 → Prop) : Prop := ∀ g : GG, Cl l y ws rm g av [] (fun r w => w = [] ∧ post r)
theorem Pw.blind (g : GG) (av : List Value) (wd : va_W) (sz : Nat) : FrameBlind (va_Pc av (Pw g wd sz)) := fun a U gg mk q => by
  obtain ⟨q0, q1, qP, qK, qD⟩ := q
  exact ⟨q0, q1, qP, va_K.moved (u := U) (U := U.calling gg mk a) (Vm.Alike.refl U.vm) qK, qD⟩
theorem fm_of {ws wc : va_W} : ∀ {is : List Nat} {w : va_W}, is.map (fun i => ws[i]?) = w.map some → is.filterMap (fun i => ws[i]?) = w
  | [], [], _ => rfl
  | [], _ :: _, h => by cases h
  | _ :: _, [], h => by cases h
  | i :: is, x :: w, h => by
    obtain ⟨h1, h2⟩ := List.cons.inj (show ws[i]? :: is.map (fun i => ws[i]?) = some x :: w.map some from h)
    rw [List.filterMap_cons, h1]
    show x :: _ = _
    rw [fm_of (wc := wc) h2]
theorem rng_map (ws : va_W) : (List.range ws.length).map (fun i => ws[i]?) = ws.map some := by
  apply List.ext_getElem?
  intro i
  rw [List.getElem?_map, List.getElem?_map]
  by_cases h : i < ws.length
  · rw [List.getElem?_range h, List.getElem?_eq_getElem h]
    show some (ws[i]?) = _
    rw [List.getElem?_eq_getElem h]
    rfl
  · rw [List.getElem?_eq_none (by rw [List.length_range]; omega), List.getElem?_eq_none (by omega)]
    rfl
theorem nd_of : ∀ {l : List Nat}, l.Nodup → va_nd l = true
  | [], _ => rfl
  | a :: l, h => by
    have h' := List.nodup_cons.mp h
    show (decide (a ∉ l) && va_nd l) = true
    rw [nd_of h'.2, decide_eq_true h'.1]
    rfl
variable {l : Launch} {y : MethodName} {ws ws' : List Cond} {rm : Room} {g : GG} {av : List Value} {wd : va_W} {cc : ByteArray} {maxL : Nat}
/-- the body of a method that answers an int -/
theorem Ci.ofI {post : Int32 → va_W → Prop} (hy : plainName y.cls = true) (hw : ws = Cond.code y cc maxL (some .int) :: ws') (hn : (lg_sl av).length ≤ maxL)
    (body : ∀ (p : Program) (e : Env) (s : State) (m : MethodId) (args : Array Value) (below : List Frame) (meth : Method) (c : Code) (A : Nat → Prop) (Z : State → Prop),
      p.tables.exec = Jvm.exec → c.code = cc → c.maxLocals = maxL → (∀ w ∈ ws, w.before args s = true) → s.vm.findClass y.cls = some m.cls → va_K g.1 vwCl (tyG g) s → (∀ q, s.heap.size ≤ q → A q) →
      (∀ (r : Int32) (w : va_W) (H : Heap) (locs : List Loc) (ls : Array Slot) (pc : Nat), decode cc pc = .ok (.ireturn, 1) → post r w → va_P g.1 vwCl w H → va_D A w → va_S A s.heap H locs → W p l e rm s m args below meth c H locs 0 0 Z (F0 m pc ls [.int r])) →
      ∀ (H : Heap) (locs : List Loc) (ls : Array Slot), va_P g.1 vwCl wd H → va_D A wd → va_S A s.heap H locs → lv_has ls maxL (lv_args 0 av) → W p l e rm s m args below meth c H locs 0 0 Z (F0 m 0 ls [])) : Ci l y ws rm g av wd post := by
  intro sz
  refine Met.ofW (cc := cc) (maxL := maxL) (ret := some .int) hy hw ?_
  intro p e s m args below meth c s₁ B hml hv
  obtain ⟨rfl, hsz, hP, hK, hD0⟩ := hv
  have hx := B.exec
  have hb := B.bytes
  have hr := B.returns
  have hts := atoms_spec (ws := ws) B.pre
  have hown : s.vm.findClass y.cls = some m.cls := findClass_of_methodNamed B.named
  have hlocks := B.notSynchronized
  subst hsz
  have hD := hD0.self (sz := s.heap.size)
  generalize hAe : va_A wd s.heap.size = A at hD ⊢
  have hA : ∀ q : Nat, s.heap.size ≤ q → A q := fun q h => by rw [← hAe]; exact Or.inr h
  have hl := lv_entry av (n := maxL) hn
  rw [lg_entry_eq]
  exact body p e s m av.toArray below meth c A _ hx hb hml hts hown hK hA (fun r w H locs ls pc hd hp hP hD hS =>
    W.iret (v := r) hx hb hr (fun t ht hW => ⟨⟨r, w, rfl, hp, by rw [ht]; exact hP, va_K.moved hW.alike hK, hD⟩, hS.F ht⟩) hS.2.2 hd) _ _ _ hP hD va_S.rf hl
theorem nar_z {v : Int32} (h : v = 0 ∨ v = 1) : narrow .boolean (.int v) = .int v := by
  rcases h with rfl | rfl <;> rfl
theorem Ci.ofZ {post : Int32 → va_W → Prop} (hy : plainName y.cls = true) (hw : ws = Cond.code y cc maxL (some .boolean) :: ws') (hn : (lg_sl av).length ≤ maxL)
    (body : ∀ (p : Program) (e : Env) (s : State) (m : MethodId) (args : Array Value) (below : List Frame) (meth : Method) (c : Code) (A : Nat → Prop) (Z : State → Prop),
      p.tables.exec = Jvm.exec → c.code = cc → c.maxLocals = maxL → (∀ w ∈ ws, w.before args s = true) → s.vm.findClass y.cls = some m.cls → va_K g.1 vwCl (tyG g) s → (∀ q, s.heap.size ≤ q → A q) →
      (∀ (r : Int32) (w : va_W) (H : Heap) (locs : List Loc) (ls : Array Slot) (pc : Nat), decode cc pc = .ok (.ireturn, 1) → (r = 0 ∨ r = 1) → post r w → va_P g.1 vwCl w H → va_D A w → va_S A s.heap H locs → W p l e rm s m args below meth c H locs 0 0 Z (F0 m pc ls [.int r])) →
      ∀ (H : Heap) (locs : List Loc) (ls : Array Slot), va_P g.1 vwCl wd H → va_D A wd → va_S A s.heap H locs → lv_has ls maxL (lv_args 0 av) → W p l e rm s m args below meth c H locs 0 0 Z (F0 m 0 ls [])) : Ci l y ws rm g av wd post := by
  intro sz
  refine Met.ofW (cc := cc) (maxL := maxL) (ret := some .boolean) hy hw ?_
  intro p e s m args below meth c s₁ B hml hv
  obtain ⟨rfl, hsz, hP, hK, hD0⟩ := hv
  have hx := B.exec
  have hb := B.bytes
  have hr := B.returns
  have hts := atoms_spec (ws := ws) B.pre
  have hown : s.vm.findClass y.cls = some m.cls := findClass_of_methodNamed B.named
  have hlocks := B.notSynchronized
  subst hsz
  have hD := hD0.self (sz := s.heap.size)
  generalize hAe : va_A wd s.heap.size = A at hD ⊢
  have hA : ∀ q : Nat, s.heap.size ≤ q → A q := fun q h => by rw [← hAe]; exact Or.inr h
  have hl := lv_entry av (n := maxL) hn
  rw [lg_entry_eq]
  exact body p e s m av.toArray below meth c A _ hx hb hml hts hown hK hA (fun r w H locs ls pc hd hz hp hP hD hS =>
    W.zret (v := r) hx hb hr (nar_z hz) (fun t ht hW => ⟨⟨r, w, rfl, hp, by rw [ht]; exact hP, va_K.moved hW.alike hK, hD⟩, hS.F ht⟩) hS.2.2 hd) _ _ _ hP hD va_S.rf hl
theorem Cl.ofL {post : Int64 → va_W → Prop} (hy : plainName y.cls = true) (hw : ws = Cond.code y cc maxL (some .long) :: ws') (hn : (lg_sl av).length ≤ maxL)
    (body : ∀ (p : Program) (e : Env) (s : State) (m : MethodId) (args : Array Value) (below : List Frame) (meth : Method) (c : Code) (A : Nat → Prop) (Z : State → Prop),
      p.tables.exec = Jvm.exec → c.code = cc → c.maxLocals = maxL → (∀ w ∈ ws, w.before args s = true) → s.vm.findClass y.cls = some m.cls → va_K g.1 vwCl (tyG g) s → (∀ q, s.heap.size ≤ q → A q) →
      (∀ (r : Int64) (w : va_W) (H : Heap) (locs : List Loc) (ls : Array Slot) (pc : Nat), decode cc pc = .ok (.lreturn, 1) → post r w → va_P g.1 vwCl w H → va_D A w → va_S A s.heap H locs → W p l e rm s m args below meth c H locs 0 0 Z (F0 m pc ls [.long r])) →
      ∀ (H : Heap) (locs : List Loc) (ls : Array Slot), va_P g.1 vwCl wd H → va_D A wd → va_S A s.heap H locs → lv_has ls maxL (lv_args 0 av) → W p l e rm s m args below meth c H locs 0 0 Z (F0 m 0 ls [])) : Cl l y ws rm g av wd post := by
  intro sz
  refine Met.ofW (cc := cc) (maxL := maxL) (ret := some .long) hy hw ?_
  intro p e s m args below meth c s₁ B hml hv
  obtain ⟨rfl, hsz, hP, hK, hD0⟩ := hv
  have hx := B.exec
  have hb := B.bytes
  have hr := B.returns
  have hts := atoms_spec (ws := ws) B.pre
  have hown : s.vm.findClass y.cls = some m.cls := findClass_of_methodNamed B.named
  have hlocks := B.notSynchronized
  subst hsz
  have hD := hD0.self (sz := s.heap.size)
  generalize hAe : va_A wd s.heap.size = A at hD ⊢
  have hA : ∀ q : Nat, s.heap.size ≤ q → A q := fun q h => by rw [← hAe]; exact Or.inr h
  have hl := lv_entry av (n := maxL) hn
  rw [lg_entry_eq]
  exact body p e s m av.toArray below meth c A _ hx hb hml hts hown hK hA (fun r w H locs ls pc hd hp hP hD hS =>
    W.lret (v := r) hx hb hr (fun t ht hW => ⟨⟨r, w, rfl, hp, by rw [ht]; exact hP, va_K.moved hW.alike hK, hD⟩, hS.F ht⟩) hS.2.2 hd) _ _ _ hP hD va_S.rf hl
theorem Cv.ofV {post : va_W → Prop} (hy : plainName y.cls = true) (hw : ws = Cond.code y cc maxL none :: ws') (hn : (lg_sl av).length ≤ maxL)
    (body : ∀ (p : Program) (e : Env) (s : State) (m : MethodId) (args : Array Value) (below : List Frame) (meth : Method) (c : Code) (A : Nat → Prop) (Z : State → Prop),
      p.tables.exec = Jvm.exec → c.code = cc → c.maxLocals = maxL → (∀ w ∈ ws, w.before args s = true) → s.vm.findClass y.cls = some m.cls → va_K g.1 vwCl (tyG g) s → (∀ q, s.heap.size ≤ q → A q) →
      (∀ (w : va_W) (H : Heap) (locs : List Loc) (ls : Array Slot) (pc : Nat), decode cc pc = .ok (.return_, 1) → post w → va_P g.1 vwCl w H → va_D A w → va_S A s.heap H locs → W p l e rm s m args below meth c H locs 0 0 Z (F0 m pc ls [])) →
      ∀ (H : Heap) (locs : List Loc) (ls : Array Slot), va_P g.1 vwCl wd H → va_D A wd → va_S A s.heap H locs → lv_has ls maxL (lv_args 0 av) → W p l e rm s m args below meth c H locs 0 0 Z (F0 m 0 ls [])) : Cv l y ws rm g av wd post := by
  intro sz
  refine Met.ofW (cc := cc) (maxL := maxL) (ret := none) hy hw ?_
  intro p e s m args below meth c s₁ B hml hv
  obtain ⟨rfl, hsz, hP, hK, hD0⟩ := hv
  have hx := B.exec
  have hb := B.bytes
  have hr := B.returns
  have hts := atoms_spec (ws := ws) B.pre
  have hown : s.vm.findClass y.cls = some m.cls := findClass_of_methodNamed B.named
  have hlocks := B.notSynchronized
  subst hsz
  have hD := hD0.self (sz := s.heap.size)
  generalize hAe : va_A wd s.heap.size = A at hD ⊢
  have hA : ∀ q : Nat, s.heap.size ≤ q → A q := fun q h => by rw [← hAe]; exact Or.inr h
  have hl := lv_entry av (n := maxL) hn
  rw [lg_entry_eq]
  exact body p e s m av.toArray below meth c A _ hx hb hml hts hown hK hA (fun w H locs ls pc hd hp hP hD hS =>
    W.vret hx hb hr (fun t ht hW => ⟨⟨w, rfl, hp, by rw [ht]; exact hP, va_K.moved hW.alike hK, hD⟩, hS.F ht⟩) hS.2.2 hd) _ _ _ hP hD va_S.rf hl
end BASE
end
section
section CALLS
variable {p : Program} {l : Launch} {e : Env} {R : Room} {s : State} {m : MethodId} {args : Array Value} {below : List Frame} {meth : Method} {c : Code} {H : Heap} {locs : List Loc} {cells slots : Nat} {Q : State → Prop}
variable {cc : ByteArray} {nL maxL n index pc : Nat} {Ts ws : List Cond} {own C : String} {y : MethodName} {bytes : ByteArray} {ret : Option FieldType} {rm : Room} {g : GG} {As rest st0 : List Value} {b : Nat} {wd wc wr : va_W} {A : Nat → Prop} {H0 : Heap} {ls : Array Slot}
theorem call_iV {post : Int32 → va_W → Prop} (S : CallFix p m c cc nL s args Ts own) (hC : Ci l y ws rm g (.ref b :: As) wc post) (cw : CallW R s args own C index y bytes maxL ret ws rm 0 0 n)
    (hP : va_P g.1 vwCl wd H) (hK : va_K g.1 vwCl (tyG g) s) (hD : va_D A wd) (hS : va_S A H0 H locs) (hA : ∀ q, H0.size ≤ q → A q) (isC isR : List Nat) (hc : isC.map (fun i => wd[i]?) = wc.map some) (hr : isR.map (fun i => wd[i]?) = wr.map some) (hnC : va_nd isC = true) (hnR : va_nd isR = true) (hdis : ∀ i ∈ isR, i ∉ isC)
    (q0 : Nat) {ci : Nat} {q : vw_C} {fs : List Value} (he : wc[q0]? = some (b, .inr (ci, fs))) (hci : vwCl[ci]? = some q) (hqC : q.1 = C) (hn : As.length = n) (hsz : ls.size = nL) (hst : st0 = As.reverse ++ .ref b :: rest) (hrm : (rest.map fun v => v.category).sum ≤ 8) (hdg : decode cc pc = .ok (.invokevirtual index, 3)) (hf : cells + 0 ≤ R.cells ∧ slots + 0 ≤ R.slots)
    (kk : ∀ (r : Int32) (w : va_W) (H1 : Heap) (locs1 : List Loc), post r w → va_P g.1 vwCl (wr ++ w) H1 → va_D A (wr ++ w) → va_S A H0 H1 locs1 → W p l e R s m args below meth c H1 locs1 cells slots Q (F0 m (pc + 3) ls (.int r :: rest))) : W p l e R s m args below meth c H locs cells slots Q (F0 m pc ls st0) := by
  subst hst
  have hPc : va_P g.1 vwCl wc H := hP.sub isC (fm_of (wc := wc) hc)
  have hDc : va_D A wc := hD.sub isC hnC hc
  have hFc := va_free (wc := wc) hD hS hA isC hc
  refine va_calli (va_runV (As := As) (rest := rest) S (hC H.size) cw ⟨Pw.blind g (.ref b :: As) wc H.size, (by subst hqC; exact va_recv hK hPc hci he), fun U hU hW => ⟨rfl, by rw [hU], by rw [hU]; exact hPc, va_K.moved hW.alike hK, hDc.weaken (fun _ _ _ _ => trivial)⟩⟩ rfl hn hsz rfl (lv_room hrm) hdg hf) hS (fun q _ h => hFc q h) hFc (fun r w t H1 locs1 ht hvm hw hB hz1 hk1 hS1 => ?_)
  obtain ⟨hP1, hK1, hD1⟩ := hB
  rw [ht] at hP1
  obtain ⟨hP2, hD2⟩ := va_join (wr := wr) (w1 := w) hP hD isC isR hc hr hnR hdis hk1 hFc hP1 hD1
  exact kk r w H1 locs1 hw hP2 hD2 hS1
theorem call_iS {post : Int32 → va_W → Prop} (S : CallFix p m c cc nL s args Ts own) (hC : Ci l y ws rm g As wc post) (cw : CallB R s args own index y bytes maxL ret ws rm 0 0 n ∧ (Cond.static y).before args s = true)
    (hP : va_P g.1 vwCl wd H) (hK : va_K g.1 vwCl (tyG g) s) (hD : va_D A wd) (hS : va_S A H0 H locs) (hA : ∀ q, H0.size ≤ q → A q) (isC isR : List Nat) (hc : isC.map (fun i => wd[i]?) = wc.map some) (hr : isR.map (fun i => wd[i]?) = wr.map some) (hnC : va_nd isC = true) (hnR : va_nd isR = true) (hdis : ∀ i ∈ isR, i ∉ isC)
    (hn : As.length = n) (hsz : ls.size = nL) (hst : st0 = As.reverse ++ rest) (hrm : (rest.map fun v => v.category).sum ≤ 8) (hdg : decode cc pc = .ok (.invokestatic index, 3)) (hf : cells + 0 ≤ R.cells ∧ slots + 0 ≤ R.slots)
    (kk : ∀ (r : Int32) (w : va_W) (H1 : Heap) (locs1 : List Loc), post r w → va_P g.1 vwCl (wr ++ w) H1 → va_D A (wr ++ w) → va_S A H0 H1 locs1 → W p l e R s m args below meth c H1 locs1 cells slots Q (F0 m (pc + 3) ls (.int r :: rest))) : W p l e R s m args below meth c H locs cells slots Q (F0 m pc ls st0) := by
  subst hst
  have hPc : va_P g.1 vwCl wc H := hP.sub isC (fm_of (wc := wc) hc)
  have hDc : va_D A wc := hD.sub isC hnC hc
  have hFc := va_free (wc := wc) hD hS hA isC hc
  refine va_calli (va_runS (As := As) (rest := rest) S (hC H.size) cw ⟨Pw.blind g As wc H.size, fun U hU hW => ⟨rfl, by rw [hU], by rw [hU]; exact hPc, va_K.moved hW.alike hK, hDc.weaken (fun _ _ _ _ => trivial)⟩⟩ rfl hn hsz rfl (lv_room hrm) hdg hf) hS (fun q _ h => hFc q h) hFc (fun r w t H1 locs1 ht hvm hw hB hz1 hk1 hS1 => ?_)
  obtain ⟨hP1, hK1, hD1⟩ := hB
  rw [ht] at hP1
  obtain ⟨hP2, hD2⟩ := va_join (wr := wr) (w1 := w) hP hD isC isR hc hr hnR hdis hk1 hFc hP1 hD1
  exact kk r w H1 locs1 hw hP2 hD2 hS1
theorem call_lV {post : Int64 → va_W → Prop} (S : CallFix p m c cc nL s args Ts own) (hC : Cl l y ws rm g (.ref b :: As) wc post) (cw : CallW R s args own C index y bytes maxL ret ws rm 0 0 n)
    (hP : va_P g.1 vwCl wd H) (hK : va_K g.1 vwCl (tyG g) s) (hD : va_D A wd) (hS : va_S A H0 H locs) (hA : ∀ q, H0.size ≤ q → A q) (isC isR : List Nat) (hc : isC.map (fun i => wd[i]?) = wc.map some) (hr : isR.map (fun i => wd[i]?) = wr.map some) (hnC : va_nd isC = true) (hnR : va_nd isR = true) (hdis : ∀ i ∈ isR, i ∉ isC)
    (q0 : Nat) {ci : Nat} {q : vw_C} {fs : List Value} (he : wc[q0]? = some (b, .inr (ci, fs))) (hci : vwCl[ci]? = some q) (hqC : q.1 = C) (hn : As.length = n) (hsz : ls.size = nL) (hst : st0 = As.reverse ++ .ref b :: rest) (hrm : (rest.map fun v => v.category).sum ≤ 8) (hdg : decode cc pc = .ok (.invokevirtual index, 3)) (hf : cells + 0 ≤ R.cells ∧ slots + 0 ≤ R.slots)
    (kk : ∀ (r : Int64) (w : va_W) (H1 : Heap) (locs1 : List Loc), post r w → va_P g.1 vwCl (wr ++ w) H1 → va_D A (wr ++ w) → va_S A H0 H1 locs1 → W p l e R s m args below meth c H1 locs1 cells slots Q (F0 m (pc + 3) ls (.long r :: rest))) : W p l e R s m args below meth c H locs cells slots Q (F0 m pc ls st0) := by
  subst hst
  have hPc : va_P g.1 vwCl wc H := hP.sub isC (fm_of (wc := wc) hc)
  have hDc : va_D A wc := hD.sub isC hnC hc
  have hFc := va_free (wc := wc) hD hS hA isC hc
  refine va_calll (va_runV (As := As) (rest := rest) S (hC H.size) cw ⟨Pw.blind g (.ref b :: As) wc H.size, (by subst hqC; exact va_recv hK hPc hci he), fun U hU hW => ⟨rfl, by rw [hU], by rw [hU]; exact hPc, va_K.moved hW.alike hK, hDc.weaken (fun _ _ _ _ => trivial)⟩⟩ rfl hn hsz rfl (lv_room hrm) hdg hf) hS (fun q _ h => hFc q h) hFc (fun r w t H1 locs1 ht hvm hw hB hz1 hk1 hS1 => ?_)
  obtain ⟨hP1, hK1, hD1⟩ := hB
  rw [ht] at hP1
  obtain ⟨hP2, hD2⟩ := va_join (wr := wr) (w1 := w) hP hD isC isR hc hr hnR hdis hk1 hFc hP1 hD1
  exact kk r w H1 locs1 hw hP2 hD2 hS1
theorem call_lS {post : Int64 → va_W → Prop} (S : CallFix p m c cc nL s args Ts own) (hC : Cl l y ws rm g As wc post) (cw : CallB R s args own index y bytes maxL ret ws rm 0 0 n ∧ (Cond.static y).before args s = true)
    (hP : va_P g.1 vwCl wd H) (hK : va_K g.1 vwCl (tyG g) s) (hD : va_D A wd) (hS : va_S A H0 H locs) (hA : ∀ q, H0.size ≤ q → A q) (isC isR : List Nat) (hc : isC.map (fun i => wd[i]?) = wc.map some) (hr : isR.map (fun i => wd[i]?) = wr.map some) (hnC : va_nd isC = true) (hnR : va_nd isR = true) (hdis : ∀ i ∈ isR, i ∉ isC)
    (hn : As.length = n) (hsz : ls.size = nL) (hst : st0 = As.reverse ++ rest) (hrm : (rest.map fun v => v.category).sum ≤ 8) (hdg : decode cc pc = .ok (.invokestatic index, 3)) (hf : cells + 0 ≤ R.cells ∧ slots + 0 ≤ R.slots)
    (kk : ∀ (r : Int64) (w : va_W) (H1 : Heap) (locs1 : List Loc), post r w → va_P g.1 vwCl (wr ++ w) H1 → va_D A (wr ++ w) → va_S A H0 H1 locs1 → W p l e R s m args below meth c H1 locs1 cells slots Q (F0 m (pc + 3) ls (.long r :: rest))) : W p l e R s m args below meth c H locs cells slots Q (F0 m pc ls st0) := by
  subst hst
  have hPc : va_P g.1 vwCl wc H := hP.sub isC (fm_of (wc := wc) hc)
  have hDc : va_D A wc := hD.sub isC hnC hc
  have hFc := va_free (wc := wc) hD hS hA isC hc
  refine va_calll (va_runS (As := As) (rest := rest) S (hC H.size) cw ⟨Pw.blind g As wc H.size, fun U hU hW => ⟨rfl, by rw [hU], by rw [hU]; exact hPc, va_K.moved hW.alike hK, hDc.weaken (fun _ _ _ _ => trivial)⟩⟩ rfl hn hsz rfl (lv_room hrm) hdg hf) hS (fun q _ h => hFc q h) hFc (fun r w t H1 locs1 ht hvm hw hB hz1 hk1 hS1 => ?_)
  obtain ⟨hP1, hK1, hD1⟩ := hB
  rw [ht] at hP1
  obtain ⟨hP2, hD2⟩ := va_join (wr := wr) (w1 := w) hP hD isC isR hc hr hnR hdis hk1 hFc hP1 hD1
  exact kk r w H1 locs1 hw hP2 hD2 hS1
theorem call_vV {post : va_W → Prop} (S : CallFix p m c cc nL s args Ts own) (hC : Cv l y ws rm g (.ref b :: As) wc post) (cw : CallW R s args own C index y bytes maxL ret ws rm 0 0 n)
    (hP : va_P g.1 vwCl wd H) (hK : va_K g.1 vwCl (tyG g) s) (hD : va_D A wd) (hS : va_S A H0 H locs) (hA : ∀ q, H0.size ≤ q → A q) (isC isR : List Nat) (hc : isC.map (fun i => wd[i]?) = wc.map some) (hr : isR.map (fun i => wd[i]?) = wr.map some) (hnC : va_nd isC = true) (hnR : va_nd isR = true) (hdis : ∀ i ∈ isR, i ∉ isC)
    (q0 : Nat) {ci : Nat} {q : vw_C} {fs : List Value} (he : wc[q0]? = some (b, .inr (ci, fs))) (hci : vwCl[ci]? = some q) (hqC : q.1 = C) (hn : As.length = n) (hsz : ls.size = nL) (hst : st0 = As.reverse ++ .ref b :: rest) (hrm : (rest.map fun v => v.category).sum ≤ 8) (hdg : decode cc pc = .ok (.invokevirtual index, 3)) (hf : cells + 0 ≤ R.cells ∧ slots + 0 ≤ R.slots)
    (kk : ∀ (w : va_W) (H1 : Heap) (locs1 : List Loc), post w → va_P g.1 vwCl (wr ++ w) H1 → va_D A (wr ++ w) → va_S A H0 H1 locs1 → W p l e R s m args below meth c H1 locs1 cells slots Q (F0 m (pc + 3) ls rest)) : W p l e R s m args below meth c H locs cells slots Q (F0 m pc ls st0) := by
  subst hst
  have hPc : va_P g.1 vwCl wc H := hP.sub isC (fm_of (wc := wc) hc)
  have hDc : va_D A wc := hD.sub isC hnC hc
  have hFc := va_free (wc := wc) hD hS hA isC hc
  refine va_callv (va_runV (As := As) (rest := rest) S (hC H.size) cw ⟨Pw.blind g (.ref b :: As) wc H.size, (by subst hqC; exact va_recv hK hPc hci he), fun U hU hW => ⟨rfl, by rw [hU], by rw [hU]; exact hPc, va_K.moved hW.alike hK, hDc.weaken (fun _ _ _ _ => trivial)⟩⟩ rfl hn hsz rfl (lv_room hrm) hdg hf) hS (fun q _ h => hFc q h) hFc (fun w t H1 locs1 ht hvm hw hB hz1 hk1 hS1 => ?_)
  obtain ⟨hP1, hK1, hD1⟩ := hB
  rw [ht] at hP1
  obtain ⟨hP2, hD2⟩ := va_join (wr := wr) (w1 := w) hP hD isC isR hc hr hnR hdis hk1 hFc hP1 hD1
  exact kk w H1 locs1 hw hP2 hD2 hS1
theorem call_vS {post : va_W → Prop} (S : CallFix p m c cc nL s args Ts own) (hC : Cv l y ws rm g As wc post) (cw : CallB R s args own index y bytes maxL ret ws rm 0 0 n ∧ (Cond.static y).before args s = true)
    (hP : va_P g.1 vwCl wd H) (hK : va_K g.1 vwCl (tyG g) s) (hD : va_D A wd) (hS : va_S A H0 H locs) (hA : ∀ q, H0.size ≤ q → A q) (isC isR : List Nat) (hc : isC.map (fun i => wd[i]?) = wc.map some) (hr : isR.map (fun i => wd[i]?) = wr.map some) (hnC : va_nd isC = true) (hnR : va_nd isR = true) (hdis : ∀ i ∈ isR, i ∉ isC)
    (hn : As.length = n) (hsz : ls.size = nL) (hst : st0 = As.reverse ++ rest) (hrm : (rest.map fun v => v.category).sum ≤ 8) (hdg : decode cc pc = .ok (.invokestatic index, 3)) (hf : cells + 0 ≤ R.cells ∧ slots + 0 ≤ R.slots)
    (kk : ∀ (w : va_W) (H1 : Heap) (locs1 : List Loc), post w → va_P g.1 vwCl (wr ++ w) H1 → va_D A (wr ++ w) → va_S A H0 H1 locs1 → W p l e R s m args below meth c H1 locs1 cells slots Q (F0 m (pc + 3) ls rest)) : W p l e R s m args below meth c H locs cells slots Q (F0 m pc ls st0) := by
  subst hst
  have hPc : va_P g.1 vwCl wc H := hP.sub isC (fm_of (wc := wc) hc)
  have hDc : va_D A wc := hD.sub isC hnC hc
  have hFc := va_free (wc := wc) hD hS hA isC hc
  refine va_callv (va_runS (As := As) (rest := rest) S (hC H.size) cw ⟨Pw.blind g As wc H.size, fun U hU hW => ⟨rfl, by rw [hU], by rw [hU]; exact hPc, va_K.moved hW.alike hK, hDc.weaken (fun _ _ _ _ => trivial)⟩⟩ rfl hn hsz rfl (lv_room hrm) hdg hf) hS (fun q _ h => hFc q h) hFc (fun w t H1 locs1 ht hvm hw hB hz1 hk1 hS1 => ?_)
  obtain ⟨hP1, hK1, hD1⟩ := hB
  rw [ht] at hP1
  obtain ⟨hP2, hD2⟩ := va_join (wr := wr) (w1 := w) hP hD isC isR hc hr hnR hdis hk1 hFc hP1 hD1
  exact kk w H1 locs1 hw hP2 hD2 hS1
theorem call_iP {post : Int32 → Prop} (S : CallFix p m c cc nL s args Ts own) (hC : Pi l y ws rm As post) (cw : CallB R s args own index y bytes maxL ret ws rm 0 0 n ∧ (Cond.static y).before args s = true)
    (hP : va_P g.1 vwCl wd H) (hK : va_K g.1 vwCl (tyG g) s) (hD : va_D A wd) (hS : va_S A H0 H locs) (hA : ∀ q, H0.size ≤ q → A q)
    (hn : As.length = n) (hsz : ls.size = nL) (hst : st0 = As.reverse ++ rest) (hrm : (rest.map fun v => v.category).sum ≤ 8) (hdg : decode cc pc = .ok (.invokestatic index, 3)) (hf : cells + 0 ≤ R.cells ∧ slots + 0 ≤ R.slots)
    (kk : ∀ (r : Int32) (H1 : Heap) (locs1 : List Loc), post r → va_P g.1 vwCl wd H1 → va_D A wd → va_S A H0 H1 locs1 → W p l e R s m args below meth c H1 locs1 cells slots Q (F0 m (pc + 3) ls (.int r :: rest))) : W p l e R s m args below meth c H locs cells slots Q (F0 m pc ls st0) := by
  refine call_iS (wr := wd) S (hC g) cw hP hK hD hS hA [] (List.range wd.length) rfl (rng_map wd) rfl (nd_of List.nodup_range) (fun i _ h => by cases h) hn hsz hst hrm hdg hf (fun r w H1 locs1 hw hP hD hS => ?_)
  obtain ⟨rfl, hw⟩ := hw
  rw [List.append_nil] at hP hD
  exact kk r H1 locs1 hw hP hD hS
theorem call_lP {post : Int64 → Prop} (S : CallFix p m c cc nL s args Ts own) (hC : Pl l y ws rm As post) (cw : CallB R s args own index y bytes maxL ret ws rm 0 0 n ∧ (Cond.static y).before args s = true)
    (hP : va_P g.1 vwCl wd H) (hK : va_K g.1 vwCl (tyG g) s) (hD : va_D A wd) (hS : va_S A H0 H locs) (hA : ∀ q, H0.size ≤ q → A q)
    (hn : As.length = n) (hsz : ls.size = nL) (hst : st0 = As.reverse ++ rest) (hrm : (rest.map fun v => v.category).sum ≤ 8) (hdg : decode cc pc = .ok (.invokestatic index, 3)) (hf : cells + 0 ≤ R.cells ∧ slots + 0 ≤ R.slots)
    (kk : ∀ (r : Int64) (H1 : Heap) (locs1 : List Loc), post r → va_P g.1 vwCl wd H1 → va_D A wd → va_S A H0 H1 locs1 → W p l e R s m args below meth c H1 locs1 cells slots Q (F0 m (pc + 3) ls (.long r :: rest))) : W p l e R s m args below meth c H locs cells slots Q (F0 m pc ls st0) := by
  refine call_lS (wr := wd) S (hC g) cw hP hK hD hS hA [] (List.range wd.length) rfl (rng_map wd) rfl (nd_of List.nodup_range) (fun i _ h => by cases h) hn hsz hst hrm hdg hf (fun r w H1 locs1 hw hP hD hS => ?_)
  obtain ⟨rfl, hw⟩ := hw
  rw [List.append_nil] at hP hD
  exact kk r H1 locs1 hw hP hD hS
end CALLS
section CALLSW
variable {p : Program} {l : Launch} {e : Env} {R : Room} {s : State} {m : MethodId} {args : Array Value} {below : List Frame} {meth : Method} {c : Code} {H : Heap} {locs : List Loc} {cells slots : Nat} {Q : State → Prop}
variable {cc : ByteArray} {nL maxL n index pc : Nat} {Ts ws : List Cond} {own C : String} {y : MethodName} {bytes : ByteArray} {ret : Option FieldType} {rm : Room} {g : GG} {As rest st0 : List Value} {b : Nat} {wd : va_W} {A : Nat → Prop} {H0 : Heap} {ls : Array Slot}
theorem call_iVW {post : Int32 → va_W → Prop} (S : CallFix p m c cc nL s args Ts own) (hC : Ci l y ws rm g (.ref b :: As) wd post) (cw : CallW R s args own C index y bytes maxL ret ws rm 0 0 n)
    (hP : va_P g.1 vwCl wd H) (hK : va_K g.1 vwCl (tyG g) s) (hD : va_D A wd) (hS : va_S A H0 H locs) (hA : ∀ q, H0.size ≤ q → A q)
    (q0 : Nat) {ci : Nat} {q : vw_C} {fs : List Value} (he : wd[q0]? = some (b, .inr (ci, fs))) (hci : vwCl[ci]? = some q) (hqC : q.1 = C) (hn : As.length = n) (hsz : ls.size = nL) (hst : st0 = As.reverse ++ .ref b :: rest) (hrm : (rest.map fun v => v.category).sum ≤ 8) (hdg : decode cc pc = .ok (.invokevirtual index, 3)) (hf : cells + 0 ≤ R.cells ∧ slots + 0 ≤ R.slots)
    (kk : ∀ (r : Int32) (w : va_W) (H1 : Heap) (locs1 : List Loc), post r w → va_P g.1 vwCl w H1 → va_D A w → va_S A H0 H1 locs1 → W p l e R s m args below meth c H1 locs1 cells slots Q (F0 m (pc + 3) ls (.int r :: rest))) : W p l e R s m args below meth c H locs cells slots Q (F0 m pc ls st0) :=
  call_iV (wr := []) S hC cw hP hK hD hS hA (List.range wd.length) [] (rng_map wd) rfl (nd_of List.nodup_range) rfl (fun i h => by cases h) q0 he hci hqC hn hsz hst hrm hdg hf (fun r w H1 locs1 hw hP hD hS => kk r w H1 locs1 hw hP hD hS)
theorem call_iSW {post : Int32 → va_W → Prop} (S : CallFix p m c cc nL s args Ts own) (hC : Ci l y ws rm g As wd post) (cw : CallB R s args own index y bytes maxL ret ws rm 0 0 n ∧ (Cond.static y).before args s = true)
    (hP : va_P g.1 vwCl wd H) (hK : va_K g.1 vwCl (tyG g) s) (hD : va_D A wd) (hS : va_S A H0 H locs) (hA : ∀ q, H0.size ≤ q → A q)
    (hn : As.length = n) (hsz : ls.size = nL) (hst : st0 = As.reverse ++ rest) (hrm : (rest.map fun v => v.category).sum ≤ 8) (hdg : decode cc pc = .ok (.invokestatic index, 3)) (hf : cells + 0 ≤ R.cells ∧ slots + 0 ≤ R.slots)
    (kk : ∀ (r : Int32) (w : va_W) (H1 : Heap) (locs1 : List Loc), post r w → va_P g.1 vwCl w H1 → va_D A w → va_S A H0 H1 locs1 → W p l e R s m args below meth c H1 locs1 cells slots Q (F0 m (pc + 3) ls (.int r :: rest))) : W p l e R s m args below meth c H locs cells slots Q (F0 m pc ls st0) :=
  call_iS (wr := []) S hC cw hP hK hD hS hA (List.range wd.length) [] (rng_map wd) rfl (nd_of List.nodup_range) rfl (fun i h => by cases h) hn hsz hst hrm hdg hf (fun r w H1 locs1 hw hP hD hS => kk r w H1 locs1 hw hP hD hS)
theorem call_lVW {post : Int64 → va_W → Prop} (S : CallFix p m c cc nL s args Ts own) (hC : Cl l y ws rm g (.ref b :: As) wd post) (cw : CallW R s args own C index y bytes maxL ret ws rm 0 0 n)
    (hP : va_P g.1 vwCl wd H) (hK : va_K g.1 vwCl (tyG g) s) (hD : va_D A wd) (hS : va_S A H0 H locs) (hA : ∀ q, H0.size ≤ q → A q)
    (q0 : Nat) {ci : Nat} {q : vw_C} {fs : List Value} (he : wd[q0]? = some (b, .inr (ci, fs))) (hci : vwCl[ci]? = some q) (hqC : q.1 = C) (hn : As.length = n) (hsz : ls.size = nL) (hst : st0 = As.reverse ++ .ref b :: rest) (hrm : (rest.map fun v => v.category).sum ≤ 8) (hdg : decode cc pc = .ok (.invokevirtual index, 3)) (hf : cells + 0 ≤ R.cells ∧ slots + 0 ≤ R.slots)
    (kk : ∀ (r : Int64) (w : va_W) (H1 : Heap) (locs1 : List Loc), post r w → va_P g.1 vwCl w H1 → va_D A w → va_S A H0 H1 locs1 → W p l e R s m args below meth c H1 locs1 cells slots Q (F0 m (pc + 3) ls (.long r :: rest))) : W p l e R s m args below meth c H locs cells slots Q (F0 m pc ls st0) :=
  call_lV (wr := []) S hC cw hP hK hD hS hA (List.range wd.length) [] (rng_map wd) rfl (nd_of List.nodup_range) rfl (fun i h => by cases h) q0 he hci hqC hn hsz hst hrm hdg hf (fun r w H1 locs1 hw hP hD hS => kk r w H1 locs1 hw hP hD hS)
theorem call_lSW {post : Int64 → va_W → Prop} (S : CallFix p m c cc nL s args Ts own) (hC : Cl l y ws rm g As wd post) (cw : CallB R s args own index y bytes maxL ret ws rm 0 0 n ∧ (Cond.static y).before args s = true)
    (hP : va_P g.1 vwCl wd H) (hK : va_K g.1 vwCl (tyG g) s) (hD : va_D A wd) (hS : va_S A H0 H locs) (hA : ∀ q, H0.size ≤ q → A q)
    (hn : As.length = n) (hsz : ls.size = nL) (hst : st0 = As.reverse ++ rest) (hrm : (rest.map fun v => v.category).sum ≤ 8) (hdg : decode cc pc = .ok (.invokestatic index, 3)) (hf : cells + 0 ≤ R.cells ∧ slots + 0 ≤ R.slots)
    (kk : ∀ (r : Int64) (w : va_W) (H1 : Heap) (locs1 : List Loc), post r w → va_P g.1 vwCl w H1 → va_D A w → va_S A H0 H1 locs1 → W p l e R s m args below meth c H1 locs1 cells slots Q (F0 m (pc + 3) ls (.long r :: rest))) : W p l e R s m args below meth c H locs cells slots Q (F0 m pc ls st0) :=
  call_lS (wr := []) S hC cw hP hK hD hS hA (List.range wd.length) [] (rng_map wd) rfl (nd_of List.nodup_range) rfl (fun i h => by cases h) hn hsz hst hrm hdg hf (fun r w H1 locs1 hw hP hD hS => kk r w H1 locs1 hw hP hD hS)
theorem call_vVW {post : va_W → Prop} (S : CallFix p m c cc nL s args Ts own) (hC : Cv l y ws rm g (.ref b :: As) wd post) (cw : CallW R s args own C index y bytes maxL ret ws rm 0 0 n)
    (hP : va_P g.1 vwCl wd H) (hK : va_K g.1 vwCl (tyG g) s) (hD : va_D A wd) (hS : va_S A H0 H locs) (hA : ∀ q, H0.size ≤ q → A q)
    (q0 : Nat) {ci : Nat} {q : vw_C} {fs : List Value} (he : wd[q0]? = some (b, .inr (ci, fs))) (hci : vwCl[ci]? = some q) (hqC : q.1 = C) (hn : As.length = n) (hsz : ls.size = nL) (hst : st0 = As.reverse ++ .ref b :: rest) (hrm : (rest.map fun v => v.category).sum ≤ 8) (hdg : decode cc pc = .ok (.invokevirtual index, 3)) (hf : cells + 0 ≤ R.cells ∧ slots + 0 ≤ R.slots)
    (kk : ∀ (w : va_W) (H1 : Heap) (locs1 : List Loc), post w → va_P g.1 vwCl w H1 → va_D A w → va_S A H0 H1 locs1 → W p l e R s m args below meth c H1 locs1 cells slots Q (F0 m (pc + 3) ls rest)) : W p l e R s m args below meth c H locs cells slots Q (F0 m pc ls st0) :=
  call_vV (wr := []) S hC cw hP hK hD hS hA (List.range wd.length) [] (rng_map wd) rfl (nd_of List.nodup_range) rfl (fun i h => by cases h) q0 he hci hqC hn hsz hst hrm hdg hf (fun w H1 locs1 hw hP hD hS => kk w H1 locs1 hw hP hD hS)
theorem call_vSW {post : va_W → Prop} (S : CallFix p m c cc nL s args Ts own) (hC : Cv l y ws rm g As wd post) (cw : CallB R s args own index y bytes maxL ret ws rm 0 0 n ∧ (Cond.static y).before args s = true)
    (hP : va_P g.1 vwCl wd H) (hK : va_K g.1 vwCl (tyG g) s) (hD : va_D A wd) (hS : va_S A H0 H locs) (hA : ∀ q, H0.size ≤ q → A q)
    (hn : As.length = n) (hsz : ls.size = nL) (hst : st0 = As.reverse ++ rest) (hrm : (rest.map fun v => v.category).sum ≤ 8) (hdg : decode cc pc = .ok (.invokestatic index, 3)) (hf : cells + 0 ≤ R.cells ∧ slots + 0 ≤ R.slots)
    (kk : ∀ (w : va_W) (H1 : Heap) (locs1 : List Loc), post w → va_P g.1 vwCl w H1 → va_D A w → va_S A H0 H1 locs1 → W p l e R s m args below meth c H1 locs1 cells slots Q (F0 m (pc + 3) ls rest)) : W p l e R s m args below meth c H locs cells slots Q (F0 m pc ls st0) :=
  call_vS (wr := []) S hC cw hP hK hD hS hA (List.range wd.length) [] (rng_map wd) rfl (nd_of List.nodup_range) rfl (fun i h => by cases h) hn hsz hst hrm hdg hf (fun w H1 locs1 hw hP hD hS => kk w H1 locs1 hw hP hD hS)
end CALLSW
section TOPS
variable {p : Program} {l : Launch} {e : Env} {R : Room} {s : State} {m : MethodId} {args : Array Value} {below : List Frame} {meth : Method} {c : Code} {H : Heap} {locs : List Loc} {cells slots : Nat} {Q : State → Prop} {pc : Nat} {ls : Array Slot} {rest : List Value}
theorem tp_i {a b : Int32} (h : a = b) (k : W p l e R s m args below meth c H locs cells slots Q (F0 m pc ls (.int b :: rest))) : W p l e R s m args below meth c H locs cells slots Q (F0 m pc ls (.int a :: rest)) := h ▸ k
theorem tp_l {a b : Int64} (h : a = b) (k : W p l e R s m args below meth c H locs cells slots Q (F0 m pc ls (.long b :: rest))) : W p l e R s m args below meth c H locs cells slots Q (F0 m pc ls (.long a :: rest)) := h ▸ k
theorem tp_2 {a b : Int32} {v : Value} (h : a = b) (k : W p l e R s m args below meth c H locs cells slots Q (F0 m pc ls (v :: .int b :: rest))) : W p l e R s m args below meth c H locs cells slots Q (F0 m pc ls (v :: .int a :: rest)) := h ▸ k
end TOPS
/-- a truth value on the stack -/
def Bv (x : Int32) (P : Prop) : Prop := (x = 1 ∧ P) ∨ (x = 0 ∧ ¬ P)
theorem Bv.t {x : Int32} {P : Prop} (h : Bv x P) (c : ¬ x = 0) : P := by
  rcases h with ⟨-, h⟩ | ⟨h, -⟩
  · exact h
  · exact absurd h c
theorem Bv.f {x : Int32} {P : Prop} (h : Bv x P) (c : x = 0) : ¬ P := by
  rcases h with ⟨h, -⟩ | ⟨-, h⟩
  · rw [c] at h; exact absurd h (by decide)
  · exact h
theorem Bv.yes {P : Prop} (h : P) : Bv 1 P := Or.inl ⟨rfl, h⟩
theorem Bv.no {P : Prop} (h : ¬ P) : Bv 0 P := Or.inr ⟨rfl, h⟩
theorem Bv.z {x : Int32} {P : Prop} (h : Bv x P) : x = 0 ∨ x = 1 := by
  rcases h with ⟨h, -⟩ | ⟨h, -⟩
  · exact Or.inr h
  · exact Or.inl h
theorem Bv.iff {x : Int32} {P P' : Prop} (h : Bv x P) (e : P ↔ P') : Bv x P' := by
  rcases h with ⟨h, a⟩ | ⟨h, a⟩
  · exact Or.inl ⟨h, e.mp a⟩
  · exact Or.inr ⟨h, fun q => a (e.mpr q)⟩
end
section
/-! ===== lN n to 2^64: shifts, and, or, masks, one bit ===== -/
theorem wb_tb (n : Nat) : (lN n).toBitVec = BitVec.ofNat 64 n := rfl
theorem wb_inj {a b : Int64} (h : a.toBitVec = b.toBitVec) : a = b := Int64.toBitVec_inj.mp h
theorem wb_tn {n : Nat} (h : n < 2 ^ 64) : (lN n).toBitVec.toNat = n := by rw [wb_tb, BitVec.toNat_ofNat, Nat.mod_eq_of_lt h]
theorem wb_of (x : Int64) : ∃ n, n < 2 ^ 64 ∧ x = lN n := ⟨x.toBitVec.toNat, x.toBitVec.isLt, wb_inj (by rw [wb_tb]; simp)⟩
theorem wb_of32 (x : Int32) : ∃ n, n < 2 ^ 32 ∧ x = nI n := ⟨x.toBitVec.toNat, x.toBitVec.isLt, Int32.toBitVec_inj.mp (by show _ = BitVec.ofNat 32 _; simp)⟩
theorem wb_c : ∀ k, k < 64 → ((nI k).toInt64 &&& 63) = lN k := by decide +kernel
theorem wb_cu : ∀ k, k < 64 → ((nI k).toInt64.toUInt64 &&& Int64.toUInt64 63) = UInt64.ofNat k := by decide +kernel
theorem wb_sm : ∀ k, k < 64 → (BitVec.ofNat 64 k).smod 64 = BitVec.ofNat 64 k := by decide +kernel
theorem wb_pw {a b : Nat} (h : a ≤ b) : 2 ^ b = 2 ^ a * 2 ^ (b - a) := by rw [← Nat.pow_add]; congr 1; omega
theorem wb_lt2 {a b : Nat} (h : a < b) : 2 ^ a < 2 ^ b := Nat.pow_lt_pow_right (by decide) h
theorem wb_mod (n : Nat) : lN n = lN (n % 2 ^ 64) := wb_inj (by rw [wb_tb, wb_tb]; apply BitVec.eq_of_toNat_eq; rw [BitVec.toNat_ofNat, BitVec.toNat_ofNat, Nat.mod_mod])
theorem wb_shr {n k : Nat} (hn : n < 2 ^ 64) (hk : k < 64) : ((lN n).toUInt64 >>> ((nI k).toInt64.toUInt64 &&& Int64.toUInt64 63)).toInt64 = lN (n / 2 ^ k) := by
  rw [wb_cu k hk]
  apply wb_inj
  apply BitVec.eq_of_toNat_eq
  show ((lN n).toUInt64 >>> UInt64.ofNat k).toNat = (BitVec.ofNat 64 _).toNat
  have h1 : (UInt64.ofNat k).toNat = k := by
    show (BitVec.ofNat 64 k).toNat = k
    rw [BitVec.toNat_ofNat, Nat.mod_eq_of_lt (by omega)]
  have h2 : (lN n).toUInt64.toNat = n := wb_tn hn
  rw [UInt64.toNat_shiftRight, h1, h2, Nat.mod_eq_of_lt hk, Nat.shiftRight_eq_div_pow, BitVec.toNat_ofNat, Nat.mod_eq_of_lt (Nat.lt_of_le_of_lt (Nat.div_le_self _ _) hn)]
theorem wb_shl (n : Nat) {k : Nat} (hk : k < 64) : lN n <<< ((nI k).toInt64 &&& 63) = lN (n * 2 ^ k) := by
  rw [wb_c k hk]
  apply wb_inj
  rw [Int64.toBitVec_shiftLeft, wb_tb, wb_tb, wb_tb, wb_sm k hk]
  apply BitVec.eq_of_toNat_eq
  rw [BitVec.shiftLeft_eq', BitVec.toNat_shiftLeft, BitVec.toNat_ofNat, BitVec.toNat_ofNat, BitVec.toNat_ofNat, Nat.mod_eq_of_lt (show k < 2 ^ 64 by omega), Nat.shiftLeft_eq, Nat.mul_mod, Nat.mod_mod, ← Nat.mul_mod]
theorem wb_and {a b : Nat} (ha : a < 2 ^ 64) (hb : b < 2 ^ 64) : lN a &&& lN b = lN (a &&& b) := by
  apply wb_inj
  rw [Int64.toBitVec_and, wb_tb, wb_tb, wb_tb]
  apply BitVec.eq_of_toNat_eq
  rw [BitVec.toNat_and, BitVec.toNat_ofNat, BitVec.toNat_ofNat, BitVec.toNat_ofNat, Nat.mod_eq_of_lt ha, Nat.mod_eq_of_lt hb, Nat.mod_eq_of_lt (Nat.and_lt_two_pow _ hb)]
theorem wb_or {a b : Nat} (ha : a < 2 ^ 64) (hb : b < 2 ^ 64) : lN a ||| lN b = lN (a ||| b) := by
  apply wb_inj
  rw [Int64.toBitVec_or, wb_tb, wb_tb, wb_tb]
  apply BitVec.eq_of_toNat_eq
  rw [BitVec.toNat_or, BitVec.toNat_ofNat, BitVec.toNat_ofNat, BitVec.toNat_ofNat, Nat.mod_eq_of_lt ha, Nat.mod_eq_of_lt hb, Nat.mod_eq_of_lt (Nat.or_lt_two_pow ha hb)]
theorem wb_mask {n k : Nat} (hn : n < 2 ^ 64) (hk : k < 64) : lN n &&& lN (2 ^ k - 1) = lN (n % 2 ^ k) := by
  rw [wb_and hn (by have := wb_lt2 hk; omega), Nat.and_two_pow_sub_one_eq_mod]
theorem wb_a1 {n : Nat} (hn : n < 2 ^ 64) : lN n &&& 1 = lN (n % 2) := wb_mask (k := 1) hn (by decide)
theorem wb_bit {n k : Nat} (hn : n < 2 ^ 64) (hk : k < 64) : ((lN n).toUInt64 >>> ((nI k).toInt64.toUInt64 &&& Int64.toUInt64 63)).toInt64 &&& 1 = lN (n / 2 ^ k % 2) := by
  rw [wb_shr hn hk, wb_a1 (Nat.lt_of_le_of_lt (Nat.div_le_self _ _) hn)]
theorem wb_xor {q k : Nat} (hk : k < 63) (h : 2 ^ k ≤ q) (h2 : q < 2 ^ (k + 1)) : lN q ^^^ lN (2 ^ k) = lN (q - 2 ^ k) := by
  obtain ⟨r, rfl⟩ : ∃ r, q = 2 ^ k + r := ⟨q - 2 ^ k, by omega⟩
  have hr : r < 2 ^ k := by rw [Nat.pow_succ] at h2; omega
  have hx : (2 ^ k + r) ^^^ 2 ^ k = r := by
    apply Nat.eq_of_testBit_eq
    intro i
    rw [Nat.testBit_xor, Nat.testBit_two_pow]
    rcases Nat.lt_trichotomy i k with h | h | h
    · rw [Nat.testBit_two_pow_add_gt h]
      simp [show ¬ k = i by omega]
    · subst h
      rw [Nat.testBit_two_pow_add_eq]
      simp
    · have a1 : 2 ^ (k + 1) ≤ 2 ^ i := Nat.pow_le_pow_right (by decide) h
      rw [Nat.testBit_lt_two_pow (show 2 ^ k + r < 2 ^ i by omega), Nat.testBit_lt_two_pow (show r < 2 ^ i by omega)]
      simp [show ¬ k = i by omega]
  have b1 := wb_lt2 (show k + 1 < 64 by omega)
  have b2 := wb_lt2 (show k < 64 by omega)
  apply wb_inj
  rw [Int64.toBitVec_xor, wb_tb, wb_tb, wb_tb]
  apply BitVec.eq_of_toNat_eq
  rw [BitVec.toNat_xor, BitVec.toNat_ofNat, BitVec.toNat_ofNat, BitVec.toNat_ofNat, Nat.mod_eq_of_lt (by omega : 2 ^ k + r < 2 ^ 64), Nat.mod_eq_of_lt b2, hx, Nat.add_sub_cancel_left, Nat.mod_eq_of_lt (by omega)]
/-! plain facts to paste, each family by itself; over the kit's nI, lN and upd -/
/-! ===== drawers: more things than places ===== -/
theorem fb_holes : ∀ (m n : Nat) (f : Nat → Nat), (∀ i, i < n → f i < m) → (∀ i j, i < j → j < n → f i ≠ f j) → n ≤ m := by
  intro m
  induction m with
  | zero =>
    intro n f h1 _
    rcases Nat.eq_zero_or_pos n with h | h
    · omega
    · exact absurd (h1 0 h) (Nat.not_lt_zero _)
  | succ m ih =>
    intro n f h1 h2
    by_cases hx : ∃ i, i < n ∧ f i = m
    · obtain ⟨a, ha, hfa⟩ := hx
      have hg := ih (n - 1) (fun i => if i < a then f i else f (i + 1)) (by
        intro i hi
        by_cases q : i < a
        · simp only [if_pos q]
          have b1 := h1 i (by omega)
          have b2 := h2 i a q ha
          omega
        · simp only [if_neg q]
          have b1 := h1 (i + 1) (by omega)
          have b2 := h2 a (i + 1) (by omega) (by omega)
          omega) (by
        intro i j hij hj
        by_cases q : i < a
        · by_cases r : j < a
          · simp only [if_pos q, if_pos r]
            exact h2 i j hij (by omega)
          · simp only [if_pos q, if_neg r]
            exact h2 i (j + 1) (by omega) (by omega)
        · have r : ¬ j < a := by omega
          simp only [if_neg q, if_neg r]
          exact h2 (i + 1) (j + 1) (by omega) (by omega))
      omega
    · have hg := ih n f (fun i hi => by
        have b1 := h1 i hi
        have b2 : f i ≠ m := fun e => hx ⟨i, hi, e⟩
        omega) h2
      omega
/-- two of them in one place -/
theorem fb_twice {m n : Nat} {f : Nat → Nat} (h : ∀ i, i < n → f i < m) (hm : m < n) : ∃ i j, i < j ∧ j < n ∧ f i = f j := by
  refine Classical.byContradiction fun hx => ?_
  have := fb_holes m n f h (fun i j hij hj e => hx ⟨i, j, hij, hj, e⟩)
  omega
/-- as many as places, none twice: each place is taken -/
theorem fb_onto {n : Nat} {f : Nat → Nat} (h : ∀ i, i < n → f i < n) (h2 : ∀ i j, i < j → j < n → f i ≠ f j) {y : Nat} (hy : y < n) : ∃ i, i < n ∧ f i = y := by
  refine Classical.byContradiction fun hx => ?_
  have hne : ∀ i, i < n → f i ≠ y := fun i hi e => hx ⟨i, hi, e⟩
  have := fb_holes (n - 1) n (fun i => if f i < y then f i else f i - 1) (by
    intro i hi
    have b1 := h i hi
    have b2 := hne i hi
    by_cases q : f i < y
    · simp only [if_pos q]; omega
    · simp only [if_neg q]; omega) (by
    intro i j hij hj
    have b1 := hne i (by omega)
    have b2 := hne j hj
    have b3 := h2 i j hij hj
    by_cases q : f i < y
    · by_cases r : f j < y
      · simp only [if_pos q, if_pos r]; exact b3
      · simp only [if_pos q, if_neg r]; omega
    · by_cases r : f j < y
      · simp only [if_neg q, if_pos r]; omega
      · simp only [if_neg q, if_neg r]; omega)
  omega
/-! ===== how many places have a property ===== -/
def fb_ct (p : Nat → Bool) : Nat → Nat
  | 0 => 0
  | n + 1 => fb_ct p n + (if p n then 1 else 0)
theorem fb_ct_succ (p : Nat → Bool) (n : Nat) : fb_ct p (n + 1) = fb_ct p n + (if p n then 1 else 0) := rfl
theorem fb_ct_le (p : Nat → Bool) : ∀ n, fb_ct p n ≤ n
  | 0 => Nat.le_refl _
  | n + 1 => by
    have h := fb_ct_le p n
    rw [fb_ct_succ]
    split <;> omega
theorem fb_ct_step (p : Nat → Bool) (m : Nat) : ∀ n, fb_ct p m ≤ fb_ct p (m + n)
  | 0 => Nat.le_refl _
  | n + 1 => by
    have h := fb_ct_step p m n
    show fb_ct p m ≤ fb_ct p (m + n + 1)
    rw [fb_ct_succ]
    omega
theorem fb_ct_mono (p : Nat → Bool) {m n : Nat} (h : m ≤ n) : fb_ct p m ≤ fb_ct p n := by
  have := fb_ct_step p m (n - m)
  rwa [Nat.add_sub_cancel' h] at this
theorem fb_ct_cong {p q : Nat → Bool} : ∀ {n : Nat}, (∀ k, k < n → p k = q k) → fb_ct p n = fb_ct q n
  | 0, _ => rfl
  | n + 1, h => by
    rw [fb_ct_succ, fb_ct_succ, fb_ct_cong (fun k hk => h k (by omega)), h n (by omega)]
/-- one place changed -/
theorem fb_ct_out (p : Nat → Bool) (b : Bool) {i n : Nat} (h : n ≤ i) : fb_ct (fun k => if k = i then b else p k) n = fb_ct p n :=
  fb_ct_cong fun k hk => if_neg (by omega)
theorem fb_ct_upd (p : Nat → Bool) (b : Bool) {i : Nat} : ∀ {n : Nat}, i < n → fb_ct (fun k => if k = i then b else p k) n + (if p i then 1 else 0) = fb_ct p n + (if b then 1 else 0)
  | 0, h => absurd h (Nat.not_lt_zero i)
  | n + 1, h => by
    rw [fb_ct_succ, fb_ct_succ]
    rcases Nat.lt_or_ge i n with q | q
    · have := fb_ct_upd p b q
      have e : (if n = i then b else p n) = p n := if_neg (by omega)
      rw [e]
      omega
    · have e : i = n := by omega
      subst e
      rw [fb_ct_out p b (Nat.le_refl _)]
      simp only [if_true]
      omega
theorem fb_ct_sub {p q : Nat → Bool} : ∀ {n : Nat}, (∀ k, k < n → p k = true → q k = true) → fb_ct p n ≤ fb_ct q n
  | 0, _ => Nat.le_refl _
  | n + 1, h => by
    have h1 := fb_ct_sub (n := n) (p := p) (q := q) (fun k hk => h k (by omega))
    have h2 := h n (by omega)
    rw [fb_ct_succ, fb_ct_succ]
    cases hp : p n <;> cases hq : q n <;> simp_all <;> omega
theorem fb_ct_or {p q : Nat → Bool} : ∀ {n : Nat}, (∀ k, k < n → ¬ (p k = true ∧ q k = true)) → fb_ct (fun k => p k || q k) n = fb_ct p n + fb_ct q n
  | 0, _ => rfl
  | n + 1, h => by
    have h1 := fb_ct_or (n := n) (p := p) (q := q) (fun k hk => h k (by omega))
    have h2 := h n (by omega)
    rw [fb_ct_succ, fb_ct_succ, fb_ct_succ, h1]
    cases hp : p n <;> cases hq : q n <;> simp_all <;> omega
theorem fb_ct_not (p : Nat → Bool) : ∀ n, fb_ct p n + fb_ct (fun k => !p k) n = n
  | 0 => rfl
  | n + 1 => by
    have h := fb_ct_not p n
    rw [fb_ct_succ, fb_ct_succ]
    cases p n <;> simp <;> omega
theorem fb_ct_split (p : Nat → Bool) (m : Nat) : ∀ n, fb_ct p (m + n) = fb_ct p m + fb_ct (fun k => p (m + k)) n
  | 0 => rfl
  | n + 1 => by
    have h := fb_ct_split p m n
    show fb_ct p (m + n + 1) = _
    rw [fb_ct_succ, fb_ct_succ, h, Nat.add_assoc]
theorem fb_ct_zero {p : Nat → Bool} : ∀ {n : Nat}, fb_ct p n = 0 ↔ ∀ k, k < n → p k = false
  | 0 => ⟨fun _ k hk => absurd hk (Nat.not_lt_zero k), fun _ => rfl⟩
  | n + 1 => by
    have h := fb_ct_zero (p := p) (n := n)
    rw [fb_ct_succ]
    constructor
    · intro e k hk
      have e1 : fb_ct p n = 0 := by omega
      rcases Nat.lt_or_ge k n with q | q
      · exact h.mp e1 k q
      · have ek : k = n := by omega
        subst ek
        cases hp : p k
        · rfl
        · simp [hp] at e
    · intro a
      rw [h.mpr (fun k hk => a k (by omega)), a n (by omega)]
      rfl
theorem fb_ct_pos {p : Nat → Bool} {n : Nat} : 0 < fb_ct p n ↔ ∃ k, k < n ∧ p k = true := by
  constructor
  · intro h
    refine Classical.byContradiction fun hx => ?_
    have := fb_ct_zero.mpr (fun k hk => by
      cases hp : p k
      · rfl
      · exact absurd ⟨k, hk, hp⟩ hx : ∀ k, k < n → p k = false)
    omega
  · rintro ⟨k, hk, hp⟩
    rcases Nat.eq_zero_or_pos (fb_ct p n) with e | e
    · have := fb_ct_zero.mp e k hk
      rw [this] at hp
      cases hp
    · exact e
theorem fb_ct_all {p : Nat → Bool} {n : Nat} : fb_ct p n = n ↔ ∀ k, k < n → p k = true := by
  have h := fb_ct_not p n
  constructor
  · intro e k hk
    have z : fb_ct (fun k => !p k) n = 0 := by omega
    have := fb_ct_zero.mp z k hk
    cases hp : p k
    · simp [hp] at this
    · rfl
  · intro a
    have z : fb_ct (fun k => !p k) n = 0 := fb_ct_zero.mpr (fun k hk => by simp [a k hk])
    omega
/-- the k-th place with the property -/
theorem fb_ct_kth {p : Nat → Bool} {k : Nat} : ∀ {n : Nat}, k < fb_ct p n → ∃ i, i < n ∧ p i = true ∧ fb_ct p i = k
  | 0, h => absurd h (Nat.not_lt_zero k)
  | n + 1, h => by
    rcases Nat.lt_or_ge k (fb_ct p n) with q | q
    · obtain ⟨i, h1, h2⟩ := fb_ct_kth q
      exact ⟨i, by omega, h2⟩
    · rw [fb_ct_succ] at h
      cases hp : p n
      · simp [hp] at h; omega
      · simp [hp] at h
        exact ⟨n, by omega, hp, by omega⟩
theorem fb_ct_kth_one {p : Nat → Bool} {i j : Nat} (hi : p i = true) (hj : p j = true) (e : fb_ct p i = fb_ct p j) : i = j := by
  have key : ∀ a b : Nat, a < b → p a = true → fb_ct p a < fb_ct p b := by
    intro a b hab ha
    have h := fb_ct_mono p (show a + 1 ≤ b from hab)
    rw [fb_ct_succ, ha] at h
    simp at h
    omega
  rcases Nat.lt_trichotomy i j with q | q | q
  · have := key i j q hi; omega
  · exact q
  · have := key j i q hj; omega
/-! ===== sums over a range: one place changed, parts, bounds ===== -/
def fb_sm (f : Nat → Nat) : Nat → Nat
  | 0 => 0
  | n + 1 => fb_sm f n + f n
theorem fb_sm_succ (f : Nat → Nat) (n : Nat) : fb_sm f (n + 1) = fb_sm f n + f n := rfl
theorem fb_sm_cong {f g : Nat → Nat} : ∀ {n : Nat}, (∀ k, k < n → f k = g k) → fb_sm f n = fb_sm g n
  | 0, _ => rfl
  | n + 1, h => by rw [fb_sm_succ, fb_sm_succ, fb_sm_cong (fun k hk => h k (by omega)), h n (by omega)]
theorem fb_sm_out (f : Nat → Nat) (v : Nat) {i n : Nat} (h : n ≤ i) : fb_sm (fun k => if k = i then v else f k) n = fb_sm f n :=
  fb_sm_cong fun k hk => if_neg (by omega)
theorem fb_sm_upd (f : Nat → Nat) (v : Nat) {i : Nat} : ∀ {n : Nat}, i < n → fb_sm (fun k => if k = i then v else f k) n + f i = fb_sm f n + v
  | 0, h => absurd h (Nat.not_lt_zero i)
  | n + 1, h => by
    rw [fb_sm_succ, fb_sm_succ]
    rcases Nat.lt_or_ge i n with q | q
    · have := fb_sm_upd f v q
      have e : (if n = i then v else f n) = f n := if_neg (by omega)
      rw [e]
      omega
    · have e : i = n := by omega
      subst e
      rw [fb_sm_out f v (Nat.le_refl _)]
      simp only [if_true]
      omega
theorem fb_sm_add (f g : Nat → Nat) : ∀ n, fb_sm (fun k => f k + g k) n = fb_sm f n + fb_sm g n
  | 0 => rfl
  | n + 1 => by
    have h := fb_sm_add f g n
    rw [fb_sm_succ, fb_sm_succ, fb_sm_succ, h]
    omega
theorem fb_sm_le {f g : Nat → Nat} : ∀ {n : Nat}, (∀ k, k < n → f k ≤ g k) → fb_sm f n ≤ fb_sm g n
  | 0, _ => Nat.le_refl _
  | n + 1, h => by
    have h1 := fb_sm_le (n := n) (f := f) (g := g) (fun k hk => h k (by omega))
    have h2 := h n (by omega)
    rw [fb_sm_succ, fb_sm_succ]
    omega
theorem fb_sm_const (c : Nat) : ∀ n, fb_sm (fun _ => c) n = n * c
  | 0 => by rw [Nat.zero_mul]; rfl
  | n + 1 => by rw [fb_sm_succ, fb_sm_const c n, Nat.succ_mul]
theorem fb_sm_bound {f : Nat → Nat} {c n : Nat} (h : ∀ k, k < n → f k ≤ c) : fb_sm f n ≤ n * c := by
  rw [← fb_sm_const c n]
  exact fb_sm_le h
theorem fb_sm_mono (f : Nat → Nat) (m : Nat) : ∀ n, fb_sm f m ≤ fb_sm f (m + n)
  | 0 => Nat.le_refl _
  | n + 1 => by
    have h := fb_sm_mono f m n
    show fb_sm f m ≤ fb_sm f (m + n + 1)
    rw [fb_sm_succ]
    omega
theorem fb_sm_part (f : Nat → Nat) {i n : Nat} (h : i < n) : fb_sm f i + f i ≤ fb_sm f n := by
  have := fb_sm_mono f (i + 1) (n - (i + 1))
  rw [fb_sm_succ, show i + 1 + (n - (i + 1)) = n by omega] at this
  exact this
theorem fb_sm_split (f : Nat → Nat) (m : Nat) : ∀ n, fb_sm f (m + n) = fb_sm f m + fb_sm (fun k => f (m + k)) n
  | 0 => rfl
  | n + 1 => by
    have h := fb_sm_split f m n
    show fb_sm f (m + n + 1) = _
    rw [fb_sm_succ, fb_sm_succ, h, Nat.add_assoc]
theorem fb_sm_zero {f : Nat → Nat} {n : Nat} (h : fb_sm f n = 0) : ∀ k, k < n → f k = 0 := fun k hk => by
  have := fb_sm_part f hk
  omega
/-- the same over whole numbers -/
def fb_si (f : Nat → Int) : Nat → Int
  | 0 => 0
  | n + 1 => fb_si f n + f n
theorem fb_si_succ (f : Nat → Int) (n : Nat) : fb_si f (n + 1) = fb_si f n + f n := rfl
theorem fb_si_cong {f g : Nat → Int} : ∀ {n : Nat}, (∀ k, k < n → f k = g k) → fb_si f n = fb_si g n
  | 0, _ => rfl
  | n + 1, h => by rw [fb_si_succ, fb_si_succ, fb_si_cong (fun k hk => h k (by omega)), h n (by omega)]
theorem fb_si_out (f : Nat → Int) (v : Int) {i n : Nat} (h : n ≤ i) : fb_si (fun k => if k = i then v else f k) n = fb_si f n :=
  fb_si_cong fun k hk => if_neg (by omega)
theorem fb_si_upd (f : Nat → Int) (v : Int) {i : Nat} : ∀ {n : Nat}, i < n → fb_si (fun k => if k = i then v else f k) n = fb_si f n - f i + v
  | 0, h => absurd h (Nat.not_lt_zero i)
  | n + 1, h => by
    rw [fb_si_succ, fb_si_succ]
    rcases Nat.lt_or_ge i n with q | q
    · have := fb_si_upd f v q
      have e : (if n = i then v else f n) = f n := if_neg (by omega)
      rw [e]
      omega
    · have e : i = n := by omega
      subst e
      rw [fb_si_out f v (Nat.le_refl _)]
      simp only [if_true]
      omega
theorem fb_si_add (f g : Nat → Int) : ∀ n, fb_si (fun k => f k + g k) n = fb_si f n + fb_si g n
  | 0 => rfl
  | n + 1 => by
    have h := fb_si_add f g n
    rw [fb_si_succ, fb_si_succ, fb_si_succ, h]
    omega
theorem fb_si_sub (f g : Nat → Int) : ∀ n, fb_si (fun k => f k - g k) n = fb_si f n - fb_si g n
  | 0 => rfl
  | n + 1 => by
    have h := fb_si_sub f g n
    rw [fb_si_succ, fb_si_succ, fb_si_succ, h]
    omega
theorem fb_si_mul (c : Int) (f : Nat → Int) : ∀ n, fb_si (fun k => c * f k) n = c * fb_si f n
  | 0 => (Int.mul_zero c).symm
  | n + 1 => by
    have h := fb_si_mul c f n
    rw [fb_si_succ, fb_si_succ, h, Int.mul_add]
theorem fb_si_split (f : Nat → Int) (m : Nat) : ∀ n, fb_si f (m + n) = fb_si f m + fb_si (fun k => f (m + k)) n
  | 0 => (Int.add_zero _).symm
  | n + 1 => by
    have h := fb_si_split f m n
    show fb_si f (m + n + 1) = _
    rw [fb_si_succ, fb_si_succ, h, Int.add_assoc]
theorem fb_si_nat (f : Nat → Nat) : ∀ n, fb_si (fun k => (f k : Int)) n = (fb_sm f n : Int)
  | 0 => rfl
  | n + 1 => by
    have h := fb_si_nat f n
    rw [fb_si_succ, fb_sm_succ, h]
    omega
theorem fb_si_bound {f : Nat → Int} {c : Int} (hc : 0 ≤ c) : ∀ {n : Nat}, (∀ k, k < n → -c ≤ f k ∧ f k ≤ c) → -(n * c) ≤ fb_si f n ∧ fb_si f n ≤ n * c
  | 0, _ => by simp [fb_si]
  | n + 1, h => by
    have h1 := fb_si_bound (n := n) (f := f) hc (fun k hk => h k (by omega))
    have h2 := h n (by omega)
    have e : ((n + 1 : Nat) : Int) * c = n * c + c := by rw [Int.natCast_add, Int.add_mul]; simp
    rw [fb_si_succ, e]
    omega
/-! ===== bits of a long that isn't negative ===== -/
theorem fb_andL (a b : Nat) : lN a &&& lN b = lN (a &&& b) := by
  apply Int64.toBitVec_inj.1
  show BitVec.ofNat 64 a &&& BitVec.ofNat 64 b = BitVec.ofNat 64 (a &&& b)
  apply BitVec.eq_of_getLsbD_eq
  intro i hi
  simp [hi]
theorem fb_orL (a b : Nat) : lN a ||| lN b = lN (a ||| b) := by
  apply Int64.toBitVec_inj.1
  show BitVec.ofNat 64 a ||| BitVec.ofNat 64 b = BitVec.ofNat 64 (a ||| b)
  apply BitVec.eq_of_getLsbD_eq
  intro i hi
  simp [hi]
theorem fb_xorL (a b : Nat) : lN a ^^^ lN b = lN (a ^^^ b) := by
  apply Int64.toBitVec_inj.1
  show BitVec.ofNat 64 a ^^^ BitVec.ofNat 64 b = BitVec.ofNat 64 (a ^^^ b)
  apply BitVec.eq_of_getLsbD_eq
  intro i hi
  simp [hi]
theorem fb_xorI (a b : Nat) : nI a ^^^ nI b = nI (a ^^^ b) := by
  apply Int32.toBitVec_inj.1
  show BitVec.ofNat 32 a ^^^ BitVec.ofNat 32 b = BitVec.ofNat 32 (a ^^^ b)
  apply BitVec.eq_of_getLsbD_eq
  intro i hi
  simp [hi]
theorem fb_maskL (n k : Nat) : lN n &&& lN (2 ^ k - 1) = lN (n % 2 ^ k) := by rw [fb_andL, Nat.and_two_pow_sub_one_eq_mod]
theorem fb_or_sumL {a k : Nat} (b : Nat) (h : a < 2 ^ k) : lN (2 ^ k * b) ||| lN a = lN (2 ^ k * b + a) := by rw [fb_orL, Nat.two_pow_add_eq_or_of_lt h]
theorem fb_lN_inj {a b : Nat} (ha : a < 2 ^ 63) (hb : b < 2 ^ 63) : lN a = lN b ↔ a = b := by
  constructor
  · intro h
    have h1 : (BitVec.ofNat 64 a).toNat = (BitVec.ofNat 64 b).toNat := congrArg (fun x : Int64 => x.toBitVec.toNat) h
    rw [BitVec.toNat_ofNat, BitVec.toNat_ofNat, Nat.mod_eq_of_lt (by omega), Nat.mod_eq_of_lt (by omega)] at h1
    exact h1
  · rintro rfl; rfl
theorem fb_bit_nat (n j : Nat) : n &&& 2 ^ j = 0 ↔ n.testBit j = false := by
  constructor
  · intro h
    have h1 : (n &&& 2 ^ j).testBit j = false := by rw [h]; simp
    rw [Nat.testBit_and] at h1
    simpa using h1
  · intro h
    apply Nat.eq_of_testBit_eq
    intro i
    rw [Nat.testBit_and]
    by_cases hi : j = i
    · subst hi; simp [h]
    · first | (simp [Nat.testBit_two_pow, hi]; done) | (simp [Nat.testBit_two_pow_of_ne hi]; done)
/-- one bit of a long -/
theorem fb_bitL {n j : Nat} (hj : j < 63) : lN n &&& lN (2 ^ j) = 0 ↔ n.testBit j = false := by
  have h2 : (2 : Nat) ^ j < 2 ^ 63 := Nat.pow_lt_pow_right (by decide) hj
  have hle : n &&& 2 ^ j ≤ 2 ^ j := Nat.and_le_right
  rw [fb_andL, ← fb_bit_nat, show (0 : Int64) = lN 0 from rfl]
  exact fb_lN_inj (by omega) (by decide)
/-- a bit set, a bit taken off -/
theorem fb_bit_set (n j i : Nat) : (n ||| 2 ^ j).testBit i = (n.testBit i || decide (i = j)) := by
  rw [Nat.testBit_or]
  by_cases h : j = i
  · subst h; simp
  · have h2 : ¬ i = j := fun e => h e.symm
    first | (simp [Nat.testBit_two_pow, h, h2]; done) | (simp [Nat.testBit_two_pow_of_ne h, h2]; done)
theorem fb_bit_flip (n j i : Nat) : (n ^^^ 2 ^ j).testBit i = (n.testBit i ^^ decide (i = j)) := by
  rw [Nat.testBit_xor]
  by_cases h : j = i
  · subst h; simp
  · have h2 : ¬ i = j := fun e => h e.symm
    first | (simp [Nat.testBit_two_pow, h, h2]; done) | (simp [Nat.testBit_two_pow_of_ne h, h2]; done)
/-! ===== a stretch of an array written over by a function ===== -/
def fb_put {α : Type} (f g : Nat → α) (a n : Nat) : Nat → α := fun k => if a ≤ k ∧ k < a + n then g (k - a) else f k
theorem fb_put_0 {α : Type} (f g : Nat → α) (a : Nat) : fb_put f g a 0 = f := funext fun k => if_neg (by omega)
theorem fb_put_in {α : Type} {f g : Nat → α} {a n k : Nat} (h1 : a ≤ k) (h2 : k < a + n) : fb_put f g a n k = g (k - a) := if_pos ⟨h1, h2⟩
theorem fb_put_out {α : Type} {f g : Nat → α} {a n k : Nat} (h : k < a ∨ a + n ≤ k) : fb_put f g a n k = f k := if_neg (by omega)
theorem fb_put_succ (f g : Nat → Int32) (a n : Nat) : upd (fb_put f g a n) (a + n) (g n) = fb_put f g a (n + 1) := by
  funext k
  by_cases h : k = a + n
  · subst h
    simp [upd, fb_put]
  · by_cases h1 : a ≤ k ∧ k < a + n
    · have h2 : a ≤ k ∧ k < a + (n + 1) := by omega
      simp only [upd, fb_put, if_neg h, if_pos h1, if_pos h2]
    · have h2 : ¬ (a ≤ k ∧ k < a + (n + 1)) := by omega
      simp only [upd, fb_put, if_neg h, if_neg h1, if_neg h2]
/-- .. from the far end down -/
theorem fb_put_down (f g : Nat → Int32) {a n m : Nat} (h : m < n) : upd (fb_put f (fun k => g (k + (m + 1))) (a + (m + 1)) (n - (m + 1))) (a + m) (g m) = fb_put f (fun k => g (k + m)) (a + m) (n - m) := by
  funext k
  by_cases h0 : k = a + m
  · subst h0
    simp only [upd, if_true]
    rw [fb_put_in (by omega) (by omega)]
    exact congrArg g (by omega)
  · simp only [upd, if_neg h0]
    by_cases h1 : a + (m + 1) ≤ k ∧ k < a + (m + 1) + (n - (m + 1))
    · rw [fb_put_in h1.1 h1.2, fb_put_in (by omega) (by omega)]
      exact congrArg g (by omega)
    · rw [fb_put_out (by omega), fb_put_out (by omega)]
theorem fb_put_cong {α : Type} {f f2 g g2 : Nat → α} {a n : Nat} (hf : ∀ k, (k < a ∨ a + n ≤ k) → f k = f2 k) (hg : ∀ k, k < n → g k = g2 k) : fb_put f g a n = fb_put f2 g2 a n := by
  funext k
  by_cases h : a ≤ k ∧ k < a + n
  · rw [fb_put_in h.1 h.2, fb_put_in h.1 h.2, hg _ (by omega)]
  · rw [fb_put_out (by omega), fb_put_out (by omega), hf _ (by omega)]
/-! ===== the least, the first, the best so far; that there is one alone ===== -/
theorem fb_first {p : Nat → Prop} [DecidablePred p] : ∀ {n : Nat}, (∃ i, i < n ∧ p i) → ∃ i, i < n ∧ p i ∧ ∀ j, j < i → ¬ p j
  | 0, h => by obtain ⟨i, hi, -⟩ := h; exact absurd hi (Nat.not_lt_zero i)
  | n + 1, h => by
    by_cases q : ∃ i, i < n ∧ p i
    · obtain ⟨i, h1, h2⟩ := fb_first q
      exact ⟨i, by omega, h2⟩
    · obtain ⟨i, h1, h2⟩ := h
      have e : i = n := by
        rcases Nat.lt_or_ge i n with r | r
        · exact absurd ⟨i, r, h2⟩ q
        · omega
      subst e
      exact ⟨i, by omega, h2, fun j hj hp => q ⟨j, hj, hp⟩⟩
theorem fb_first_one {p : Nat → Prop} {i j : Nat} (hi : p i) (hi2 : ∀ k, k < i → ¬ p k) (hj : p j) (hj2 : ∀ k, k < j → ¬ p k) : i = j := by
  rcases Nat.lt_trichotomy i j with q | q | q
  · exact absurd hi (hj2 i q)
  · exact q
  · exact absurd hj (hi2 j q)
theorem fb_last {p : Nat → Prop} [DecidablePred p] : ∀ {n : Nat}, (∃ i, i < n ∧ p i) → ∃ i, i < n ∧ p i ∧ ∀ j, i < j → j < n → ¬ p j
  | 0, h => by obtain ⟨i, hi, -⟩ := h; exact absurd hi (Nat.not_lt_zero i)
  | n + 1, h => by
    by_cases q : p n
    · exact ⟨n, by omega, q, fun j h1 h2 => by omega⟩
    · obtain ⟨i, h1, h2⟩ := h
      have hi : i < n := by
        rcases Nat.lt_or_ge i n with r | r
        · exact r
        · have e : i = n := by omega
          subst e
          exact absurd h2 q
      obtain ⟨i2, a1, a2, a3⟩ := fb_last (n := n) ⟨i, hi, h2⟩
      refine ⟨i2, by omega, a2, fun j b1 b2 => ?_⟩
      rcases Nat.lt_or_ge j n with r | r
      · exact a3 j b1 r
      · have e : j = n := by omega
        subst e
        exact q
/-- the first greatest -/
theorem fb_best (f : Nat → Int) : ∀ {n : Nat}, 0 < n → ∃ i, i < n ∧ (∀ j, j < n → f j ≤ f i) ∧ ∀ j, j < i → f j < f i
  | 0, h => absurd h (Nat.lt_irrefl 0)
  | 1, _ => ⟨0, by omega, fun j hj => by have e : j = 0 := by omega
                                         subst e; exact Int.le_refl _, fun j hj => absurd hj (Nat.not_lt_zero j)⟩
  | n + 2, _ => by
    obtain ⟨i, h1, h2, h3⟩ := fb_best f (n := n + 1) (by omega)
    by_cases q : f i < f (n + 1)
    · refine ⟨n + 1, by omega, fun j hj => ?_, fun j hj => ?_⟩
      · rcases Nat.lt_or_ge j (n + 1) with r | r
        · have := h2 j r; omega
        · have e : j = n + 1 := by omega
          subst e; exact Int.le_refl _
      · have := h2 j hj; omega
    · refine ⟨i, by omega, fun j hj => ?_, h3⟩
      rcases Nat.lt_or_ge j (n + 1) with r | r
      · exact h2 j r
      · have e : j = n + 1 := by omega
        subst e; omega
theorem fb_best_one {f : Nat → Int} {n i j : Nat} (hi : i < n) (hi2 : ∀ k, k < n → f k ≤ f i) (hi3 : ∀ k, k < i → f k < f i) (hj : j < n) (hj2 : ∀ k, k < n → f k ≤ f j) (hj3 : ∀ k, k < j → f k < f j) : i = j := by
  rcases Nat.lt_trichotomy i j with q | q | q
  · have a := hj3 i q
    have b := hi2 j hj
    omega
  · exact q
  · have a := hi3 j q
    have b := hj2 i hi
    omega
/-- the first least -/
theorem fb_low (f : Nat → Int) {n : Nat} (h : 0 < n) : ∃ i, i < n ∧ (∀ j, j < n → f i ≤ f j) ∧ ∀ j, j < i → f i < f j := by
  obtain ⟨i, h1, h2, h3⟩ := fb_best (fun k => -f k) h
  exact ⟨i, h1, fun j hj => by have := h2 j hj; omega, fun j hj => by have := h3 j hj; omega⟩
/-! ===== signed ints as whole numbers, within bounds ===== -/
theorem fb_rng (x : Int32) : -2147483648 ≤ x.toInt ∧ x.toInt < 2147483648 := by
  have h1 := Int32.le_toInt x
  have h2 := Int32.toInt_lt x
  omega
theorem fb_bmod {z : Int} (h1 : -2147483648 ≤ z) (h2 : z < 2147483648) : z.bmod (2 ^ 32) = z := by
  rw [Int.bmod_eq_of_le (by omega) (by omega)]
theorem fb_addI {x y : Int32} (h1 : -2147483648 ≤ x.toInt + y.toInt) (h2 : x.toInt + y.toInt < 2147483648) : (x + y).toInt = x.toInt + y.toInt := by
  rw [Int32.toInt_add, fb_bmod h1 h2]
theorem fb_subI {x y : Int32} (h1 : -2147483648 ≤ x.toInt - y.toInt) (h2 : x.toInt - y.toInt < 2147483648) : (x - y).toInt = x.toInt - y.toInt := by
  rw [Int32.toInt_sub, fb_bmod h1 h2]
theorem fb_mulI {x y : Int32} (h1 : -2147483648 ≤ x.toInt * y.toInt) (h2 : x.toInt * y.toInt < 2147483648) : (x * y).toInt = x.toInt * y.toInt := by
  rw [Int32.toInt_mul, fb_bmod h1 h2]
theorem fb_negI {x : Int32} (h : x.toInt ≠ -2147483648) : (-x).toInt = -x.toInt := by
  have := fb_rng x
  rw [Int32.toInt_neg, fb_bmod (by omega) (by omega)]
theorem fb_ofI {z : Int} (h1 : -2147483648 ≤ z) (h2 : z < 2147483648) : (Int32.ofInt z).toInt = z := by
  rw [Int32.toInt_ofInt, fb_bmod h1 h2]
theorem fb_asI (x : Int32) : Int32.ofInt x.toInt = x := Int32.ofInt_toInt x
theorem fb_rngL (x : Int64) : -9223372036854775808 ≤ x.toInt ∧ x.toInt < 9223372036854775808 := by
  have h1 := Int64.le_toInt x
  have h2 := Int64.toInt_lt x
  omega
theorem fb_bmodL {z : Int} (h1 : -9223372036854775808 ≤ z) (h2 : z < 9223372036854775808) : z.bmod (2 ^ 64) = z := by
  rw [Int.bmod_eq_of_le (by omega) (by omega)]
theorem fb_addL {x y : Int64} (h1 : -9223372036854775808 ≤ x.toInt + y.toInt) (h2 : x.toInt + y.toInt < 9223372036854775808) : (x + y).toInt = x.toInt + y.toInt := by
  rw [Int64.toInt_add, fb_bmodL h1 h2]
theorem fb_subL {x y : Int64} (h1 : -9223372036854775808 ≤ x.toInt - y.toInt) (h2 : x.toInt - y.toInt < 9223372036854775808) : (x - y).toInt = x.toInt - y.toInt := by
  rw [Int64.toInt_sub, fb_bmodL h1 h2]
theorem fb_mulL {x y : Int64} (h1 : -9223372036854775808 ≤ x.toInt * y.toInt) (h2 : x.toInt * y.toInt < 9223372036854775808) : (x * y).toInt = x.toInt * y.toInt := by
  rw [Int64.toInt_mul, fb_bmodL h1 h2]
/-! ===== cuts of what is narrow already ===== -/
theorem fb_byte {x : Int32} (h1 : -128 ≤ x.toInt) (h2 : x.toInt < 128) : x.toInt8.toInt32 = x := by
  apply Int32.toInt_inj.1
  rw [Int8.toInt_toInt32, Int32.toInt_toInt8, Int.bmod_eq_of_le (by omega) (by omega)]
theorem fb_short {x : Int32} (h1 : -32768 ≤ x.toInt) (h2 : x.toInt < 32768) : x.toInt16.toInt32 = x := by
  apply Int32.toInt_inj.1
  rw [Int16.toInt_toInt32, Int32.toInt_toInt16, Int.bmod_eq_of_le (by omega) (by omega)]
theorem fb_byte_rng (x : Int32) : -128 ≤ x.toInt8.toInt32.toInt ∧ x.toInt8.toInt32.toInt < 128 := by
  rw [Int8.toInt_toInt32]
  have h1 := Int8.le_toInt x.toInt8
  have h2 := Int8.toInt_lt x.toInt8
  omega
theorem fb_short_rng (x : Int32) : -32768 ≤ x.toInt16.toInt32.toInt ∧ x.toInt16.toInt32.toInt < 32768 := by
  rw [Int16.toInt_toInt32]
  have h1 := Int16.le_toInt x.toInt16
  have h2 := Int16.toInt_lt x.toInt16
  omega
theorem fb_byte_twice (x : Int32) : x.toInt8.toInt32.toInt8.toInt32 = x.toInt8.toInt32 := fb_byte (fb_byte_rng x).1 (fb_byte_rng x).2
theorem fb_short_twice (x : Int32) : x.toInt16.toInt32.toInt16.toInt32 = x.toInt16.toInt32 := fb_short (fb_short_rng x).1 (fb_short_rng x).2
theorem fb_char {n : Nat} (h : n < 65536) : (nI n).toUInt32.toUInt16.toUInt32.toInt32 = nI n := by
  apply Int32.toBitVec_inj.1
  apply BitVec.eq_of_toNat_eq
  have e1 : (nI n).toBitVec.toNat = n := by
    show (BitVec.ofNat 32 n).toNat = n
    rw [BitVec.toNat_ofNat, Nat.mod_eq_of_lt (by omega)]
  have e2 : ((nI n).toUInt32.toUInt16.toUInt32).toNat = n := by
    rw [UInt16.toNat_toUInt32, UInt32.toNat_toUInt16]
    show (nI n).toBitVec.toNat % 2 ^ 16 = n
    rw [e1, Nat.mod_eq_of_lt (by omega)]
  rw [e1]
  exact e2
/-! plain facts on numbers and arrays, to paste: each family by itself; over the kit's rows on nI and upd -/
/-! ===== order of ints, in all its forms, and through longs ===== -/
theorem fa_lt (a b : Int32) : a < b ↔ a.toInt < b.toInt := Int32.lt_iff_toInt_lt
theorem fa_le (a b : Int32) : a ≤ b ↔ a.toInt ≤ b.toInt := Int32.le_iff_toInt_le
theorem fa_eq (a b : Int32) : a = b ↔ a.toInt = b.toInt := Int32.toInt_inj.symm
theorem fa_lt64 (a b : Int64) : a < b ↔ a.toInt < b.toInt := Int64.lt_iff_toInt_lt
theorem fa_le64 (a b : Int64) : a ≤ b ↔ a.toInt ≤ b.toInt := Int64.le_iff_toInt_le
theorem fa_eq64 (a b : Int64) : a = b ↔ a.toInt = b.toInt := Int64.toInt_inj.symm
/-- a comparison of two ints taken as longs -/
theorem fa_wide_lt (a b : Int32) : a.toInt64 < b.toInt64 ↔ a < b := by rw [fa_lt64, fa_lt, Int32.toInt_toInt64, Int32.toInt_toInt64]
theorem fa_wide_le (a b : Int32) : a.toInt64 ≤ b.toInt64 ↔ a ≤ b := by rw [fa_le64, fa_le, Int32.toInt_toInt64, Int32.toInt_toInt64]
theorem fa_wide_eq (a b : Int32) : a.toInt64 = b.toInt64 ↔ a = b := by rw [fa_eq64, fa_eq, Int32.toInt_toInt64, Int32.toInt_toInt64]
/-- one strict comparison gives all the others -/
theorem fa_of_lt {a b : Int32} (h : a < b) : a ≤ b ∧ ¬ b ≤ a ∧ ¬ b < a ∧ a ≠ b ∧ b ≠ a := by
  rw [fa_lt] at h
  refine ⟨?_, ?_, ?_, ?_, ?_⟩
  · rw [fa_le]; omega
  · rw [fa_le]; omega
  · rw [fa_lt]; omega
  · intro e; rw [fa_eq] at e; omega
  · intro e; rw [fa_eq] at e; omega
theorem fa_of_nlt {a b : Int32} (h : ¬ a < b) : b ≤ a := by
  rw [fa_lt] at h
  rw [fa_le]
  omega
theorem fa_of_nle {a b : Int32} (h : ¬ a ≤ b) : b < a := by
  rw [fa_le] at h
  rw [fa_lt]
  omega
theorem fa_le_ne {a b : Int32} (h : a ≤ b) (h2 : a ≠ b) : a < b := by
  rw [fa_le] at h
  rw [fa_lt]
  have h3 : a.toInt ≠ b.toInt := fun e => h2 ((fa_eq a b).mpr e)
  omega
theorem fa_three (a b : Int32) : a < b ∨ a = b ∨ b < a := by
  rw [fa_lt, fa_lt, fa_eq]
  omega
theorem fa_trans {a b c : Int32} (h : a < b) (h2 : b ≤ c) : a < c := by
  rw [fa_lt] at *
  rw [fa_le] at h2
  omega
/-! ===== small literals as numbers ===== -/
theorem fa_lit (n : Nat) : (OfNat.ofNat n : Int32) = nI n := rfl
theorem fa_litL (n : Nat) : (OfNat.ofNat n : Int64) = lN n := rfl
/-! ===== bits of a number: 'or', masks, one bit ===== -/
theorem fa_and (a b : Nat) : nI a &&& nI b = nI (a &&& b) := by
  apply Int32.toBitVec_inj.1
  show BitVec.ofNat 32 a &&& BitVec.ofNat 32 b = BitVec.ofNat 32 (a &&& b)
  apply BitVec.eq_of_getLsbD_eq
  intro i hi
  simp [hi]
theorem fa_or (a b : Nat) : nI a ||| nI b = nI (a ||| b) := by
  apply Int32.toBitVec_inj.1
  show BitVec.ofNat 32 a ||| BitVec.ofNat 32 b = BitVec.ofNat 32 (a ||| b)
  apply BitVec.eq_of_getLsbD_eq
  intro i hi
  simp [hi]
/-- a remainder by a power of two, as a mask -/
theorem fa_mask (n k : Nat) : nI n &&& nI (2 ^ k - 1) = nI (n % 2 ^ k) := by rw [fa_and, Nat.and_two_pow_sub_one_eq_mod]
/-- 'or' of a high part and a low one that don't meet is their sum -/
theorem fa_or_sum {a k : Nat} (b : Nat) (h : a < 2 ^ k) : nI (2 ^ k * b) ||| nI a = nI (2 ^ k * b + a) := by rw [fa_or, Nat.two_pow_add_eq_or_of_lt h]
/-- one bit, by 'and' with a power of two -/
theorem fa_bit {n j : Nat} (hj : j < 31) : nI n &&& nI (2 ^ j) = 0 ↔ n.testBit j = false := by
  have h2 : (2 : Nat) ^ j < 2 ^ 31 := Nat.pow_lt_pow_right (by decide) hj
  have hle : n &&& 2 ^ j ≤ 2 ^ j := Nat.and_le_right
  have e : n &&& 2 ^ j = 0 ↔ n.testBit j = false := by
    constructor
    · intro h
      have h1 : (n &&& 2 ^ j).testBit j = false := by rw [h]; simp
      rw [Nat.testBit_and] at h1
      first | simpa using h1 | simpa [Nat.testBit_two_pow_self] using h1 | simpa [Nat.testBit_two_pow] using h1
    · intro h
      apply Nat.eq_of_testBit_eq
      intro i
      rw [Nat.testBit_and]
      by_cases hi : j = i
      · subst hi; simp [h]
      · first | (simp [Nat.testBit_two_pow, hi]; done) | (simp [Nat.testBit_two_pow_of_ne hi]; done)
  rw [fa_and]
  constructor
  · intro h
    apply e.mp
    rcases Nat.eq_zero_or_pos (n &&& 2 ^ j) with z | z
    · exact z
    · exact absurd h (nI_ne0 z (Nat.lt_of_le_of_lt hle h2))
  · intro h
    rw [e.mpr h]; exact nI_0
/-- a remainder by a power of two of a number that isn't negative, as Java divides -/
theorem fa_rem {a k : Nat} (ha : a < 2 ^ 31) (hk : k < 31) : nI a - nI a / nI (2 ^ k) * nI (2 ^ k) = nI (a % 2 ^ k) := pk_rem ha (Nat.two_pow_pos k) (Nat.pow_lt_pow_right (by decide) hk)
/-! ===== cuts to a byte, a short ===== -/
theorem fa_byte_xor (x y : Int32) : (x ^^^ y).toInt8 = x.toInt8 ^^^ y.toInt8 := by
  apply Int8.toBitVec_inj.1
  apply BitVec.eq_of_getLsbD_eq
  intro i hi
  first | (simp [hi]; done) | (simp [hi, BitVec.getLsbD_setWidth, BitVec.getLsbD_signExtend]; done)
theorem fa_short_xor (x y : Int32) : (x ^^^ y).toInt16 = x.toInt16 ^^^ y.toInt16 := by
  apply Int16.toBitVec_inj.1
  apply BitVec.eq_of_getLsbD_eq
  intro i hi
  first | (simp [hi]; done) | (simp [hi, BitVec.getLsbD_setWidth, BitVec.getLsbD_signExtend]; done)
/-- the cut to a byte sees the low byte alone -/
theorem fa_byte_low (x : Int32) : (x &&& 255).toInt8 = x.toInt8 := by
  apply Int8.toBitVec_inj.1
  apply BitVec.eq_of_getLsbD_eq
  intro i hi
  have h2 : (255 : Int32).toBitVec.getLsbD i = true := by
    have : ∀ j : Fin 8, (255 : Int32).toBitVec.getLsbD j.val = true := by decide +kernel
    exact this ⟨i, hi⟩
  have h4 : (x &&& 255).toBitVec.getLsbD i = x.toBitVec.getLsbD i := by
    show (x.toBitVec &&& (255 : Int32).toBitVec).getLsbD i = _
    rw [BitVec.getLsbD_and, h2, Bool.and_true]
  have h3 : i < 32 := by omega
  first
    | (show (((x &&& 255).toBitVec).signExtend 8).getLsbD i = (x.toBitVec.signExtend 8).getLsbD i; rw [BitVec.getLsbD_signExtend, BitVec.getLsbD_signExtend, if_pos h3, if_pos h3, h4])
    | (show (((x &&& 255).toBitVec).setWidth 8).getLsbD i = (x.toBitVec.setWidth 8).getLsbD i; rw [BitVec.getLsbD_setWidth, BitVec.getLsbD_setWidth, h4])
    | (simp [hi, h3, h4]; done)
theorem fa_short_low (x : Int32) : (x &&& 65535).toInt16 = x.toInt16 := by
  apply Int16.toBitVec_inj.1
  apply BitVec.eq_of_getLsbD_eq
  intro i hi
  have h2 : (65535 : Int32).toBitVec.getLsbD i = true := by
    have : ∀ j : Fin 16, (65535 : Int32).toBitVec.getLsbD j.val = true := by decide +kernel
    exact this ⟨i, hi⟩
  have h4 : (x &&& 65535).toBitVec.getLsbD i = x.toBitVec.getLsbD i := by
    show (x.toBitVec &&& (65535 : Int32).toBitVec).getLsbD i = _
    rw [BitVec.getLsbD_and, h2, Bool.and_true]
  have h3 : i < 32 := by omega
  first
    | (show (((x &&& 65535).toBitVec).signExtend 16).getLsbD i = (x.toBitVec.signExtend 16).getLsbD i; rw [BitVec.getLsbD_signExtend, BitVec.getLsbD_signExtend, if_pos h3, if_pos h3, h4])
    | (show (((x &&& 65535).toBitVec).setWidth 16).getLsbD i = (x.toBitVec.setWidth 16).getLsbD i; rw [BitVec.getLsbD_setWidth, BitVec.getLsbD_setWidth, h4])
    | (simp [hi, h3, h4]; done)
/-- a small number is its own byte, its own short -/
theorem fa_byte_small {n : Nat} (h : n < 128) : (nI n).toInt8.toInt32 = nI n := by
  have : ∀ j : Fin 128, (nI j.val).toInt8.toInt32 = nI j.val := by decide +kernel
  exact this ⟨n, h⟩
/-! ===== absolute difference ===== -/
theorem fa_absdiff {a b : Nat} (ha : a < 2 ^ 31) (hb : b < 2 ^ 31) : (if nI a < nI b then nI b - nI a else nI a - nI b) = nI (if a < b then b - a else a - b) := by
  by_cases h : a < b
  · rw [if_pos (nI_lt h hb), if_pos h]
    exact pk_sub (Nat.le_of_lt h)
  · rw [if_neg (nI_nlt (Nat.le_of_not_lt h) ha), if_neg h]
    exact pk_sub (Nat.le_of_not_lt h)
/-! ===== an array behind i stores, a conditional store, a row copied ===== -/
/-- f where k < i, what stood there else -/
def fa_fill {α : Type} (f g : Nat → α) (i : Nat) : Nat → α := fun k => if k < i then f k else g k
theorem fa_fill_0 {α : Type} (f g : Nat → α) : fa_fill f g 0 = g := funext fun k => if_neg (Nat.not_lt_zero k)
theorem fa_fill_in {α : Type} {f g : Nat → α} {i k : Nat} (h : k < i) : fa_fill f g i k = f k := if_pos h
theorem fa_fill_out {α : Type} {f g : Nat → α} {i k : Nat} (h : i ≤ k) : fa_fill f g i k = g k := if_neg (Nat.not_lt.mpr h)
theorem fa_fill_succ (f g : Nat → Int32) (i : Nat) : upd (fa_fill f g i) i (f i) = fa_fill f g (i + 1) := by
  funext k
  by_cases e : k = i
  · subst e
    rw [pk_us]
    exact (if_pos (Nat.lt_succ_self k)).symm
  · rw [pk_un e]
    by_cases h : k < i
    · rw [fa_fill_in h, fa_fill_in (Nat.lt_succ_of_lt h)]
    · rw [fa_fill_out (Nat.le_of_not_lt h), fa_fill_out (by omega)]
/-- a store that changes nothing -/
theorem fa_upd_same {f : Nat → Int32} {i : Nat} {x : Int32} (h : f i = x) : upd f i x = f := by
  funext k
  by_cases e : k = i
  · subst e
    rw [pk_us, h]
  · rw [pk_un e]
/-- a store under a condition, told as one -/
theorem fa_upd_if (c : Prop) [Decidable c] (f : Nat → Int32) (i : Nat) (x : Int32) : (if c then upd f i x else f) = upd f i (if c then x else f i) := by
  by_cases h : c
  · rw [if_pos h, if_pos h]
  · rw [if_neg h, if_neg h, fa_upd_same rfl]
/-- two stores at one place, at two -/
theorem fa_upd_twice (f : Nat → Int32) (i : Nat) (x y : Int32) : upd (upd f i x) i y = upd f i y := by
  funext k
  by_cases e : k = i
  · subst e
    rw [pk_us, pk_us]
  · rw [pk_un e, pk_un e, pk_un e]
theorem fa_upd_swap (f : Nat → Int32) {i j : Nat} (h : i ≠ j) (x y : Int32) : upd (upd f i x) j y = upd (upd f j y) i x := by
  funext k
  by_cases e : k = i
  · subst e
    rw [pk_un h, pk_us, pk_us]
  · by_cases e2 : k = j
    · subst e2
      rw [pk_us, pk_un e, pk_us]
    · rw [pk_un e2, pk_un e, pk_un e, pk_un e2]
/-! ===== the first index with a property; a count ===== -/
/-- the first k < n with p k, n if there is none -/
def fa_first (p : Nat → Bool) : Nat → Nat
  | 0 => 0
  | n + 1 => if fa_first p n < n then fa_first p n else if p n then n else n + 1
theorem fa_first_le (p : Nat → Bool) : ∀ n, fa_first p n ≤ n
  | 0 => Nat.le_refl 0
  | n + 1 => by
    have ih := fa_first_le p n
    unfold fa_first
    split
    · omega
    · split
      · omega
      · omega
theorem fa_first_no (p : Nat → Bool) : ∀ n k, k < fa_first p n → p k = false
  | 0, k, h => absurd h (Nat.not_lt_zero k)
  | n + 1, k, h => by
    have ih := fa_first_no p n
    have hl := fa_first_le p n
    unfold fa_first at h
    split at h
    · exact ih k h
    · rename_i h1
      split at h
      · exact ih k (by omega)
      · rename_i h2
        by_cases e : k = n
        · subst e
          exact Bool.eq_false_iff.mpr h2
        · exact ih k (by omega)
theorem fa_first_yes (p : Nat → Bool) : ∀ n, fa_first p n < n → p (fa_first p n) = true
  | 0, h => absurd h (Nat.not_lt_zero _)
  | n + 1, h => by
    have ih := fa_first_yes p n
    have hl := fa_first_le p n
    unfold fa_first at h ⊢
    split at h
    · rename_i h1
      rw [if_pos h1]
      exact ih h1
    · rename_i h1
      rw [if_neg h1]
      split at h
      · rename_i h2
        rw [if_pos h2]
        exact h2
      · omega
/-- how many k < n have p k -/
def fa_cnt (p : Nat → Bool) : Nat → Nat
  | 0 => 0
  | n + 1 => fa_cnt p n + if p n then 1 else 0
theorem fa_cnt_le (p : Nat → Bool) : ∀ n, fa_cnt p n ≤ n
  | 0 => Nat.le_refl 0
  | n + 1 => by
    have ih := fa_cnt_le p n
    unfold fa_cnt
    split
    · omega
    · omega
theorem fa_cnt_yes {p : Nat → Bool} {n : Nat} (h : p n = true) : fa_cnt p (n + 1) = fa_cnt p n + 1 := by rw [fa_cnt, if_pos h]
theorem fa_cnt_no {p : Nat → Bool} {n : Nat} (h : p n = false) : fa_cnt p (n + 1) = fa_cnt p n := by rw [fa_cnt, if_neg (by rw [h]; decide)]; rfl
theorem fa_cnt_cong {p q : Nat → Bool} : ∀ {n : Nat}, (∀ k, k < n → p k = q k) → fa_cnt p n = fa_cnt q n
  | 0, _ => rfl
  | n + 1, h => by rw [fa_cnt, fa_cnt, fa_cnt_cong (fun k hk => h k (Nat.lt_succ_of_lt hk)), h n (Nat.lt_succ_self n)]
/-! ===== an answer carried into a post; a branch on a boolean answer ===== -/
theorem fa_post {α : Type} {P : α → Prop} {x y : α} (h : x = y) (hp : P y) : P x := h ▸ hp
theorem fa_post2 {α β : Type} {P : α → β → Prop} {x y : α} {u v : β} (h : x = y) (h2 : u = v) (hp : P y v) : P x u := h ▸ h2 ▸ hp
theorem fa_bool {r : Int32} {b : Bool} (h : r = if b then 1 else 0) : (r = 0 ↔ b = false) ∧ (¬ r = 0 ↔ b = true) := by
  subst h
  cases b
  · exact ⟨⟨fun _ => rfl, fun _ => rfl⟩, ⟨fun h => absurd rfl h, fun h => absurd h (by decide)⟩⟩
  · exact ⟨⟨fun h => absurd h (by decide), fun h => absurd h (by decide)⟩, ⟨fun _ => rfl, fun _ => by decide⟩⟩
/-- a boolean's narrowing changes nothing -/
theorem fa_bool_and {r : Int32} (h : r = 0 ∨ r = 1) : r &&& 1 = r := by
  rcases h with rfl | rfl
  · decide
  · decide
theorem fa_bool_prop {c : Prop} [Decidable c] {r : Int32} (h : r = if c then 1 else 0) : (r = 0 ↔ ¬ c) ∧ (¬ r = 0 ↔ c) := by
  subst h
  by_cases hc : c
  · rw [if_pos hc]
    exact ⟨⟨fun h => absurd h (by decide), fun h => absurd hc h⟩, ⟨fun _ => hc, fun _ => by decide⟩⟩
  · rw [if_neg hc]
    exact ⟨⟨fun _ => hc, fun _ => rfl⟩, ⟨fun h => absurd rfl h, fun h => absurd h hc⟩⟩
end
section
def DW (g : GG) (d : Nat) (v : Nat) (f : Nat → Int64) (n : Int32) (L : Int32) : va_W := [(d, .inr (0, [.ref (v), .int (n), .int (L)])), (v, .inl (g.2.2.1, 50, .inr (.inl (f))))]
def QW (g : GG) (q : Nat) (u : Nat) (k : Nat → Int32) (P : Int32) (mv : Int32) (lm : Int32) (ch : Int32) (fr : Int64) : va_W := [(q, .inr (1, [.ref (u), .int (P), .int (mv), .int (lm), .int (ch), .long (fr)])), (u, .inl (g.2.1, 4, .inl (k)))]
def QDW (g : GG) (q : Nat) (u : Nat) (k : Nat → Int32) (P : Int32) (mv : Int32) (lm : Int32) (ch : Int32) (fr : Int64) (d : Nat) (v : Nat) (f : Nat → Int64) (n : Int32) (L : Int32) : va_W := [(q, .inr (1, [.ref (u), .int (P), .int (mv), .int (lm), .int (ch), .long (fr)])), (u, .inl (g.2.1, 4, .inl (k))), (d, .inr (0, [.ref (v), .int (n), .int (L)])), (v, .inl (g.2.2.1, 50, .inr (.inl (f))))]
def FW (g : GG) (x : Nat) (sl : Int64) (q : Nat) (u : Nat) (k : Nat → Int32) (P : Int32) (mv : Int32) (lm : Int32) (ch : Int32) (fr : Int64) (d : Nat) (v : Nat) (f : Nat → Int64) (n : Int32) (L : Int32) : va_W := [(x, .inr (2, [.ref (d), .ref (q), .long (sl)])), (q, .inr (1, [.ref (u), .int (P), .int (mv), .int (lm), .int (ch), .long (fr)])), (u, .inl (g.2.1, 4, .inl (k))), (d, .inr (0, [.ref (v), .int (n), .int (L)])), (v, .inl (g.2.2.1, 50, .inr (.inl (f))))]
/-! rows of letters packed into a number: its length, its letters to the base 32 -/
def rwL (P : Nat) : Nat := P / 1125899906842624
def rwC (P : Nat) : Nat := P % 1125899906842624
def rwK (n c : Nat) : Nat := n * 1125899906842624 + c
def rwX (P a : Nat) : Nat := rwK (rwL P + 1) (rwC P * 32 + a)
def rwB (P m : Nat) : Nat := rwK m (rwC P / 32 ^ (rwL P - m))
def rwA (P i : Nat) : Nat := rwC P / 32 ^ (rwL P - 1 - i) % 32
def RV (P : Nat) : Prop := rwL P ≤ 10 ∧ rwC P < 32 ^ rwL P ∧ ∀ i, i < rwL P → rwA P i < 26
theorem rk_l {n c : Nat} (h : c < 1125899906842624) : rwL (rwK n c) = n := by unfold rwL rwK; omega
theorem rk_c {n c : Nat} (h : c < 1125899906842624) : rwC (rwK n c) = c := by unfold rwC rwK; omega
theorem rk_e (P : Nat) : rwK (rwL P) (rwC P) = P := by unfold rwK rwL rwC; omega
theorem p32 {n m : Nat} (h : n ≤ m) : 32 ^ n ≤ 32 ^ m := Nat.pow_le_pow_right (by decide) h
theorem p32_10 : 32 ^ 10 = 1125899906842624 := by decide
theorem rc_lt (P : Nat) : rwC P < 1125899906842624 := Nat.mod_lt _ (by decide)
theorem rl_mono {P Q : Nat} (h : P ≤ Q) : rwL P ≤ rwL Q := Nat.div_le_div_right h
theorem RV.lt {P : Nat} (h : RV P) : P < 18014398509481984 := by
  have := h.1
  unfold rwL at this
  omega
theorem RV.code {P m : Nat} (h : RV P) (hm : m ≤ rwL P) : rwC P / 32 ^ (rwL P - m) < 32 ^ m := by
  rw [Nat.div_lt_iff_lt_mul (Nat.pow_pos (by decide)), ← Nat.pow_add, Nat.add_sub_cancel' hm]
  exact h.2.1
theorem RV.rbl {P m : Nat} (h : RV P) (hm : m ≤ rwL P) : rwL (rwB P m) = m :=
  rk_l (by have h1 := h.code hm; have h2 := p32 (Nat.le_trans hm h.1); rw [p32_10] at h2; omega)
theorem RV.rbc {P m : Nat} (h : RV P) (hm : m ≤ rwL P) : rwC (rwB P m) = rwC P / 32 ^ (rwL P - m) :=
  rk_c (by have h1 := h.code hm; have h2 := p32 (Nat.le_trans hm h.1); rw [p32_10] at h2; omega)
theorem RV.rbra {P m i : Nat} (h : RV P) (hm : m ≤ rwL P) (hi : i < m) : rwA (rwB P m) i = rwA P i := by
  unfold rwA
  rw [h.rbl hm, h.rbc hm, Nat.div_div_eq_div_mul, ← Nat.pow_add]
  congr 3
  omega
theorem RV.rb {P m : Nat} (h : RV P) (hm : m ≤ rwL P) : RV (rwB P m) := by
  refine ⟨by rw [h.rbl hm]; have := h.1; omega, by rw [h.rbl hm, h.rbc hm]; exact h.code hm, fun i hi => ?_⟩
  rw [h.rbl hm] at hi
  rw [h.rbra hm hi]
  exact h.2.2 i (by omega)
theorem rb_all {P : Nat} : rwB P (rwL P) = P := by
  unfold rwB
  rw [Nat.sub_self, Nat.pow_zero, Nat.div_one, rk_e]
theorem RV.rbb {P m k : Nat} (h : RV P) (hm : m ≤ rwL P) (hk : k ≤ m) : rwB (rwB P m) k = rwB P k := by
  show rwK k _ = rwK k _
  rw [h.rbl hm, h.rbc hm, Nat.div_div_eq_div_mul, ← Nat.pow_add]
  congr 3
  omega
theorem RV.rb0 {P : Nat} (h : RV P) : rwB P 0 = 0 := by
  show rwK 0 _ = 0
  have := h.code (Nat.zero_le _)
  rw [Nat.pow_zero] at this
  unfold rwK
  generalize rwC P / 32 ^ (rwL P - 0) = z at this ⊢
  omega
theorem RV.zero : RV 0 := ⟨by decide, by decide, fun i hi => absurd hi (by unfold rwL; simp)⟩
theorem RV.rbs {P m : Nat} (h : RV P) (hm : m < rwL P) : rwB P (m + 1) = rwX (rwB P m) (rwA P m) := by
  show _ = rwK (rwL (rwB P m) + 1) (rwC (rwB P m) * 32 + rwA P m)
  rw [h.rbl (by omega), h.rbc (by omega)]
  show rwK (m + 1) _ = _
  congr 1
  unfold rwA
  have e : rwL P - m = (rwL P - 1 - m) + 1 := by omega
  have e2 : rwL P - (m + 1) = rwL P - 1 - m := by omega
  rw [e, e2, Nat.pow_succ, ← Nat.div_div_eq_div_mul]
  omega
theorem RV.rxl {P a : Nat} (h : RV P) (hl : rwL P < 10) (ha : a < 32) : rwL (rwX P a) = rwL P + 1 :=
  rk_l (by have h1 := h.2.1; have h2 := p32 (show rwL P ≤ 9 by omega); rw [show 32 ^ 9 = 35184372088832 by decide] at h2; omega)
theorem RV.rxc {P a : Nat} (h : RV P) (hl : rwL P < 10) (ha : a < 32) : rwC (rwX P a) = rwC P * 32 + a :=
  rk_c (by have h1 := h.2.1; have h2 := p32 (show rwL P ≤ 9 by omega); rw [show 32 ^ 9 = 35184372088832 by decide] at h2; omega)
theorem RV.rxb {P a m : Nat} (h : RV P) (hl : rwL P < 10) (ha : a < 32) (hm : m ≤ rwL P) : rwB (rwX P a) m = rwB P m := by
  show rwK m _ = rwK m _
  rw [h.rxl hl ha, h.rxc hl ha, show rwL P + 1 - m = (rwL P - m) + 1 by omega, Nat.pow_succ, Nat.mul_comm (32 ^ _), ← Nat.div_div_eq_div_mul]
  congr 2
  omega
theorem RV.rxa {P a : Nat} (h : RV P) (hl : rwL P < 10) (ha : a < 32) : rwA (rwX P a) (rwL P) = a := by
  unfold rwA
  rw [h.rxl hl ha, h.rxc hl ha, show rwL P + 1 - 1 - rwL P = 0 by omega, Nat.pow_zero, Nat.div_one]
  omega
theorem RV.rxi {P a i : Nat} (h : RV P) (hl : rwL P < 10) (ha : a < 32) (hi : i < rwL P) : rwA (rwX P a) i = rwA P i := by
  unfold rwA
  rw [h.rxl hl ha, h.rxc hl ha, show rwL P + 1 - 1 - i = (rwL P - 1 - i) + 1 by omega, Nat.pow_succ, Nat.mul_comm (32 ^ _), ← Nat.div_div_eq_div_mul]
  congr 2
  omega
theorem RV.rx {P a : Nat} (h : RV P) (hl : rwL P < 10) (ha : a < 26) : RV (rwX P a) := by
  refine ⟨by rw [h.rxl hl (by omega)]; omega, ?_, fun i hi => ?_⟩
  · rw [h.rxl hl (by omega), h.rxc hl (by omega), Nat.pow_succ]
    have := h.2.1
    omega
  · rw [h.rxl hl (by omega)] at hi
    by_cases e : i = rwL P
    · rw [e, h.rxa hl (by omega)]; exact ha
    · rw [h.rxi hl (by omega) (by omega)]; exact h.2.2 i (by omega)
/-- the same letters up to m: the same beginning -/
theorem RV.ext {P Q : Nat} (h : RV P) (h' : RV Q) : ∀ {m : Nat}, m ≤ rwL P → m ≤ rwL Q → (∀ i, i < m → rwA P i = rwA Q i) → rwB P m = rwB Q m
  | 0, _, _, _ => by rw [h.rb0, h'.rb0]
  | m + 1, h1, h2, h3 => by rw [h.rbs h1, h'.rbs h2, RV.ext h h' (by omega) (by omega) (fun i hi => h3 i (by omega)), h3 m (by omega)]
theorem RV.ext_a {P Q m i : Nat} (h : RV P) (h' : RV Q) (h1 : m ≤ rwL P) (h2 : m ≤ rwL Q) (e : rwB P m = rwB Q m) (hi : i < m) : rwA P i = rwA Q i := by
  rw [← h.rbra h1 hi, e, h'.rbra h2 hi]
theorem RV.ext_l {P Q m m' : Nat} (h : RV P) (h' : RV Q) (h1 : m ≤ rwL P) (h2 : m ≤ rwL Q) (e : rwB P m = rwB Q m) (hm : m' ≤ m) : rwB P m' = rwB Q m' := by
  rw [← h.rbb h1 hm, e, h'.rbb h2 hm]
theorem RV.inj {P a b : Nat} (h : RV P) (hl : rwL P < 10) (ha : a < 32) (hb : b < 32) (e : rwX P a = rwX P b) : a = b := by
  rw [← h.rxa hl ha, e, h.rxa hl hb]
/-! of the machine's numbers -/
theorem lc_eq {a b : Nat} (ha : a < 9223372036854775808) (hb : b < 9223372036854775808) : lg_cmp (lN a) (lN b) = 0 ↔ a = b := by
  rw [lg_cmp_eq, pk_lEQ (by omega) (by omega)]
theorem lc_le {a b : Nat} (ha : a < 9223372036854775808) (hb : b < 9223372036854775808) : lg_cmp (lN a) (lN b) ≤ 0 ↔ a ≤ b := by
  rw [lg_cmp_le, pk_lLE (by omega) (by omega)]
theorem dec1 {n : Nat} (h : 0 < n) : nI n + (-1) = nI (n - 1) := by
  have := pk_m1 (n - 1)
  rwa [Nat.sub_add_cancel h] at this
theorem p2_5 (k : Nat) : 2 ^ (5 * k) = 32 ^ k := by rw [Nat.pow_mul]
/-- the letter at a place, out of the whole number -/
theorem ra_of {P t : Nat} (h : t ≤ 9) : P / 32 ^ t % 32 = rwC P / 32 ^ t % 32 := by
  have e : P = rwC P + 32 * 32 ^ (9 - t) * rwL P * 32 ^ t := by
    have h1 : 32 * 32 ^ (9 - t) * rwL P * 32 ^ t = rwL P * 1125899906842624 := by
      rw [← p32_10, show 32 ^ 10 = 32 * 32 ^ 9 by decide, show 32 ^ 9 = 32 ^ (9 - t) * 32 ^ t by rw [← Nat.pow_add]; congr 1; omega]
      simp only [Nat.mul_comm, Nat.mul_left_comm, Nat.mul_assoc]
    rw [h1]
    have := rk_e P
    unfold rwK at this
    omega
  rw (occs := .pos [1]) [e]
  rw [Nat.add_mul_div_right _ _ (Nat.pow_pos (by decide)), Nat.mul_assoc 32, Nat.add_mul_mod_self_left]
theorem pk_or {n c : Nat} (hc : c < 1125899906842624) : lN (n * 2 ^ 50) ||| lN c = lN (rwK n c) := by
  have h := fb_or_sumL (k := 50) n hc
  rw [Nat.mul_comm] at h
  exact h
theorem pk_sh {P : Nat} (hP : P < 18014398509481984) (k : Nat) (hk : k ≤ 10) : ((lN P).toUInt64 >>> ((nI (5 * k)).toInt64.toUInt64 &&& Int64.toUInt64 63)).toInt64 = lN (P / 32 ^ k) := by
  rw [wb_shr (by omega) (by omega), p2_5]
theorem pk_ad {c a : Nat} (ha : a < 32) : lN (c * 2 ^ 5) ||| lN a = lN (c * 32 + a) := by
  have h := fb_or_sumL (k := 5) c ha
  rw [Nat.mul_comm] at h
  exact h
theorem min_nI {a b : Nat} (ha : a < 2 ^ 31) (hb : b < 2 ^ 31) : (if nI b < nI a then nI b else nI a) = nI (min a b) := by
  by_cases h : b < a
  · rw [if_pos ((nI_ltI hb ha).mpr h), Nat.min_eq_right (by omega)]
  · rw [if_neg (fun q => h ((nI_ltI hb ha).mp q)), Nat.min_eq_left (by omega)]
theorem max_nI {a b : Nat} (ha : a < 2 ^ 31) (hb : b < 2 ^ 31) : (if nI a < nI b then nI b else nI a) = nI (max a b) := by
  by_cases h : a < b
  · rw [if_pos ((nI_ltI ha hb).mpr h), Nat.max_eq_right (by omega)]
  · rw [if_neg (fun q => h ((nI_ltI ha hb).mp q)), Nat.max_eq_left (by omega)]
/-- the longest beginning in common -/
def shD (P Q : Nat) : Nat → Nat
  | 0 => 0
  | k + 1 => if rwB P (k + 1) = rwB Q (k + 1) then k + 1 else shD P Q k
def shr (P Q : Nat) : Nat := shD P Q (min (rwL P) (rwL Q))
theorem shD_le (P Q : Nat) : ∀ k, shD P Q k ≤ k
  | 0 => Nat.le_refl _
  | k + 1 => by
    unfold shD
    by_cases h : rwB P (k + 1) = rwB Q (k + 1)
    · rw [if_pos h]; exact Nat.le_refl _
    · rw [if_neg h]; exact Nat.le_succ_of_le (shD_le P Q k)
theorem shD_t {P Q k : Nat} (h : rwB P k = rwB Q k) : shD P Q k = k := by
  cases k with
  | zero => rfl
  | succ k => exact if_pos h
theorem shD_f {P Q k : Nat} (h0 : 0 < k) (h : ¬ rwB P k = rwB Q k) : shD P Q k = shD P Q (k - 1) := by
  cases k with
  | zero => omega
  | succ k => exact if_neg h
theorem shr_le (P Q : Nat) : shr P Q ≤ rwL P ∧ shr P Q ≤ rwL Q := by
  have := shD_le P Q (min (rwL P) (rwL Q))
  unfold shr
  omega
theorem nI_nem1 {n : Nat} (h : n < 2147483648) : ¬ nI n = -1 := fun q => by
  have h1 := nI_toInt (n := n) (by omega)
  rw [q] at h1
  have h2 : (-1 : Int32).toInt = -1 := by decide
  omega
end
section
theorem dX2_lengthOf_0 : decode cX2_lengthOf 0 = .ok (.lload_n 0, 1) := by decide +kernel
theorem dX2_lengthOf_1 : decode cX2_lengthOf 1 = .ok (.bipush 50, 2) := by decide +kernel
theorem dX2_lengthOf_3 : decode cX2_lengthOf 3 = .ok (.lushr, 1) := by decide +kernel
theorem dX2_lengthOf_4 : decode cX2_lengthOf 4 = .ok (.l2i, 1) := by decide +kernel
theorem dX2_lengthOf_5 : decode cX2_lengthOf 5 = .ok (.ireturn, 1) := by decide +kernel
set_option maxRecDepth 20000 in
theorem ggX2_isFull_X2_lengthOf : GoodIn wsX2_isFull wsX2_lengthOf := goodIn_r _ [4] (by decide +kernel) (by decide +kernel)
set_option maxRecDepth 20000 in
theorem gX2_isFull_X2_lengthOf : GoodIn wsX2_isFull (va_wsS RX2 11 yX2_lengthOf wsX2_lengthOf) := goodIn_app (goodIn_of _ (by decide +kernel)) ggX2_isFull_X2_lengthOf
theorem dX2_isFull_0 : decode cX2_isFull 0 = .ok (.lload_n 0, 1) := by decide +kernel
theorem dX2_isFull_1 : decode cX2_isFull 1 = .ok (.invokestatic 11, 3) := by decide +kernel
theorem dX2_isFull_4 : decode cX2_isFull 4 = .ok (.bipush 10, 2) := by decide +kernel
theorem dX2_isFull_6 : decode cX2_isFull 6 = .ok (.if_icmp .lt 7, 3) := by decide +kernel
theorem dX2_isFull_9 : decode cX2_isFull 9 = .ok (.iconst 1, 1) := by decide +kernel
theorem dX2_isFull_10 : decode cX2_isFull 10 = .ok (.goto 4, 3) := by decide +kernel
theorem dX2_isFull_13 : decode cX2_isFull 13 = .ok (.iconst 0, 1) := by decide +kernel
theorem dX2_isFull_14 : decode cX2_isFull 14 = .ok (.ireturn, 1) := by decide +kernel
set_option maxRecDepth 20000 in
theorem ggX2_letterAt_X2_lengthOf : GoodIn wsX2_letterAt wsX2_lengthOf := goodIn_r _ [4] (by decide +kernel) (by decide +kernel)
set_option maxRecDepth 20000 in
theorem gX2_letterAt_X2_lengthOf : GoodIn wsX2_letterAt (va_wsS RX2 11 yX2_lengthOf wsX2_lengthOf) := goodIn_app (goodIn_of _ (by decide +kernel)) ggX2_letterAt_X2_lengthOf
theorem dX2_letterAt_0 : decode cX2_letterAt 0 = .ok (.lload_n 0, 1) := by decide +kernel
theorem dX2_letterAt_1 : decode cX2_letterAt 1 = .ok (.invokestatic 11, 3) := by decide +kernel
theorem dX2_letterAt_4 : decode cX2_letterAt 4 = .ok (.istore_n 3, 1) := by decide +kernel
theorem dX2_letterAt_5 : decode cX2_letterAt 5 = .ok (.iload_n 2, 1) := by decide +kernel
theorem dX2_letterAt_6 : decode cX2_letterAt 6 = .ok (.ifCond .lt 8, 3) := by decide +kernel
theorem dX2_letterAt_9 : decode cX2_letterAt 9 = .ok (.iload_n 2, 1) := by decide +kernel
theorem dX2_letterAt_10 : decode cX2_letterAt 10 = .ok (.iload_n 3, 1) := by decide +kernel
theorem dX2_letterAt_11 : decode cX2_letterAt 11 = .ok (.if_icmp .lt 5, 3) := by decide +kernel
theorem dX2_letterAt_14 : decode cX2_letterAt 14 = .ok (.iconst (-1), 1) := by decide +kernel
theorem dX2_letterAt_15 : decode cX2_letterAt 15 = .ok (.ireturn, 1) := by decide +kernel
theorem dX2_letterAt_16 : decode cX2_letterAt 16 = .ok (.lload_n 0, 1) := by decide +kernel
theorem dX2_letterAt_17 : decode cX2_letterAt 17 = .ok (.iconst 5, 1) := by decide +kernel
theorem dX2_letterAt_18 : decode cX2_letterAt 18 = .ok (.iload_n 3, 1) := by decide +kernel
theorem dX2_letterAt_19 : decode cX2_letterAt 19 = .ok (.iconst 1, 1) := by decide +kernel
theorem dX2_letterAt_20 : decode cX2_letterAt 20 = .ok (.isub, 1) := by decide +kernel
theorem dX2_letterAt_21 : decode cX2_letterAt 21 = .ok (.iload_n 2, 1) := by decide +kernel
theorem dX2_letterAt_22 : decode cX2_letterAt 22 = .ok (.isub, 1) := by decide +kernel
theorem dX2_letterAt_23 : decode cX2_letterAt 23 = .ok (.imul, 1) := by decide +kernel
theorem dX2_letterAt_24 : decode cX2_letterAt 24 = .ok (.lushr, 1) := by decide +kernel
theorem dX2_letterAt_25 : decode cX2_letterAt 25 = .ok (.l2i, 1) := by decide +kernel
theorem dX2_letterAt_26 : decode cX2_letterAt 26 = .ok (.bipush 31, 2) := by decide +kernel
theorem dX2_letterAt_28 : decode cX2_letterAt 28 = .ok (.iand, 1) := by decide +kernel
theorem dX2_letterAt_29 : decode cX2_letterAt 29 = .ok (.ireturn, 1) := by decide +kernel
set_option maxRecDepth 20000 in
theorem ggX2_with_X2_lengthOf : GoodIn wsX2_with wsX2_lengthOf := goodIn_r _ [5] (by decide +kernel) (by decide +kernel)
set_option maxRecDepth 20000 in
theorem gX2_with_X2_lengthOf : GoodIn wsX2_with (va_wsS RX2 11 yX2_lengthOf wsX2_lengthOf) := goodIn_app (goodIn_of _ (by decide +kernel)) ggX2_with_X2_lengthOf
set_option maxRecDepth 20000 in
theorem ggX2_with_X2_pack : GoodIn wsX2_with wsX2_pack := goodIn_r _ [8] (by decide +kernel) (by decide +kernel)
set_option maxRecDepth 20000 in
theorem gX2_with_X2_pack : GoodIn wsX2_with (va_wsS RX2 17 yX2_pack wsX2_pack) := goodIn_app (goodIn_of _ (by decide +kernel)) ggX2_with_X2_pack
theorem dX2_with_0 : decode cX2_with 0 = .ok (.lload_n 0, 1) := by decide +kernel
theorem dX2_with_1 : decode cX2_with 1 = .ok (.invokestatic 11, 3) := by decide +kernel
theorem dX2_with_4 : decode cX2_with 4 = .ok (.iconst 1, 1) := by decide +kernel
theorem dX2_with_5 : decode cX2_with 5 = .ok (.iadd, 1) := by decide +kernel
theorem dX2_with_6 : decode cX2_with 6 = .ok (.lload_n 0, 1) := by decide +kernel
theorem dX2_with_7 : decode cX2_with 7 = .ok (.ldc2_w 15, 3) := by decide +kernel
theorem dX2_with_10 : decode cX2_with 10 = .ok (.land, 1) := by decide +kernel
theorem dX2_with_11 : decode cX2_with 11 = .ok (.iconst 5, 1) := by decide +kernel
theorem dX2_with_12 : decode cX2_with 12 = .ok (.lshl, 1) := by decide +kernel
theorem dX2_with_13 : decode cX2_with 13 = .ok (.iload_n 2, 1) := by decide +kernel
theorem dX2_with_14 : decode cX2_with 14 = .ok (.i2l, 1) := by decide +kernel
theorem dX2_with_15 : decode cX2_with 15 = .ok (.lor, 1) := by decide +kernel
theorem dX2_with_16 : decode cX2_with 16 = .ok (.invokestatic 17, 3) := by decide +kernel
theorem dX2_with_19 : decode cX2_with 19 = .ok (.lreturn, 1) := by decide +kernel
set_option maxRecDepth 20000 in
theorem ggX2_beginning_X2_lengthOf : GoodIn wsX2_beginning wsX2_lengthOf := goodIn_r _ [5] (by decide +kernel) (by decide +kernel)
set_option maxRecDepth 20000 in
theorem gX2_beginning_X2_lengthOf : GoodIn wsX2_beginning (va_wsS RX2 11 yX2_lengthOf wsX2_lengthOf) := goodIn_app (goodIn_of _ (by decide +kernel)) ggX2_beginning_X2_lengthOf
set_option maxRecDepth 20000 in
theorem ggX2_beginning_X2_pack : GoodIn wsX2_beginning wsX2_pack := goodIn_r _ [8] (by decide +kernel) (by decide +kernel)
set_option maxRecDepth 20000 in
theorem gX2_beginning_X2_pack : GoodIn wsX2_beginning (va_wsS RX2 17 yX2_pack wsX2_pack) := goodIn_app (goodIn_of _ (by decide +kernel)) ggX2_beginning_X2_pack
theorem dX2_beginning_0 : decode cX2_beginning 0 = .ok (.lload_n 0, 1) := by decide +kernel
theorem dX2_beginning_1 : decode cX2_beginning 1 = .ok (.invokestatic 11, 3) := by decide +kernel
theorem dX2_beginning_4 : decode cX2_beginning 4 = .ok (.iload_n 2, 1) := by decide +kernel
theorem dX2_beginning_5 : decode cX2_beginning 5 = .ok (.isub, 1) := by decide +kernel
theorem dX2_beginning_6 : decode cX2_beginning 6 = .ok (.istore_n 3, 1) := by decide +kernel
theorem dX2_beginning_7 : decode cX2_beginning 7 = .ok (.iload_n 2, 1) := by decide +kernel
theorem dX2_beginning_8 : decode cX2_beginning 8 = .ok (.lload_n 0, 1) := by decide +kernel
theorem dX2_beginning_9 : decode cX2_beginning 9 = .ok (.ldc2_w 15, 3) := by decide +kernel
theorem dX2_beginning_12 : decode cX2_beginning 12 = .ok (.land, 1) := by decide +kernel
theorem dX2_beginning_13 : decode cX2_beginning 13 = .ok (.iconst 5, 1) := by decide +kernel
theorem dX2_beginning_14 : decode cX2_beginning 14 = .ok (.iload_n 3, 1) := by decide +kernel
theorem dX2_beginning_15 : decode cX2_beginning 15 = .ok (.imul, 1) := by decide +kernel
theorem dX2_beginning_16 : decode cX2_beginning 16 = .ok (.lushr, 1) := by decide +kernel
theorem dX2_beginning_17 : decode cX2_beginning 17 = .ok (.invokestatic 17, 3) := by decide +kernel
theorem dX2_beginning_20 : decode cX2_beginning 20 = .ok (.lreturn, 1) := by decide +kernel
set_option maxRecDepth 20000 in
theorem ggX2_beginsWith_X2_lengthOf : GoodIn wsX2_beginsWith wsX2_lengthOf := goodIn_r _ [5] (by decide +kernel) (by decide +kernel)
set_option maxRecDepth 20000 in
theorem gX2_beginsWith_X2_lengthOf : GoodIn wsX2_beginsWith (va_wsS RX2 11 yX2_lengthOf wsX2_lengthOf) := goodIn_app (goodIn_of _ (by decide +kernel)) ggX2_beginsWith_X2_lengthOf
theorem dX2_beginsWith_0 : decode cX2_beginsWith 0 = .ok (.lload_n 0, 1) := by decide +kernel
theorem dX2_beginsWith_1 : decode cX2_beginsWith 1 = .ok (.invokestatic 11, 3) := by decide +kernel
theorem dX2_beginsWith_4 : decode cX2_beginsWith 4 = .ok (.lload_n 2, 1) := by decide +kernel
theorem dX2_beginsWith_5 : decode cX2_beginsWith 5 = .ok (.invokestatic 11, 3) := by decide +kernel
theorem dX2_beginsWith_8 : decode cX2_beginsWith 8 = .ok (.isub, 1) := by decide +kernel
theorem dX2_beginsWith_9 : decode cX2_beginsWith 9 = .ok (.istore 4, 2) := by decide +kernel
theorem dX2_beginsWith_11 : decode cX2_beginsWith 11 = .ok (.iload 4, 2) := by decide +kernel
theorem dX2_beginsWith_13 : decode cX2_beginsWith 13 = .ok (.ifCond .lt 26, 3) := by decide +kernel
theorem dX2_beginsWith_16 : decode cX2_beginsWith 16 = .ok (.lload_n 0, 1) := by decide +kernel
theorem dX2_beginsWith_17 : decode cX2_beginsWith 17 = .ok (.ldc2_w 15, 3) := by decide +kernel
theorem dX2_beginsWith_20 : decode cX2_beginsWith 20 = .ok (.land, 1) := by decide +kernel
theorem dX2_beginsWith_21 : decode cX2_beginsWith 21 = .ok (.iconst 5, 1) := by decide +kernel
theorem dX2_beginsWith_22 : decode cX2_beginsWith 22 = .ok (.iload 4, 2) := by decide +kernel
theorem dX2_beginsWith_24 : decode cX2_beginsWith 24 = .ok (.imul, 1) := by decide +kernel
theorem dX2_beginsWith_25 : decode cX2_beginsWith 25 = .ok (.lushr, 1) := by decide +kernel
theorem dX2_beginsWith_26 : decode cX2_beginsWith 26 = .ok (.lload_n 2, 1) := by decide +kernel
theorem dX2_beginsWith_27 : decode cX2_beginsWith 27 = .ok (.ldc2_w 15, 3) := by decide +kernel
theorem dX2_beginsWith_30 : decode cX2_beginsWith 30 = .ok (.land, 1) := by decide +kernel
theorem dX2_beginsWith_31 : decode cX2_beginsWith 31 = .ok (.lcmp, 1) := by decide +kernel
theorem dX2_beginsWith_32 : decode cX2_beginsWith 32 = .ok (.ifCond .ne 7, 3) := by decide +kernel
theorem dX2_beginsWith_35 : decode cX2_beginsWith 35 = .ok (.iconst 1, 1) := by decide +kernel
theorem dX2_beginsWith_36 : decode cX2_beginsWith 36 = .ok (.goto 4, 3) := by decide +kernel
theorem dX2_beginsWith_39 : decode cX2_beginsWith 39 = .ok (.iconst 0, 1) := by decide +kernel
theorem dX2_beginsWith_40 : decode cX2_beginsWith 40 = .ok (.ireturn, 1) := by decide +kernel
set_option maxRecDepth 20000 in
theorem ggX2_lengthShared_X2_lengthOf : GoodIn wsX2_lengthShared wsX2_lengthOf := goodIn_r _ [8] (by decide +kernel) (by decide +kernel)
set_option maxRecDepth 20000 in
theorem gX2_lengthShared_X2_lengthOf : GoodIn wsX2_lengthShared (va_wsS RX2 11 yX2_lengthOf wsX2_lengthOf) := goodIn_app (goodIn_of _ (by decide +kernel)) ggX2_lengthShared_X2_lengthOf
set_option maxRecDepth 20000 in
theorem ggX2_lengthShared_X2_beginning : GoodIn wsX2_lengthShared wsX2_beginning := goodIn_r _ [11, 12, 5, 6, 7, 8, 13, 14, 15] (by decide +kernel) (by decide +kernel)
set_option maxRecDepth 20000 in
theorem gX2_lengthShared_X2_beginning : GoodIn wsX2_lengthShared (va_wsS RX2 27 yX2_beginning wsX2_beginning) := goodIn_app (goodIn_of _ (by decide +kernel)) ggX2_lengthShared_X2_beginning
theorem dX2_lengthShared_0 : decode cX2_lengthShared 0 = .ok (.lload_n 0, 1) := by decide +kernel
theorem dX2_lengthShared_1 : decode cX2_lengthShared 1 = .ok (.invokestatic 11, 3) := by decide +kernel
theorem dX2_lengthShared_4 : decode cX2_lengthShared 4 = .ok (.lload_n 2, 1) := by decide +kernel
theorem dX2_lengthShared_5 : decode cX2_lengthShared 5 = .ok (.invokestatic 11, 3) := by decide +kernel
theorem dX2_lengthShared_8 : decode cX2_lengthShared 8 = .ok (.invokestatic 21, 3) := by decide +kernel
theorem dX2_lengthShared_11 : decode cX2_lengthShared 11 = .ok (.istore 4, 2) := by decide +kernel
theorem dX2_lengthShared_13 : decode cX2_lengthShared 13 = .ok (.iload 4, 2) := by decide +kernel
theorem dX2_lengthShared_15 : decode cX2_lengthShared 15 = .ok (.ifCond .le 25, 3) := by decide +kernel
theorem dX2_lengthShared_18 : decode cX2_lengthShared 18 = .ok (.lload_n 0, 1) := by decide +kernel
theorem dX2_lengthShared_19 : decode cX2_lengthShared 19 = .ok (.iload 4, 2) := by decide +kernel
theorem dX2_lengthShared_21 : decode cX2_lengthShared 21 = .ok (.invokestatic 27, 3) := by decide +kernel
theorem dX2_lengthShared_24 : decode cX2_lengthShared 24 = .ok (.lload_n 2, 1) := by decide +kernel
theorem dX2_lengthShared_25 : decode cX2_lengthShared 25 = .ok (.iload 4, 2) := by decide +kernel
theorem dX2_lengthShared_27 : decode cX2_lengthShared 27 = .ok (.invokestatic 27, 3) := by decide +kernel
theorem dX2_lengthShared_30 : decode cX2_lengthShared 30 = .ok (.lcmp, 1) := by decide +kernel
theorem dX2_lengthShared_31 : decode cX2_lengthShared 31 = .ok (.ifCond .eq 9, 3) := by decide +kernel
theorem dX2_lengthShared_34 : decode cX2_lengthShared 34 = .ok (.iinc 4 (-1), 3) := by decide +kernel
theorem dX2_lengthShared_37 : decode cX2_lengthShared 37 = .ok (.goto (-24), 3) := by decide +kernel
theorem dX2_lengthShared_40 : decode cX2_lengthShared 40 = .ok (.iload 4, 2) := by decide +kernel
theorem dX2_lengthShared_42 : decode cX2_lengthShared 42 = .ok (.ireturn, 1) := by decide +kernel
theorem dX2_pack_0 : decode cX2_pack 0 = .ok (.iload_n 0, 1) := by decide +kernel
theorem dX2_pack_1 : decode cX2_pack 1 = .ok (.i2l, 1) := by decide +kernel
theorem dX2_pack_2 : decode cX2_pack 2 = .ok (.bipush 50, 2) := by decide +kernel
theorem dX2_pack_4 : decode cX2_pack 4 = .ok (.lshl, 1) := by decide +kernel
theorem dX2_pack_5 : decode cX2_pack 5 = .ok (.lload_n 1, 1) := by decide +kernel
theorem dX2_pack_6 : decode cX2_pack 6 = .ok (.lor, 1) := by decide +kernel
theorem dX2_pack_7 : decode cX2_pack 7 = .ok (.lreturn, 1) := by decide +kernel
end
section
theorem sub_neg {a b : Nat} (ha : a < 2147483648) (hb : b < 2147483648) (h : a < b) : nI a - nI b < 0 := by
  rw [fa_lt, fb_subI (by rw [nI_toInt (by omega), nI_toInt (by omega)]; omega) (by rw [nI_toInt (by omega), nI_toInt (by omega)]; omega), nI_toInt (by omega), nI_toInt (by omega)]
  have : (0 : Int32).toInt = 0 := by decide
  omega
theorem bw_iff {P Q : Nat} (h : RV P) (hm : rwL Q ≤ rwL P) : rwB P (rwL Q) = Q ↔ rwC P / 32 ^ (rwL P - rwL Q) = rwC Q := by
  constructor
  · intro e
    rw [← h.rbc hm, e]
  · intro e
    unfold rwB
    rw [e, rk_e]
abbrev rm_X2_lengthOf : Room := { frames := 0, cells := 0, slots := 0, locals := 0 }
set_option maxHeartbeats 4000000 in
set_option maxRecDepth 100000 in
theorem c_X2_lengthOf (l : Launch) (P : Nat) (hP0 : P < 18014398509481984) : Pi l yX2_lengthOf wsX2_lengthOf rm_X2_lengthOf [.long (lN (P))] (fun r => r = nI (rwL P)) := by
  intro g
  refine Ci.ofI (cc := cX2_lengthOf) (maxL := 2) (by decide) rfl (Nat.le_of_ble_eq_true rfl) ?_
  intro p e s m args below meth c A Z hx hb hml hts hown hK hA hret H locs ls hP hD hS hl
  have hl : lv_has ls 2 [(0, .long (lN (P)))] := hl
  refine lv_lload_n hx hb dX2_lengthOf_0 rfl (lv_at hl 0 rfl) ?_
  refine lv_bipush (v := nI 50) hx hb dX2_lengthOf_1 (by decide) ?_
  refine lv_lushr (v := (lN (rwL P))) hx hb dX2_lengthOf_3 (wb_shr (n := P) (k := 50) (by omega) (by decide)) ?_
  refine lv_l2i (v := nI (rwL P)) hx hb dX2_lengthOf_4 (lN_i _) ?_
  exact hret (nI (rwL P)) [] _ _ _ _ dX2_lengthOf_5 (⟨rfl, rfl⟩) hP hD hS

abbrev rm_X2_pack : Room := { frames := 0, cells := 0, slots := 0, locals := 0 }
set_option maxHeartbeats 4000000 in
set_option maxRecDepth 100000 in
theorem c_X2_pack (l : Launch) (n c0 : Nat) (hn0 : n < 4096) (hc0 : c0 < 1125899906842624) : Pl l yX2_pack wsX2_pack rm_X2_pack [.int (nI (n)), .long (lN (c0))] (fun r => r = lN (rwK n c0)) := by
  intro g
  refine Cl.ofL (cc := cX2_pack) (maxL := 3) (by decide) rfl (Nat.le_of_ble_eq_true rfl) ?_
  intro p e s m args below meth c A Z hx hb hml hts hown hK hA hret H locs ls hP hD hS hl
  have hl : lv_has ls 3 [(0, .int (nI (n))), (1, .long (lN (c0)))] := hl
  refine lv_iload_n hx hb dX2_pack_0 rfl (lv_at hl 0 rfl) ?_
  refine lv_i2l (v := lN (n)) hx hb dX2_pack_1 (nI_l (by omega)) ?_
  refine lv_bipush (v := nI 50) hx hb dX2_pack_2 (by decide) ?_
  refine lv_lshl (v := (lN (n * 2 ^ 50))) hx hb dX2_pack_4 (wb_shl n (by decide)) ?_
  refine lv_lload_n hx hb dX2_pack_5 rfl (lv_at hl 1 rfl) ?_
  refine lv_lor hx hb dX2_pack_6 ?_
  refine tp_l (b := (lN (rwK n c0))) (pk_or hc0) ?_
  exact hret (lN (rwK n c0)) [] _ _ _ _ dX2_pack_7 (⟨rfl, rfl⟩) hP hD hS

abbrev rm_X2_isFull : Room := { frames := 1, cells := 0, slots := 0, locals := 21 }
set_option maxHeartbeats 4000000 in
set_option maxRecDepth 100000 in
theorem c_X2_isFull (l : Launch) (P : Nat) (hV : RV P) : Pi l yX2_isFull wsX2_isFull rm_X2_isFull [.long (lN (P))] (fun r => Bv r (10 ≤ rwL P)) := by
  intro g
  refine Ci.ofZ (cc := cX2_isFull) (maxL := 2) (by decide) rfl (Nat.le_of_ble_eq_true rfl) ?_
  intro p e s m args below meth c A Z hx hb hml hts hown hK hA hret H locs ls hP hD hS hl
  have hl : lv_has ls 2 [(0, .long (lN (P)))] := hl
  have h10 := hV.1
  refine lv_lload_n hx hb dX2_isFull_0 rfl (lv_at hl 0 rfl) ?_
  refine call_iP (As := [.long (lN (P))]) (rest := []) ⟨hx, hb, hml, hown, hts⟩ (c_X2_lengthOf l P (hV.lt)) (va_cwS 1 hts gX2_isFull_X2_lengthOf rfl rfl rfl (by decide +kernel) ⟨Nat.le_of_ble_eq_true rfl, Nat.le_of_ble_eq_true rfl⟩) hP hK hD hS hA rfl hl.1 rfl (Nat.le_of_ble_eq_true rfl) dX2_isFull_1 ⟨Nat.le_refl _, Nat.le_refl _⟩ (fun r_1 H locs h_1 hP hD hS => ?_)
  subst h_1
  refine lv_bipush (v := nI 10) hx hb dX2_isFull_4 (by decide) ?_
  refine lv_icmp_lt (tgt := 13) hx hb dX2_isFull_6 (by decide) (fun c_6_1 => ?_) (fun c_6_1 => ?_)
  · skip
    have n_6_1 : rwL P < 10 := (nI_ltI (a := rwL P) (b := 10) (by omega) (by omega)).mp c_6_1
    refine lv_iconst (v := nI 0) hx hb dX2_isFull_13 (by decide) ?_
    exact hret (nI (0)) [] _ _ _ _ dX2_isFull_14 (Or.inl rfl) (⟨rfl, Bv.no (by omega)⟩) hP hD hS
  · skip
    have n_6_1 : ¬ rwL P < 10 := fun q9 => c_6_1 ((nI_ltI (a := rwL P) (b := 10) (by omega) (by omega)).mpr q9)
    refine lv_iconst (v := nI 1) hx hb dX2_isFull_9 (by decide) ?_
    refine lv_goto (tgt := 14) hx hb dX2_isFull_10 (by decide) ?_
    exact hret (nI (1)) [] _ _ _ _ dX2_isFull_14 (Or.inr rfl) (⟨rfl, Bv.yes (by omega)⟩) hP hD hS

abbrev rm_X2_letterAt : Room := { frames := 1, cells := 0, slots := 0, locals := 21 }
set_option maxHeartbeats 4000000 in
set_option maxRecDepth 100000 in
theorem c_X2_letterAt (l : Launch) (P : Nat) (x : Int32) (hV : RV P) : Pi l yX2_letterAt wsX2_letterAt rm_X2_letterAt [.long (lN (P)), .int (x)] (fun r => (∃ j : Nat, j < rwL P ∧ nI j = x ∧ r = nI (rwA P j)) ∨ ((¬ ∃ j : Nat, j < rwL P ∧ nI j = x) ∧ r = -1)) := by
  intro g
  refine Ci.ofI (cc := cX2_letterAt) (maxL := 4) (by decide) rfl (Nat.le_of_ble_eq_true rfl) ?_
  intro p e s m args below meth c A Z hx hb hml hts hown hK hA hret H locs ls hP hD hS hl
  have hl : lv_has ls 4 [(0, .long (lN (P))), (2, .int (x))] := hl
  have h10 := hV.1
  have hP0 := hV.lt
  refine lv_lload_n hx hb dX2_letterAt_0 rfl (lv_at hl 0 rfl) ?_
  refine call_iP (As := [.long (lN (P))]) (rest := []) ⟨hx, hb, hml, hown, hts⟩ (c_X2_lengthOf l P (hV.lt)) (va_cwS 1 hts gX2_letterAt_X2_lengthOf rfl rfl rfl (by decide +kernel) ⟨Nat.le_of_ble_eq_true rfl, Nat.le_of_ble_eq_true rfl⟩) hP hK hD hS hA rfl hl.1 rfl (Nat.le_of_ble_eq_true rfl) dX2_letterAt_1 ⟨Nat.le_refl _, Nat.le_refl _⟩ (fun r_1 H locs h_1 hP hD hS => ?_)
  subst h_1
  refine lv_istore_n (lv' := [(3, .int (nI (rwL P))), (0, .long (lN (P))), (2, .int (x))]) hx hb dX2_letterAt_4 rfl hl (by decide) rfl (fun ls hl => ?_)
  refine lv_iload_n hx hb dX2_letterAt_5 rfl (lv_at hl 2 rfl) ?_
  refine lv_if_lt (tgt := 14) hx hb dX2_letterAt_6 (by decide) (fun c_6_1 => ?_) (fun c_6_1 => ?_)
  · skip
    have nj : ¬ ∃ j : Nat, j < rwL P ∧ nI j = x := by
      rintro ⟨j, hj, rfl⟩
      exact nI_pos (by omega) c_6_1
    refine lv_iconst (v := -1) hx hb dX2_letterAt_14 (by decide) ?_
    exact hret (-1) [] _ _ _ _ dX2_letterAt_15 (⟨rfl, Or.inr ⟨nj, rfl⟩⟩) hP hD hS
  · skip
    refine lv_iload_n hx hb dX2_letterAt_9 rfl (lv_at hl 2 rfl) ?_
    refine lv_iload_n hx hb dX2_letterAt_10 rfl (lv_at hl 0 rfl) ?_
    refine lv_icmp_lt (tgt := 16) hx hb dX2_letterAt_11 (by decide) (fun c_11_2 => ?_) (fun c_11_2 => ?_)
    · skip
      obtain ⟨j, hj, rfl⟩ : ∃ j : Nat, j < rwL P ∧ x = nI j := by
        rcases pk_ix x (n := rwL P) (by omega) with h | h | h
        · exact absurd h c_6_1
        · exact absurd h (fa_of_lt c_11_2).2.1
        · exact h
      refine lv_lload_n hx hb dX2_letterAt_16 rfl (lv_at hl 1 rfl) ?_
      refine lv_iconst (v := nI 5) hx hb dX2_letterAt_17 (by decide) ?_
      refine lv_iload_n hx hb dX2_letterAt_18 rfl (lv_at hl 0 rfl) ?_
      refine lv_iconst (v := nI 1) hx hb dX2_letterAt_19 (by decide) ?_
      refine lv_isub hx hb dX2_letterAt_20 ?_
      refine tp_i (pk_sub (a := rwL P) (b := 1) (by omega)) ?_
      refine lv_iload_n hx hb dX2_letterAt_21 rfl (lv_at hl 2 rfl) ?_
      refine lv_isub hx hb dX2_letterAt_22 ?_
      refine tp_i (pk_sub (a := (rwL P) - 1) (b := j) (by omega)) ?_
      refine lv_imul hx hb dX2_letterAt_23 ?_
      refine tp_i (pk_mul 5 (((rwL P) - 1) - j)) ?_
      refine lv_lushr (v := (lN (P / 32 ^ (rwL P - 1 - j)))) hx hb dX2_letterAt_24 (pk_sh hP0 _ (by omega)) ?_
      refine lv_l2i (v := nI (P / 32 ^ (rwL P - 1 - j))) hx hb dX2_letterAt_25 (lN_i _) ?_
      refine lv_bipush (v := nI 31) hx hb dX2_letterAt_26 (by decide) ?_
      refine lv_iand hx hb dX2_letterAt_28 ?_
      refine tp_i (b := (nI (rwA P j))) ((fa_mask _ 5).trans (congrArg nI (ra_of (by omega)))) ?_
      exact hret (nI (rwA P j)) [] _ _ _ _ dX2_letterAt_29 (⟨rfl, Or.inl ⟨j, hj, rfl, rfl⟩⟩) hP hD hS
    · skip
      have nj : ¬ ∃ j : Nat, j < rwL P ∧ nI j = x := by
        rintro ⟨j, hj, rfl⟩
        exact c_11_2 ((nI_ltI (by omega) (by omega)).mpr hj)
      refine lv_iconst (v := -1) hx hb dX2_letterAt_14 (by decide) ?_
      exact hret (-1) [] _ _ _ _ dX2_letterAt_15 (⟨rfl, Or.inr ⟨nj, rfl⟩⟩) hP hD hS

abbrev rm_X2_with : Room := { frames := 1, cells := 0, slots := 0, locals := 22 }
set_option maxHeartbeats 4000000 in
set_option maxRecDepth 100000 in
theorem c_X2_with (l : Launch) (P a : Nat) (hV : RV P) (hl0 : rwL P < 10) (ha0 : a < 32) : Pl l yX2_with wsX2_with rm_X2_with [.long (lN (P)), .int (nI (a))] (fun r => r = lN (rwX P a)) := by
  intro g
  refine Cl.ofL (cc := cX2_with) (maxL := 3) (by decide) rfl (Nat.le_of_ble_eq_true rfl) ?_
  intro p e s m args below meth c A Z hx hb hml hts hown hK hA hret H locs ls hP hD hS hl
  have hl : lv_has ls 3 [(0, .long (lN (P))), (2, .int (nI (a)))] := hl
  have hP0 := hV.lt
  have hc1 := hV.2.1
  have hc2 := p32 (show rwL P ≤ 9 by omega)
  rw [show 32 ^ 9 = 35184372088832 by decide] at hc2
  refine lv_lload_n hx hb dX2_with_0 rfl (lv_at hl 0 rfl) ?_
  refine call_iP (As := [.long (lN (P))]) (rest := []) ⟨hx, hb, hml, hown, hts⟩ (c_X2_lengthOf l P (hV.lt)) (va_cwS 1 hts gX2_with_X2_lengthOf rfl rfl rfl (by decide +kernel) ⟨Nat.le_of_ble_eq_true rfl, Nat.le_of_ble_eq_true rfl⟩) hP hK hD hS hA rfl hl.1 rfl (Nat.le_of_ble_eq_true rfl) dX2_with_1 ⟨Nat.le_refl _, Nat.le_refl _⟩ (fun r_1 H locs h_1 hP hD hS => ?_)
  subst h_1
  refine lv_iconst (v := nI 1) hx hb dX2_with_4 (by decide) ?_
  refine lv_iadd hx hb dX2_with_5 ?_
  refine tp_i (nI_add (rwL P) 1) ?_
  refine lv_lload_n hx hb dX2_with_6 rfl (lv_at hl 0 rfl) ?_
  refine lv_ldc2 (v := lN 1125899906842623) hx hb hown (hts (.constantLong RX2 15 (1125899906842623)) (by decide +kernel)) dX2_with_7 ?_
  refine lv_land hx hb dX2_with_10 ?_
  refine tp_l (b := (lN (rwC P))) (wb_mask (k := 50) (by omega) (by decide)) ?_
  refine lv_iconst (v := nI 5) hx hb dX2_with_11 (by decide) ?_
  refine lv_lshl (v := (lN (rwC P * 2 ^ 5))) hx hb dX2_with_12 (wb_shl _ (by decide)) ?_
  refine lv_iload_n hx hb dX2_with_13 rfl (lv_at hl 1 rfl) ?_
  refine lv_i2l (v := lN (a)) hx hb dX2_with_14 (nI_l (by omega)) ?_
  refine lv_lor hx hb dX2_with_15 ?_
  refine tp_l (b := (lN (rwC P * 32 + a))) (pk_ad ha0) ?_
  refine call_lP (As := [.int (nI ((rwL P) + 1)), .long (lN (rwC P * 32 + a))]) (rest := []) ⟨hx, hb, hml, hown, hts⟩ (c_X2_pack l (rwL P + 1) (rwC P * 32 + a) (by omega) (by omega)) (va_cwS 2 hts gX2_with_X2_pack rfl rfl rfl (by decide +kernel) ⟨Nat.le_of_ble_eq_true rfl, Nat.le_of_ble_eq_true rfl⟩) hP hK hD hS hA rfl hl.1 rfl (Nat.le_of_ble_eq_true rfl) dX2_with_16 ⟨Nat.le_refl _, Nat.le_refl _⟩ (fun r_16 H locs h_16 hP hD hS => ?_)
  subst h_16
  exact hret (lN (rwX P a)) [] _ _ _ _ dX2_with_19 (⟨rfl, rfl⟩) hP hD hS

abbrev rm_X2_beginning : Room := { frames := 1, cells := 0, slots := 0, locals := 22 }
set_option maxHeartbeats 4000000 in
set_option maxRecDepth 100000 in
theorem c_X2_beginning (l : Launch) (P k : Nat) (hV : RV P) (hk0 : k ≤ rwL P) : Pl l yX2_beginning wsX2_beginning rm_X2_beginning [.long (lN (P)), .int (nI (k))] (fun r => r = lN (rwB P k)) := by
  intro g
  refine Cl.ofL (cc := cX2_beginning) (maxL := 4) (by decide) rfl (Nat.le_of_ble_eq_true rfl) ?_
  intro p e s m args below meth c A Z hx hb hml hts hown hK hA hret H locs ls hP hD hS hl
  have hl : lv_has ls 4 [(0, .long (lN (P))), (2, .int (nI (k)))] := hl
  have h10 := hV.1
  have hP0 := hV.lt
  have hc1 := rc_lt P
  have hc2 := Nat.div_le_self (rwC P) (32 ^ (rwL P - k))
  refine lv_lload_n hx hb dX2_beginning_0 rfl (lv_at hl 0 rfl) ?_
  refine call_iP (As := [.long (lN (P))]) (rest := []) ⟨hx, hb, hml, hown, hts⟩ (c_X2_lengthOf l P (hV.lt)) (va_cwS 1 hts gX2_beginning_X2_lengthOf rfl rfl rfl (by decide +kernel) ⟨Nat.le_of_ble_eq_true rfl, Nat.le_of_ble_eq_true rfl⟩) hP hK hD hS hA rfl hl.1 rfl (Nat.le_of_ble_eq_true rfl) dX2_beginning_1 ⟨Nat.le_refl _, Nat.le_refl _⟩ (fun r_1 H locs h_1 hP hD hS => ?_)
  subst h_1
  refine lv_iload_n hx hb dX2_beginning_4 rfl (lv_at hl 1 rfl) ?_
  refine lv_isub hx hb dX2_beginning_5 ?_
  refine tp_i (pk_sub (a := rwL P) (b := k) (by omega)) ?_
  refine lv_istore_n (lv' := [(3, .int (nI ((rwL P) - k))), (0, .long (lN (P))), (2, .int (nI (k)))]) hx hb dX2_beginning_6 rfl hl (by decide) rfl (fun ls hl => ?_)
  refine lv_iload_n hx hb dX2_beginning_7 rfl (lv_at hl 2 rfl) ?_
  refine lv_lload_n hx hb dX2_beginning_8 rfl (lv_at hl 1 rfl) ?_
  refine lv_ldc2 (v := lN 1125899906842623) hx hb hown (hts (.constantLong RX2 15 (1125899906842623)) (by decide +kernel)) dX2_beginning_9 ?_
  refine lv_land hx hb dX2_beginning_12 ?_
  refine tp_l (b := (lN (rwC P))) (wb_mask (k := 50) (by omega) (by decide)) ?_
  refine lv_iconst (v := nI 5) hx hb dX2_beginning_13 (by decide) ?_
  refine lv_iload_n hx hb dX2_beginning_14 rfl (lv_at hl 0 rfl) ?_
  refine lv_imul hx hb dX2_beginning_15 ?_
  refine tp_i (pk_mul 5 ((rwL P) - k)) ?_
  refine lv_lushr (v := (lN (rwC P / 32 ^ (rwL P - k)))) hx hb dX2_beginning_16 (pk_sh (by omega) _ (by omega)) ?_
  refine call_lP (As := [.int (nI (k)), .long (lN (rwC P / 32 ^ (rwL P - k)))]) (rest := []) ⟨hx, hb, hml, hown, hts⟩ (c_X2_pack l k (rwC P / 32 ^ (rwL P - k)) (by omega) (by omega)) (va_cwS 2 hts gX2_beginning_X2_pack rfl rfl rfl (by decide +kernel) ⟨Nat.le_of_ble_eq_true rfl, Nat.le_of_ble_eq_true rfl⟩) hP hK hD hS hA rfl hl.1 rfl (Nat.le_of_ble_eq_true rfl) dX2_beginning_17 ⟨Nat.le_refl _, Nat.le_refl _⟩ (fun r_17 H locs h_17 hP hD hS => ?_)
  subst h_17
  exact hret (lN (rwB P k)) [] _ _ _ _ dX2_beginning_20 (⟨rfl, rfl⟩) hP hD hS

abbrev rm_X2_beginsWith : Room := { frames := 1, cells := 0, slots := 0, locals := 21 }
set_option maxHeartbeats 4000000 in
set_option maxRecDepth 100000 in
theorem c_X2_beginsWith (l : Launch) (P Q : Nat) (hV : RV P) (hU : RV Q) : Pi l yX2_beginsWith wsX2_beginsWith rm_X2_beginsWith [.long (lN (P)), .long (lN (Q))] (fun r => Bv r (rwL Q ≤ rwL P ∧ rwB P (rwL Q) = Q)) := by
  intro g
  refine Ci.ofZ (cc := cX2_beginsWith) (maxL := 5) (by decide) rfl (Nat.le_of_ble_eq_true rfl) ?_
  intro p e s m args below meth c A Z hx hb hml hts hown hK hA hret H locs ls hP hD hS hl
  have hl : lv_has ls 5 [(0, .long (lN (P))), (2, .long (lN (Q)))] := hl
  have h10 := hV.1
  have h11 := hU.1
  have hV0 := hV.lt
  have hU0 := hU.lt
  obtain ⟨bh, hbh⟩ : ∃ bh : Int32, nI (rwL P) - nI (rwL Q) = bh := ⟨_, rfl⟩
  refine lv_lload_n hx hb dX2_beginsWith_0 rfl (lv_at hl 0 rfl) ?_
  refine call_iP (As := [.long (lN (P))]) (rest := []) ⟨hx, hb, hml, hown, hts⟩ (c_X2_lengthOf l P (hV.lt)) (va_cwS 1 hts gX2_beginsWith_X2_lengthOf rfl rfl rfl (by decide +kernel) ⟨Nat.le_of_ble_eq_true rfl, Nat.le_of_ble_eq_true rfl⟩) hP hK hD hS hA rfl hl.1 rfl (Nat.le_of_ble_eq_true rfl) dX2_beginsWith_1 ⟨Nat.le_refl _, Nat.le_refl _⟩ (fun r_1 H locs h_1 hP hD hS => ?_)
  subst h_1
  refine lv_lload_n hx hb dX2_beginsWith_4 rfl (lv_at hl 1 rfl) ?_
  refine call_iP (As := [.long (lN (Q))]) (rest := [.int (nI (rwL P))]) ⟨hx, hb, hml, hown, hts⟩ (c_X2_lengthOf l Q (hU.lt)) (va_cwS 1 hts gX2_beginsWith_X2_lengthOf rfl rfl rfl (by decide +kernel) ⟨Nat.le_of_ble_eq_true rfl, Nat.le_of_ble_eq_true rfl⟩) hP hK hD hS hA rfl hl.1 rfl (Nat.le_of_ble_eq_true rfl) dX2_beginsWith_5 ⟨Nat.le_refl _, Nat.le_refl _⟩ (fun r_5 H locs h_5 hP hD hS => ?_)
  subst h_5
  refine lv_isub hx hb dX2_beginsWith_8 ?_
  refine tp_i (b := (bh)) (hbh) ?_
  refine lv_istore (lv' := [(4, .int (bh)), (0, .long (lN (P))), (2, .long (lN (Q)))]) hx hb dX2_beginsWith_9 hl (by decide) rfl (fun ls hl => ?_)
  refine lv_iload hx hb dX2_beginsWith_11 (lv_at hl 0 rfl) ?_
  refine lv_if_lt (tgt := 39) hx hb dX2_beginsWith_13 (by decide) (fun c_13_1 => ?_) (fun c_13_1 => ?_)
  · skip
    have hlt : rwL P < rwL Q := by
      rcases Nat.lt_or_ge (rwL P) (rwL Q) with q9 | q9
      · exact q9
      · rw [← hbh, pk_sub q9] at c_13_1
        exact absurd c_13_1 (nI_pos (by omega))
    refine lv_iconst (v := nI 0) hx hb dX2_beginsWith_39 (by decide) ?_
    exact hret (nI (0)) [] _ _ _ _ dX2_beginsWith_40 (Or.inl rfl) (⟨rfl, Bv.no (fun q9 => by have := q9.1; omega)⟩) hP hD hS
  · skip
    have hle : rwL Q ≤ rwL P := by
      rcases Nat.lt_or_ge (rwL P) (rwL Q) with q9 | q9
      · exact absurd (by rw [← hbh]; exact sub_neg (by omega) (by omega) q9) c_13_1
      · exact q9
    obtain rfl : bh = nI (rwL P - rwL Q) := by rw [← hbh, pk_sub hle]
    have hc1 := rc_lt P
    have hc3 := rc_lt Q
    have hc2 := Nat.div_le_self (rwC P) (32 ^ (rwL P - rwL Q))
    have bw_e : rwB P (rwL Q) = Q ↔ rwC P / 32 ^ (rwL P - rwL Q) = rwC Q := bw_iff hV hle
    refine lv_lload_n hx hb dX2_beginsWith_16 rfl (lv_at hl 1 rfl) ?_
    refine lv_ldc2 (v := lN 1125899906842623) hx hb hown (hts (.constantLong RX2 15 (1125899906842623)) (by decide +kernel)) dX2_beginsWith_17 ?_
    refine lv_land hx hb dX2_beginsWith_20 ?_
    refine tp_l (b := (lN (rwC P))) (wb_mask (k := 50) (by omega) (by decide)) ?_
    refine lv_iconst (v := nI 5) hx hb dX2_beginsWith_21 (by decide) ?_
    refine lv_iload hx hb dX2_beginsWith_22 (lv_at hl 0 rfl) ?_
    refine lv_imul hx hb dX2_beginsWith_24 ?_
    refine tp_i (pk_mul 5 (rwL P - rwL Q)) ?_
    refine lv_lushr (v := (lN (rwC P / 32 ^ (rwL P - rwL Q)))) hx hb dX2_beginsWith_25 (pk_sh (by omega) _ (by omega)) ?_
    refine lv_lload_n hx hb dX2_beginsWith_26 rfl (lv_at hl 2 rfl) ?_
    refine lv_ldc2 (v := lN 1125899906842623) hx hb hown (hts (.constantLong RX2 15 (1125899906842623)) (by decide +kernel)) dX2_beginsWith_27 ?_
    refine lv_land hx hb dX2_beginsWith_30 ?_
    refine tp_l (b := (lN (rwC Q))) (wb_mask (k := 50) (by omega) (by decide)) ?_
    refine W.lcmp hx hb dX2_beginsWith_31 ?_
    refine lv_if_ne (tgt := 39) hx hb dX2_beginsWith_32 (by decide) (fun c_32_2 => ?_) (fun c_32_2 => ?_)
    · skip
      have n_32_2 : ¬ rwC P / 32 ^ (rwL P - rwL Q) = rwC Q := fun q9 => c_32_2 ((lc_eq (a := rwC P / 32 ^ (rwL P - rwL Q)) (b := rwC Q) (by omega) (by omega)).mpr q9)
      refine lv_iconst (v := nI 0) hx hb dX2_beginsWith_39 (by decide) ?_
      exact hret (nI (0)) [] _ _ _ _ dX2_beginsWith_40 (Or.inl rfl) (⟨rfl, Bv.no (fun q9 => n_32_2 (bw_e.mp q9.2))⟩) hP hD hS
    · skip
      have n_32_2 : rwC P / 32 ^ (rwL P - rwL Q) = rwC Q := (lc_eq (a := rwC P / 32 ^ (rwL P - rwL Q)) (b := rwC Q) (by omega) (by omega)).mp c_32_2
      refine lv_iconst (v := nI 1) hx hb dX2_beginsWith_35 (by decide) ?_
      refine lv_goto (tgt := 40) hx hb dX2_beginsWith_36 (by decide) ?_
      exact hret (nI (1)) [] _ _ _ _ dX2_beginsWith_40 (Or.inr rfl) (⟨rfl, Bv.yes ⟨hle, bw_e.mpr n_32_2⟩⟩) hP hD hS

abbrev rm_X2_lengthShared : Room := { frames := 2, cells := 0, slots := 0, locals := 45 }
set_option maxHeartbeats 4000000 in
set_option maxRecDepth 100000 in
theorem c_X2_lengthShared (l : Launch) (P Q : Nat) (hV : RV P) (hU : RV Q) : Pi l yX2_lengthShared wsX2_lengthShared rm_X2_lengthShared [.long (lN (P)), .long (lN (Q))] (fun r => r = nI (shr P Q)) := by
  intro g
  refine Ci.ofI (cc := cX2_lengthShared) (maxL := 5) (by decide) rfl (Nat.le_of_ble_eq_true rfl) ?_
  intro p e s m args below meth c A Z hx hb hml hts hown hK hA hret H locs ls hP hD hS hl
  have hl : lv_has ls 5 [(0, .long (lN (P))), (2, .long (lN (Q)))] := hl
  have h10 := hV.1
  have h11 := hU.1
  refine lv_lload_n hx hb dX2_lengthShared_0 rfl (lv_at hl 0 rfl) ?_
  refine call_iP (As := [.long (lN (P))]) (rest := []) ⟨hx, hb, hml, hown, hts⟩ (c_X2_lengthOf l P (hV.lt)) (va_cwS 1 hts gX2_lengthShared_X2_lengthOf rfl rfl rfl (by decide +kernel) ⟨Nat.le_of_ble_eq_true rfl, Nat.le_of_ble_eq_true rfl⟩) hP hK hD hS hA rfl hl.1 rfl (Nat.le_of_ble_eq_true rfl) dX2_lengthShared_1 ⟨Nat.le_refl _, Nat.le_refl _⟩ (fun r_1 H locs h_1 hP hD hS => ?_)
  subst h_1
  refine lv_lload_n hx hb dX2_lengthShared_4 rfl (lv_at hl 1 rfl) ?_
  refine call_iP (As := [.long (lN (Q))]) (rest := [.int (nI (rwL P))]) ⟨hx, hb, hml, hown, hts⟩ (c_X2_lengthOf l Q (hU.lt)) (va_cwS 1 hts gX2_lengthShared_X2_lengthOf rfl rfl rfl (by decide +kernel) ⟨Nat.le_of_ble_eq_true rfl, Nat.le_of_ble_eq_true rfl⟩) hP hK hD hS hA rfl hl.1 rfl (Nat.le_of_ble_eq_true rfl) dX2_lengthShared_5 ⟨Nat.le_refl _, Nat.le_refl _⟩ (fun r_5 H locs h_5 hP hD hS => ?_)
  subst h_5
  refine va_mmin hx hb (by rw [hml]; exact hl.1.symm) hown (hts (.methodLink RX2 21 Lib.Math.min.name) (by decide +kernel)) (hts (.static Lib.Math.min.name) (by decide +kernel)) (hts (.initialized "java/lang/Math") (by decide +kernel)) (hts (.code Lib.Math.min.name Lib.Math.min.code 2 (some .int)) (by decide +kernel)) (Nat.le_of_ble_eq_true rfl) (Nat.le_of_ble_eq_true rfl) (Nat.zero_le _) (Nat.zero_le _) dX2_lengthShared_8 ?_
  refine tp_i (b := (nI (min (rwL P) (rwL Q)))) (min_nI (by omega) (by omega)) ?_
  refine lv_istore (lv' := [(4, .int (nI (min (rwL P) (rwL Q)))), (0, .long (lN (P))), (2, .long (lN (Q)))]) hx hb dX2_lengthShared_11 hl (by decide) rfl (fun ls hl => ?_)
  have L_13 : ∀ (fu : Nat) (k : Nat), k < fu → (k ≤ rwL P) → (k ≤ rwL Q) → (shD P Q k = shr P Q) → ∀ (H : Heap) (locs : List Loc) (ls : Array Slot), va_P g.1 vwCl [] H → va_D A [] → va_S A s.heap H locs → lv_has ls 5 [(0, .long (lN (P))), (2, .long (lN (Q))), (4, .int (nI (k)))] → W p l e rm_X2_lengthShared s m args below meth c H locs 0 0 Z (F0 m 13 ls []) := by
    intro fu
    induction fu with
    | zero => intro _ h0; exact absurd h0 (Nat.not_lt_zero _)
    | succ fu ih_13 =>
      intro k hfu hk1 hk2 hk3 H locs ls hP hD hS hl
      refine lv_iload hx hb dX2_lengthShared_13 (lv_at hl 2 rfl) ?_
      refine lv_if_le (tgt := 40) hx hb dX2_lengthShared_15 (by decide) (fun c_15_1 => ?_) (fun c_15_1 => ?_)
      · skip
        have n_15_1 : k ≤ 0 := (nI_leI (a := k) (b := 0) (by omega) (by omega)).mp c_15_1
        refine lv_iload hx hb dX2_lengthShared_40 (lv_at hl 2 rfl) ?_
        exact hret (nI (k)) [] _ _ _ _ dX2_lengthShared_42 (⟨rfl, by rw [← hk3, shD_t (by rw [Nat.le_zero.mp n_15_1, hV.rb0, hU.rb0])]⟩) hP hD hS
      · skip
        have n_15_1 : ¬ k ≤ 0 := fun q9 => c_15_1 ((nI_leI (a := k) (b := 0) (by omega) (by omega)).mpr q9)
        refine lv_lload_n hx hb dX2_lengthShared_18 rfl (lv_at hl 0 rfl) ?_
        refine lv_iload hx hb dX2_lengthShared_19 (lv_at hl 2 rfl) ?_
        refine call_lP (As := [.long (lN (P)), .int (nI (k))]) (rest := []) ⟨hx, hb, hml, hown, hts⟩ (c_X2_beginning l P k hV (by omega)) (va_cwS 2 hts gX2_lengthShared_X2_beginning rfl rfl rfl (by decide +kernel) ⟨Nat.le_of_ble_eq_true rfl, Nat.le_of_ble_eq_true rfl⟩) hP hK hD hS hA rfl hl.1 rfl (Nat.le_of_ble_eq_true rfl) dX2_lengthShared_21 ⟨Nat.le_refl _, Nat.le_refl _⟩ (fun r_21 H locs h_21 hP hD hS => ?_)
        subst h_21
        refine lv_lload_n hx hb dX2_lengthShared_24 rfl (lv_at hl 1 rfl) ?_
        refine lv_iload hx hb dX2_lengthShared_25 (lv_at hl 2 rfl) ?_
        refine call_lP (As := [.long (lN (Q)), .int (nI (k))]) (rest := [.long (lN (rwB P k))]) ⟨hx, hb, hml, hown, hts⟩ (c_X2_beginning l Q k hU (by omega)) (va_cwS 2 hts gX2_lengthShared_X2_beginning rfl rfl rfl (by decide +kernel) ⟨Nat.le_of_ble_eq_true rfl, Nat.le_of_ble_eq_true rfl⟩) hP hK hD hS hA rfl hl.1 rfl (Nat.le_of_ble_eq_true rfl) dX2_lengthShared_27 ⟨Nat.le_refl _, Nat.le_refl _⟩ (fun r_27 H locs h_27 hP hD hS => ?_)
        subst h_27
        have hB1 := (hV.rb (m := k) (by omega)).lt
        have hB2 := (hU.rb (m := k) (by omega)).lt
        refine W.lcmp hx hb dX2_lengthShared_30 ?_
        refine lv_if_eq (tgt := 40) hx hb dX2_lengthShared_31 (by decide) (fun c_31_2 => ?_) (fun c_31_2 => ?_)
        · skip
          have n_31_2 : rwB P k = rwB Q k := (lc_eq (a := rwB P k) (b := rwB Q k) (by omega) (by omega)).mp c_31_2
          refine lv_iload hx hb dX2_lengthShared_40 (lv_at hl 2 rfl) ?_
          exact hret (nI (k)) [] _ _ _ _ dX2_lengthShared_42 (⟨rfl, by rw [← hk3, shD_t n_31_2]⟩) hP hD hS
        · skip
          have n_31_2 : ¬ rwB P k = rwB Q k := fun q9 => c_31_2 ((lc_eq (a := rwB P k) (b := rwB Q k) (by omega) (by omega)).mpr q9)
          refine lv_iinc (v := (nI (k - 1))) (lv' := [(4, .int (nI (k - 1))), (0, .long (lN (P))), (2, .long (lN (Q)))]) hx hb dX2_lengthShared_34 hl (k := 2) rfl (dec1 (by omega)) (by decide) rfl (fun ls hl => ?_)
          refine lv_goto (tgt := 13) hx hb dX2_lengthShared_37 (by decide) ?_
          exact ih_13 (k - 1) (by omega) (by omega) (by omega) ((shD_f (by omega) n_31_2).symm.trans hk3) _ _ _ hP hD hS (lv_sub hl [1, 2, 0] rfl)
  exact L_13 (_ + 1) (min (rwL P) (rwL Q)) (Nat.lt_succ_self _) (by omega) (by omega) (rfl) _ _ _ hP hD hS (lv_sub hl [1, 2, 0] rfl)
end
section
theorem dX0_init_0 : decode cX0_init 0 = .ok (.aload_n 0, 1) := by decide +kernel
theorem dX0_init_1 : decode cX0_init 1 = .ok (.invokespecial 3, 3) := by decide +kernel
theorem dX0_init_4 : decode cX0_init 4 = .ok (.aload_n 0, 1) := by decide +kernel
theorem dX0_init_5 : decode cX0_init 5 = .ok (.bipush 50, 2) := by decide +kernel
theorem dX0_init_7 : decode cX0_init 7 = .ok (.newarray .long, 2) := by decide +kernel
theorem dX0_init_9 : decode cX0_init 9 = .ok (.putfield 9, 3) := by decide +kernel
theorem dX0_init_12 : decode cX0_init 12 = .ok (.aload_n 0, 1) := by decide +kernel
theorem dX0_init_13 : decode cX0_init 13 = .ok (.iconst 0, 1) := by decide +kernel
theorem dX0_init_14 : decode cX0_init 14 = .ok (.putfield 15, 3) := by decide +kernel
theorem dX0_init_17 : decode cX0_init 17 = .ok (.aload_n 0, 1) := by decide +kernel
theorem dX0_init_18 : decode cX0_init 18 = .ok (.iconst 3, 1) := by decide +kernel
theorem dX0_init_19 : decode cX0_init 19 = .ok (.putfield 19, 3) := by decide +kernel
theorem dX0_init_22 : decode cX0_init 22 = .ok (.return_, 1) := by decide +kernel
theorem dX0_size_0 : decode cX0_size 0 = .ok (.aload_n 0, 1) := by decide +kernel
theorem dX0_size_1 : decode cX0_size 1 = .ok (.getfield 15, 3) := by decide +kernel
theorem dX0_size_4 : decode cX0_size 4 = .ok (.ireturn, 1) := by decide +kernel
set_option maxRecDepth 20000 in
theorem ggX0_has_X0_placeOf : GoodIn wsX0_has wsX0_placeOf := goodIn_r _ [5, 6, 7, 8, 9, 10] (by decide +kernel) (by decide +kernel)
set_option maxRecDepth 20000 in
theorem gX0_has_X0_placeOf : GoodIn wsX0_has (wsV RX0 22 RX0 yX0_placeOf wsX0_placeOf) := goodIn_app (goodIn_of _ (by decide +kernel)) ggX0_has_X0_placeOf
theorem dX0_has_0 : decode cX0_has 0 = .ok (.aload_n 0, 1) := by decide +kernel
theorem dX0_has_1 : decode cX0_has 1 = .ok (.lload_n 1, 1) := by decide +kernel
theorem dX0_has_2 : decode cX0_has 2 = .ok (.invokevirtual 22, 3) := by decide +kernel
theorem dX0_has_5 : decode cX0_has 5 = .ok (.iconst (-1), 1) := by decide +kernel
theorem dX0_has_6 : decode cX0_has 6 = .ok (.if_icmp .eq 7, 3) := by decide +kernel
theorem dX0_has_9 : decode cX0_has 9 = .ok (.iconst 1, 1) := by decide +kernel
theorem dX0_has_10 : decode cX0_has 10 = .ok (.goto 4, 3) := by decide +kernel
theorem dX0_has_13 : decode cX0_has 13 = .ok (.iconst 0, 1) := by decide +kernel
theorem dX0_has_14 : decode cX0_has 14 = .ok (.ireturn, 1) := by decide +kernel
theorem dX0_wordAt_0 : decode cX0_wordAt 0 = .ok (.iload_n 1, 1) := by decide +kernel
theorem dX0_wordAt_1 : decode cX0_wordAt 1 = .ok (.ifCond .lt 20, 3) := by decide +kernel
theorem dX0_wordAt_4 : decode cX0_wordAt 4 = .ok (.iload_n 1, 1) := by decide +kernel
theorem dX0_wordAt_5 : decode cX0_wordAt 5 = .ok (.aload_n 0, 1) := by decide +kernel
theorem dX0_wordAt_6 : decode cX0_wordAt 6 = .ok (.getfield 15, 3) := by decide +kernel
theorem dX0_wordAt_9 : decode cX0_wordAt 9 = .ok (.if_icmp .ge 12, 3) := by decide +kernel
theorem dX0_wordAt_12 : decode cX0_wordAt 12 = .ok (.aload_n 0, 1) := by decide +kernel
theorem dX0_wordAt_13 : decode cX0_wordAt 13 = .ok (.getfield 9, 3) := by decide +kernel
theorem dX0_wordAt_16 : decode cX0_wordAt 16 = .ok (.iload_n 1, 1) := by decide +kernel
theorem dX0_wordAt_17 : decode cX0_wordAt 17 = .ok (.laload, 1) := by decide +kernel
theorem dX0_wordAt_18 : decode cX0_wordAt 18 = .ok (.goto 4, 3) := by decide +kernel
theorem dX0_wordAt_21 : decode cX0_wordAt 21 = .ok (.lconst 0, 1) := by decide +kernel
theorem dX0_wordAt_22 : decode cX0_wordAt 22 = .ok (.lreturn, 1) := by decide +kernel
set_option maxRecDepth 20000 in
theorem ggX0_add_X0_has : GoodIn wsX0_add wsX0_has := goodIn_r _ [7, 8, 9, 10, 6, 11, 1, 2, 12, 13, 14] (by decide +kernel) (by decide +kernel)
set_option maxRecDepth 20000 in
theorem gX0_add_X0_has : GoodIn wsX0_add (wsV RX0 28 RX0 yX0_has wsX0_has) := goodIn_app (goodIn_of _ (by decide +kernel)) ggX0_add_X0_has
theorem dX0_add_0 : decode cX0_add 0 = .ok (.aload_n 0, 1) := by decide +kernel
theorem dX0_add_1 : decode cX0_add 1 = .ok (.getfield 15, 3) := by decide +kernel
theorem dX0_add_4 : decode cX0_add 4 = .ok (.aload_n 0, 1) := by decide +kernel
theorem dX0_add_5 : decode cX0_add 5 = .ok (.getfield 9, 3) := by decide +kernel
theorem dX0_add_8 : decode cX0_add 8 = .ok (.arraylength, 1) := by decide +kernel
theorem dX0_add_9 : decode cX0_add 9 = .ok (.if_icmp .ge 11, 3) := by decide +kernel
theorem dX0_add_12 : decode cX0_add 12 = .ok (.aload_n 0, 1) := by decide +kernel
theorem dX0_add_13 : decode cX0_add 13 = .ok (.lload_n 1, 1) := by decide +kernel
theorem dX0_add_14 : decode cX0_add 14 = .ok (.invokevirtual 28, 3) := by decide +kernel
theorem dX0_add_17 : decode cX0_add 17 = .ok (.ifCond .eq 5, 3) := by decide +kernel
theorem dX0_add_20 : decode cX0_add 20 = .ok (.iconst 0, 1) := by decide +kernel
theorem dX0_add_21 : decode cX0_add 21 = .ok (.ireturn, 1) := by decide +kernel
theorem dX0_add_22 : decode cX0_add 22 = .ok (.aload_n 0, 1) := by decide +kernel
theorem dX0_add_23 : decode cX0_add 23 = .ok (.getfield 15, 3) := by decide +kernel
theorem dX0_add_26 : decode cX0_add 26 = .ok (.istore_n 3, 1) := by decide +kernel
theorem dX0_add_27 : decode cX0_add 27 = .ok (.iload_n 3, 1) := by decide +kernel
theorem dX0_add_28 : decode cX0_add 28 = .ok (.ifCond .le 36, 3) := by decide +kernel
theorem dX0_add_31 : decode cX0_add 31 = .ok (.aload_n 0, 1) := by decide +kernel
theorem dX0_add_32 : decode cX0_add 32 = .ok (.getfield 9, 3) := by decide +kernel
theorem dX0_add_35 : decode cX0_add 35 = .ok (.iload_n 3, 1) := by decide +kernel
theorem dX0_add_36 : decode cX0_add 36 = .ok (.iconst 1, 1) := by decide +kernel
theorem dX0_add_37 : decode cX0_add 37 = .ok (.isub, 1) := by decide +kernel
theorem dX0_add_38 : decode cX0_add 38 = .ok (.laload, 1) := by decide +kernel
theorem dX0_add_39 : decode cX0_add 39 = .ok (.lload_n 1, 1) := by decide +kernel
theorem dX0_add_40 : decode cX0_add 40 = .ok (.lcmp, 1) := by decide +kernel
theorem dX0_add_41 : decode cX0_add 41 = .ok (.ifCond .le 23, 3) := by decide +kernel
theorem dX0_add_44 : decode cX0_add 44 = .ok (.aload_n 0, 1) := by decide +kernel
theorem dX0_add_45 : decode cX0_add 45 = .ok (.getfield 9, 3) := by decide +kernel
theorem dX0_add_48 : decode cX0_add 48 = .ok (.iload_n 3, 1) := by decide +kernel
theorem dX0_add_49 : decode cX0_add 49 = .ok (.aload_n 0, 1) := by decide +kernel
theorem dX0_add_50 : decode cX0_add 50 = .ok (.getfield 9, 3) := by decide +kernel
theorem dX0_add_53 : decode cX0_add 53 = .ok (.iload_n 3, 1) := by decide +kernel
theorem dX0_add_54 : decode cX0_add 54 = .ok (.iconst 1, 1) := by decide +kernel
theorem dX0_add_55 : decode cX0_add 55 = .ok (.isub, 1) := by decide +kernel
theorem dX0_add_56 : decode cX0_add 56 = .ok (.laload, 1) := by decide +kernel
theorem dX0_add_57 : decode cX0_add 57 = .ok (.lastore, 1) := by decide +kernel
theorem dX0_add_58 : decode cX0_add 58 = .ok (.iinc 3 (-1), 3) := by decide +kernel
theorem dX0_add_61 : decode cX0_add 61 = .ok (.goto (-34), 3) := by decide +kernel
theorem dX0_add_64 : decode cX0_add 64 = .ok (.aload_n 0, 1) := by decide +kernel
theorem dX0_add_65 : decode cX0_add 65 = .ok (.getfield 9, 3) := by decide +kernel
theorem dX0_add_68 : decode cX0_add 68 = .ok (.iload_n 3, 1) := by decide +kernel
theorem dX0_add_69 : decode cX0_add 69 = .ok (.lload_n 1, 1) := by decide +kernel
theorem dX0_add_70 : decode cX0_add 70 = .ok (.lastore, 1) := by decide +kernel
theorem dX0_add_71 : decode cX0_add 71 = .ok (.aload_n 0, 1) := by decide +kernel
theorem dX0_add_72 : decode cX0_add 72 = .ok (.dup, 1) := by decide +kernel
theorem dX0_add_73 : decode cX0_add 73 = .ok (.getfield 15, 3) := by decide +kernel
theorem dX0_add_76 : decode cX0_add 76 = .ok (.iconst 1, 1) := by decide +kernel
theorem dX0_add_77 : decode cX0_add 77 = .ok (.iadd, 1) := by decide +kernel
theorem dX0_add_78 : decode cX0_add 78 = .ok (.putfield 15, 3) := by decide +kernel
theorem dX0_add_81 : decode cX0_add 81 = .ok (.iconst 1, 1) := by decide +kernel
theorem dX0_add_82 : decode cX0_add 82 = .ok (.ireturn, 1) := by decide +kernel
set_option maxRecDepth 20000 in
theorem ggX0_remove_X0_placeOf : GoodIn wsX0_remove wsX0_placeOf := goodIn_r _ [7, 1, 2, 8, 9, 10] (by decide +kernel) (by decide +kernel)
set_option maxRecDepth 20000 in
theorem gX0_remove_X0_placeOf : GoodIn wsX0_remove (wsV RX0 22 RX0 yX0_placeOf wsX0_placeOf) := goodIn_app (goodIn_of _ (by decide +kernel)) ggX0_remove_X0_placeOf
theorem dX0_remove_0 : decode cX0_remove 0 = .ok (.aload_n 0, 1) := by decide +kernel
theorem dX0_remove_1 : decode cX0_remove 1 = .ok (.lload_n 1, 1) := by decide +kernel
theorem dX0_remove_2 : decode cX0_remove 2 = .ok (.invokevirtual 22, 3) := by decide +kernel
theorem dX0_remove_5 : decode cX0_remove 5 = .ok (.istore_n 3, 1) := by decide +kernel
theorem dX0_remove_6 : decode cX0_remove 6 = .ok (.iload_n 3, 1) := by decide +kernel
theorem dX0_remove_7 : decode cX0_remove 7 = .ok (.iconst (-1), 1) := by decide +kernel
theorem dX0_remove_8 : decode cX0_remove 8 = .ok (.if_icmp .ne 5, 3) := by decide +kernel
theorem dX0_remove_11 : decode cX0_remove 11 = .ok (.iconst 0, 1) := by decide +kernel
theorem dX0_remove_12 : decode cX0_remove 12 = .ok (.ireturn, 1) := by decide +kernel
theorem dX0_remove_13 : decode cX0_remove 13 = .ok (.aload_n 0, 1) := by decide +kernel
theorem dX0_remove_14 : decode cX0_remove 14 = .ok (.dup, 1) := by decide +kernel
theorem dX0_remove_15 : decode cX0_remove 15 = .ok (.getfield 15, 3) := by decide +kernel
theorem dX0_remove_18 : decode cX0_remove 18 = .ok (.iconst 1, 1) := by decide +kernel
theorem dX0_remove_19 : decode cX0_remove 19 = .ok (.isub, 1) := by decide +kernel
theorem dX0_remove_20 : decode cX0_remove 20 = .ok (.putfield 15, 3) := by decide +kernel
theorem dX0_remove_23 : decode cX0_remove 23 = .ok (.iload_n 3, 1) := by decide +kernel
theorem dX0_remove_24 : decode cX0_remove 24 = .ok (.istore 4, 2) := by decide +kernel
theorem dX0_remove_26 : decode cX0_remove 26 = .ok (.iload 4, 2) := by decide +kernel
theorem dX0_remove_28 : decode cX0_remove 28 = .ok (.aload_n 0, 1) := by decide +kernel
theorem dX0_remove_29 : decode cX0_remove 29 = .ok (.getfield 15, 3) := by decide +kernel
theorem dX0_remove_32 : decode cX0_remove 32 = .ok (.if_icmp .ge 25, 3) := by decide +kernel
theorem dX0_remove_35 : decode cX0_remove 35 = .ok (.aload_n 0, 1) := by decide +kernel
theorem dX0_remove_36 : decode cX0_remove 36 = .ok (.getfield 9, 3) := by decide +kernel
theorem dX0_remove_39 : decode cX0_remove 39 = .ok (.iload 4, 2) := by decide +kernel
theorem dX0_remove_41 : decode cX0_remove 41 = .ok (.aload_n 0, 1) := by decide +kernel
theorem dX0_remove_42 : decode cX0_remove 42 = .ok (.getfield 9, 3) := by decide +kernel
theorem dX0_remove_45 : decode cX0_remove 45 = .ok (.iload 4, 2) := by decide +kernel
theorem dX0_remove_47 : decode cX0_remove 47 = .ok (.iconst 1, 1) := by decide +kernel
theorem dX0_remove_48 : decode cX0_remove 48 = .ok (.iadd, 1) := by decide +kernel
theorem dX0_remove_49 : decode cX0_remove 49 = .ok (.laload, 1) := by decide +kernel
theorem dX0_remove_50 : decode cX0_remove 50 = .ok (.lastore, 1) := by decide +kernel
theorem dX0_remove_51 : decode cX0_remove 51 = .ok (.iinc 4 1, 3) := by decide +kernel
theorem dX0_remove_54 : decode cX0_remove 54 = .ok (.goto (-28), 3) := by decide +kernel
theorem dX0_remove_57 : decode cX0_remove 57 = .ok (.iconst 1, 1) := by decide +kernel
theorem dX0_remove_58 : decode cX0_remove 58 = .ok (.ireturn, 1) := by decide +kernel
set_option maxRecDepth 20000 in
theorem ggX0_countFrom_X2_beginsWith : GoodIn wsX0_countFrom wsX2_beginsWith := goodIn_r _ [6, 7, 8, 9, 5, 10] (by decide +kernel) (by decide +kernel)
set_option maxRecDepth 20000 in
theorem gX0_countFrom_X2_beginsWith : GoodIn wsX0_countFrom (va_wsS RX0 32 yX2_beginsWith wsX2_beginsWith) := goodIn_app (goodIn_of _ (by decide +kernel)) ggX0_countFrom_X2_beginsWith
theorem dX0_countFrom_0 : decode cX0_countFrom 0 = .ok (.iconst 0, 1) := by decide +kernel
theorem dX0_countFrom_1 : decode cX0_countFrom 1 = .ok (.istore_n 3, 1) := by decide +kernel
theorem dX0_countFrom_2 : decode cX0_countFrom 2 = .ok (.iconst 0, 1) := by decide +kernel
theorem dX0_countFrom_3 : decode cX0_countFrom 3 = .ok (.istore 4, 2) := by decide +kernel
theorem dX0_countFrom_5 : decode cX0_countFrom 5 = .ok (.iload 4, 2) := by decide +kernel
theorem dX0_countFrom_7 : decode cX0_countFrom 7 = .ok (.aload_n 0, 1) := by decide +kernel
theorem dX0_countFrom_8 : decode cX0_countFrom 8 = .ok (.getfield 15, 3) := by decide +kernel
theorem dX0_countFrom_11 : decode cX0_countFrom 11 = .ok (.if_icmp .ge 26, 3) := by decide +kernel
theorem dX0_countFrom_14 : decode cX0_countFrom 14 = .ok (.aload_n 0, 1) := by decide +kernel
theorem dX0_countFrom_15 : decode cX0_countFrom 15 = .ok (.getfield 9, 3) := by decide +kernel
theorem dX0_countFrom_18 : decode cX0_countFrom 18 = .ok (.iload 4, 2) := by decide +kernel
theorem dX0_countFrom_20 : decode cX0_countFrom 20 = .ok (.laload, 1) := by decide +kernel
theorem dX0_countFrom_21 : decode cX0_countFrom 21 = .ok (.lload_n 1, 1) := by decide +kernel
theorem dX0_countFrom_22 : decode cX0_countFrom 22 = .ok (.invokestatic 32, 3) := by decide +kernel
theorem dX0_countFrom_25 : decode cX0_countFrom 25 = .ok (.ifCond .eq 6, 3) := by decide +kernel
theorem dX0_countFrom_28 : decode cX0_countFrom 28 = .ok (.iinc 3 1, 3) := by decide +kernel
theorem dX0_countFrom_31 : decode cX0_countFrom 31 = .ok (.iinc 4 1, 3) := by decide +kernel
theorem dX0_countFrom_34 : decode cX0_countFrom 34 = .ok (.goto (-29), 3) := by decide +kernel
theorem dX0_countFrom_37 : decode cX0_countFrom 37 = .ok (.iload_n 3, 1) := by decide +kernel
theorem dX0_countFrom_38 : decode cX0_countFrom 38 = .ok (.ireturn, 1) := by decide +kernel
set_option maxRecDepth 20000 in
theorem ggX0_countBeginnings_X2_lengthOf : GoodIn wsX0_countBeginnings wsX2_lengthOf := goodIn_r _ [6] (by decide +kernel) (by decide +kernel)
set_option maxRecDepth 20000 in
theorem gX0_countBeginnings_X2_lengthOf : GoodIn wsX0_countBeginnings (va_wsS RX0 36 yX2_lengthOf wsX2_lengthOf) := goodIn_app (goodIn_of _ (by decide +kernel)) ggX0_countBeginnings_X2_lengthOf
set_option maxRecDepth 20000 in
theorem ggX0_countBeginnings_X0_lengthSharedBefore : GoodIn wsX0_countBeginnings wsX0_lengthSharedBefore := goodIn_r _ [11, 2, 12, 13, 14, 15, 16, 17, 5, 18, 19, 20, 21, 22, 4, 6, 23, 24, 25, 26, 27, 28, 29, 30, 31, 32] (by decide +kernel) (by decide +kernel)
set_option maxRecDepth 20000 in
theorem gX0_countBeginnings_X0_lengthSharedBefore : GoodIn wsX0_countBeginnings (wsV RX0 39 RX0 yX0_lengthSharedBefore wsX0_lengthSharedBefore) := goodIn_app (goodIn_of _ (by decide +kernel)) ggX0_countBeginnings_X0_lengthSharedBefore
theorem dX0_countBeginnings_0 : decode cX0_countBeginnings 0 = .ok (.iconst 1, 1) := by decide +kernel
theorem dX0_countBeginnings_1 : decode cX0_countBeginnings 1 = .ok (.istore_n 1, 1) := by decide +kernel
theorem dX0_countBeginnings_2 : decode cX0_countBeginnings 2 = .ok (.iconst 0, 1) := by decide +kernel
theorem dX0_countBeginnings_3 : decode cX0_countBeginnings 3 = .ok (.istore_n 2, 1) := by decide +kernel
theorem dX0_countBeginnings_4 : decode cX0_countBeginnings 4 = .ok (.iload_n 2, 1) := by decide +kernel
theorem dX0_countBeginnings_5 : decode cX0_countBeginnings 5 = .ok (.aload_n 0, 1) := by decide +kernel
theorem dX0_countBeginnings_6 : decode cX0_countBeginnings 6 = .ok (.getfield 15, 3) := by decide +kernel
theorem dX0_countBeginnings_9 : decode cX0_countBeginnings 9 = .ok (.if_icmp .ge 27, 3) := by decide +kernel
theorem dX0_countBeginnings_12 : decode cX0_countBeginnings 12 = .ok (.iload_n 1, 1) := by decide +kernel
theorem dX0_countBeginnings_13 : decode cX0_countBeginnings 13 = .ok (.aload_n 0, 1) := by decide +kernel
theorem dX0_countBeginnings_14 : decode cX0_countBeginnings 14 = .ok (.getfield 9, 3) := by decide +kernel
theorem dX0_countBeginnings_17 : decode cX0_countBeginnings 17 = .ok (.iload_n 2, 1) := by decide +kernel
theorem dX0_countBeginnings_18 : decode cX0_countBeginnings 18 = .ok (.laload, 1) := by decide +kernel
theorem dX0_countBeginnings_19 : decode cX0_countBeginnings 19 = .ok (.invokestatic 36, 3) := by decide +kernel
theorem dX0_countBeginnings_22 : decode cX0_countBeginnings 22 = .ok (.aload_n 0, 1) := by decide +kernel
theorem dX0_countBeginnings_23 : decode cX0_countBeginnings 23 = .ok (.iload_n 2, 1) := by decide +kernel
theorem dX0_countBeginnings_24 : decode cX0_countBeginnings 24 = .ok (.invokevirtual 39, 3) := by decide +kernel
theorem dX0_countBeginnings_27 : decode cX0_countBeginnings 27 = .ok (.isub, 1) := by decide +kernel
theorem dX0_countBeginnings_28 : decode cX0_countBeginnings 28 = .ok (.iadd, 1) := by decide +kernel
theorem dX0_countBeginnings_29 : decode cX0_countBeginnings 29 = .ok (.istore_n 1, 1) := by decide +kernel
theorem dX0_countBeginnings_30 : decode cX0_countBeginnings 30 = .ok (.iinc 2 1, 3) := by decide +kernel
theorem dX0_countBeginnings_33 : decode cX0_countBeginnings 33 = .ok (.goto (-29), 3) := by decide +kernel
theorem dX0_countBeginnings_36 : decode cX0_countBeginnings 36 = .ok (.iload_n 1, 1) := by decide +kernel
theorem dX0_countBeginnings_37 : decode cX0_countBeginnings 37 = .ok (.ireturn, 1) := by decide +kernel
theorem dX0_changeLeastLength_0 : decode cX0_changeLeastLength 0 = .ok (.aload_n 0, 1) := by decide +kernel
theorem dX0_changeLeastLength_1 : decode cX0_changeLeastLength 1 = .ok (.getfield 19, 3) := by decide +kernel
theorem dX0_changeLeastLength_4 : decode cX0_changeLeastLength 4 = .ok (.istore_n 2, 1) := by decide +kernel
theorem dX0_changeLeastLength_5 : decode cX0_changeLeastLength 5 = .ok (.aload_n 0, 1) := by decide +kernel
theorem dX0_changeLeastLength_6 : decode cX0_changeLeastLength 6 = .ok (.iload_n 1, 1) := by decide +kernel
theorem dX0_changeLeastLength_7 : decode cX0_changeLeastLength 7 = .ok (.putfield 19, 3) := by decide +kernel
theorem dX0_changeLeastLength_10 : decode cX0_changeLeastLength 10 = .ok (.iload_n 2, 1) := by decide +kernel
theorem dX0_changeLeastLength_11 : decode cX0_changeLeastLength 11 = .ok (.ireturn, 1) := by decide +kernel
set_option maxRecDepth 20000 in
theorem ggX0_isLongEnough_X2_lengthOf : GoodIn wsX0_isLongEnough wsX2_lengthOf := goodIn_r _ [5] (by decide +kernel) (by decide +kernel)
set_option maxRecDepth 20000 in
theorem gX0_isLongEnough_X2_lengthOf : GoodIn wsX0_isLongEnough (va_wsS RX0 36 yX2_lengthOf wsX2_lengthOf) := goodIn_app (goodIn_of _ (by decide +kernel)) ggX0_isLongEnough_X2_lengthOf
theorem dX0_isLongEnough_0 : decode cX0_isLongEnough 0 = .ok (.lload_n 1, 1) := by decide +kernel
theorem dX0_isLongEnough_1 : decode cX0_isLongEnough 1 = .ok (.invokestatic 36, 3) := by decide +kernel
theorem dX0_isLongEnough_4 : decode cX0_isLongEnough 4 = .ok (.aload_n 0, 1) := by decide +kernel
theorem dX0_isLongEnough_5 : decode cX0_isLongEnough 5 = .ok (.getfield 19, 3) := by decide +kernel
theorem dX0_isLongEnough_8 : decode cX0_isLongEnough 8 = .ok (.if_icmp .lt 7, 3) := by decide +kernel
theorem dX0_isLongEnough_11 : decode cX0_isLongEnough 11 = .ok (.iconst 1, 1) := by decide +kernel
theorem dX0_isLongEnough_12 : decode cX0_isLongEnough 12 = .ok (.goto 4, 3) := by decide +kernel
theorem dX0_isLongEnough_15 : decode cX0_isLongEnough 15 = .ok (.iconst 0, 1) := by decide +kernel
theorem dX0_isLongEnough_16 : decode cX0_isLongEnough 16 = .ok (.ireturn, 1) := by decide +kernel
set_option maxRecDepth 20000 in
theorem ggX0_hasCounting_X0_isLongEnough : GoodIn wsX0_hasCounting wsX0_isLongEnough := goodIn_r _ [5, 6, 7, 8, 9, 10, 21, 22, 23] (by decide +kernel) (by decide +kernel)
set_option maxRecDepth 20000 in
theorem gX0_hasCounting_X0_isLongEnough : GoodIn wsX0_hasCounting (wsV RX0 43 RX0 yX0_isLongEnough wsX0_isLongEnough) := goodIn_app (goodIn_of _ (by decide +kernel)) ggX0_hasCounting_X0_isLongEnough
set_option maxRecDepth 20000 in
theorem ggX0_hasCounting_X0_has : GoodIn wsX0_hasCounting wsX0_has := goodIn_r _ [14, 15, 16, 17, 4, 18, 19, 20, 21, 22, 23] (by decide +kernel) (by decide +kernel)
set_option maxRecDepth 20000 in
theorem gX0_hasCounting_X0_has : GoodIn wsX0_hasCounting (wsV RX0 28 RX0 yX0_has wsX0_has) := goodIn_app (goodIn_of _ (by decide +kernel)) ggX0_hasCounting_X0_has
theorem dX0_hasCounting_0 : decode cX0_hasCounting 0 = .ok (.aload_n 0, 1) := by decide +kernel
theorem dX0_hasCounting_1 : decode cX0_hasCounting 1 = .ok (.lload_n 1, 1) := by decide +kernel
theorem dX0_hasCounting_2 : decode cX0_hasCounting 2 = .ok (.invokevirtual 43, 3) := by decide +kernel
theorem dX0_hasCounting_5 : decode cX0_hasCounting 5 = .ok (.ifCond .eq 15, 3) := by decide +kernel
theorem dX0_hasCounting_8 : decode cX0_hasCounting 8 = .ok (.aload_n 0, 1) := by decide +kernel
theorem dX0_hasCounting_9 : decode cX0_hasCounting 9 = .ok (.lload_n 1, 1) := by decide +kernel
theorem dX0_hasCounting_10 : decode cX0_hasCounting 10 = .ok (.invokevirtual 28, 3) := by decide +kernel
theorem dX0_hasCounting_13 : decode cX0_hasCounting 13 = .ok (.ifCond .eq 7, 3) := by decide +kernel
theorem dX0_hasCounting_16 : decode cX0_hasCounting 16 = .ok (.iconst 1, 1) := by decide +kernel
theorem dX0_hasCounting_17 : decode cX0_hasCounting 17 = .ok (.goto 4, 3) := by decide +kernel
theorem dX0_hasCounting_20 : decode cX0_hasCounting 20 = .ok (.iconst 0, 1) := by decide +kernel
theorem dX0_hasCounting_21 : decode cX0_hasCounting 21 = .ok (.ireturn, 1) := by decide +kernel
set_option maxRecDepth 20000 in
theorem ggX0_hasCountingFrom_X0_isLongEnough : GoodIn wsX0_hasCountingFrom wsX0_isLongEnough := goodIn_r _ [7, 8, 9, 10, 11, 12, 18, 19, 20] (by decide +kernel) (by decide +kernel)
set_option maxRecDepth 20000 in
theorem gX0_hasCountingFrom_X0_isLongEnough : GoodIn wsX0_hasCountingFrom (wsV RX0 43 RX0 yX0_isLongEnough wsX0_isLongEnough) := goodIn_app (goodIn_of _ (by decide +kernel)) ggX0_hasCountingFrom_X0_isLongEnough
set_option maxRecDepth 20000 in
theorem ggX0_hasCountingFrom_X2_beginsWith : GoodIn wsX0_hasCountingFrom wsX2_beginsWith := goodIn_r _ [15, 16, 17, 10, 11, 12] (by decide +kernel) (by decide +kernel)
set_option maxRecDepth 20000 in
theorem gX0_hasCountingFrom_X2_beginsWith : GoodIn wsX0_hasCountingFrom (va_wsS RX0 32 yX2_beginsWith wsX2_beginsWith) := goodIn_app (goodIn_of _ (by decide +kernel)) ggX0_hasCountingFrom_X2_beginsWith
theorem dX0_hasCountingFrom_0 : decode cX0_hasCountingFrom 0 = .ok (.iconst 0, 1) := by decide +kernel
theorem dX0_hasCountingFrom_1 : decode cX0_hasCountingFrom 1 = .ok (.istore_n 3, 1) := by decide +kernel
theorem dX0_hasCountingFrom_2 : decode cX0_hasCountingFrom 2 = .ok (.iload_n 3, 1) := by decide +kernel
theorem dX0_hasCountingFrom_3 : decode cX0_hasCountingFrom 3 = .ok (.aload_n 0, 1) := by decide +kernel
theorem dX0_hasCountingFrom_4 : decode cX0_hasCountingFrom 4 = .ok (.getfield 15, 3) := by decide +kernel
theorem dX0_hasCountingFrom_7 : decode cX0_hasCountingFrom 7 = .ok (.if_icmp .ge 37, 3) := by decide +kernel
theorem dX0_hasCountingFrom_10 : decode cX0_hasCountingFrom 10 = .ok (.aload_n 0, 1) := by decide +kernel
theorem dX0_hasCountingFrom_11 : decode cX0_hasCountingFrom 11 = .ok (.aload_n 0, 1) := by decide +kernel
theorem dX0_hasCountingFrom_12 : decode cX0_hasCountingFrom 12 = .ok (.getfield 9, 3) := by decide +kernel
theorem dX0_hasCountingFrom_15 : decode cX0_hasCountingFrom 15 = .ok (.iload_n 3, 1) := by decide +kernel
theorem dX0_hasCountingFrom_16 : decode cX0_hasCountingFrom 16 = .ok (.laload, 1) := by decide +kernel
theorem dX0_hasCountingFrom_17 : decode cX0_hasCountingFrom 17 = .ok (.invokevirtual 43, 3) := by decide +kernel
theorem dX0_hasCountingFrom_20 : decode cX0_hasCountingFrom 20 = .ok (.ifCond .eq 18, 3) := by decide +kernel
theorem dX0_hasCountingFrom_23 : decode cX0_hasCountingFrom 23 = .ok (.aload_n 0, 1) := by decide +kernel
theorem dX0_hasCountingFrom_24 : decode cX0_hasCountingFrom 24 = .ok (.getfield 9, 3) := by decide +kernel
theorem dX0_hasCountingFrom_27 : decode cX0_hasCountingFrom 27 = .ok (.iload_n 3, 1) := by decide +kernel
theorem dX0_hasCountingFrom_28 : decode cX0_hasCountingFrom 28 = .ok (.laload, 1) := by decide +kernel
theorem dX0_hasCountingFrom_29 : decode cX0_hasCountingFrom 29 = .ok (.lload_n 1, 1) := by decide +kernel
theorem dX0_hasCountingFrom_30 : decode cX0_hasCountingFrom 30 = .ok (.invokestatic 32, 3) := by decide +kernel
theorem dX0_hasCountingFrom_33 : decode cX0_hasCountingFrom 33 = .ok (.ifCond .eq 5, 3) := by decide +kernel
theorem dX0_hasCountingFrom_36 : decode cX0_hasCountingFrom 36 = .ok (.iconst 1, 1) := by decide +kernel
theorem dX0_hasCountingFrom_37 : decode cX0_hasCountingFrom 37 = .ok (.ireturn, 1) := by decide +kernel
theorem dX0_hasCountingFrom_38 : decode cX0_hasCountingFrom 38 = .ok (.iinc 3 1, 3) := by decide +kernel
theorem dX0_hasCountingFrom_41 : decode cX0_hasCountingFrom 41 = .ok (.goto (-39), 3) := by decide +kernel
theorem dX0_hasCountingFrom_44 : decode cX0_hasCountingFrom 44 = .ok (.iconst 0, 1) := by decide +kernel
theorem dX0_hasCountingFrom_45 : decode cX0_hasCountingFrom 45 = .ok (.ireturn, 1) := by decide +kernel
theorem dX0_placeOf_0 : decode cX0_placeOf 0 = .ok (.iconst 0, 1) := by decide +kernel
theorem dX0_placeOf_1 : decode cX0_placeOf 1 = .ok (.istore_n 3, 1) := by decide +kernel
theorem dX0_placeOf_2 : decode cX0_placeOf 2 = .ok (.iload_n 3, 1) := by decide +kernel
theorem dX0_placeOf_3 : decode cX0_placeOf 3 = .ok (.aload_n 0, 1) := by decide +kernel
theorem dX0_placeOf_4 : decode cX0_placeOf 4 = .ok (.getfield 15, 3) := by decide +kernel
theorem dX0_placeOf_7 : decode cX0_placeOf 7 = .ok (.if_icmp .ge 22, 3) := by decide +kernel
theorem dX0_placeOf_10 : decode cX0_placeOf 10 = .ok (.aload_n 0, 1) := by decide +kernel
theorem dX0_placeOf_11 : decode cX0_placeOf 11 = .ok (.getfield 9, 3) := by decide +kernel
theorem dX0_placeOf_14 : decode cX0_placeOf 14 = .ok (.iload_n 3, 1) := by decide +kernel
theorem dX0_placeOf_15 : decode cX0_placeOf 15 = .ok (.laload, 1) := by decide +kernel
theorem dX0_placeOf_16 : decode cX0_placeOf 16 = .ok (.lload_n 1, 1) := by decide +kernel
theorem dX0_placeOf_17 : decode cX0_placeOf 17 = .ok (.lcmp, 1) := by decide +kernel
theorem dX0_placeOf_18 : decode cX0_placeOf 18 = .ok (.ifCond .ne 5, 3) := by decide +kernel
theorem dX0_placeOf_21 : decode cX0_placeOf 21 = .ok (.iload_n 3, 1) := by decide +kernel
theorem dX0_placeOf_22 : decode cX0_placeOf 22 = .ok (.ireturn, 1) := by decide +kernel
theorem dX0_placeOf_23 : decode cX0_placeOf 23 = .ok (.iinc 3 1, 3) := by decide +kernel
theorem dX0_placeOf_26 : decode cX0_placeOf 26 = .ok (.goto (-24), 3) := by decide +kernel
theorem dX0_placeOf_29 : decode cX0_placeOf 29 = .ok (.iconst (-1), 1) := by decide +kernel
theorem dX0_placeOf_30 : decode cX0_placeOf 30 = .ok (.ireturn, 1) := by decide +kernel
set_option maxRecDepth 20000 in
theorem ggX0_lengthSharedBefore_X2_lengthShared : GoodIn wsX0_lengthSharedBefore wsX2_lengthShared := goodIn_r _ [9, 10, 11, 4, 12, 13, 14, 8, 15, 16, 17, 18, 19, 20, 21, 22] (by decide +kernel) (by decide +kernel)
set_option maxRecDepth 20000 in
theorem gX0_lengthSharedBefore_X2_lengthShared : GoodIn wsX0_lengthSharedBefore (va_wsS RX0 46 yX2_lengthShared wsX2_lengthShared) := goodIn_app (goodIn_of _ (by decide +kernel)) ggX0_lengthSharedBefore_X2_lengthShared
theorem dX0_lengthSharedBefore_0 : decode cX0_lengthSharedBefore 0 = .ok (.iconst 0, 1) := by decide +kernel
theorem dX0_lengthSharedBefore_1 : decode cX0_lengthSharedBefore 1 = .ok (.istore_n 2, 1) := by decide +kernel
theorem dX0_lengthSharedBefore_2 : decode cX0_lengthSharedBefore 2 = .ok (.iconst 0, 1) := by decide +kernel
theorem dX0_lengthSharedBefore_3 : decode cX0_lengthSharedBefore 3 = .ok (.istore_n 3, 1) := by decide +kernel
theorem dX0_lengthSharedBefore_4 : decode cX0_lengthSharedBefore 4 = .ok (.iload_n 3, 1) := by decide +kernel
theorem dX0_lengthSharedBefore_5 : decode cX0_lengthSharedBefore 5 = .ok (.iload_n 1, 1) := by decide +kernel
theorem dX0_lengthSharedBefore_6 : decode cX0_lengthSharedBefore 6 = .ok (.if_icmp .ge 29, 3) := by decide +kernel
theorem dX0_lengthSharedBefore_9 : decode cX0_lengthSharedBefore 9 = .ok (.iload_n 2, 1) := by decide +kernel
theorem dX0_lengthSharedBefore_10 : decode cX0_lengthSharedBefore 10 = .ok (.aload_n 0, 1) := by decide +kernel
theorem dX0_lengthSharedBefore_11 : decode cX0_lengthSharedBefore 11 = .ok (.getfield 9, 3) := by decide +kernel
theorem dX0_lengthSharedBefore_14 : decode cX0_lengthSharedBefore 14 = .ok (.iload_n 3, 1) := by decide +kernel
theorem dX0_lengthSharedBefore_15 : decode cX0_lengthSharedBefore 15 = .ok (.laload, 1) := by decide +kernel
theorem dX0_lengthSharedBefore_16 : decode cX0_lengthSharedBefore 16 = .ok (.aload_n 0, 1) := by decide +kernel
theorem dX0_lengthSharedBefore_17 : decode cX0_lengthSharedBefore 17 = .ok (.getfield 9, 3) := by decide +kernel
theorem dX0_lengthSharedBefore_20 : decode cX0_lengthSharedBefore 20 = .ok (.iload_n 1, 1) := by decide +kernel
theorem dX0_lengthSharedBefore_21 : decode cX0_lengthSharedBefore 21 = .ok (.laload, 1) := by decide +kernel
theorem dX0_lengthSharedBefore_22 : decode cX0_lengthSharedBefore 22 = .ok (.invokestatic 46, 3) := by decide +kernel
theorem dX0_lengthSharedBefore_25 : decode cX0_lengthSharedBefore 25 = .ok (.invokestatic 50, 3) := by decide +kernel
theorem dX0_lengthSharedBefore_28 : decode cX0_lengthSharedBefore 28 = .ok (.istore_n 2, 1) := by decide +kernel
theorem dX0_lengthSharedBefore_29 : decode cX0_lengthSharedBefore 29 = .ok (.iinc 3 1, 3) := by decide +kernel
theorem dX0_lengthSharedBefore_32 : decode cX0_lengthSharedBefore 32 = .ok (.goto (-28), 3) := by decide +kernel
theorem dX0_lengthSharedBefore_35 : decode cX0_lengthSharedBefore 35 = .ok (.iload_n 2, 1) := by decide +kernel
theorem dX0_lengthSharedBefore_36 : decode cX0_lengthSharedBefore 36 = .ok (.ireturn, 1) := by decide +kernel
end
section
/-! the class's dictionary: f holds the words S 0, S 1 .. -/
def DR (f : Nat → Int64) (S : Nat → Nat) (cnt : Nat) : Prop := ∀ i, i < cnt → f i = lN (S i) ∧ RV (S i)
def inS (S : Nat → Nat) (cnt Q : Nat) : Prop := ∃ i, i < cnt ∧ S i = Q
def bgP (P Q : Nat) : Prop := rwL Q ≤ rwL P ∧ rwB P (rwL Q) = Q
def bgB (P Q : Nat) : Bool := decide (rwL Q ≤ rwL P ∧ rwB P (rwL Q) = Q)
theorem bgB_t {P Q : Nat} : bgB P Q = true ↔ bgP P Q := decide_eq_true_iff
theorem bgB_f {P Q : Nat} (h : ¬ bgP P Q) : bgB P Q = false := decide_eq_false h
def InsAt (S : Nat → Nat) (cnt t Q : Nat) (S' : Nat → Nat) : Prop := t ≤ cnt ∧ (∀ i, i < t → S' i = S i) ∧ S' t = Q ∧ (∀ i, t ≤ i → i < cnt → S' (i + 1) = S i) ∧ (t = 0 ∨ S (t - 1) ≤ Q) ∧ ∀ i, t ≤ i → i < cnt → Q < S i
def RemAt (S : Nat → Nat) (cnt t : Nat) (S' : Nat → Nat) : Prop := t < cnt ∧ (∀ i, i < t → S' i = S i) ∧ ∀ i, t ≤ i → i + 1 < cnt → S' i = S (i + 1)
theorem ins_end {f fc : Nat → Int64} {S : Nat → Nat} {cnt t Q : Nat} (hf : DR f S cnt) (hQ : RV Q) (ht : t ≤ cnt) (h1 : ∀ i, i < t → fc i = f i) (h2 : ∀ i, t ≤ i → i < cnt → fc (i + 1) = f i) (h3 : ∀ i, t ≤ i → i < cnt → Q < S i) (h4 : t = 0 ∨ S (t - 1) ≤ Q) : ∃ S', DR (vp_updL fc t (lN Q)) S' (cnt + 1) ∧ InsAt S cnt t Q S' := by
  refine ⟨fun i => if i < t then S i else if i = t then Q else S (i - 1), fun i hi => ?_, ht, fun i hi => if_pos hi, ?_, fun i hi hc => ?_, h4, h3⟩
  · dsimp only
    by_cases a : i < t
    · rw [pk_uLn (by omega), h1 i a, if_pos a]
      exact hf i (by omega)
    · by_cases b : i = t
      · subst b
        rw [pk_uLs, if_neg a, if_pos rfl]
        exact ⟨rfl, hQ⟩
      · rw [pk_uLn b, if_neg a, if_neg b]
        have := h2 (i - 1) (by omega) (by omega)
        rw [Nat.sub_add_cancel (by omega)] at this
        rw [this]
        exact hf (i - 1) (by omega)
  · show (if t < t then _ else if t = t then Q else _) = Q
    rw [if_neg (Nat.lt_irrefl _), if_pos rfl]
  · show (if i + 1 < t then _ else if i + 1 = t then Q else S (i + 1 - 1)) = S i
    rw [if_neg (by omega), if_neg (by omega), Nat.add_sub_cancel]
theorem ins_step {f fc : Nat → Int64} {cnt t : Nat} (ht : 0 < t) (h1 : ∀ i, i < t → fc i = f i) (h2 : ∀ i, t ≤ i → i < cnt → fc (i + 1) = f i) : (∀ i, i < t - 1 → vp_updL fc t (f (t - 1)) i = f i) ∧ (∀ i, t - 1 ≤ i → i < cnt → vp_updL fc t (f (t - 1)) (i + 1) = f i) := by
  refine ⟨fun i hi => by rw [pk_uLn (by omega), h1 i (by omega)], fun i hi hc => ?_⟩
  by_cases e : i + 1 = t
  · rw [e, pk_uLs, ← e, Nat.add_sub_cancel]
  · rw [pk_uLn e, h2 i (by omega) hc]
theorem rem_step {f fc : Nat → Int64} {t i : Nat} (ht : t ≤ i) (h1 : ∀ k, k < i → fc k = if k < t then f k else f (k + 1)) (h2 : ∀ k, i ≤ k → fc k = f k) : (∀ k, k < i + 1 → vp_updL fc i (fc (i + 1)) k = if k < t then f k else f (k + 1)) ∧ (∀ k, i + 1 ≤ k → vp_updL fc i (fc (i + 1)) k = f k) := by
  refine ⟨fun k hk => ?_, fun k hk => by rw [pk_uLn (by omega), h2 k (by omega)]⟩
  by_cases e : k = i
  · subst e
    rw [pk_uLs, h2 _ (by omega), if_neg (by omega)]
  · rw [pk_uLn e, h1 k (by omega)]
theorem rem_end {f fc : Nat → Int64} {S : Nat → Nat} {cnt t i : Nat} (hf : DR f S cnt) (ht : t < cnt) (hi : ¬ i < cnt - 1) (h1 : ∀ k, k < i → fc k = if k < t then f k else f (k + 1)) : ∃ S', DR fc S' (cnt - 1) ∧ RemAt S cnt t S' := by
  refine ⟨fun k => if k < t then S k else S (k + 1), fun k hk => ?_, ht, fun k hk => if_pos hk, fun k hk hc => if_neg (by omega)⟩
  dsimp only
  rw [h1 k (by omega)]
  by_cases a : k < t
  · rw [if_pos a, if_pos a]; exact hf k (by omega)
  · rw [if_neg a, if_neg a]; exact hf (k + 1) (by omega)
theorem rem_0 {f : Nat → Int64} {t : Nat} : ∀ k, k < t → f k = if k < t then f k else f (k + 1) := fun k hk => by rw [if_pos hk]
def lsF (S : Nat → Nat) (Q : Nat) : Nat → Nat
  | 0 => 0
  | j + 1 => max (lsF S Q j) (shr (S j) Q)
theorem lsF_le (S : Nat → Nat) (Q : Nat) : ∀ j, lsF S Q j ≤ rwL Q
  | 0 => Nat.zero_le _
  | j + 1 => Nat.max_le.mpr ⟨lsF_le S Q j, (shr_le _ _).2⟩
def bgnN (S : Nat → Nat) (cnt : Nat) : Nat := 1 + fb_sm (fun i => rwL (S i) - lsF S (S i) i) cnt
theorem ct_t {p : Nat → Bool} {c i : Nat} (hc : c = fb_ct p i) (h : p i = true) : c + 1 = fb_ct p (i + 1) := by rw [fb_ct_succ, h, hc]; rfl
theorem ct_f {p : Nat → Bool} {c i : Nat} (hc : c = fb_ct p i) (h : p i = false) : c = fb_ct p (i + 1) := by rw [fb_ct_succ, h, hc]; rfl
abbrev rm_X0_size : Room := { frames := 0, cells := 0, slots := 0, locals := 0 }
set_option maxHeartbeats 4000000 in
set_option maxRecDepth 100000 in
theorem c_X0_size (l : Launch) (g : GG) (d v : Nat) (f : Nat → Int64) (S : Nat → Nat) (cnt ll : Nat) (hf : DR f S cnt) (hc : cnt ≤ 50) : Ci l yX0_size wsX0_size rm_X0_size g [.ref (d)] (DW g d v f (nI cnt) (nI ll)) (fun r w => w = (DW g d v f (nI cnt) (nI ll)) ∧ r = nI cnt) := by
  refine Ci.ofI (cc := cX0_size) (maxL := 1) (by decide) rfl (Nat.le_of_ble_eq_true rfl) ?_
  intro p e s m args below meth c A Z hx hb hml hts hown hK hA hret H locs ls hP hD hS hl
  have f_15 := hts (.fieldLink RX0 15 "GhostGame$Dictionary" "count" "I") (by decide +kernel)
  have hi_0 : ∀ w ∈ wsX00, w ∈ wsX0_size := by decide +kernel
  have hl : lv_has ls 1 [(0, .ref (d))] := hl
  refine lv_aload_n hx hb dX0_size_0 rfl (lv_at hl 0 rfl) ?_
  refine va_get (D := g.1) (ci := 0) (v := .int (nI (cnt))) (C := RX0) (T := TX0) (N := 3) hx hb hts hi_0 hown hK hP 0 rfl rfl 1 (by decide) f_15 (fun _ h9 => h9) rfl dX0_size_1 ?_
  exact hret (nI (cnt)) (DW g d v f (nI cnt) (nI ll)) _ _ _ _ dX0_size_4 (⟨rfl, rfl⟩) hP hD hS

abbrev rm_X0_placeOf : Room := { frames := 0, cells := 0, slots := 0, locals := 0 }
set_option maxHeartbeats 4000000 in
set_option maxRecDepth 100000 in
theorem c_X0_placeOf (l : Launch) (g : GG) (d v : Nat) (f : Nat → Int64) (S : Nat → Nat) (cnt ll : Nat) (hf : DR f S cnt) (hc : cnt ≤ 50) (Q : Nat) (hQ : RV Q) : Ci l yX0_placeOf wsX0_placeOf rm_X0_placeOf g [.ref (d), .long (lN (Q))] (DW g d v f (nI cnt) (nI ll)) (fun r w => w = (DW g d v f (nI cnt) (nI ll)) ∧ ((∃ i, i < cnt ∧ S i = Q ∧ r = nI i) ∨ ((∀ j, j < cnt → S j ≠ Q) ∧ r = -1))) := by
  refine Ci.ofI (cc := cX0_placeOf) (maxL := 4) (by decide) rfl (Nat.le_of_ble_eq_true rfl) ?_
  intro p e s m args below meth c A Z hx hb hml hts hown hK hA hret H locs ls hP hD hS hl
  have f_9 := hts (.fieldLink RX0 9 "GhostGame$Dictionary" "words" "[J") (by decide +kernel)
  have f_15 := hts (.fieldLink RX0 15 "GhostGame$Dictionary" "count" "I") (by decide +kernel)
  have hi_0 : ∀ w ∈ wsX00, w ∈ wsX0_placeOf := by decide +kernel
  have hl : lv_has ls 4 [(0, .ref (d)), (1, .long (lN (Q)))] := hl
  have hQ0 := hQ.lt
  refine lv_iconst (v := nI 0) hx hb dX0_placeOf_0 (by decide) ?_
  refine lv_istore_n (lv' := [(3, .int (nI (0))), (0, .ref (d)), (1, .long (lN (Q)))]) hx hb dX0_placeOf_1 rfl hl (by decide) rfl (fun ls hl => ?_)
  have L_2 : ∀ (fu : Nat) (i : Nat), cnt - i < fu → (i ≤ cnt) → (∀ j, j < i → S j ≠ Q) → ∀ (H : Heap) (locs : List Loc) (ls : Array Slot), va_P g.1 vwCl (DW g d v f (nI cnt) (nI ll)) H → va_D A (DW g d v f (nI cnt) (nI ll)) → va_S A s.heap H locs → lv_has ls 4 [(0, .ref (d)), (1, .long (lN (Q))), (3, .int (nI (i)))] → W p l e rm_X0_placeOf s m args below meth c H locs 0 0 Z (F0 m 2 ls []) := by
    intro fu
    induction fu with
    | zero => intro _ h0; exact absurd h0 (Nat.not_lt_zero _)
    | succ fu ih_2 =>
      intro i hfu hi1 hi2 H locs ls hP hD hS hl
      refine lv_iload_n hx hb dX0_placeOf_2 rfl (lv_at hl 2 rfl) ?_
      refine lv_aload_n hx hb dX0_placeOf_3 rfl (lv_at hl 0 rfl) ?_
      refine va_get (D := g.1) (ci := 0) (v := .int (nI (cnt))) (C := RX0) (T := TX0) (N := 3) hx hb hts hi_0 hown hK hP 0 rfl rfl 1 (by decide) f_15 (fun _ h9 => h9) rfl dX0_placeOf_4 ?_
      refine lv_icmp_ge (tgt := 29) hx hb dX0_placeOf_7 (by decide) (fun c_7_1 => ?_) (fun c_7_1 => ?_)
      · skip
        have n_7_1 : cnt ≤ i := (nI_leI (a := cnt) (b := i) (by omega) (by omega)).mp c_7_1
        refine lv_iconst (v := -1) hx hb dX0_placeOf_29 (by decide) ?_
        exact hret (-1) (DW g d v f (nI cnt) (nI ll)) _ _ _ _ dX0_placeOf_30 (⟨rfl, Or.inr ⟨fun j hj => hi2 j (by omega), rfl⟩⟩) hP hD hS
      · skip
        have n_7_1 : ¬ cnt ≤ i := fun q9 => c_7_1 ((nI_leI (a := cnt) (b := i) (by omega) (by omega)).mpr q9)
        refine lv_aload_n hx hb dX0_placeOf_10 rfl (lv_at hl 0 rfl) ?_
        refine va_get (D := g.1) (ci := 0) (v := .ref (v)) (C := RX0) (T := TX0) (N := 3) hx hb hts hi_0 hown hK hP 0 rfl rfl 0 (by decide) f_9 (fun _ h9 => h9) rfl dX0_placeOf_11 ?_
        refine lv_iload_n hx hb dX0_placeOf_14 rfl (lv_at hl 2 rfl) ?_
        refine va_lald (n := 50) (f := f) hx hb hK hP 1 1 rfl rfl (vp_in_nI (n := i) (by omega) (by decide)) dX0_placeOf_15 ?_
        refine tp_l (congrArg f (nI_clamp (n := i) (by omega))) ?_
        refine tp_l (b := (lN (S i))) ((hf i (by omega)).1) ?_
        refine lv_lload_n hx hb dX0_placeOf_16 rfl (lv_at hl 1 rfl) ?_
        have hS0 := (hf i (by omega)).2.lt
        refine W.lcmp hx hb dX0_placeOf_17 ?_
        refine lv_if_ne (tgt := 23) hx hb dX0_placeOf_18 (by decide) (fun c_18_2 => ?_) (fun c_18_2 => ?_)
        · skip
          have n_18_2 : ¬ S i = Q := fun q9 => c_18_2 ((lc_eq (a := S i) (b := Q) (by omega) (by omega)).mpr q9)
          refine lv_iinc (v := (nI (i + 1))) (lv' := [(3, .int (nI (i + 1))), (0, .ref (d)), (1, .long (lN (Q)))]) hx hb dX0_placeOf_23 hl (k := 2) rfl (nI_add (i) 1) (by decide) rfl (fun ls hl => ?_)
          refine lv_goto (tgt := 2) hx hb dX0_placeOf_26 (by decide) ?_
          exact ih_2 (i + 1) (by omega) (by omega) (lt_s hi2 n_18_2) _ _ _ hP hD hS (lv_sub hl [1, 2, 0] rfl)
        · skip
          have n_18_2 : S i = Q := (lc_eq (a := S i) (b := Q) (by omega) (by omega)).mp c_18_2
          refine lv_iload_n hx hb dX0_placeOf_21 rfl (lv_at hl 2 rfl) ?_
          exact hret (nI (i)) (DW g d v f (nI cnt) (nI ll)) _ _ _ _ dX0_placeOf_22 (⟨rfl, Or.inl ⟨i, by omega, n_18_2, rfl⟩⟩) hP hD hS
  exact L_2 (_ + 1) 0 (Nat.lt_succ_self _) (Nat.zero_le _) (fun j h => absurd h (Nat.not_lt_zero _)) _ _ _ hP hD hS (lv_sub hl [1, 2, 0] rfl)

abbrev rm_X0_has : Room := { frames := 1, cells := 0, slots := 0, locals := 23 }
set_option maxHeartbeats 4000000 in
set_option maxRecDepth 100000 in
theorem c_X0_has (l : Launch) (g : GG) (d v : Nat) (f : Nat → Int64) (S : Nat → Nat) (cnt ll : Nat) (hf : DR f S cnt) (hc : cnt ≤ 50) (Q : Nat) (hQ : RV Q) : Ci l yX0_has wsX0_has rm_X0_has g [.ref (d), .long (lN (Q))] (DW g d v f (nI cnt) (nI ll)) (fun r w => w = (DW g d v f (nI cnt) (nI ll)) ∧ Bv r (inS S cnt Q)) := by
  refine Ci.ofZ (cc := cX0_has) (maxL := 3) (by decide) rfl (Nat.le_of_ble_eq_true rfl) ?_
  intro p e s m args below meth c A Z hx hb hml hts hown hK hA hret H locs ls hP hD hS hl
  have hl : lv_has ls 3 [(0, .ref (d)), (1, .long (lN (Q)))] := hl
  refine lv_aload_n hx hb dX0_has_0 rfl (lv_at hl 0 rfl) ?_
  refine lv_lload_n hx hb dX0_has_1 rfl (lv_at hl 1 rfl) ?_
  refine call_iVW (As := [.long (lN (Q))]) (rest := []) ⟨hx, hb, hml, hown, hts⟩ (c_X0_placeOf l g d v f S cnt ll hf hc Q hQ) (cwV 1 hts gX0_has_X0_placeOf rfl rfl rfl (by decide +kernel) ⟨Nat.le_of_ble_eq_true rfl, Nat.le_of_ble_eq_true rfl⟩) hP hK hD hS hA 0 rfl rfl rfl rfl hl.1 rfl (Nat.le_of_ble_eq_true rfl) dX0_has_2 ⟨Nat.le_refl _, Nat.le_refl _⟩ (fun r_2 w H locs h_2 hP hD hS => ?_)
  obtain ⟨rfl, h_2⟩ := h_2
  have hP : va_P g.1 vwCl (DW g d v f (nI cnt) (nI ll)) H := hP
  have hD : va_D A (DW g d v f (nI cnt) (nI ll)) := hD
  refine lv_iconst (v := -1) hx hb dX0_has_5 (by decide) ?_
  refine lv_icmp_eq (tgt := 13) hx hb dX0_has_6 (by decide) (fun c_6_1 => ?_) (fun c_6_1 => ?_)
  · skip
    have n6 : ¬ inS S cnt Q := by
      rcases h_2 with ⟨i, a, b, e9⟩ | ⟨a, e9⟩
      · rw [e9] at c_6_1
        exact absurd c_6_1 (nI_nem1 (by omega))
      · rintro ⟨i, x, y⟩; exact a i x y
    refine lv_iconst (v := nI 0) hx hb dX0_has_13 (by decide) ?_
    exact hret (nI (0)) (DW g d v f (nI cnt) (nI ll)) _ _ _ _ dX0_has_14 (Or.inl rfl) (⟨rfl, Bv.no n6⟩) hP hD hS
  · skip
    have n6 : inS S cnt Q := by
      rcases h_2 with ⟨i, a, b, e9⟩ | ⟨a, e9⟩
      · exact ⟨i, a, b⟩
      · exact absurd e9 c_6_1
    refine lv_iconst (v := nI 1) hx hb dX0_has_9 (by decide) ?_
    refine lv_goto (tgt := 14) hx hb dX0_has_10 (by decide) ?_
    exact hret (nI (1)) (DW g d v f (nI cnt) (nI ll)) _ _ _ _ dX0_has_14 (Or.inr rfl) (⟨rfl, Bv.yes n6⟩) hP hD hS

abbrev rm_X0_wordAt : Room := { frames := 0, cells := 0, slots := 0, locals := 0 }
set_option maxHeartbeats 4000000 in
set_option maxRecDepth 100000 in
theorem c_X0_wordAt (l : Launch) (g : GG) (d v : Nat) (f : Nat → Int64) (S : Nat → Nat) (cnt ll : Nat) (hf : DR f S cnt) (hc : cnt ≤ 50) (x : Int32) : Cl l yX0_wordAt wsX0_wordAt rm_X0_wordAt g [.ref (d), .int (x)] (DW g d v f (nI cnt) (nI ll)) (fun r w => w = (DW g d v f (nI cnt) (nI ll)) ∧ ((∃ j : Nat, j < cnt ∧ nI j = x ∧ r = lN (S j)) ∨ ((¬ ∃ j : Nat, j < cnt ∧ nI j = x) ∧ r = lN 0))) := by
  refine Cl.ofL (cc := cX0_wordAt) (maxL := 2) (by decide) rfl (Nat.le_of_ble_eq_true rfl) ?_
  intro p e s m args below meth c A Z hx hb hml hts hown hK hA hret H locs ls hP hD hS hl
  have f_9 := hts (.fieldLink RX0 9 "GhostGame$Dictionary" "words" "[J") (by decide +kernel)
  have f_15 := hts (.fieldLink RX0 15 "GhostGame$Dictionary" "count" "I") (by decide +kernel)
  have hi_0 : ∀ w ∈ wsX00, w ∈ wsX0_wordAt := by decide +kernel
  have hl : lv_has ls 2 [(0, .ref (d)), (1, .int (x))] := hl
  refine lv_iload_n hx hb dX0_wordAt_0 rfl (lv_at hl 1 rfl) ?_
  refine lv_if_lt (tgt := 21) hx hb dX0_wordAt_1 (by decide) (fun c_1_1 => ?_) (fun c_1_1 => ?_)
  · skip
    have nj : ¬ ∃ j : Nat, j < cnt ∧ nI j = x := by
      rintro ⟨j, hj, rfl⟩
      exact nI_pos (by omega) c_1_1
    refine lv_lconst (v := lN 0) hx hb dX0_wordAt_21 (by decide) ?_
    exact hret (lN (0)) (DW g d v f (nI cnt) (nI ll)) _ _ _ _ dX0_wordAt_22 (⟨rfl, Or.inr ⟨nj, rfl⟩⟩) hP hD hS
  · skip
    refine lv_iload_n hx hb dX0_wordAt_4 rfl (lv_at hl 1 rfl) ?_
    refine lv_aload_n hx hb dX0_wordAt_5 rfl (lv_at hl 0 rfl) ?_
    refine va_get (D := g.1) (ci := 0) (v := .int (nI (cnt))) (C := RX0) (T := TX0) (N := 3) hx hb hts hi_0 hown hK hP 0 rfl rfl 1 (by decide) f_15 (fun _ h9 => h9) rfl dX0_wordAt_6 ?_
    refine lv_icmp_ge (tgt := 21) hx hb dX0_wordAt_9 (by decide) (fun c_9_2 => ?_) (fun c_9_2 => ?_)
    · skip
      have nj : ¬ ∃ j : Nat, j < cnt ∧ nI j = x := by
        rintro ⟨j, hj, rfl⟩
        have := (nI_leI (by omega) (by omega)).mp c_9_2
        omega
      refine lv_lconst (v := lN 0) hx hb dX0_wordAt_21 (by decide) ?_
      exact hret (lN (0)) (DW g d v f (nI cnt) (nI ll)) _ _ _ _ dX0_wordAt_22 (⟨rfl, Or.inr ⟨nj, rfl⟩⟩) hP hD hS
    · skip
      obtain ⟨j, hj, rfl⟩ : ∃ j : Nat, j < cnt ∧ x = nI j := by
        rcases pk_ix x (n := cnt) (by omega) with h | h | h
        · exact absurd h c_1_1
        · exact absurd h c_9_2
        · exact h
      refine lv_aload_n hx hb dX0_wordAt_12 rfl (lv_at hl 0 rfl) ?_
      refine va_get (D := g.1) (ci := 0) (v := .ref (v)) (C := RX0) (T := TX0) (N := 3) hx hb hts hi_0 hown hK hP 0 rfl rfl 0 (by decide) f_9 (fun _ h9 => h9) rfl dX0_wordAt_13 ?_
      refine lv_iload_n hx hb dX0_wordAt_16 rfl (lv_at hl 1 rfl) ?_
      refine va_lald (n := 50) (f := f) hx hb hK hP 1 1 rfl rfl (vp_in_nI (n := j) (by omega) (by decide)) dX0_wordAt_17 ?_
      refine tp_l (congrArg f (nI_clamp (n := j) (by omega))) ?_
      refine tp_l (b := (lN (S j))) ((hf j (by omega)).1) ?_
      refine lv_goto (tgt := 22) hx hb dX0_wordAt_18 (by decide) ?_
      exact hret (lN (S j)) (DW g d v f (nI cnt) (nI ll)) _ _ _ _ dX0_wordAt_22 (⟨rfl, Or.inl ⟨j, hj, rfl, rfl⟩⟩) hP hD hS

abbrev rm_X0_add : Room := { frames := 2, cells := 0, slots := 0, locals := 45 }
set_option maxHeartbeats 4000000 in
set_option maxRecDepth 100000 in
theorem c_X0_add (l : Launch) (g : GG) (d v : Nat) (f : Nat → Int64) (S : Nat → Nat) (cnt ll : Nat) (hf : DR f S cnt) (hc : cnt ≤ 50) (Q : Nat) (hQ : RV Q) : Ci l yX0_add wsX0_add rm_X0_add g [.ref (d), .long (lN (Q))] (DW g d v f (nI cnt) (nI ll)) (fun r w => (r = 0 ∧ w = (DW g d v f (nI cnt) (nI ll)) ∧ (50 ≤ cnt ∨ inS S cnt Q)) ∨ (r = 1 ∧ cnt < 50 ∧ ¬ inS S cnt Q ∧ ∃ (f9 : Nat → Int64) (S9 : Nat → Nat) (t : Nat), w = DW g d v f9 (nI (cnt + 1)) (nI ll) ∧ DR f9 S9 (cnt + 1) ∧ InsAt S cnt t Q S9)) := by
  refine Ci.ofZ (cc := cX0_add) (maxL := 4) (by decide) rfl (Nat.le_of_ble_eq_true rfl) ?_
  intro p e s m args below meth c A Z hx hb hml hts hown hK hA hret H locs ls hP hD hS hl
  have f_9 := hts (.fieldLink RX0 9 "GhostGame$Dictionary" "words" "[J") (by decide +kernel)
  have f_15 := hts (.fieldLink RX0 15 "GhostGame$Dictionary" "count" "I") (by decide +kernel)
  have hi_0 : ∀ w ∈ wsX00, w ∈ wsX0_add := by decide +kernel
  have hl : lv_has ls 4 [(0, .ref (d)), (1, .long (lN (Q)))] := hl
  have hQ0 := hQ.lt
  refine lv_aload_n hx hb dX0_add_0 rfl (lv_at hl 0 rfl) ?_
  refine va_get (D := g.1) (ci := 0) (v := .int (nI (cnt))) (C := RX0) (T := TX0) (N := 3) hx hb hts hi_0 hown hK hP 0 rfl rfl 1 (by decide) f_15 (fun _ h9 => h9) rfl dX0_add_1 ?_
  refine lv_aload_n hx hb dX0_add_4 rfl (lv_at hl 0 rfl) ?_
  refine va_get (D := g.1) (ci := 0) (v := .ref (v)) (C := RX0) (T := TX0) (N := 3) hx hb hts hi_0 hown hK hP 0 rfl rfl 0 (by decide) f_9 (fun _ h9 => h9) rfl dX0_add_5 ?_
  refine va_alen (v := nI 50) hx hb hK hP 1 1 rfl rfl rfl dX0_add_8 ?_
  refine lv_icmp_ge (tgt := 20) hx hb dX0_add_9 (by decide) (fun c_9_1 => ?_) (fun c_9_1 => ?_)
  · skip
    have n_9_1 : 50 ≤ cnt := (nI_leI (a := 50) (b := cnt) (by omega) (by omega)).mp c_9_1
    refine lv_iconst (v := nI 0) hx hb dX0_add_20 (by decide) ?_
    exact hret (nI (0)) (DW g d v f (nI cnt) (nI ll)) _ _ _ _ dX0_add_21 (Or.inl rfl) (Or.inl ⟨rfl, rfl, Or.inl n_9_1⟩) hP hD hS
  · skip
    have n_9_1 : ¬ 50 ≤ cnt := fun q9 => c_9_1 ((nI_leI (a := 50) (b := cnt) (by omega) (by omega)).mpr q9)
    refine lv_aload_n hx hb dX0_add_12 rfl (lv_at hl 0 rfl) ?_
    refine lv_lload_n hx hb dX0_add_13 rfl (lv_at hl 1 rfl) ?_
    refine call_iVW (As := [.long (lN (Q))]) (rest := []) ⟨hx, hb, hml, hown, hts⟩ (c_X0_has l g d v f S cnt ll hf hc Q hQ) (cwV 1 hts gX0_add_X0_has rfl rfl rfl (by decide +kernel) ⟨Nat.le_of_ble_eq_true rfl, Nat.le_of_ble_eq_true rfl⟩) hP hK hD hS hA 0 rfl rfl rfl rfl hl.1 rfl (Nat.le_of_ble_eq_true rfl) dX0_add_14 ⟨Nat.le_refl _, Nat.le_refl _⟩ (fun r_14 w H locs h_14 hP hD hS => ?_)
    obtain ⟨rfl, h_14⟩ := h_14
    have hP : va_P g.1 vwCl (DW g d v f (nI cnt) (nI ll)) H := hP
    have hD : va_D A (DW g d v f (nI cnt) (nI ll)) := hD
    refine lv_if_eq (tgt := 22) hx hb dX0_add_17 (by decide) (fun c_17_2 => ?_) (fun c_17_2 => ?_)
    · skip
      have n_17_2 := Bv.f h_14 c_17_2
      refine lv_aload_n hx hb dX0_add_22 rfl (lv_at hl 0 rfl) ?_
      refine va_get (D := g.1) (ci := 0) (v := .int (nI (cnt))) (C := RX0) (T := TX0) (N := 3) hx hb hts hi_0 hown hK hP 0 rfl rfl 1 (by decide) f_15 (fun _ h9 => h9) rfl dX0_add_23 ?_
      refine lv_istore_n (lv' := [(3, .int (nI (cnt))), (0, .ref (d)), (1, .long (lN (Q)))]) hx hb dX0_add_26 rfl hl (by decide) rfl (fun ls hl => ?_)
      have L_27 : ∀ (fu : Nat) (t : Nat) (fc : Nat → Int64), t < fu → (t ≤ cnt) → (∀ i, i < t → fc i = f i) → (∀ i, t ≤ i → i < cnt → fc (i + 1) = f i) → (∀ i, t ≤ i → i < cnt → Q < S i) → ∀ (H : Heap) (locs : List Loc) (ls : Array Slot), va_P g.1 vwCl (DW g d v fc (nI cnt) (nI ll)) H → va_D A (DW g d v fc (nI cnt) (nI ll)) → va_S A s.heap H locs → lv_has ls 4 [(0, .ref (d)), (1, .long (lN (Q))), (3, .int (nI (t)))] → W p l e rm_X0_add s m args below meth c H locs 0 0 Z (F0 m 27 ls []) := by
        intro fu
        induction fu with
        | zero => intro _ _ h0; exact absurd h0 (Nat.not_lt_zero _)
        | succ fu ih_27 =>
          intro t fc hfu ht h1 h2 h3 H locs ls hP hD hS hl
          refine lv_iload_n hx hb dX0_add_27 rfl (lv_at hl 2 rfl) ?_
          refine lv_if_le (tgt := 64) hx hb dX0_add_28 (by decide) (fun c_28_3 => ?_) (fun c_28_3 => ?_)
          · skip
            have n_28_3 : t ≤ 0 := (nI_leI (a := t) (b := 0) (by omega) (by omega)).mp c_28_3
            obtain ⟨S9, hS9, hI9⟩ := ins_end hf hQ ht h1 h2 h3 (Or.inl (by omega))
            refine lv_aload_n hx hb dX0_add_64 rfl (lv_at hl 0 rfl) ?_
            refine va_get (D := g.1) (ci := 0) (v := .ref (v)) (C := RX0) (T := TX0) (N := 3) hx hb hts hi_0 hown hK hP 0 rfl rfl 0 (by decide) f_9 (fun _ h9 => h9) rfl dX0_add_65 ?_
            refine lv_iload_n hx hb dX0_add_68 rfl (lv_at hl 2 rfl) ?_
            refine lv_lload_n hx hb dX0_add_69 rfl (lv_at hl 1 rfl) ?_
            refine va_last (n := 50) (f := fc) hx hb hK hP hD hS 1 1 rfl rfl (vp_in_nI (n := t) (by omega) (by decide)) dX0_add_70 (fun H locs hP hD hS => ?_)
            rw [nI_clamp (n := t) (by omega)] at hP hD
            have hP : va_P g.1 vwCl (DW g d v (vp_updL fc t (lN (Q))) (nI cnt) (nI ll)) H := hP
            have hD : va_D A (DW g d v (vp_updL fc t (lN (Q))) (nI cnt) (nI ll)) := hD
            refine lv_aload_n hx hb dX0_add_71 rfl (lv_at hl 0 rfl) ?_
            refine lv_dup hx hb dX0_add_72 rfl ?_
            refine va_get (D := g.1) (ci := 0) (v := .int (nI (cnt))) (C := RX0) (T := TX0) (N := 3) hx hb hts hi_0 hown hK hP 0 rfl rfl 1 (by decide) f_15 (fun _ h9 => h9) rfl dX0_add_73 ?_
            refine lv_iconst (v := nI 1) hx hb dX0_add_76 (by decide) ?_
            refine lv_iadd hx hb dX0_add_77 ?_
            refine tp_i (nI_add cnt 1) ?_
            refine va_put (D := g.1) (ci := 0) (v := .int (nI (cnt + 1))) (ty := .int) (C := RX0) (T := TX0) (N := 3) hx hb hts hi_0 tyX0 tyX0_ok nmX0 hown hK hP hD hS 0 rfl rfl 1 (by decide) f_15 (fun _ h9 => h9) rfl (by decide +kernel) rfl rfl (Nat.le_of_ble_eq_true rfl) dX0_add_78 (fun H locs hP hD hS => ?_)
            have hP : va_P g.1 vwCl (DW g d v (vp_updL fc t (lN (Q))) (nI (cnt + 1)) (nI ll)) H := hP
            have hD : va_D A (DW g d v (vp_updL fc t (lN (Q))) (nI (cnt + 1)) (nI ll)) := hD
            refine lv_iconst (v := nI 1) hx hb dX0_add_81 (by decide) ?_
            exact hret (nI (1)) (DW g d v (vp_updL fc t (lN (Q))) (nI (cnt + 1)) (nI ll)) _ _ _ _ dX0_add_82 (Or.inr rfl) (Or.inr ⟨rfl, by omega, n_17_2, _, S9, t, rfl, hS9, hI9⟩) hP hD hS
          · skip
            have n_28_3 : ¬ t ≤ 0 := fun q9 => c_28_3 ((nI_leI (a := t) (b := 0) (by omega) (by omega)).mpr q9)
            refine lv_aload_n hx hb dX0_add_31 rfl (lv_at hl 0 rfl) ?_
            refine va_get (D := g.1) (ci := 0) (v := .ref (v)) (C := RX0) (T := TX0) (N := 3) hx hb hts hi_0 hown hK hP 0 rfl rfl 0 (by decide) f_9 (fun _ h9 => h9) rfl dX0_add_32 ?_
            refine lv_iload_n hx hb dX0_add_35 rfl (lv_at hl 2 rfl) ?_
            refine lv_iconst (v := nI 1) hx hb dX0_add_36 (by decide) ?_
            refine lv_isub hx hb dX0_add_37 ?_
            refine tp_i (pk_sub (a := t) (b := 1) (by omega)) ?_
            refine va_lald (n := 50) (f := fc) hx hb hK hP 1 1 rfl rfl (vp_in_nI (n := t - 1) (by omega) (by decide)) dX0_add_38 ?_
            refine tp_l (congrArg fc (nI_clamp (n := t - 1) (by omega))) ?_
            refine tp_l (b := (lN (S (t - 1)))) ((h1 (t - 1) (by omega)).trans (hf (t - 1) (by omega)).1) ?_
            refine lv_lload_n hx hb dX0_add_39 rfl (lv_at hl 1 rfl) ?_
            have hS0 := (hf (t - 1) (by omega)).2.lt
            refine W.lcmp hx hb dX0_add_40 ?_
            refine lv_if_le (tgt := 64) hx hb dX0_add_41 (by decide) (fun c_41_4 => ?_) (fun c_41_4 => ?_)
            · skip
              have n_41_4 : S (t - 1) ≤ Q := (lc_le (a := S (t - 1)) (b := Q) (by omega) (by omega)).mp c_41_4
              obtain ⟨S9, hS9, hI9⟩ := ins_end hf hQ ht h1 h2 h3 (Or.inr n_41_4)
              refine lv_aload_n hx hb dX0_add_64 rfl (lv_at hl 0 rfl) ?_
              refine va_get (D := g.1) (ci := 0) (v := .ref (v)) (C := RX0) (T := TX0) (N := 3) hx hb hts hi_0 hown hK hP 0 rfl rfl 0 (by decide) f_9 (fun _ h9 => h9) rfl dX0_add_65 ?_
              refine lv_iload_n hx hb dX0_add_68 rfl (lv_at hl 2 rfl) ?_
              refine lv_lload_n hx hb dX0_add_69 rfl (lv_at hl 1 rfl) ?_
              refine va_last (n := 50) (f := fc) hx hb hK hP hD hS 1 1 rfl rfl (vp_in_nI (n := t) (by omega) (by decide)) dX0_add_70 (fun H locs hP hD hS => ?_)
              rw [nI_clamp (n := t) (by omega)] at hP hD
              have hP : va_P g.1 vwCl (DW g d v (vp_updL fc t (lN (Q))) (nI cnt) (nI ll)) H := hP
              have hD : va_D A (DW g d v (vp_updL fc t (lN (Q))) (nI cnt) (nI ll)) := hD
              refine lv_aload_n hx hb dX0_add_71 rfl (lv_at hl 0 rfl) ?_
              refine lv_dup hx hb dX0_add_72 rfl ?_
              refine va_get (D := g.1) (ci := 0) (v := .int (nI (cnt))) (C := RX0) (T := TX0) (N := 3) hx hb hts hi_0 hown hK hP 0 rfl rfl 1 (by decide) f_15 (fun _ h9 => h9) rfl dX0_add_73 ?_
              refine lv_iconst (v := nI 1) hx hb dX0_add_76 (by decide) ?_
              refine lv_iadd hx hb dX0_add_77 ?_
              refine tp_i (nI_add cnt 1) ?_
              refine va_put (D := g.1) (ci := 0) (v := .int (nI (cnt + 1))) (ty := .int) (C := RX0) (T := TX0) (N := 3) hx hb hts hi_0 tyX0 tyX0_ok nmX0 hown hK hP hD hS 0 rfl rfl 1 (by decide) f_15 (fun _ h9 => h9) rfl (by decide +kernel) rfl rfl (Nat.le_of_ble_eq_true rfl) dX0_add_78 (fun H locs hP hD hS => ?_)
              have hP : va_P g.1 vwCl (DW g d v (vp_updL fc t (lN (Q))) (nI (cnt + 1)) (nI ll)) H := hP
              have hD : va_D A (DW g d v (vp_updL fc t (lN (Q))) (nI (cnt + 1)) (nI ll)) := hD
              refine lv_iconst (v := nI 1) hx hb dX0_add_81 (by decide) ?_
              exact hret (nI (1)) (DW g d v (vp_updL fc t (lN (Q))) (nI (cnt + 1)) (nI ll)) _ _ _ _ dX0_add_82 (Or.inr rfl) (Or.inr ⟨rfl, by omega, n_17_2, _, S9, t, rfl, hS9, hI9⟩) hP hD hS
            · skip
              have n_41_4 : ¬ S (t - 1) ≤ Q := fun q9 => c_41_4 ((lc_le (a := S (t - 1)) (b := Q) (by omega) (by omega)).mpr q9)
              refine lv_aload_n hx hb dX0_add_44 rfl (lv_at hl 0 rfl) ?_
              refine va_get (D := g.1) (ci := 0) (v := .ref (v)) (C := RX0) (T := TX0) (N := 3) hx hb hts hi_0 hown hK hP 0 rfl rfl 0 (by decide) f_9 (fun _ h9 => h9) rfl dX0_add_45 ?_
              refine lv_iload_n hx hb dX0_add_48 rfl (lv_at hl 2 rfl) ?_
              refine lv_aload_n hx hb dX0_add_49 rfl (lv_at hl 0 rfl) ?_
              refine va_get (D := g.1) (ci := 0) (v := .ref (v)) (C := RX0) (T := TX0) (N := 3) hx hb hts hi_0 hown hK hP 0 rfl rfl 0 (by decide) f_9 (fun _ h9 => h9) rfl dX0_add_50 ?_
              refine lv_iload_n hx hb dX0_add_53 rfl (lv_at hl 2 rfl) ?_
              refine lv_iconst (v := nI 1) hx hb dX0_add_54 (by decide) ?_
              refine lv_isub hx hb dX0_add_55 ?_
              refine tp_i (pk_sub (a := t) (b := 1) (by omega)) ?_
              refine va_lald (n := 50) (f := fc) hx hb hK hP 1 1 rfl rfl (vp_in_nI (n := t - 1) (by omega) (by decide)) dX0_add_56 ?_
              refine tp_l (congrArg fc (nI_clamp (n := t - 1) (by omega))) ?_
              refine tp_l (b := (f (t - 1))) (h1 (t - 1) (by omega)) ?_
              refine va_last (n := 50) (f := fc) hx hb hK hP hD hS 1 1 rfl rfl (vp_in_nI (n := t) (by omega) (by decide)) dX0_add_57 (fun H locs hP hD hS => ?_)
              rw [nI_clamp (n := t) (by omega)] at hP hD
              have hP : va_P g.1 vwCl (DW g d v (vp_updL fc t (f (t - 1))) (nI cnt) (nI ll)) H := hP
              have hD : va_D A (DW g d v (vp_updL fc t (f (t - 1))) (nI cnt) (nI ll)) := hD
              refine lv_iinc (v := (nI (t - 1))) (lv' := [(3, .int (nI (t - 1))), (0, .ref (d)), (1, .long (lN (Q)))]) hx hb dX0_add_58 hl (k := 2) rfl (dec1 (by omega)) (by decide) rfl (fun ls hl => ?_)
              refine lv_goto (tgt := 27) hx hb dX0_add_61 (by decide) ?_
              exact ih_27 (t - 1) (vp_updL fc t (f (t - 1))) (by omega) (by omega) ((ins_step (by omega) h1 h2).1) ((ins_step (by omega) h1 h2).2) (fun i a b => if e9 : i = t - 1 then (by rw [e9]; omega) else h3 i (by omega) b) _ _ _ hP hD hS (lv_sub hl [1, 2, 0] rfl)
      exact L_27 (_ + 1) cnt f (Nat.lt_succ_self _) (Nat.le_refl _) (fun _ _ => rfl) (fun i a b => absurd a (by omega)) (fun i a b => absurd a (by omega)) _ _ _ hP hD hS (lv_sub hl [1, 2, 0] rfl)
    · skip
      have n_17_2 := Bv.t h_14 c_17_2
      refine lv_iconst (v := nI 0) hx hb dX0_add_20 (by decide) ?_
      exact hret (nI (0)) (DW g d v f (nI cnt) (nI ll)) _ _ _ _ dX0_add_21 (Or.inl rfl) (Or.inl ⟨rfl, rfl, Or.inr n_17_2⟩) hP hD hS

abbrev rm_X0_remove : Room := { frames := 1, cells := 0, slots := 0, locals := 23 }
set_option maxHeartbeats 4000000 in
set_option maxRecDepth 100000 in
theorem c_X0_remove (l : Launch) (g : GG) (d v : Nat) (f : Nat → Int64) (S : Nat → Nat) (cnt ll : Nat) (hf : DR f S cnt) (hc : cnt ≤ 50) (Q : Nat) (hQ : RV Q) : Ci l yX0_remove wsX0_remove rm_X0_remove g [.ref (d), .long (lN (Q))] (DW g d v f (nI cnt) (nI ll)) (fun r w => (r = 0 ∧ w = (DW g d v f (nI cnt) (nI ll)) ∧ ∀ j, j < cnt → S j ≠ Q) ∨ (r = 1 ∧ ∃ (f9 : Nat → Int64) (S9 : Nat → Nat) (t : Nat), w = DW g d v f9 (nI (cnt - 1)) (nI ll) ∧ S t = Q ∧ DR f9 S9 (cnt - 1) ∧ RemAt S cnt t S9)) := by
  refine Ci.ofZ (cc := cX0_remove) (maxL := 5) (by decide) rfl (Nat.le_of_ble_eq_true rfl) ?_
  intro p e s m args below meth c A Z hx hb hml hts hown hK hA hret H locs ls hP hD hS hl
  have f_9 := hts (.fieldLink RX0 9 "GhostGame$Dictionary" "words" "[J") (by decide +kernel)
  have f_15 := hts (.fieldLink RX0 15 "GhostGame$Dictionary" "count" "I") (by decide +kernel)
  have hi_0 : ∀ w ∈ wsX00, w ∈ wsX0_remove := by decide +kernel
  have hl : lv_has ls 5 [(0, .ref (d)), (1, .long (lN (Q)))] := hl
  refine lv_aload_n hx hb dX0_remove_0 rfl (lv_at hl 0 rfl) ?_
  refine lv_lload_n hx hb dX0_remove_1 rfl (lv_at hl 1 rfl) ?_
  refine call_iVW (As := [.long (lN (Q))]) (rest := []) ⟨hx, hb, hml, hown, hts⟩ (c_X0_placeOf l g d v f S cnt ll hf hc Q hQ) (cwV 1 hts gX0_remove_X0_placeOf rfl rfl rfl (by decide +kernel) ⟨Nat.le_of_ble_eq_true rfl, Nat.le_of_ble_eq_true rfl⟩) hP hK hD hS hA 0 rfl rfl rfl rfl hl.1 rfl (Nat.le_of_ble_eq_true rfl) dX0_remove_2 ⟨Nat.le_refl _, Nat.le_refl _⟩ (fun r_2 w H locs h_2 hP hD hS => ?_)
  obtain ⟨rfl, h_2⟩ := h_2
  have hP : va_P g.1 vwCl (DW g d v f (nI cnt) (nI ll)) H := hP
  have hD : va_D A (DW g d v f (nI cnt) (nI ll)) := hD
  refine lv_istore_n (lv' := [(3, .int (r_2)), (0, .ref (d)), (1, .long (lN (Q)))]) hx hb dX0_remove_5 rfl hl (by decide) rfl (fun ls hl => ?_)
  refine lv_iload_n hx hb dX0_remove_6 rfl (lv_at hl 0 rfl) ?_
  refine lv_iconst (v := -1) hx hb dX0_remove_7 (by decide) ?_
  refine lv_icmp_ne (tgt := 13) hx hb dX0_remove_8 (by decide) (fun c_8_1 => ?_) (fun c_8_1 => ?_)
  · skip
    obtain ⟨t, ht, hQt, rfl⟩ : ∃ t, t < cnt ∧ S t = Q ∧ r_2 = nI t := by
      rcases h_2 with h | ⟨-, h⟩
      · exact h
      · exact absurd h c_8_1
    refine lv_aload_n hx hb dX0_remove_13 rfl (lv_at hl 1 rfl) ?_
    refine lv_dup hx hb dX0_remove_14 rfl ?_
    refine va_get (D := g.1) (ci := 0) (v := .int (nI (cnt))) (C := RX0) (T := TX0) (N := 3) hx hb hts hi_0 hown hK hP 0 rfl rfl 1 (by decide) f_15 (fun _ h9 => h9) rfl dX0_remove_15 ?_
    refine lv_iconst (v := nI 1) hx hb dX0_remove_18 (by decide) ?_
    refine lv_isub hx hb dX0_remove_19 ?_
    refine tp_i (pk_sub (a := cnt) (b := 1) (by omega)) ?_
    refine va_put (D := g.1) (ci := 0) (v := .int (nI (cnt - 1))) (ty := .int) (C := RX0) (T := TX0) (N := 3) hx hb hts hi_0 tyX0 tyX0_ok nmX0 hown hK hP hD hS 0 rfl rfl 1 (by decide) f_15 (fun _ h9 => h9) rfl (by decide +kernel) rfl rfl (Nat.le_of_ble_eq_true rfl) dX0_remove_20 (fun H locs hP hD hS => ?_)
    have hP : va_P g.1 vwCl (DW g d v f (nI (cnt - 1)) (nI ll)) H := hP
    have hD : va_D A (DW g d v f (nI (cnt - 1)) (nI ll)) := hD
    refine lv_iload_n hx hb dX0_remove_23 rfl (lv_at hl 0 rfl) ?_
    refine lv_istore (lv' := [(4, .int (nI (t))), (3, .int (nI (t))), (0, .ref (d)), (1, .long (lN (Q)))]) hx hb dX0_remove_24 hl (by decide) rfl (fun ls hl => ?_)
    have L_26 : ∀ (fu : Nat) (i : Nat) (fc : Nat → Int64), cnt - i < fu → (t ≤ i) → (i ≤ cnt - 1) → (∀ k, k < i → fc k = if k < t then f k else f (k + 1)) → (∀ k, i ≤ k → fc k = f k) → ∀ (H : Heap) (locs : List Loc) (ls : Array Slot), va_P g.1 vwCl (DW g d v fc (nI (cnt - 1)) (nI ll)) H → va_D A (DW g d v fc (nI (cnt - 1)) (nI ll)) → va_S A s.heap H locs → lv_has ls 5 [(0, .ref (d)), (1, .long (lN (Q))), (4, .int (nI (i)))] → W p l e rm_X0_remove s m args below meth c H locs 0 0 Z (F0 m 26 ls []) := by
      intro fu
      induction fu with
      | zero => intro _ _ h0; exact absurd h0 (Nat.not_lt_zero _)
      | succ fu ih_26 =>
        intro i fc hfu hi1 hi2 h1 h2 H locs ls hP hD hS hl
        refine lv_iload hx hb dX0_remove_26 (lv_at hl 2 rfl) ?_
        refine lv_aload_n hx hb dX0_remove_28 rfl (lv_at hl 0 rfl) ?_
        refine va_get (D := g.1) (ci := 0) (v := .int (nI (cnt - 1))) (C := RX0) (T := TX0) (N := 3) hx hb hts hi_0 hown hK hP 0 rfl rfl 1 (by decide) f_15 (fun _ h9 => h9) rfl dX0_remove_29 ?_
        refine lv_icmp_ge (tgt := 57) hx hb dX0_remove_32 (by decide) (fun c_32_2 => ?_) (fun c_32_2 => ?_)
        · skip
          have n_32_2 : cnt - 1 ≤ i := (nI_leI (a := cnt - 1) (b := i) (by omega) (by omega)).mp c_32_2
          obtain ⟨S9, hS9, hR9⟩ := rem_end hf ht (by omega) h1
          refine lv_iconst (v := nI 1) hx hb dX0_remove_57 (by decide) ?_
          exact hret (nI (1)) (DW g d v fc (nI (cnt - 1)) (nI ll)) _ _ _ _ dX0_remove_58 (Or.inr rfl) (Or.inr ⟨rfl, _, S9, t, rfl, hQt, hS9, hR9⟩) hP hD hS
        · skip
          have n_32_2 : ¬ cnt - 1 ≤ i := fun q9 => c_32_2 ((nI_leI (a := cnt - 1) (b := i) (by omega) (by omega)).mpr q9)
          refine lv_aload_n hx hb dX0_remove_35 rfl (lv_at hl 0 rfl) ?_
          refine va_get (D := g.1) (ci := 0) (v := .ref (v)) (C := RX0) (T := TX0) (N := 3) hx hb hts hi_0 hown hK hP 0 rfl rfl 0 (by decide) f_9 (fun _ h9 => h9) rfl dX0_remove_36 ?_
          refine lv_iload hx hb dX0_remove_39 (lv_at hl 2 rfl) ?_
          refine lv_aload_n hx hb dX0_remove_41 rfl (lv_at hl 0 rfl) ?_
          refine va_get (D := g.1) (ci := 0) (v := .ref (v)) (C := RX0) (T := TX0) (N := 3) hx hb hts hi_0 hown hK hP 0 rfl rfl 0 (by decide) f_9 (fun _ h9 => h9) rfl dX0_remove_42 ?_
          refine lv_iload hx hb dX0_remove_45 (lv_at hl 2 rfl) ?_
          refine lv_iconst (v := nI 1) hx hb dX0_remove_47 (by decide) ?_
          refine lv_iadd hx hb dX0_remove_48 ?_
          refine tp_i (nI_add i 1) ?_
          refine va_lald (n := 50) (f := fc) hx hb hK hP 1 1 rfl rfl (vp_in_nI (n := i + 1) (by omega) (by decide)) dX0_remove_49 ?_
          refine tp_l (congrArg fc (nI_clamp (n := i + 1) (by omega))) ?_
          refine va_last (n := 50) (f := fc) hx hb hK hP hD hS 1 1 rfl rfl (vp_in_nI (n := i) (by omega) (by decide)) dX0_remove_50 (fun H locs hP hD hS => ?_)
          rw [nI_clamp (n := i) (by omega)] at hP hD
          have hP : va_P g.1 vwCl (DW g d v (vp_updL fc i (fc (i + 1))) (nI (cnt - 1)) (nI ll)) H := hP
          have hD : va_D A (DW g d v (vp_updL fc i (fc (i + 1))) (nI (cnt - 1)) (nI ll)) := hD
          refine lv_iinc (v := (nI (i + 1))) (lv' := [(4, .int (nI (i + 1))), (0, .ref (d)), (1, .long (lN (Q)))]) hx hb dX0_remove_51 hl (k := 2) rfl (nI_add (i) 1) (by decide) rfl (fun ls hl => ?_)
          refine lv_goto (tgt := 26) hx hb dX0_remove_54 (by decide) ?_
          exact ih_26 (i + 1) (vp_updL fc i (fc (i + 1))) (by omega) (by omega) (by omega) ((rem_step hi1 h1 h2).1) ((rem_step hi1 h1 h2).2) _ _ _ hP hD hS (lv_sub hl [1, 2, 0] rfl)
    exact L_26 (_ + 1) t f (Nat.lt_succ_self _) (Nat.le_refl _) (by omega) (rem_0) (fun _ _ => rfl) _ _ _ hP hD hS (lv_sub hl [2, 3, 0] rfl)
  · skip
    have n8 : ∀ j, j < cnt → S j ≠ Q := by
      rcases h_2 with ⟨i, a, b, e9⟩ | ⟨a, e9⟩
      · rw [e9] at c_8_1
        exact absurd c_8_1 (nI_nem1 (by omega))
      · exact a
    refine lv_iconst (v := nI 0) hx hb dX0_remove_11 (by decide) ?_
    exact hret (nI (0)) (DW g d v f (nI cnt) (nI ll)) _ _ _ _ dX0_remove_12 (Or.inl rfl) (Or.inl ⟨rfl, rfl, n8⟩) hP hD hS

abbrev rm_X0_countFrom : Room := { frames := 2, cells := 0, slots := 0, locals := 45 }
set_option maxHeartbeats 4000000 in
set_option maxRecDepth 100000 in
theorem c_X0_countFrom (l : Launch) (g : GG) (d v : Nat) (f : Nat → Int64) (S : Nat → Nat) (cnt ll : Nat) (hf : DR f S cnt) (hc : cnt ≤ 50) (Q : Nat) (hQ : RV Q) : Ci l yX0_countFrom wsX0_countFrom rm_X0_countFrom g [.ref (d), .long (lN (Q))] (DW g d v f (nI cnt) (nI ll)) (fun r w => w = (DW g d v f (nI cnt) (nI ll)) ∧ r = nI (fb_ct (fun i => bgB (S i) Q) cnt)) := by
  refine Ci.ofI (cc := cX0_countFrom) (maxL := 5) (by decide) rfl (Nat.le_of_ble_eq_true rfl) ?_
  intro p e s m args below meth c A Z hx hb hml hts hown hK hA hret H locs ls hP hD hS hl
  have f_9 := hts (.fieldLink RX0 9 "GhostGame$Dictionary" "words" "[J") (by decide +kernel)
  have f_15 := hts (.fieldLink RX0 15 "GhostGame$Dictionary" "count" "I") (by decide +kernel)
  have hi_0 : ∀ w ∈ wsX00, w ∈ wsX0_countFrom := by decide +kernel
  have hl : lv_has ls 5 [(0, .ref (d)), (1, .long (lN (Q)))] := hl
  refine lv_iconst (v := nI 0) hx hb dX0_countFrom_0 (by decide) ?_
  refine lv_istore_n (lv' := [(3, .int (nI (0))), (0, .ref (d)), (1, .long (lN (Q)))]) hx hb dX0_countFrom_1 rfl hl (by decide) rfl (fun ls hl => ?_)
  refine lv_iconst (v := nI 0) hx hb dX0_countFrom_2 (by decide) ?_
  refine lv_istore (lv' := [(4, .int (nI (0))), (3, .int (nI (0))), (0, .ref (d)), (1, .long (lN (Q)))]) hx hb dX0_countFrom_3 hl (by decide) rfl (fun ls hl => ?_)
  have L_5 : ∀ (fu : Nat) (i c0 : Nat), cnt - i < fu → (i ≤ cnt) → (c0 = fb_ct (fun i => bgB (S i) Q) i) → ∀ (H : Heap) (locs : List Loc) (ls : Array Slot), va_P g.1 vwCl (DW g d v f (nI cnt) (nI ll)) H → va_D A (DW g d v f (nI cnt) (nI ll)) → va_S A s.heap H locs → lv_has ls 5 [(0, .ref (d)), (1, .long (lN (Q))), (3, .int (nI (c0))), (4, .int (nI (i)))] → W p l e rm_X0_countFrom s m args below meth c H locs 0 0 Z (F0 m 5 ls []) := by
    intro fu
    induction fu with
    | zero => intro _ _ h0; exact absurd h0 (Nat.not_lt_zero _)
    | succ fu ih_5 =>
      intro i c0 hfu hi1 hc1 H locs ls hP hD hS hl
      refine lv_iload hx hb dX0_countFrom_5 (lv_at hl 3 rfl) ?_
      refine lv_aload_n hx hb dX0_countFrom_7 rfl (lv_at hl 0 rfl) ?_
      refine va_get (D := g.1) (ci := 0) (v := .int (nI (cnt))) (C := RX0) (T := TX0) (N := 3) hx hb hts hi_0 hown hK hP 0 rfl rfl 1 (by decide) f_15 (fun _ h9 => h9) rfl dX0_countFrom_8 ?_
      refine lv_icmp_ge (tgt := 37) hx hb dX0_countFrom_11 (by decide) (fun c_11_1 => ?_) (fun c_11_1 => ?_)
      · skip
        have n_11_1 : cnt ≤ i := (nI_leI (a := cnt) (b := i) (by omega) (by omega)).mp c_11_1
        refine lv_iload_n hx hb dX0_countFrom_37 rfl (lv_at hl 2 rfl) ?_
        exact hret (nI (c0)) (DW g d v f (nI cnt) (nI ll)) _ _ _ _ dX0_countFrom_38 (⟨rfl, by rw [hc1, show i = cnt by omega]⟩) hP hD hS
      · skip
        have n_11_1 : ¬ cnt ≤ i := fun q9 => c_11_1 ((nI_leI (a := cnt) (b := i) (by omega) (by omega)).mpr q9)
        refine lv_aload_n hx hb dX0_countFrom_14 rfl (lv_at hl 0 rfl) ?_
        refine va_get (D := g.1) (ci := 0) (v := .ref (v)) (C := RX0) (T := TX0) (N := 3) hx hb hts hi_0 hown hK hP 0 rfl rfl 0 (by decide) f_9 (fun _ h9 => h9) rfl dX0_countFrom_15 ?_
        refine lv_iload hx hb dX0_countFrom_18 (lv_at hl 3 rfl) ?_
        refine va_lald (n := 50) (f := f) hx hb hK hP 1 1 rfl rfl (vp_in_nI (n := i) (by omega) (by decide)) dX0_countFrom_20 ?_
        refine tp_l (congrArg f (nI_clamp (n := i) (by omega))) ?_
        refine tp_l (b := (lN (S i))) ((hf i (by omega)).1) ?_
        refine lv_lload_n hx hb dX0_countFrom_21 rfl (lv_at hl 1 rfl) ?_
        refine call_iP (As := [.long (lN (S i)), .long (lN (Q))]) (rest := []) ⟨hx, hb, hml, hown, hts⟩ (c_X2_beginsWith l (S i) Q (hf i (by omega)).2 hQ) (va_cwS 2 hts gX0_countFrom_X2_beginsWith rfl rfl rfl (by decide +kernel) ⟨Nat.le_of_ble_eq_true rfl, Nat.le_of_ble_eq_true rfl⟩) hP hK hD hS hA rfl hl.1 rfl (Nat.le_of_ble_eq_true rfl) dX0_countFrom_22 ⟨Nat.le_refl _, Nat.le_refl _⟩ (fun r_22 H locs h_22 hP hD hS => ?_)
        refine lv_if_eq (tgt := 31) hx hb dX0_countFrom_25 (by decide) (fun c_25_2 => ?_) (fun c_25_2 => ?_)
        · skip
          have n_25_2 := Bv.f h_22 c_25_2
          refine lv_iinc (v := (nI (i + 1))) (lv' := [(4, .int (nI (i + 1))), (0, .ref (d)), (1, .long (lN (Q))), (3, .int (nI (c0)))]) hx hb dX0_countFrom_31 hl (k := 3) rfl (nI_add (i) 1) (by decide) rfl (fun ls hl => ?_)
          refine lv_goto (tgt := 5) hx hb dX0_countFrom_34 (by decide) ?_
          exact ih_5 (i + 1) c0 (by omega) (by omega) (ct_f hc1 (bgB_f n_25_2)) _ _ _ hP hD hS (lv_sub hl [1, 2, 3, 0] rfl)
        · skip
          have n_25_2 := Bv.t h_22 c_25_2
          refine lv_iinc (v := (nI (c0 + 1))) (lv' := [(3, .int (nI (c0 + 1))), (0, .ref (d)), (1, .long (lN (Q))), (4, .int (nI (i)))]) hx hb dX0_countFrom_28 hl (k := 2) rfl (nI_add (c0) 1) (by decide) rfl (fun ls hl => ?_)
          refine lv_iinc (v := (nI (i + 1))) (lv' := [(4, .int (nI (i + 1))), (3, .int (nI (c0 + 1))), (0, .ref (d)), (1, .long (lN (Q)))]) hx hb dX0_countFrom_31 hl (k := 3) rfl (nI_add (i) 1) (by decide) rfl (fun ls hl => ?_)
          refine lv_goto (tgt := 5) hx hb dX0_countFrom_34 (by decide) ?_
          exact ih_5 (i + 1) (c0 + 1) (by omega) (by omega) (ct_t hc1 (bgB_t.mpr n_25_2)) _ _ _ hP hD hS (lv_sub hl [2, 3, 1, 0] rfl)
  exact L_5 (_ + 1) 0 0 (Nat.lt_succ_self _) (Nat.zero_le _) (rfl) _ _ _ hP hD hS (lv_sub hl [2, 3, 1, 0] rfl)

abbrev rm_X0_isLongEnough : Room := { frames := 1, cells := 0, slots := 0, locals := 21 }
set_option maxHeartbeats 4000000 in
set_option maxRecDepth 100000 in
theorem c_X0_isLongEnough (l : Launch) (g : GG) (d v : Nat) (f : Nat → Int64) (S : Nat → Nat) (cnt ll : Nat) (hf : DR f S cnt) (hc : cnt ≤ 50) (hll : ll ≤ 10) (Q : Nat) (hQ : RV Q) : Ci l yX0_isLongEnough wsX0_isLongEnough rm_X0_isLongEnough g [.ref (d), .long (lN (Q))] (DW g d v f (nI cnt) (nI ll)) (fun r w => w = (DW g d v f (nI cnt) (nI ll)) ∧ Bv r (ll ≤ rwL Q)) := by
  refine Ci.ofZ (cc := cX0_isLongEnough) (maxL := 3) (by decide) rfl (Nat.le_of_ble_eq_true rfl) ?_
  intro p e s m args below meth c A Z hx hb hml hts hown hK hA hret H locs ls hP hD hS hl
  have f_19 := hts (.fieldLink RX0 19 "GhostGame$Dictionary" "leastLength" "I") (by decide +kernel)
  have hi_0 : ∀ w ∈ wsX00, w ∈ wsX0_isLongEnough := by decide +kernel
  have hl : lv_has ls 3 [(0, .ref (d)), (1, .long (lN (Q)))] := hl
  have h10 := hQ.1
  refine lv_lload_n hx hb dX0_isLongEnough_0 rfl (lv_at hl 1 rfl) ?_
  refine call_iP (As := [.long (lN (Q))]) (rest := []) ⟨hx, hb, hml, hown, hts⟩ (c_X2_lengthOf l Q (hQ).lt) (va_cwS 1 hts gX0_isLongEnough_X2_lengthOf rfl rfl rfl (by decide +kernel) ⟨Nat.le_of_ble_eq_true rfl, Nat.le_of_ble_eq_true rfl⟩) hP hK hD hS hA rfl hl.1 rfl (Nat.le_of_ble_eq_true rfl) dX0_isLongEnough_1 ⟨Nat.le_refl _, Nat.le_refl _⟩ (fun r_1 H locs h_1 hP hD hS => ?_)
  subst h_1
  refine lv_aload_n hx hb dX0_isLongEnough_4 rfl (lv_at hl 0 rfl) ?_
  refine va_get (D := g.1) (ci := 0) (v := .int (nI (ll))) (C := RX0) (T := TX0) (N := 3) hx hb hts hi_0 hown hK hP 0 rfl rfl 2 (by decide) f_19 (fun _ h9 => h9) rfl dX0_isLongEnough_5 ?_
  refine lv_icmp_lt (tgt := 15) hx hb dX0_isLongEnough_8 (by decide) (fun c_8_1 => ?_) (fun c_8_1 => ?_)
  · skip
    have n_8_1 : rwL Q < ll := (nI_ltI (a := rwL Q) (b := ll) (by omega) (by omega)).mp c_8_1
    refine lv_iconst (v := nI 0) hx hb dX0_isLongEnough_15 (by decide) ?_
    exact hret (nI (0)) (DW g d v f (nI cnt) (nI ll)) _ _ _ _ dX0_isLongEnough_16 (Or.inl rfl) (⟨rfl, Bv.no (by omega)⟩) hP hD hS
  · skip
    have n_8_1 : ¬ rwL Q < ll := fun q9 => c_8_1 ((nI_ltI (a := rwL Q) (b := ll) (by omega) (by omega)).mpr q9)
    refine lv_iconst (v := nI 1) hx hb dX0_isLongEnough_11 (by decide) ?_
    refine lv_goto (tgt := 16) hx hb dX0_isLongEnough_12 (by decide) ?_
    exact hret (nI (1)) (DW g d v f (nI cnt) (nI ll)) _ _ _ _ dX0_isLongEnough_16 (Or.inr rfl) (⟨rfl, Bv.yes (by omega)⟩) hP hD hS

abbrev rm_X0_hasCounting : Room := { frames := 2, cells := 0, slots := 0, locals := 45 }
set_option maxHeartbeats 4000000 in
set_option maxRecDepth 100000 in
theorem c_X0_hasCounting (l : Launch) (g : GG) (d v : Nat) (f : Nat → Int64) (S : Nat → Nat) (cnt ll : Nat) (hf : DR f S cnt) (hc : cnt ≤ 50) (hll : ll ≤ 10) (Q : Nat) (hQ : RV Q) : Ci l yX0_hasCounting wsX0_hasCounting rm_X0_hasCounting g [.ref (d), .long (lN (Q))] (DW g d v f (nI cnt) (nI ll)) (fun r w => w = (DW g d v f (nI cnt) (nI ll)) ∧ Bv r (ll ≤ rwL Q ∧ inS S cnt Q)) := by
  refine Ci.ofZ (cc := cX0_hasCounting) (maxL := 3) (by decide) rfl (Nat.le_of_ble_eq_true rfl) ?_
  intro p e s m args below meth c A Z hx hb hml hts hown hK hA hret H locs ls hP hD hS hl
  have hl : lv_has ls 3 [(0, .ref (d)), (1, .long (lN (Q)))] := hl
  refine lv_aload_n hx hb dX0_hasCounting_0 rfl (lv_at hl 0 rfl) ?_
  refine lv_lload_n hx hb dX0_hasCounting_1 rfl (lv_at hl 1 rfl) ?_
  refine call_iVW (As := [.long (lN (Q))]) (rest := []) ⟨hx, hb, hml, hown, hts⟩ (c_X0_isLongEnough l g d v f S cnt ll hf hc hll Q hQ) (cwV 1 hts gX0_hasCounting_X0_isLongEnough rfl rfl rfl (by decide +kernel) ⟨Nat.le_of_ble_eq_true rfl, Nat.le_of_ble_eq_true rfl⟩) hP hK hD hS hA 0 rfl rfl rfl rfl hl.1 rfl (Nat.le_of_ble_eq_true rfl) dX0_hasCounting_2 ⟨Nat.le_refl _, Nat.le_refl _⟩ (fun r_2 w H locs h_2 hP hD hS => ?_)
  obtain ⟨rfl, h_2⟩ := h_2
  have hP : va_P g.1 vwCl (DW g d v f (nI cnt) (nI ll)) H := hP
  have hD : va_D A (DW g d v f (nI cnt) (nI ll)) := hD
  refine lv_if_eq (tgt := 20) hx hb dX0_hasCounting_5 (by decide) (fun c_5_1 => ?_) (fun c_5_1 => ?_)
  · skip
    have n_5_1 := Bv.f h_2 c_5_1
    refine lv_iconst (v := nI 0) hx hb dX0_hasCounting_20 (by decide) ?_
    exact hret (nI (0)) (DW g d v f (nI cnt) (nI ll)) _ _ _ _ dX0_hasCounting_21 (Or.inl rfl) (⟨rfl, Bv.no (fun q9 => n_5_1 q9.1)⟩) hP hD hS
  · skip
    have n_5_1 := Bv.t h_2 c_5_1
    refine lv_aload_n hx hb dX0_hasCounting_8 rfl (lv_at hl 0 rfl) ?_
    refine lv_lload_n hx hb dX0_hasCounting_9 rfl (lv_at hl 1 rfl) ?_
    refine call_iVW (As := [.long (lN (Q))]) (rest := []) ⟨hx, hb, hml, hown, hts⟩ (c_X0_has l g d v f S cnt ll hf hc Q hQ) (cwV 1 hts gX0_hasCounting_X0_has rfl rfl rfl (by decide +kernel) ⟨Nat.le_of_ble_eq_true rfl, Nat.le_of_ble_eq_true rfl⟩) hP hK hD hS hA 0 rfl rfl rfl rfl hl.1 rfl (Nat.le_of_ble_eq_true rfl) dX0_hasCounting_10 ⟨Nat.le_refl _, Nat.le_refl _⟩ (fun r_10 w H locs h_10 hP hD hS => ?_)
    obtain ⟨rfl, h_10⟩ := h_10
    have hP : va_P g.1 vwCl (DW g d v f (nI cnt) (nI ll)) H := hP
    have hD : va_D A (DW g d v f (nI cnt) (nI ll)) := hD
    refine lv_if_eq (tgt := 20) hx hb dX0_hasCounting_13 (by decide) (fun c_13_2 => ?_) (fun c_13_2 => ?_)
    · skip
      have n_13_2 := Bv.f h_10 c_13_2
      refine lv_iconst (v := nI 0) hx hb dX0_hasCounting_20 (by decide) ?_
      exact hret (nI (0)) (DW g d v f (nI cnt) (nI ll)) _ _ _ _ dX0_hasCounting_21 (Or.inl rfl) (⟨rfl, Bv.no (fun q9 => n_13_2 q9.2)⟩) hP hD hS
    · skip
      have n_13_2 := Bv.t h_10 c_13_2
      refine lv_iconst (v := nI 1) hx hb dX0_hasCounting_16 (by decide) ?_
      refine lv_goto (tgt := 21) hx hb dX0_hasCounting_17 (by decide) ?_
      exact hret (nI (1)) (DW g d v f (nI cnt) (nI ll)) _ _ _ _ dX0_hasCounting_21 (Or.inr rfl) (⟨rfl, Bv.yes ⟨n_5_1, n_13_2⟩⟩) hP hD hS

abbrev rm_X0_hasCountingFrom : Room := { frames := 2, cells := 0, slots := 0, locals := 45 }
set_option maxHeartbeats 4000000 in
set_option maxRecDepth 100000 in
theorem c_X0_hasCountingFrom (l : Launch) (g : GG) (d v : Nat) (f : Nat → Int64) (S : Nat → Nat) (cnt ll : Nat) (hf : DR f S cnt) (hc : cnt ≤ 50) (hll : ll ≤ 10) (Q : Nat) (hQ : RV Q) : Ci l yX0_hasCountingFrom wsX0_hasCountingFrom rm_X0_hasCountingFrom g [.ref (d), .long (lN (Q))] (DW g d v f (nI cnt) (nI ll)) (fun r w => w = (DW g d v f (nI cnt) (nI ll)) ∧ Bv r (∃ i, i < cnt ∧ ll ≤ rwL (S i) ∧ bgP (S i) Q)) := by
  refine Ci.ofZ (cc := cX0_hasCountingFrom) (maxL := 4) (by decide) rfl (Nat.le_of_ble_eq_true rfl) ?_
  intro p e s m args below meth c A Z hx hb hml hts hown hK hA hret H locs ls hP hD hS hl
  have f_9 := hts (.fieldLink RX0 9 "GhostGame$Dictionary" "words" "[J") (by decide +kernel)
  have f_15 := hts (.fieldLink RX0 15 "GhostGame$Dictionary" "count" "I") (by decide +kernel)
  have hi_0 : ∀ w ∈ wsX00, w ∈ wsX0_hasCountingFrom := by decide +kernel
  have hl : lv_has ls 4 [(0, .ref (d)), (1, .long (lN (Q)))] := hl
  refine lv_iconst (v := nI 0) hx hb dX0_hasCountingFrom_0 (by decide) ?_
  refine lv_istore_n (lv' := [(3, .int (nI (0))), (0, .ref (d)), (1, .long (lN (Q)))]) hx hb dX0_hasCountingFrom_1 rfl hl (by decide) rfl (fun ls hl => ?_)
  have L_2 : ∀ (fu : Nat) (i : Nat), cnt - i < fu → (i ≤ cnt) → (∀ j, j < i → ¬ (ll ≤ rwL (S j) ∧ bgP (S j) Q)) → ∀ (H : Heap) (locs : List Loc) (ls : Array Slot), va_P g.1 vwCl (DW g d v f (nI cnt) (nI ll)) H → va_D A (DW g d v f (nI cnt) (nI ll)) → va_S A s.heap H locs → lv_has ls 4 [(0, .ref (d)), (1, .long (lN (Q))), (3, .int (nI (i)))] → W p l e rm_X0_hasCountingFrom s m args below meth c H locs 0 0 Z (F0 m 2 ls []) := by
    intro fu
    induction fu with
    | zero => intro _ h0; exact absurd h0 (Nat.not_lt_zero _)
    | succ fu ih_2 =>
      intro i hfu hi1 hi2 H locs ls hP hD hS hl
      refine lv_iload_n hx hb dX0_hasCountingFrom_2 rfl (lv_at hl 2 rfl) ?_
      refine lv_aload_n hx hb dX0_hasCountingFrom_3 rfl (lv_at hl 0 rfl) ?_
      refine va_get (D := g.1) (ci := 0) (v := .int (nI (cnt))) (C := RX0) (T := TX0) (N := 3) hx hb hts hi_0 hown hK hP 0 rfl rfl 1 (by decide) f_15 (fun _ h9 => h9) rfl dX0_hasCountingFrom_4 ?_
      refine lv_icmp_ge (tgt := 44) hx hb dX0_hasCountingFrom_7 (by decide) (fun c_7_1 => ?_) (fun c_7_1 => ?_)
      · skip
        have n_7_1 : cnt ≤ i := (nI_leI (a := cnt) (b := i) (by omega) (by omega)).mp c_7_1
        refine lv_iconst (v := nI 0) hx hb dX0_hasCountingFrom_44 (by decide) ?_
        exact hret (nI (0)) (DW g d v f (nI cnt) (nI ll)) _ _ _ _ dX0_hasCountingFrom_45 (Or.inl rfl) (⟨rfl, Bv.no (fun ⟨j, a, b⟩ => hi2 j (by omega) b)⟩) hP hD hS
      · skip
        have n_7_1 : ¬ cnt ≤ i := fun q9 => c_7_1 ((nI_leI (a := cnt) (b := i) (by omega) (by omega)).mpr q9)
        refine lv_aload_n hx hb dX0_hasCountingFrom_10 rfl (lv_at hl 0 rfl) ?_
        refine lv_aload_n hx hb dX0_hasCountingFrom_11 rfl (lv_at hl 0 rfl) ?_
        refine va_get (D := g.1) (ci := 0) (v := .ref (v)) (C := RX0) (T := TX0) (N := 3) hx hb hts hi_0 hown hK hP 0 rfl rfl 0 (by decide) f_9 (fun _ h9 => h9) rfl dX0_hasCountingFrom_12 ?_
        refine lv_iload_n hx hb dX0_hasCountingFrom_15 rfl (lv_at hl 2 rfl) ?_
        refine va_lald (n := 50) (f := f) hx hb hK hP 1 1 rfl rfl (vp_in_nI (n := i) (by omega) (by decide)) dX0_hasCountingFrom_16 ?_
        refine tp_l (congrArg f (nI_clamp (n := i) (by omega))) ?_
        refine tp_l (b := (lN (S i))) ((hf i (by omega)).1) ?_
        refine call_iVW (As := [.long (lN (S i))]) (rest := []) ⟨hx, hb, hml, hown, hts⟩ (c_X0_isLongEnough l g d v f S cnt ll hf hc hll (S i) (hf i (by omega)).2) (cwV 1 hts gX0_hasCountingFrom_X0_isLongEnough rfl rfl rfl (by decide +kernel) ⟨Nat.le_of_ble_eq_true rfl, Nat.le_of_ble_eq_true rfl⟩) hP hK hD hS hA 0 rfl rfl rfl rfl hl.1 rfl (Nat.le_of_ble_eq_true rfl) dX0_hasCountingFrom_17 ⟨Nat.le_refl _, Nat.le_refl _⟩ (fun r_17 w H locs h_17 hP hD hS => ?_)
        obtain ⟨rfl, h_17⟩ := h_17
        have hP : va_P g.1 vwCl (DW g d v f (nI cnt) (nI ll)) H := hP
        have hD : va_D A (DW g d v f (nI cnt) (nI ll)) := hD
        refine lv_if_eq (tgt := 38) hx hb dX0_hasCountingFrom_20 (by decide) (fun c_20_2 => ?_) (fun c_20_2 => ?_)
        · skip
          have n_20_2 := Bv.f h_17 c_20_2
          refine lv_iinc (v := (nI (i + 1))) (lv' := [(3, .int (nI (i + 1))), (0, .ref (d)), (1, .long (lN (Q)))]) hx hb dX0_hasCountingFrom_38 hl (k := 2) rfl (nI_add (i) 1) (by decide) rfl (fun ls hl => ?_)
          refine lv_goto (tgt := 2) hx hb dX0_hasCountingFrom_41 (by decide) ?_
          exact ih_2 (i + 1) (by omega) (by omega) (lt_s hi2 (fun q9 => n_20_2 q9.1)) _ _ _ hP hD hS (lv_sub hl [1, 2, 0] rfl)
        · skip
          have n_20_2 := Bv.t h_17 c_20_2
          refine lv_aload_n hx hb dX0_hasCountingFrom_23 rfl (lv_at hl 0 rfl) ?_
          refine va_get (D := g.1) (ci := 0) (v := .ref (v)) (C := RX0) (T := TX0) (N := 3) hx hb hts hi_0 hown hK hP 0 rfl rfl 0 (by decide) f_9 (fun _ h9 => h9) rfl dX0_hasCountingFrom_24 ?_
          refine lv_iload_n hx hb dX0_hasCountingFrom_27 rfl (lv_at hl 2 rfl) ?_
          refine va_lald (n := 50) (f := f) hx hb hK hP 1 1 rfl rfl (vp_in_nI (n := i) (by omega) (by decide)) dX0_hasCountingFrom_28 ?_
          refine tp_l (congrArg f (nI_clamp (n := i) (by omega))) ?_
          refine tp_l (b := (lN (S i))) ((hf i (by omega)).1) ?_
          refine lv_lload_n hx hb dX0_hasCountingFrom_29 rfl (lv_at hl 1 rfl) ?_
          refine call_iP (As := [.long (lN (S i)), .long (lN (Q))]) (rest := []) ⟨hx, hb, hml, hown, hts⟩ (c_X2_beginsWith l (S i) Q (hf i (by omega)).2 hQ) (va_cwS 2 hts gX0_hasCountingFrom_X2_beginsWith rfl rfl rfl (by decide +kernel) ⟨Nat.le_of_ble_eq_true rfl, Nat.le_of_ble_eq_true rfl⟩) hP hK hD hS hA rfl hl.1 rfl (Nat.le_of_ble_eq_true rfl) dX0_hasCountingFrom_30 ⟨Nat.le_refl _, Nat.le_refl _⟩ (fun r_30 H locs h_30 hP hD hS => ?_)
          refine lv_if_eq (tgt := 38) hx hb dX0_hasCountingFrom_33 (by decide) (fun c_33_3 => ?_) (fun c_33_3 => ?_)
          · skip
            have n_33_3 := Bv.f h_30 c_33_3
            refine lv_iinc (v := (nI (i + 1))) (lv' := [(3, .int (nI (i + 1))), (0, .ref (d)), (1, .long (lN (Q)))]) hx hb dX0_hasCountingFrom_38 hl (k := 2) rfl (nI_add (i) 1) (by decide) rfl (fun ls hl => ?_)
            refine lv_goto (tgt := 2) hx hb dX0_hasCountingFrom_41 (by decide) ?_
            exact ih_2 (i + 1) (by omega) (by omega) (lt_s hi2 (fun q9 => n_33_3 q9.2)) _ _ _ hP hD hS (lv_sub hl [1, 2, 0] rfl)
          · skip
            have n_33_3 := Bv.t h_30 c_33_3
            refine lv_iconst (v := nI 1) hx hb dX0_hasCountingFrom_36 (by decide) ?_
            exact hret (nI (1)) (DW g d v f (nI cnt) (nI ll)) _ _ _ _ dX0_hasCountingFrom_37 (Or.inr rfl) (⟨rfl, Bv.yes ⟨i, by omega, n_20_2, n_33_3⟩⟩) hP hD hS
  exact L_2 (_ + 1) 0 (Nat.lt_succ_self _) (Nat.zero_le _) (fun j h => absurd h (Nat.not_lt_zero _)) _ _ _ hP hD hS (lv_sub hl [1, 2, 0] rfl)

abbrev rm_X0_changeLeastLength : Room := { frames := 0, cells := 0, slots := 0, locals := 0 }
set_option maxHeartbeats 4000000 in
set_option maxRecDepth 100000 in
theorem c_X0_changeLeastLength (l : Launch) (g : GG) (d v : Nat) (f : Nat → Int64) (S : Nat → Nat) (cnt ll : Nat) (hf : DR f S cnt) (hc : cnt ≤ 50) (k : Nat) : Ci l yX0_changeLeastLength wsX0_changeLeastLength rm_X0_changeLeastLength g [.ref (d), .int (nI (k))] (DW g d v f (nI cnt) (nI ll)) (fun r w => w = DW g d v f (nI cnt) (nI k) ∧ r = nI ll) := by
  refine Ci.ofI (cc := cX0_changeLeastLength) (maxL := 3) (by decide) rfl (Nat.le_of_ble_eq_true rfl) ?_
  intro p e s m args below meth c A Z hx hb hml hts hown hK hA hret H locs ls hP hD hS hl
  have f_19 := hts (.fieldLink RX0 19 "GhostGame$Dictionary" "leastLength" "I") (by decide +kernel)
  have hi_0 : ∀ w ∈ wsX00, w ∈ wsX0_changeLeastLength := by decide +kernel
  have hl : lv_has ls 3 [(0, .ref (d)), (1, .int (nI (k)))] := hl
  refine lv_aload_n hx hb dX0_changeLeastLength_0 rfl (lv_at hl 0 rfl) ?_
  refine va_get (D := g.1) (ci := 0) (v := .int (nI (ll))) (C := RX0) (T := TX0) (N := 3) hx hb hts hi_0 hown hK hP 0 rfl rfl 2 (by decide) f_19 (fun _ h9 => h9) rfl dX0_changeLeastLength_1 ?_
  refine lv_istore_n (lv' := [(2, .int (nI (ll))), (0, .ref (d)), (1, .int (nI (k)))]) hx hb dX0_changeLeastLength_4 rfl hl (by decide) rfl (fun ls hl => ?_)
  refine lv_aload_n hx hb dX0_changeLeastLength_5 rfl (lv_at hl 1 rfl) ?_
  refine lv_iload_n hx hb dX0_changeLeastLength_6 rfl (lv_at hl 2 rfl) ?_
  refine va_put (D := g.1) (ci := 0) (v := .int (nI (k))) (ty := .int) (C := RX0) (T := TX0) (N := 3) hx hb hts hi_0 tyX0 tyX0_ok nmX0 hown hK hP hD hS 0 rfl rfl 2 (by decide) f_19 (fun _ h9 => h9) rfl (by decide +kernel) rfl rfl (Nat.le_of_ble_eq_true rfl) dX0_changeLeastLength_7 (fun H locs hP hD hS => ?_)
  have hP : va_P g.1 vwCl (DW g d v f (nI cnt) (nI k)) H := hP
  have hD : va_D A (DW g d v f (nI cnt) (nI k)) := hD
  refine lv_iload_n hx hb dX0_changeLeastLength_10 rfl (lv_at hl 0 rfl) ?_
  exact hret (nI (ll)) (DW g d v f (nI cnt) (nI k)) _ _ _ _ dX0_changeLeastLength_11 (⟨rfl, rfl⟩) hP hD hS

abbrev rm_X0_lengthSharedBefore : Room := { frames := 3, cells := 0, slots := 0, locals := 69 }
set_option maxHeartbeats 4000000 in
set_option maxRecDepth 100000 in
theorem c_X0_lengthSharedBefore (l : Launch) (g : GG) (d v : Nat) (f : Nat → Int64) (S : Nat → Nat) (cnt ll : Nat) (hf : DR f S cnt) (hc : cnt ≤ 50) (i : Nat) (hi : i < cnt) : Ci l yX0_lengthSharedBefore wsX0_lengthSharedBefore rm_X0_lengthSharedBefore g [.ref (d), .int (nI (i))] (DW g d v f (nI cnt) (nI ll)) (fun r w => w = (DW g d v f (nI cnt) (nI ll)) ∧ r = nI (lsF S (S i) i)) := by
  refine Ci.ofI (cc := cX0_lengthSharedBefore) (maxL := 4) (by decide) rfl (Nat.le_of_ble_eq_true rfl) ?_
  intro p e s m args below meth c A Z hx hb hml hts hown hK hA hret H locs ls hP hD hS hl
  have f_9 := hts (.fieldLink RX0 9 "GhostGame$Dictionary" "words" "[J") (by decide +kernel)
  have hi_0 : ∀ w ∈ wsX00, w ∈ wsX0_lengthSharedBefore := by decide +kernel
  have hl : lv_has ls 4 [(0, .ref (d)), (1, .int (nI (i)))] := hl
  have h11 := (hf i hi).2.1
  have hls := lsF_le S (S i)
  refine lv_iconst (v := nI 0) hx hb dX0_lengthSharedBefore_0 (by decide) ?_
  refine lv_istore_n (lv' := [(2, .int (nI (0))), (0, .ref (d)), (1, .int (nI (i)))]) hx hb dX0_lengthSharedBefore_1 rfl hl (by decide) rfl (fun ls hl => ?_)
  refine lv_iconst (v := nI 0) hx hb dX0_lengthSharedBefore_2 (by decide) ?_
  refine lv_istore_n (lv' := [(3, .int (nI (0))), (2, .int (nI (0))), (0, .ref (d)), (1, .int (nI (i)))]) hx hb dX0_lengthSharedBefore_3 rfl hl (by decide) rfl (fun ls hl => ?_)
  have L_4 : ∀ (fu : Nat) (j c0 : Nat), i - j < fu → (j ≤ i) → (c0 = lsF S (S i) j) → ∀ (H : Heap) (locs : List Loc) (ls : Array Slot), va_P g.1 vwCl (DW g d v f (nI cnt) (nI ll)) H → va_D A (DW g d v f (nI cnt) (nI ll)) → va_S A s.heap H locs → lv_has ls 4 [(0, .ref (d)), (1, .int (nI (i))), (2, .int (nI (c0))), (3, .int (nI (j)))] → W p l e rm_X0_lengthSharedBefore s m args below meth c H locs 0 0 Z (F0 m 4 ls []) := by
    intro fu
    induction fu with
    | zero => intro _ _ h0; exact absurd h0 (Nat.not_lt_zero _)
    | succ fu ih_4 =>
      intro j c0 hfu hj1 hc1 H locs ls hP hD hS hl
      refine lv_iload_n hx hb dX0_lengthSharedBefore_4 rfl (lv_at hl 3 rfl) ?_
      refine lv_iload_n hx hb dX0_lengthSharedBefore_5 rfl (lv_at hl 1 rfl) ?_
      refine lv_icmp_ge (tgt := 35) hx hb dX0_lengthSharedBefore_6 (by decide) (fun c_6_1 => ?_) (fun c_6_1 => ?_)
      · skip
        have n_6_1 : i ≤ j := (nI_leI (a := i) (b := j) (by omega) (by omega)).mp c_6_1
        refine lv_iload_n hx hb dX0_lengthSharedBefore_35 rfl (lv_at hl 2 rfl) ?_
        exact hret (nI (c0)) (DW g d v f (nI cnt) (nI ll)) _ _ _ _ dX0_lengthSharedBefore_36 (⟨rfl, by rw [hc1, show j = i by omega]⟩) hP hD hS
      · skip
        have n_6_1 : ¬ i ≤ j := fun q9 => c_6_1 ((nI_leI (a := i) (b := j) (by omega) (by omega)).mpr q9)
        refine lv_iload_n hx hb dX0_lengthSharedBefore_9 rfl (lv_at hl 2 rfl) ?_
        refine lv_aload_n hx hb dX0_lengthSharedBefore_10 rfl (lv_at hl 0 rfl) ?_
        refine va_get (D := g.1) (ci := 0) (v := .ref (v)) (C := RX0) (T := TX0) (N := 3) hx hb hts hi_0 hown hK hP 0 rfl rfl 0 (by decide) f_9 (fun _ h9 => h9) rfl dX0_lengthSharedBefore_11 ?_
        refine lv_iload_n hx hb dX0_lengthSharedBefore_14 rfl (lv_at hl 3 rfl) ?_
        refine va_lald (n := 50) (f := f) hx hb hK hP 1 1 rfl rfl (vp_in_nI (n := j) (by omega) (by decide)) dX0_lengthSharedBefore_15 ?_
        refine tp_l (congrArg f (nI_clamp (n := j) (by omega))) ?_
        refine tp_l (b := (lN (S j))) ((hf j (by omega)).1) ?_
        refine lv_aload_n hx hb dX0_lengthSharedBefore_16 rfl (lv_at hl 0 rfl) ?_
        refine va_get (D := g.1) (ci := 0) (v := .ref (v)) (C := RX0) (T := TX0) (N := 3) hx hb hts hi_0 hown hK hP 0 rfl rfl 0 (by decide) f_9 (fun _ h9 => h9) rfl dX0_lengthSharedBefore_17 ?_
        refine lv_iload_n hx hb dX0_lengthSharedBefore_20 rfl (lv_at hl 1 rfl) ?_
        refine va_lald (n := 50) (f := f) hx hb hK hP 1 1 rfl rfl (vp_in_nI (n := i) (by omega) (by decide)) dX0_lengthSharedBefore_21 ?_
        refine tp_l (congrArg f (nI_clamp (n := i) (by omega))) ?_
        refine tp_l (b := (lN (S i))) ((hf i (by omega)).1) ?_
        refine call_iP (As := [.long (lN (S j)), .long (lN (S i))]) (rest := [.int (nI (c0))]) ⟨hx, hb, hml, hown, hts⟩ (c_X2_lengthShared l (S j) (S i) (hf j (by omega)).2 (hf i (by omega)).2) (va_cwS 2 hts gX0_lengthSharedBefore_X2_lengthShared rfl rfl rfl (by decide +kernel) ⟨Nat.le_of_ble_eq_true rfl, Nat.le_of_ble_eq_true rfl⟩) hP hK hD hS hA rfl hl.1 rfl (Nat.le_of_ble_eq_true rfl) dX0_lengthSharedBefore_22 ⟨Nat.le_refl _, Nat.le_refl _⟩ (fun r_22 H locs h_22 hP hD hS => ?_)
        subst h_22
        have hsh := (shr_le (S j) (S i)).1
        have h10 := (hf j (by omega)).2.1
        refine va_mmax hx hb (by rw [hml]; exact hl.1.symm) hown (hts (.methodLink RX0 50 Lib.Math.max.name) (by decide +kernel)) (hts (.static Lib.Math.max.name) (by decide +kernel)) (hts (.initialized "java/lang/Math") (by decide +kernel)) (hts (.code Lib.Math.max.name Lib.Math.max.code 2 (some .int)) (by decide +kernel)) (Nat.le_of_ble_eq_true rfl) (Nat.le_of_ble_eq_true rfl) (Nat.zero_le _) (Nat.zero_le _) dX0_lengthSharedBefore_25 ?_
        refine tp_i (b := (nI (max (lsF S (S i) j) (shr (S j) (S i))))) (by rw [hc1]; exact max_nI (by have := hls j; omega) (by omega)) ?_
        refine lv_istore_n (lv' := [(2, .int (nI (max (lsF S (S i) j) (shr (S j) (S i))))), (0, .ref (d)), (1, .int (nI (i))), (3, .int (nI (j)))]) hx hb dX0_lengthSharedBefore_28 rfl hl (by decide) rfl (fun ls hl => ?_)
        refine lv_iinc (v := (nI (j + 1))) (lv' := [(3, .int (nI (j + 1))), (2, .int (nI (max (lsF S (S i) j) (shr (S j) (S i))))), (0, .ref (d)), (1, .int (nI (i)))]) hx hb dX0_lengthSharedBefore_29 hl (k := 3) rfl (nI_add (j) 1) (by decide) rfl (fun ls hl => ?_)
        refine lv_goto (tgt := 4) hx hb dX0_lengthSharedBefore_32 (by decide) ?_
        exact ih_4 (j + 1) (max (lsF S (S i) j) (shr (S j) (S i))) (by omega) (by omega) (rfl) _ _ _ hP hD hS (lv_sub hl [2, 3, 1, 0] rfl)
  exact L_4 (_ + 1) 0 0 (Nat.lt_succ_self _) (Nat.zero_le _) (rfl) _ _ _ hP hD hS (lv_sub hl [2, 3, 1, 0] rfl)

abbrev rm_X0_countBeginnings : Room := { frames := 4, cells := 0, slots := 0, locals := 92 }
set_option maxHeartbeats 4000000 in
set_option maxRecDepth 100000 in
theorem c_X0_countBeginnings (l : Launch) (g : GG) (d v : Nat) (f : Nat → Int64) (S : Nat → Nat) (cnt ll : Nat) (hf : DR f S cnt) (hc : cnt ≤ 50) : Ci l yX0_countBeginnings wsX0_countBeginnings rm_X0_countBeginnings g [.ref (d)] (DW g d v f (nI cnt) (nI ll)) (fun r w => w = (DW g d v f (nI cnt) (nI ll)) ∧ r = nI (bgnN S cnt)) := by
  refine Ci.ofI (cc := cX0_countBeginnings) (maxL := 3) (by decide) rfl (Nat.le_of_ble_eq_true rfl) ?_
  intro p e s m args below meth c A Z hx hb hml hts hown hK hA hret H locs ls hP hD hS hl
  have f_9 := hts (.fieldLink RX0 9 "GhostGame$Dictionary" "words" "[J") (by decide +kernel)
  have f_15 := hts (.fieldLink RX0 15 "GhostGame$Dictionary" "count" "I") (by decide +kernel)
  have hi_0 : ∀ w ∈ wsX00, w ∈ wsX0_countBeginnings := by decide +kernel
  have hl : lv_has ls 3 [(0, .ref (d))] := hl
  refine lv_iconst (v := nI 1) hx hb dX0_countBeginnings_0 (by decide) ?_
  refine lv_istore_n (lv' := [(1, .int (nI (1))), (0, .ref (d))]) hx hb dX0_countBeginnings_1 rfl hl (by decide) rfl (fun ls hl => ?_)
  refine lv_iconst (v := nI 0) hx hb dX0_countBeginnings_2 (by decide) ?_
  refine lv_istore_n (lv' := [(2, .int (nI (0))), (1, .int (nI (1))), (0, .ref (d))]) hx hb dX0_countBeginnings_3 rfl hl (by decide) rfl (fun ls hl => ?_)
  have L_4 : ∀ (fu : Nat) (i c0 : Nat), cnt - i < fu → (i ≤ cnt) → (c0 = bgnN S i) → ∀ (H : Heap) (locs : List Loc) (ls : Array Slot), va_P g.1 vwCl (DW g d v f (nI cnt) (nI ll)) H → va_D A (DW g d v f (nI cnt) (nI ll)) → va_S A s.heap H locs → lv_has ls 3 [(0, .ref (d)), (1, .int (nI (c0))), (2, .int (nI (i)))] → W p l e rm_X0_countBeginnings s m args below meth c H locs 0 0 Z (F0 m 4 ls []) := by
    intro fu
    induction fu with
    | zero => intro _ _ h0; exact absurd h0 (Nat.not_lt_zero _)
    | succ fu ih_4 =>
      intro i c0 hfu hi1 hc1 H locs ls hP hD hS hl
      refine lv_iload_n hx hb dX0_countBeginnings_4 rfl (lv_at hl 2 rfl) ?_
      refine lv_aload_n hx hb dX0_countBeginnings_5 rfl (lv_at hl 0 rfl) ?_
      refine va_get (D := g.1) (ci := 0) (v := .int (nI (cnt))) (C := RX0) (T := TX0) (N := 3) hx hb hts hi_0 hown hK hP 0 rfl rfl 1 (by decide) f_15 (fun _ h9 => h9) rfl dX0_countBeginnings_6 ?_
      refine lv_icmp_ge (tgt := 36) hx hb dX0_countBeginnings_9 (by decide) (fun c_9_1 => ?_) (fun c_9_1 => ?_)
      · skip
        have n_9_1 : cnt ≤ i := (nI_leI (a := cnt) (b := i) (by omega) (by omega)).mp c_9_1
        refine lv_iload_n hx hb dX0_countBeginnings_36 rfl (lv_at hl 1 rfl) ?_
        exact hret (nI (c0)) (DW g d v f (nI cnt) (nI ll)) _ _ _ _ dX0_countBeginnings_37 (⟨rfl, by rw [hc1, show i = cnt by omega]⟩) hP hD hS
      · skip
        have n_9_1 : ¬ cnt ≤ i := fun q9 => c_9_1 ((nI_leI (a := cnt) (b := i) (by omega) (by omega)).mpr q9)
        refine lv_iload_n hx hb dX0_countBeginnings_12 rfl (lv_at hl 1 rfl) ?_
        refine lv_aload_n hx hb dX0_countBeginnings_13 rfl (lv_at hl 0 rfl) ?_
        refine va_get (D := g.1) (ci := 0) (v := .ref (v)) (C := RX0) (T := TX0) (N := 3) hx hb hts hi_0 hown hK hP 0 rfl rfl 0 (by decide) f_9 (fun _ h9 => h9) rfl dX0_countBeginnings_14 ?_
        refine lv_iload_n hx hb dX0_countBeginnings_17 rfl (lv_at hl 2 rfl) ?_
        refine va_lald (n := 50) (f := f) hx hb hK hP 1 1 rfl rfl (vp_in_nI (n := i) (by omega) (by decide)) dX0_countBeginnings_18 ?_
        refine tp_l (congrArg f (nI_clamp (n := i) (by omega))) ?_
        refine tp_l (b := (lN (S i))) ((hf i (by omega)).1) ?_
        refine call_iP (As := [.long (lN (S i))]) (rest := [.int (nI (c0))]) ⟨hx, hb, hml, hown, hts⟩ (c_X2_lengthOf l (S i) ((hf i (by omega)).2).lt) (va_cwS 1 hts gX0_countBeginnings_X2_lengthOf rfl rfl rfl (by decide +kernel) ⟨Nat.le_of_ble_eq_true rfl, Nat.le_of_ble_eq_true rfl⟩) hP hK hD hS hA rfl hl.1 rfl (Nat.le_of_ble_eq_true rfl) dX0_countBeginnings_19 ⟨Nat.le_refl _, Nat.le_refl _⟩ (fun r_19 H locs h_19 hP hD hS => ?_)
        subst h_19
        refine lv_aload_n hx hb dX0_countBeginnings_22 rfl (lv_at hl 0 rfl) ?_
        refine lv_iload_n hx hb dX0_countBeginnings_23 rfl (lv_at hl 2 rfl) ?_
        refine call_iVW (As := [.int (nI (i))]) (rest := [.int (nI (rwL (S i))), .int (nI (c0))]) ⟨hx, hb, hml, hown, hts⟩ (c_X0_lengthSharedBefore l g d v f S cnt ll hf hc i (by omega)) (cwV 1 hts gX0_countBeginnings_X0_lengthSharedBefore rfl rfl rfl (by decide +kernel) ⟨Nat.le_of_ble_eq_true rfl, Nat.le_of_ble_eq_true rfl⟩) hP hK hD hS hA 0 rfl rfl rfl rfl hl.1 rfl (Nat.le_of_ble_eq_true rfl) dX0_countBeginnings_24 ⟨Nat.le_refl _, Nat.le_refl _⟩ (fun r_24 w H locs h_24 hP hD hS => ?_)
        obtain ⟨rfl, h_24⟩ := h_24
        subst h_24
        have hls := lsF_le S (S i) i
        have hP : va_P g.1 vwCl (DW g d v f (nI cnt) (nI ll)) H := hP
        have hD : va_D A (DW g d v f (nI cnt) (nI ll)) := hD
        refine lv_isub hx hb dX0_countBeginnings_27 ?_
        refine tp_i (pk_sub (a := rwL (S i)) (b := lsF S (S i) i) (by omega)) ?_
        refine lv_iadd hx hb dX0_countBeginnings_28 ?_
        refine tp_i (nI_add c0 ((rwL (S i)) - (lsF S (S i) i))) ?_
        refine lv_istore_n (lv' := [(1, .int (nI (c0 + ((rwL (S i)) - (lsF S (S i) i))))), (0, .ref (d)), (2, .int (nI (i)))]) hx hb dX0_countBeginnings_29 rfl hl (by decide) rfl (fun ls hl => ?_)
        refine lv_iinc (v := (nI (i + 1))) (lv' := [(2, .int (nI (i + 1))), (1, .int (nI (c0 + ((rwL (S i)) - (lsF S (S i) i))))), (0, .ref (d))]) hx hb dX0_countBeginnings_30 hl (k := 2) rfl (nI_add (i) 1) (by decide) rfl (fun ls hl => ?_)
        refine lv_goto (tgt := 4) hx hb dX0_countBeginnings_33 (by decide) ?_
        exact ih_4 (i + 1) (c0 + ((rwL (S i)) - (lsF S (S i) i))) (by omega) (by omega) (by rw [hc1]; unfold bgnN; rw [fb_sm_succ]; omega) _ _ _ hP hD hS (lv_sub hl [2, 1, 0] rfl)
  exact L_4 (_ + 1) 0 1 (Nat.lt_succ_self _) (Nat.zero_le _) (rfl) _ _ _ hP hD hS (lv_sub hl [2, 1, 0] rfl)
end
section
theorem dX1_init_0 : decode cX1_init 0 = .ok (.aload_n 0, 1) := by decide +kernel
theorem dX1_init_1 : decode cX1_init 1 = .ok (.invokespecial 3, 3) := by decide +kernel
theorem dX1_init_4 : decode cX1_init 4 = .ok (.aload_n 0, 1) := by decide +kernel
theorem dX1_init_5 : decode cX1_init 5 = .ok (.iconst 4, 1) := by decide +kernel
theorem dX1_init_6 : decode cX1_init 6 = .ok (.newarray .int, 2) := by decide +kernel
theorem dX1_init_8 : decode cX1_init 8 = .ok (.putfield 9, 3) := by decide +kernel
theorem dX1_init_11 : decode cX1_init 11 = .ok (.aload_n 0, 1) := by decide +kernel
theorem dX1_init_12 : decode cX1_init 12 = .ok (.iconst 0, 1) := by decide +kernel
theorem dX1_init_13 : decode cX1_init 13 = .ok (.putfield 15, 3) := by decide +kernel
theorem dX1_init_16 : decode cX1_init 16 = .ok (.aload_n 0, 1) := by decide +kernel
theorem dX1_init_17 : decode cX1_init 17 = .ok (.iconst (-1), 1) := by decide +kernel
theorem dX1_init_18 : decode cX1_init 18 = .ok (.putfield 19, 3) := by decide +kernel
theorem dX1_init_21 : decode cX1_init 21 = .ok (.aload_n 0, 1) := by decide +kernel
theorem dX1_init_22 : decode cX1_init 22 = .ok (.iconst (-1), 1) := by decide +kernel
theorem dX1_init_23 : decode cX1_init 23 = .ok (.putfield 22, 3) := by decide +kernel
theorem dX1_init_26 : decode cX1_init 26 = .ok (.aload_n 0, 1) := by decide +kernel
theorem dX1_init_27 : decode cX1_init 27 = .ok (.iconst (-1), 1) := by decide +kernel
theorem dX1_init_28 : decode cX1_init 28 = .ok (.putfield 25, 3) := by decide +kernel
theorem dX1_init_31 : decode cX1_init 31 = .ok (.aload_n 0, 1) := by decide +kernel
theorem dX1_init_32 : decode cX1_init 32 = .ok (.lconst 0, 1) := by decide +kernel
theorem dX1_init_33 : decode cX1_init 33 = .ok (.putfield 30, 3) := by decide +kernel
theorem dX1_init_36 : decode cX1_init 36 = .ok (.return_, 1) := by decide +kernel
theorem dX1_begin_0 : decode cX1_begin 0 = .ok (.iconst 0, 1) := by decide +kernel
theorem dX1_begin_1 : decode cX1_begin 1 = .ok (.istore_n 2, 1) := by decide +kernel
theorem dX1_begin_2 : decode cX1_begin 2 = .ok (.iload_n 2, 1) := by decide +kernel
theorem dX1_begin_3 : decode cX1_begin 3 = .ok (.aload_n 0, 1) := by decide +kernel
theorem dX1_begin_4 : decode cX1_begin 4 = .ok (.getfield 9, 3) := by decide +kernel
theorem dX1_begin_7 : decode cX1_begin 7 = .ok (.arraylength, 1) := by decide +kernel
theorem dX1_begin_8 : decode cX1_begin 8 = .ok (.if_icmp .ge 16, 3) := by decide +kernel
theorem dX1_begin_11 : decode cX1_begin 11 = .ok (.aload_n 0, 1) := by decide +kernel
theorem dX1_begin_12 : decode cX1_begin 12 = .ok (.getfield 9, 3) := by decide +kernel
theorem dX1_begin_15 : decode cX1_begin 15 = .ok (.iload_n 2, 1) := by decide +kernel
theorem dX1_begin_16 : decode cX1_begin 16 = .ok (.iconst 0, 1) := by decide +kernel
theorem dX1_begin_17 : decode cX1_begin 17 = .ok (.iastore, 1) := by decide +kernel
theorem dX1_begin_18 : decode cX1_begin 18 = .ok (.iinc 2 1, 3) := by decide +kernel
theorem dX1_begin_21 : decode cX1_begin 21 = .ok (.goto (-19), 3) := by decide +kernel
theorem dX1_begin_24 : decode cX1_begin 24 = .ok (.aload_n 0, 1) := by decide +kernel
theorem dX1_begin_25 : decode cX1_begin 25 = .ok (.iload_n 1, 1) := by decide +kernel
theorem dX1_begin_26 : decode cX1_begin 26 = .ok (.putfield 15, 3) := by decide +kernel
theorem dX1_begin_29 : decode cX1_begin 29 = .ok (.aload_n 0, 1) := by decide +kernel
theorem dX1_begin_30 : decode cX1_begin 30 = .ok (.iconst 0, 1) := by decide +kernel
theorem dX1_begin_31 : decode cX1_begin 31 = .ok (.putfield 19, 3) := by decide +kernel
theorem dX1_begin_34 : decode cX1_begin 34 = .ok (.aload_n 0, 1) := by decide +kernel
theorem dX1_begin_35 : decode cX1_begin 35 = .ok (.iconst (-1), 1) := by decide +kernel
theorem dX1_begin_36 : decode cX1_begin 36 = .ok (.putfield 22, 3) := by decide +kernel
theorem dX1_begin_39 : decode cX1_begin 39 = .ok (.aload_n 0, 1) := by decide +kernel
theorem dX1_begin_40 : decode cX1_begin 40 = .ok (.iconst (-1), 1) := by decide +kernel
theorem dX1_begin_41 : decode cX1_begin 41 = .ok (.putfield 25, 3) := by decide +kernel
theorem dX1_begin_44 : decode cX1_begin 44 = .ok (.aload_n 0, 1) := by decide +kernel
theorem dX1_begin_45 : decode cX1_begin 45 = .ok (.lconst 0, 1) := by decide +kernel
theorem dX1_begin_46 : decode cX1_begin 46 = .ok (.putfield 30, 3) := by decide +kernel
theorem dX1_begin_49 : decode cX1_begin 49 = .ok (.return_, 1) := by decide +kernel
theorem dX1_isOn_0 : decode cX1_isOn 0 = .ok (.aload_n 0, 1) := by decide +kernel
theorem dX1_isOn_1 : decode cX1_isOn 1 = .ok (.getfield 19, 3) := by decide +kernel
theorem dX1_isOn_4 : decode cX1_isOn 4 = .ok (.iconst (-1), 1) := by decide +kernel
theorem dX1_isOn_5 : decode cX1_isOn 5 = .ok (.if_icmp .eq 7, 3) := by decide +kernel
theorem dX1_isOn_8 : decode cX1_isOn 8 = .ok (.iconst 1, 1) := by decide +kernel
theorem dX1_isOn_9 : decode cX1_isOn 9 = .ok (.goto 4, 3) := by decide +kernel
theorem dX1_isOn_12 : decode cX1_isOn 12 = .ok (.iconst 0, 1) := by decide +kernel
theorem dX1_isOn_13 : decode cX1_isOn 13 = .ok (.ireturn, 1) := by decide +kernel
theorem dX1_mover_0 : decode cX1_mover 0 = .ok (.aload_n 0, 1) := by decide +kernel
theorem dX1_mover_1 : decode cX1_mover 1 = .ok (.getfield 19, 3) := by decide +kernel
theorem dX1_mover_4 : decode cX1_mover 4 = .ok (.ireturn, 1) := by decide +kernel
theorem dX1_champion_0 : decode cX1_champion 0 = .ok (.aload_n 0, 1) := by decide +kernel
theorem dX1_champion_1 : decode cX1_champion 1 = .ok (.getfield 25, 3) := by decide +kernel
theorem dX1_champion_4 : decode cX1_champion 4 = .ok (.ireturn, 1) := by decide +kernel
theorem dX1_playerCount_0 : decode cX1_playerCount 0 = .ok (.aload_n 0, 1) := by decide +kernel
theorem dX1_playerCount_1 : decode cX1_playerCount 1 = .ok (.getfield 15, 3) := by decide +kernel
theorem dX1_playerCount_4 : decode cX1_playerCount 4 = .ok (.ireturn, 1) := by decide +kernel
theorem dX1_fragment_0 : decode cX1_fragment 0 = .ok (.aload_n 0, 1) := by decide +kernel
theorem dX1_fragment_1 : decode cX1_fragment 1 = .ok (.getfield 30, 3) := by decide +kernel
theorem dX1_fragment_4 : decode cX1_fragment 4 = .ok (.lreturn, 1) := by decide +kernel
set_option maxRecDepth 20000 in
theorem ggX1_strikesOf_X1_hasPlayer : GoodIn wsX1_strikesOf wsX1_hasPlayer := goodIn_r _ [6, 7, 1, 8, 9, 10, 11, 12, 13] (by decide +kernel) (by decide +kernel)
set_option maxRecDepth 20000 in
theorem gX1_strikesOf_X1_hasPlayer : GoodIn wsX1_strikesOf (wsV RX1 34 RX1 yX1_hasPlayer wsX1_hasPlayer) := goodIn_app (goodIn_of _ (by decide +kernel)) ggX1_strikesOf_X1_hasPlayer
theorem dX1_strikesOf_0 : decode cX1_strikesOf 0 = .ok (.aload_n 0, 1) := by decide +kernel
theorem dX1_strikesOf_1 : decode cX1_strikesOf 1 = .ok (.iload_n 1, 1) := by decide +kernel
theorem dX1_strikesOf_2 : decode cX1_strikesOf 2 = .ok (.invokevirtual 34, 3) := by decide +kernel
theorem dX1_strikesOf_5 : decode cX1_strikesOf 5 = .ok (.ifCond .eq 12, 3) := by decide +kernel
theorem dX1_strikesOf_8 : decode cX1_strikesOf 8 = .ok (.aload_n 0, 1) := by decide +kernel
theorem dX1_strikesOf_9 : decode cX1_strikesOf 9 = .ok (.getfield 9, 3) := by decide +kernel
theorem dX1_strikesOf_12 : decode cX1_strikesOf 12 = .ok (.iload_n 1, 1) := by decide +kernel
theorem dX1_strikesOf_13 : decode cX1_strikesOf 13 = .ok (.iaload, 1) := by decide +kernel
theorem dX1_strikesOf_14 : decode cX1_strikesOf 14 = .ok (.goto 4, 3) := by decide +kernel
theorem dX1_strikesOf_17 : decode cX1_strikesOf 17 = .ok (.iconst (-1), 1) := by decide +kernel
theorem dX1_strikesOf_18 : decode cX1_strikesOf 18 = .ok (.ireturn, 1) := by decide +kernel
set_option maxRecDepth 20000 in
theorem ggX1_addLetter_X2_with : GoodIn wsX1_addLetter wsX2_with := goodIn_r _ [7, 8, 9, 10, 6, 11, 12, 13, 14] (by decide +kernel) (by decide +kernel)
set_option maxRecDepth 20000 in
theorem gX1_addLetter_X2_with : GoodIn wsX1_addLetter (va_wsS RX1 38 yX2_with wsX2_with) := goodIn_app (goodIn_of _ (by decide +kernel)) ggX1_addLetter_X2_with
set_option maxRecDepth 20000 in
theorem ggX1_addLetter_X0_hasCounting : GoodIn wsX1_addLetter wsX0_hasCounting := goodIn_r _ [19, 20, 21, 22, 18, 23, 24, 25, 10, 6, 11, 26, 27, 28, 29, 30, 31, 32, 33, 34, 35, 70, 71, 72] (by decide +kernel) (by decide +kernel)
set_option maxRecDepth 20000 in
theorem gX1_addLetter_X0_hasCounting : GoodIn wsX1_addLetter (wsV RX1 42 RX0 yX0_hasCounting wsX0_hasCounting) := goodIn_app (goodIn_of _ (by decide +kernel)) ggX1_addLetter_X0_hasCounting
set_option maxRecDepth 20000 in
theorem ggX1_addLetter_X1_endRound : GoodIn wsX1_addLetter wsX1_endRound := goodIn_r _ [40, 41, 1, 42, 2, 43, 44, 45, 39, 46, 47, 48, 49, 50, 51, 52, 53, 54, 55, 56, 57, 58, 59, 60, 61, 62, 63, 64, 65, 66, 67, 68, 69] (by decide +kernel) (by decide +kernel)
set_option maxRecDepth 20000 in
theorem gX1_addLetter_X1_endRound : GoodIn wsX1_addLetter (wsV RX1 48 RX1 yX1_endRound wsX1_endRound) := goodIn_app (goodIn_of _ (by decide +kernel)) ggX1_addLetter_X1_endRound
set_option maxRecDepth 20000 in
theorem ggX1_addLetter_X1_nextBehind : GoodIn wsX1_addLetter wsX1_nextBehind := goodIn_r _ [63, 47, 52, 53, 54, 39, 55, 56, 57, 58, 59, 41, 43, 44, 45, 46, 64, 65, 66, 67, 68, 69] (by decide +kernel) (by decide +kernel)
set_option maxRecDepth 20000 in
theorem gX1_addLetter_X1_nextBehind : GoodIn wsX1_addLetter (wsV RX1 52 RX1 yX1_nextBehind wsX1_nextBehind) := goodIn_app (goodIn_of _ (by decide +kernel)) ggX1_addLetter_X1_nextBehind
theorem dX1_addLetter_0 : decode cX1_addLetter 0 = .ok (.aload_n 0, 1) := by decide +kernel
theorem dX1_addLetter_1 : decode cX1_addLetter 1 = .ok (.aload_n 0, 1) := by decide +kernel
theorem dX1_addLetter_2 : decode cX1_addLetter 2 = .ok (.getfield 30, 3) := by decide +kernel
theorem dX1_addLetter_5 : decode cX1_addLetter 5 = .ok (.iload_n 1, 1) := by decide +kernel
theorem dX1_addLetter_6 : decode cX1_addLetter 6 = .ok (.invokestatic 38, 3) := by decide +kernel
theorem dX1_addLetter_9 : decode cX1_addLetter 9 = .ok (.putfield 30, 3) := by decide +kernel
theorem dX1_addLetter_12 : decode cX1_addLetter 12 = .ok (.aload_n 2, 1) := by decide +kernel
theorem dX1_addLetter_13 : decode cX1_addLetter 13 = .ok (.aload_n 0, 1) := by decide +kernel
theorem dX1_addLetter_14 : decode cX1_addLetter 14 = .ok (.getfield 30, 3) := by decide +kernel
theorem dX1_addLetter_17 : decode cX1_addLetter 17 = .ok (.invokevirtual 42, 3) := by decide +kernel
theorem dX1_addLetter_20 : decode cX1_addLetter 20 = .ok (.ifCond .eq 12, 3) := by decide +kernel
theorem dX1_addLetter_23 : decode cX1_addLetter 23 = .ok (.aload_n 0, 1) := by decide +kernel
theorem dX1_addLetter_24 : decode cX1_addLetter 24 = .ok (.aload_n 0, 1) := by decide +kernel
theorem dX1_addLetter_25 : decode cX1_addLetter 25 = .ok (.getfield 19, 3) := by decide +kernel
theorem dX1_addLetter_28 : decode cX1_addLetter 28 = .ok (.invokevirtual 48, 3) := by decide +kernel
theorem dX1_addLetter_31 : decode cX1_addLetter 31 = .ok (.ireturn, 1) := by decide +kernel
theorem dX1_addLetter_32 : decode cX1_addLetter 32 = .ok (.aload_n 0, 1) := by decide +kernel
theorem dX1_addLetter_33 : decode cX1_addLetter 33 = .ok (.aload_n 0, 1) := by decide +kernel
theorem dX1_addLetter_34 : decode cX1_addLetter 34 = .ok (.getfield 19, 3) := by decide +kernel
theorem dX1_addLetter_37 : decode cX1_addLetter 37 = .ok (.putfield 22, 3) := by decide +kernel
theorem dX1_addLetter_40 : decode cX1_addLetter 40 = .ok (.aload_n 0, 1) := by decide +kernel
theorem dX1_addLetter_41 : decode cX1_addLetter 41 = .ok (.aload_n 0, 1) := by decide +kernel
theorem dX1_addLetter_42 : decode cX1_addLetter 42 = .ok (.aload_n 0, 1) := by decide +kernel
theorem dX1_addLetter_43 : decode cX1_addLetter 43 = .ok (.getfield 19, 3) := by decide +kernel
theorem dX1_addLetter_46 : decode cX1_addLetter 46 = .ok (.invokevirtual 52, 3) := by decide +kernel
theorem dX1_addLetter_49 : decode cX1_addLetter 49 = .ok (.putfield 19, 3) := by decide +kernel
theorem dX1_addLetter_52 : decode cX1_addLetter 52 = .ok (.iconst (-1), 1) := by decide +kernel
theorem dX1_addLetter_53 : decode cX1_addLetter 53 = .ok (.ireturn, 1) := by decide +kernel
set_option maxRecDepth 20000 in
theorem ggX1_settleChallenge_X0_hasCountingFrom : GoodIn wsX1_settleChallenge wsX0_hasCountingFrom := goodIn_r _ [8, 9, 10, 11, 12, 13, 7, 14, 15, 16, 17, 18, 19, 20, 21, 22, 23, 24, 59, 60, 61] (by decide +kernel) (by decide +kernel)
set_option maxRecDepth 20000 in
theorem gX1_settleChallenge_X0_hasCountingFrom : GoodIn wsX1_settleChallenge (wsV RX1 55 RX0 yX0_hasCountingFrom wsX0_hasCountingFrom) := goodIn_app (goodIn_of _ (by decide +kernel)) ggX1_settleChallenge_X0_hasCountingFrom
set_option maxRecDepth 20000 in
theorem ggX1_settleChallenge_X1_endRound : GoodIn wsX1_settleChallenge wsX1_endRound := goodIn_r _ [29, 30, 1, 31, 2, 32, 33, 34, 28, 35, 36, 37, 38, 39, 40, 41, 42, 43, 44, 45, 46, 47, 48, 49, 50, 51, 52, 53, 54, 55, 56, 57, 58] (by decide +kernel) (by decide +kernel)
set_option maxRecDepth 20000 in
theorem gX1_settleChallenge_X1_endRound : GoodIn wsX1_settleChallenge (wsV RX1 48 RX1 yX1_endRound wsX1_endRound) := goodIn_app (goodIn_of _ (by decide +kernel)) ggX1_settleChallenge_X1_endRound
theorem dX1_settleChallenge_0 : decode cX1_settleChallenge 0 = .ok (.aload_n 0, 1) := by decide +kernel
theorem dX1_settleChallenge_1 : decode cX1_settleChallenge 1 = .ok (.aload_n 1, 1) := by decide +kernel
theorem dX1_settleChallenge_2 : decode cX1_settleChallenge 2 = .ok (.aload_n 0, 1) := by decide +kernel
theorem dX1_settleChallenge_3 : decode cX1_settleChallenge 3 = .ok (.getfield 30, 3) := by decide +kernel
theorem dX1_settleChallenge_6 : decode cX1_settleChallenge 6 = .ok (.invokevirtual 55, 3) := by decide +kernel
theorem dX1_settleChallenge_9 : decode cX1_settleChallenge 9 = .ok (.ifCond .eq 10, 3) := by decide +kernel
theorem dX1_settleChallenge_12 : decode cX1_settleChallenge 12 = .ok (.aload_n 0, 1) := by decide +kernel
theorem dX1_settleChallenge_13 : decode cX1_settleChallenge 13 = .ok (.getfield 19, 3) := by decide +kernel
theorem dX1_settleChallenge_16 : decode cX1_settleChallenge 16 = .ok (.goto 7, 3) := by decide +kernel
theorem dX1_settleChallenge_19 : decode cX1_settleChallenge 19 = .ok (.aload_n 0, 1) := by decide +kernel
theorem dX1_settleChallenge_20 : decode cX1_settleChallenge 20 = .ok (.getfield 22, 3) := by decide +kernel
theorem dX1_settleChallenge_23 : decode cX1_settleChallenge 23 = .ok (.invokevirtual 48, 3) := by decide +kernel
theorem dX1_settleChallenge_26 : decode cX1_settleChallenge 26 = .ok (.ireturn, 1) := by decide +kernel
set_option maxRecDepth 20000 in
theorem ggX1_endRound_X1_hasPlayer : GoodIn wsX1_endRound wsX1_hasPlayer := goodIn_r _ [9, 10, 1, 27, 28, 29, 30, 31, 32] (by decide +kernel) (by decide +kernel)
set_option maxRecDepth 20000 in
theorem gX1_endRound_X1_hasPlayer : GoodIn wsX1_endRound (wsV RX1 34 RX1 yX1_hasPlayer wsX1_hasPlayer) := goodIn_app (goodIn_of _ (by decide +kernel)) ggX1_endRound_X1_hasPlayer
set_option maxRecDepth 20000 in
theorem ggX1_endRound_X1_playersLeft : GoodIn wsX1_endRound wsX1_playersLeft := goodIn_r _ [14, 10, 15, 16, 17, 8, 18, 19, 20, 21, 22, 1, 5, 6, 7, 9, 27, 28, 29, 30, 31, 32] (by decide +kernel) (by decide +kernel)
set_option maxRecDepth 20000 in
theorem gX1_endRound_X1_playersLeft : GoodIn wsX1_endRound (wsV RX1 58 RX1 yX1_playersLeft wsX1_playersLeft) := goodIn_app (goodIn_of _ (by decide +kernel)) ggX1_endRound_X1_playersLeft
set_option maxRecDepth 20000 in
theorem ggX1_endRound_X1_nextBehind : GoodIn wsX1_endRound wsX1_nextBehind := goodIn_r _ [26, 10, 15, 16, 17, 8, 18, 19, 20, 21, 22, 1, 5, 6, 7, 9, 27, 28, 29, 30, 31, 32] (by decide +kernel) (by decide +kernel)
set_option maxRecDepth 20000 in
theorem gX1_endRound_X1_nextBehind : GoodIn wsX1_endRound (wsV RX1 52 RX1 yX1_nextBehind wsX1_nextBehind) := goodIn_app (goodIn_of _ (by decide +kernel)) ggX1_endRound_X1_nextBehind
set_option maxRecDepth 20000 in
theorem ggX1_endRound_X1_isOut : GoodIn wsX1_endRound wsX1_isOut := goodIn_r _ [18, 19, 20, 21, 8, 22, 1, 5, 6, 7, 9, 10, 27, 28, 29, 30, 31, 32] (by decide +kernel) (by decide +kernel)
set_option maxRecDepth 20000 in
theorem gX1_endRound_X1_isOut : GoodIn wsX1_endRound (wsV RX1 62 RX1 yX1_isOut wsX1_isOut) := goodIn_app (goodIn_of _ (by decide +kernel)) ggX1_endRound_X1_isOut
theorem dX1_endRound_0 : decode cX1_endRound 0 = .ok (.aload_n 0, 1) := by decide +kernel
theorem dX1_endRound_1 : decode cX1_endRound 1 = .ok (.iload_n 1, 1) := by decide +kernel
theorem dX1_endRound_2 : decode cX1_endRound 2 = .ok (.invokevirtual 34, 3) := by decide +kernel
theorem dX1_endRound_5 : decode cX1_endRound 5 = .ok (.ifCond .eq 13, 3) := by decide +kernel
theorem dX1_endRound_8 : decode cX1_endRound 8 = .ok (.aload_n 0, 1) := by decide +kernel
theorem dX1_endRound_9 : decode cX1_endRound 9 = .ok (.getfield 9, 3) := by decide +kernel
theorem dX1_endRound_12 : decode cX1_endRound 12 = .ok (.iload_n 1, 1) := by decide +kernel
theorem dX1_endRound_13 : decode cX1_endRound 13 = .ok (.dup2, 1) := by decide +kernel
theorem dX1_endRound_14 : decode cX1_endRound 14 = .ok (.iaload, 1) := by decide +kernel
theorem dX1_endRound_15 : decode cX1_endRound 15 = .ok (.iconst 1, 1) := by decide +kernel
theorem dX1_endRound_16 : decode cX1_endRound 16 = .ok (.iadd, 1) := by decide +kernel
theorem dX1_endRound_17 : decode cX1_endRound 17 = .ok (.iastore, 1) := by decide +kernel
theorem dX1_endRound_18 : decode cX1_endRound 18 = .ok (.aload_n 0, 1) := by decide +kernel
theorem dX1_endRound_19 : decode cX1_endRound 19 = .ok (.lconst 0, 1) := by decide +kernel
theorem dX1_endRound_20 : decode cX1_endRound 20 = .ok (.putfield 30, 3) := by decide +kernel
theorem dX1_endRound_23 : decode cX1_endRound 23 = .ok (.aload_n 0, 1) := by decide +kernel
theorem dX1_endRound_24 : decode cX1_endRound 24 = .ok (.invokevirtual 58, 3) := by decide +kernel
theorem dX1_endRound_27 : decode cX1_endRound 27 = .ok (.iconst 1, 1) := by decide +kernel
theorem dX1_endRound_28 : decode cX1_endRound 28 = .ok (.if_icmp .ne 20, 3) := by decide +kernel
theorem dX1_endRound_31 : decode cX1_endRound 31 = .ok (.aload_n 0, 1) := by decide +kernel
theorem dX1_endRound_32 : decode cX1_endRound 32 = .ok (.aload_n 0, 1) := by decide +kernel
theorem dX1_endRound_33 : decode cX1_endRound 33 = .ok (.iload_n 1, 1) := by decide +kernel
theorem dX1_endRound_34 : decode cX1_endRound 34 = .ok (.invokevirtual 52, 3) := by decide +kernel
theorem dX1_endRound_37 : decode cX1_endRound 37 = .ok (.putfield 25, 3) := by decide +kernel
theorem dX1_endRound_40 : decode cX1_endRound 40 = .ok (.aload_n 0, 1) := by decide +kernel
theorem dX1_endRound_41 : decode cX1_endRound 41 = .ok (.iconst (-1), 1) := by decide +kernel
theorem dX1_endRound_42 : decode cX1_endRound 42 = .ok (.putfield 19, 3) := by decide +kernel
theorem dX1_endRound_45 : decode cX1_endRound 45 = .ok (.goto 24, 3) := by decide +kernel
theorem dX1_endRound_48 : decode cX1_endRound 48 = .ok (.aload_n 0, 1) := by decide +kernel
theorem dX1_endRound_49 : decode cX1_endRound 49 = .ok (.aload_n 0, 1) := by decide +kernel
theorem dX1_endRound_50 : decode cX1_endRound 50 = .ok (.iload_n 1, 1) := by decide +kernel
theorem dX1_endRound_51 : decode cX1_endRound 51 = .ok (.invokevirtual 62, 3) := by decide +kernel
theorem dX1_endRound_54 : decode cX1_endRound 54 = .ok (.ifCond .eq 11, 3) := by decide +kernel
theorem dX1_endRound_57 : decode cX1_endRound 57 = .ok (.aload_n 0, 1) := by decide +kernel
theorem dX1_endRound_58 : decode cX1_endRound 58 = .ok (.iload_n 1, 1) := by decide +kernel
theorem dX1_endRound_59 : decode cX1_endRound 59 = .ok (.invokevirtual 52, 3) := by decide +kernel
theorem dX1_endRound_62 : decode cX1_endRound 62 = .ok (.goto 4, 3) := by decide +kernel
theorem dX1_endRound_65 : decode cX1_endRound 65 = .ok (.iload_n 1, 1) := by decide +kernel
theorem dX1_endRound_66 : decode cX1_endRound 66 = .ok (.putfield 19, 3) := by decide +kernel
theorem dX1_endRound_69 : decode cX1_endRound 69 = .ok (.iload_n 1, 1) := by decide +kernel
theorem dX1_endRound_70 : decode cX1_endRound 70 = .ok (.ireturn, 1) := by decide +kernel
theorem dX1_hasPlayer_0 : decode cX1_hasPlayer 0 = .ok (.iload_n 1, 1) := by decide +kernel
theorem dX1_hasPlayer_1 : decode cX1_hasPlayer 1 = .ok (.ifCond .lt 24, 3) := by decide +kernel
theorem dX1_hasPlayer_4 : decode cX1_hasPlayer 4 = .ok (.iload_n 1, 1) := by decide +kernel
theorem dX1_hasPlayer_5 : decode cX1_hasPlayer 5 = .ok (.aload_n 0, 1) := by decide +kernel
theorem dX1_hasPlayer_6 : decode cX1_hasPlayer 6 = .ok (.getfield 15, 3) := by decide +kernel
theorem dX1_hasPlayer_9 : decode cX1_hasPlayer 9 = .ok (.if_icmp .ge 16, 3) := by decide +kernel
theorem dX1_hasPlayer_12 : decode cX1_hasPlayer 12 = .ok (.iload_n 1, 1) := by decide +kernel
theorem dX1_hasPlayer_13 : decode cX1_hasPlayer 13 = .ok (.aload_n 0, 1) := by decide +kernel
theorem dX1_hasPlayer_14 : decode cX1_hasPlayer 14 = .ok (.getfield 9, 3) := by decide +kernel
theorem dX1_hasPlayer_17 : decode cX1_hasPlayer 17 = .ok (.arraylength, 1) := by decide +kernel
theorem dX1_hasPlayer_18 : decode cX1_hasPlayer 18 = .ok (.if_icmp .ge 7, 3) := by decide +kernel
theorem dX1_hasPlayer_21 : decode cX1_hasPlayer 21 = .ok (.iconst 1, 1) := by decide +kernel
theorem dX1_hasPlayer_22 : decode cX1_hasPlayer 22 = .ok (.goto 4, 3) := by decide +kernel
theorem dX1_hasPlayer_25 : decode cX1_hasPlayer 25 = .ok (.iconst 0, 1) := by decide +kernel
theorem dX1_hasPlayer_26 : decode cX1_hasPlayer 26 = .ok (.ireturn, 1) := by decide +kernel
set_option maxRecDepth 20000 in
theorem ggX1_isOut_X1_strikesOf : GoodIn wsX1_isOut wsX1_strikesOf := goodIn_r _ [5, 6, 7, 8, 9, 4, 10, 11, 12, 13, 14, 15, 16, 17] (by decide +kernel) (by decide +kernel)
set_option maxRecDepth 20000 in
theorem gX1_isOut_X1_strikesOf : GoodIn wsX1_isOut (wsV RX1 65 RX1 yX1_strikesOf wsX1_strikesOf) := goodIn_app (goodIn_of _ (by decide +kernel)) ggX1_isOut_X1_strikesOf
theorem dX1_isOut_0 : decode cX1_isOut 0 = .ok (.aload_n 0, 1) := by decide +kernel
theorem dX1_isOut_1 : decode cX1_isOut 1 = .ok (.iload_n 1, 1) := by decide +kernel
theorem dX1_isOut_2 : decode cX1_isOut 2 = .ok (.invokevirtual 65, 3) := by decide +kernel
theorem dX1_isOut_5 : decode cX1_isOut 5 = .ok (.iconst 5, 1) := by decide +kernel
theorem dX1_isOut_6 : decode cX1_isOut 6 = .ok (.if_icmp .lt 7, 3) := by decide +kernel
theorem dX1_isOut_9 : decode cX1_isOut 9 = .ok (.iconst 1, 1) := by decide +kernel
theorem dX1_isOut_10 : decode cX1_isOut 10 = .ok (.goto 4, 3) := by decide +kernel
theorem dX1_isOut_13 : decode cX1_isOut 13 = .ok (.iconst 0, 1) := by decide +kernel
theorem dX1_isOut_14 : decode cX1_isOut 14 = .ok (.ireturn, 1) := by decide +kernel
set_option maxRecDepth 20000 in
theorem ggX1_playersLeft_X1_isOut : GoodIn wsX1_playersLeft wsX1_isOut := goodIn_r _ [6, 7, 8, 9, 5, 10, 11, 12, 13, 14, 15, 1, 16, 17, 18, 19, 20, 21] (by decide +kernel) (by decide +kernel)
set_option maxRecDepth 20000 in
theorem gX1_playersLeft_X1_isOut : GoodIn wsX1_playersLeft (wsV RX1 62 RX1 yX1_isOut wsX1_isOut) := goodIn_app (goodIn_of _ (by decide +kernel)) ggX1_playersLeft_X1_isOut
theorem dX1_playersLeft_0 : decode cX1_playersLeft 0 = .ok (.iconst 0, 1) := by decide +kernel
theorem dX1_playersLeft_1 : decode cX1_playersLeft 1 = .ok (.istore_n 1, 1) := by decide +kernel
theorem dX1_playersLeft_2 : decode cX1_playersLeft 2 = .ok (.iconst 0, 1) := by decide +kernel
theorem dX1_playersLeft_3 : decode cX1_playersLeft 3 = .ok (.istore_n 2, 1) := by decide +kernel
theorem dX1_playersLeft_4 : decode cX1_playersLeft 4 = .ok (.iload_n 2, 1) := by decide +kernel
theorem dX1_playersLeft_5 : decode cX1_playersLeft 5 = .ok (.aload_n 0, 1) := by decide +kernel
theorem dX1_playersLeft_6 : decode cX1_playersLeft 6 = .ok (.getfield 15, 3) := by decide +kernel
theorem dX1_playersLeft_9 : decode cX1_playersLeft 9 = .ok (.if_icmp .ge 20, 3) := by decide +kernel
theorem dX1_playersLeft_12 : decode cX1_playersLeft 12 = .ok (.aload_n 0, 1) := by decide +kernel
theorem dX1_playersLeft_13 : decode cX1_playersLeft 13 = .ok (.iload_n 2, 1) := by decide +kernel
theorem dX1_playersLeft_14 : decode cX1_playersLeft 14 = .ok (.invokevirtual 62, 3) := by decide +kernel
theorem dX1_playersLeft_17 : decode cX1_playersLeft 17 = .ok (.ifCond .ne 6, 3) := by decide +kernel
theorem dX1_playersLeft_20 : decode cX1_playersLeft 20 = .ok (.iinc 1 1, 3) := by decide +kernel
theorem dX1_playersLeft_23 : decode cX1_playersLeft 23 = .ok (.iinc 2 1, 3) := by decide +kernel
theorem dX1_playersLeft_26 : decode cX1_playersLeft 26 = .ok (.goto (-22), 3) := by decide +kernel
theorem dX1_playersLeft_29 : decode cX1_playersLeft 29 = .ok (.iload_n 1, 1) := by decide +kernel
theorem dX1_playersLeft_30 : decode cX1_playersLeft 30 = .ok (.ireturn, 1) := by decide +kernel
set_option maxRecDepth 20000 in
theorem ggX1_nextBehind_X1_isOut : GoodIn wsX1_nextBehind wsX1_isOut := goodIn_r _ [6, 7, 8, 9, 5, 10, 11, 12, 13, 14, 15, 1, 16, 17, 18, 19, 20, 21] (by decide +kernel) (by decide +kernel)
set_option maxRecDepth 20000 in
theorem gX1_nextBehind_X1_isOut : GoodIn wsX1_nextBehind (wsV RX1 62 RX1 yX1_isOut wsX1_isOut) := goodIn_app (goodIn_of _ (by decide +kernel)) ggX1_nextBehind_X1_isOut
theorem dX1_nextBehind_0 : decode cX1_nextBehind 0 = .ok (.iload_n 1, 1) := by decide +kernel
theorem dX1_nextBehind_1 : decode cX1_nextBehind 1 = .ok (.istore_n 2, 1) := by decide +kernel
theorem dX1_nextBehind_2 : decode cX1_nextBehind 2 = .ok (.iconst 0, 1) := by decide +kernel
theorem dX1_nextBehind_3 : decode cX1_nextBehind 3 = .ok (.istore_n 3, 1) := by decide +kernel
theorem dX1_nextBehind_4 : decode cX1_nextBehind 4 = .ok (.iload_n 3, 1) := by decide +kernel
theorem dX1_nextBehind_5 : decode cX1_nextBehind 5 = .ok (.aload_n 0, 1) := by decide +kernel
theorem dX1_nextBehind_6 : decode cX1_nextBehind 6 = .ok (.getfield 15, 3) := by decide +kernel
theorem dX1_nextBehind_9 : decode cX1_nextBehind 9 = .ok (.if_icmp .ge 37, 3) := by decide +kernel
theorem dX1_nextBehind_12 : decode cX1_nextBehind 12 = .ok (.iload_n 2, 1) := by decide +kernel
theorem dX1_nextBehind_13 : decode cX1_nextBehind 13 = .ok (.iconst 1, 1) := by decide +kernel
theorem dX1_nextBehind_14 : decode cX1_nextBehind 14 = .ok (.iadd, 1) := by decide +kernel
theorem dX1_nextBehind_15 : decode cX1_nextBehind 15 = .ok (.aload_n 0, 1) := by decide +kernel
theorem dX1_nextBehind_16 : decode cX1_nextBehind 16 = .ok (.getfield 15, 3) := by decide +kernel
theorem dX1_nextBehind_19 : decode cX1_nextBehind 19 = .ok (.if_icmp .ge 9, 3) := by decide +kernel
theorem dX1_nextBehind_22 : decode cX1_nextBehind 22 = .ok (.iload_n 2, 1) := by decide +kernel
theorem dX1_nextBehind_23 : decode cX1_nextBehind 23 = .ok (.iconst 1, 1) := by decide +kernel
theorem dX1_nextBehind_24 : decode cX1_nextBehind 24 = .ok (.iadd, 1) := by decide +kernel
theorem dX1_nextBehind_25 : decode cX1_nextBehind 25 = .ok (.goto 4, 3) := by decide +kernel
theorem dX1_nextBehind_28 : decode cX1_nextBehind 28 = .ok (.iconst 0, 1) := by decide +kernel
theorem dX1_nextBehind_29 : decode cX1_nextBehind 29 = .ok (.istore_n 2, 1) := by decide +kernel
theorem dX1_nextBehind_30 : decode cX1_nextBehind 30 = .ok (.aload_n 0, 1) := by decide +kernel
theorem dX1_nextBehind_31 : decode cX1_nextBehind 31 = .ok (.iload_n 2, 1) := by decide +kernel
theorem dX1_nextBehind_32 : decode cX1_nextBehind 32 = .ok (.invokevirtual 62, 3) := by decide +kernel
theorem dX1_nextBehind_35 : decode cX1_nextBehind 35 = .ok (.ifCond .ne 5, 3) := by decide +kernel
theorem dX1_nextBehind_38 : decode cX1_nextBehind 38 = .ok (.iload_n 2, 1) := by decide +kernel
theorem dX1_nextBehind_39 : decode cX1_nextBehind 39 = .ok (.ireturn, 1) := by decide +kernel
theorem dX1_nextBehind_40 : decode cX1_nextBehind 40 = .ok (.iinc 3 1, 3) := by decide +kernel
theorem dX1_nextBehind_43 : decode cX1_nextBehind 43 = .ok (.goto (-39), 3) := by decide +kernel
theorem dX1_nextBehind_46 : decode cX1_nextBehind 46 = .ok (.iconst (-1), 1) := by decide +kernel
theorem dX1_nextBehind_47 : decode cX1_nextBehind 47 = .ok (.ireturn, 1) := by decide +kernel
end
section
/-! the class's game: k holds the strikes K 0 .. K 3 -/
def GK (k : Nat → Int32) (K : Nat → Nat) : Prop := ∀ i, i < 4 → k i = nI (K i) ∧ K i ≤ 5
def oI : Option Nat → Int32
  | none => -1
  | some a => nI a
def nx1 (np c : Nat) : Nat := if c + 1 < np then c + 1 else 0
def nxF (K : Nat → Nat) (np : Nat) : Nat → Nat → Option Nat
  | 0, _ => none
  | s + 1, c => if K (nx1 np c) < 5 then some (nx1 np c) else nxF K np s (nx1 np c)
theorem nxF_hit {K : Nat → Nat} {np s c c' : Nat} (hs : 0 < s) (e : nx1 np c = c') (h : ¬ 5 ≤ K c') : nxF K np s c = some c' := by
  cases s with
  | zero => omega
  | succ s => unfold nxF; rw [e, if_pos (by omega)]
theorem nxF_go {K : Nat → Nat} {np s s' c c' : Nat} (hs : s = s' + 1) (e : nx1 np c = c') (h : 5 ≤ K c') : nxF K np s c = nxF K np s' c' := by
  subst hs
  show (if K (nx1 np c) < 5 then _ else _) = _
  rw [e, if_neg (by omega)]
theorem nx1_t {np c : Nat} (h : ¬ np ≤ c + 1) : nx1 np c = c + 1 := if_pos (by omega)
theorem nx1_f {np c : Nat} (h : np ≤ c + 1) : nx1 np c = 0 := if_neg (by omega)
def erK (K : Nat → Nat) (j : Nat) : Nat → Nat := fun i => if i = j then K j + 1 else K i
theorem GK.up {k : Nat → Int32} {K : Nat → Nat} {j : Nat} (h : GK k K) (hj : K j < 5) : GK (upd k j (nI (K j + 1))) (erK K j) := by
  intro i hi
  unfold erK
  by_cases e : i = j
  · subst e
    rw [pk_us, if_pos rfl]
    exact ⟨rfl, by omega⟩
  · rw [pk_un e, if_neg e]
    exact h i hi
/-- how many are left -/
def leftN (K : Nat → Nat) (np : Nat) : Nat := fb_ct (fun i => decide (K i < 5)) np
def erM (K : Nat → Nat) (np j : Nat) : Int32 := if leftN (erK K j) np = 1 then -1 else if 5 ≤ erK K j j then oI (nxF (erK K j) np np j) else nI j
def erC (K : Nat → Nat) (np j : Nat) (ch : Int32) : Int32 := if leftN (erK K j) np = 1 then oI (nxF (erK K j) np np j) else ch
theorem so_at {k : Nat → Int32} {np j : Nat} {r : Int32} (hj : j < np) (hp : np ≤ 4) (h : (∃ i : Nat, i < np ∧ nI i = nI j ∧ r = k i) ∨ ((¬ ∃ i : Nat, i < np ∧ nI i = nI j) ∧ r = -1)) : r = k j := by
  rcases h with ⟨i, hi, e, h⟩ | ⟨h, -⟩
  · rw [h, (nI_eq (by omega) (by omega)).mp e]
  · exact absurd ⟨j, hj, rfl⟩ h
theorem bg_step {kc : Nat → Int32} {i : Nat} (h : ∀ j, j < i → kc j = nI 0) : ∀ j, j < i + 1 → upd kc i (nI 0) j = nI 0 := fun j hj => by
  by_cases e : j = i
  · subst e; rw [pk_us]
  · rw [pk_un e]; exact h j (by omega)
abbrev rm_X1_mover : Room := { frames := 0, cells := 0, slots := 0, locals := 0 }
set_option maxHeartbeats 4000000 in
set_option maxRecDepth 100000 in
theorem c_X1_mover (l : Launch) (g : GG) (q u : Nat) (k : Nat → Int32) (np mv lm ch : Int32) (fr : Int64) : Ci l yX1_mover wsX1_mover rm_X1_mover g [.ref (q)] (QW g q u k np mv lm ch fr) (fun r w => w = (QW g q u k np mv lm ch fr) ∧ r = mv) := by
  refine Ci.ofI (cc := cX1_mover) (maxL := 1) (by decide) rfl (Nat.le_of_ble_eq_true rfl) ?_
  intro p e s m args below meth c A Z hx hb hml hts hown hK hA hret H locs ls hP hD hS hl
  have f_19 := hts (.fieldLink RX1 19 "GhostGame$Game" "mover" "I") (by decide +kernel)
  have hi_1 : ∀ w ∈ wsX10, w ∈ wsX1_mover := by decide +kernel
  have hl : lv_has ls 1 [(0, .ref (q))] := hl
  refine lv_aload_n hx hb dX1_mover_0 rfl (lv_at hl 0 rfl) ?_
  refine va_get (D := g.1) (ci := 1) (v := .int (mv)) (C := RX1) (T := TX1) (N := 6) hx hb hts hi_1 hown hK hP 0 rfl rfl 2 (by decide) f_19 (fun _ h9 => h9) rfl dX1_mover_1 ?_
  exact hret (mv) (QW g q u k np mv lm ch fr) _ _ _ _ dX1_mover_4 (⟨rfl, rfl⟩) hP hD hS

abbrev rm_X1_champion : Room := { frames := 0, cells := 0, slots := 0, locals := 0 }
set_option maxHeartbeats 4000000 in
set_option maxRecDepth 100000 in
theorem c_X1_champion (l : Launch) (g : GG) (q u : Nat) (k : Nat → Int32) (np mv lm ch : Int32) (fr : Int64) : Ci l yX1_champion wsX1_champion rm_X1_champion g [.ref (q)] (QW g q u k np mv lm ch fr) (fun r w => w = (QW g q u k np mv lm ch fr) ∧ r = ch) := by
  refine Ci.ofI (cc := cX1_champion) (maxL := 1) (by decide) rfl (Nat.le_of_ble_eq_true rfl) ?_
  intro p e s m args below meth c A Z hx hb hml hts hown hK hA hret H locs ls hP hD hS hl
  have f_25 := hts (.fieldLink RX1 25 "GhostGame$Game" "champion" "I") (by decide +kernel)
  have hi_1 : ∀ w ∈ wsX10, w ∈ wsX1_champion := by decide +kernel
  have hl : lv_has ls 1 [(0, .ref (q))] := hl
  refine lv_aload_n hx hb dX1_champion_0 rfl (lv_at hl 0 rfl) ?_
  refine va_get (D := g.1) (ci := 1) (v := .int (ch)) (C := RX1) (T := TX1) (N := 6) hx hb hts hi_1 hown hK hP 0 rfl rfl 4 (by decide) f_25 (fun _ h9 => h9) rfl dX1_champion_1 ?_
  exact hret (ch) (QW g q u k np mv lm ch fr) _ _ _ _ dX1_champion_4 (⟨rfl, rfl⟩) hP hD hS

abbrev rm_X1_playerCount : Room := { frames := 0, cells := 0, slots := 0, locals := 0 }
set_option maxHeartbeats 4000000 in
set_option maxRecDepth 100000 in
theorem c_X1_playerCount (l : Launch) (g : GG) (q u : Nat) (k : Nat → Int32) (np mv lm ch : Int32) (fr : Int64) : Ci l yX1_playerCount wsX1_playerCount rm_X1_playerCount g [.ref (q)] (QW g q u k np mv lm ch fr) (fun r w => w = (QW g q u k np mv lm ch fr) ∧ r = np) := by
  refine Ci.ofI (cc := cX1_playerCount) (maxL := 1) (by decide) rfl (Nat.le_of_ble_eq_true rfl) ?_
  intro p e s m args below meth c A Z hx hb hml hts hown hK hA hret H locs ls hP hD hS hl
  have f_15 := hts (.fieldLink RX1 15 "GhostGame$Game" "playerCount" "I") (by decide +kernel)
  have hi_1 : ∀ w ∈ wsX10, w ∈ wsX1_playerCount := by decide +kernel
  have hl : lv_has ls 1 [(0, .ref (q))] := hl
  refine lv_aload_n hx hb dX1_playerCount_0 rfl (lv_at hl 0 rfl) ?_
  refine va_get (D := g.1) (ci := 1) (v := .int (np)) (C := RX1) (T := TX1) (N := 6) hx hb hts hi_1 hown hK hP 0 rfl rfl 1 (by decide) f_15 (fun _ h9 => h9) rfl dX1_playerCount_1 ?_
  exact hret (np) (QW g q u k np mv lm ch fr) _ _ _ _ dX1_playerCount_4 (⟨rfl, rfl⟩) hP hD hS

abbrev rm_X1_fragment : Room := { frames := 0, cells := 0, slots := 0, locals := 0 }
set_option maxHeartbeats 4000000 in
set_option maxRecDepth 100000 in
theorem c_X1_fragment (l : Launch) (g : GG) (q u : Nat) (k : Nat → Int32) (np mv lm ch : Int32) (fr : Int64) : Cl l yX1_fragment wsX1_fragment rm_X1_fragment g [.ref (q)] (QW g q u k np mv lm ch fr) (fun r w => w = (QW g q u k np mv lm ch fr) ∧ r = fr) := by
  refine Cl.ofL (cc := cX1_fragment) (maxL := 1) (by decide) rfl (Nat.le_of_ble_eq_true rfl) ?_
  intro p e s m args below meth c A Z hx hb hml hts hown hK hA hret H locs ls hP hD hS hl
  have f_30 := hts (.fieldLink RX1 30 "GhostGame$Game" "fragment" "J") (by decide +kernel)
  have hi_1 : ∀ w ∈ wsX10, w ∈ wsX1_fragment := by decide +kernel
  have hl : lv_has ls 1 [(0, .ref (q))] := hl
  refine lv_aload_n hx hb dX1_fragment_0 rfl (lv_at hl 0 rfl) ?_
  refine va_get (D := g.1) (ci := 1) (v := .long (fr)) (C := RX1) (T := TX1) (N := 6) hx hb hts hi_1 hown hK hP 0 rfl rfl 5 (by decide) f_30 (fun _ h9 => h9) rfl dX1_fragment_1 ?_
  exact hret (fr) (QW g q u k np mv lm ch fr) _ _ _ _ dX1_fragment_4 (⟨rfl, rfl⟩) hP hD hS

abbrev rm_X1_isOn : Room := { frames := 0, cells := 0, slots := 0, locals := 0 }
set_option maxHeartbeats 4000000 in
set_option maxRecDepth 100000 in
theorem c_X1_isOn (l : Launch) (g : GG) (q u : Nat) (k : Nat → Int32) (np mv lm ch : Int32) (fr : Int64) : Ci l yX1_isOn wsX1_isOn rm_X1_isOn g [.ref (q)] (QW g q u k np mv lm ch fr) (fun r w => w = (QW g q u k np mv lm ch fr) ∧ Bv r (¬ mv = -1)) := by
  refine Ci.ofZ (cc := cX1_isOn) (maxL := 1) (by decide) rfl (Nat.le_of_ble_eq_true rfl) ?_
  intro p e s m args below meth c A Z hx hb hml hts hown hK hA hret H locs ls hP hD hS hl
  have f_19 := hts (.fieldLink RX1 19 "GhostGame$Game" "mover" "I") (by decide +kernel)
  have hi_1 : ∀ w ∈ wsX10, w ∈ wsX1_isOn := by decide +kernel
  have hl : lv_has ls 1 [(0, .ref (q))] := hl
  refine lv_aload_n hx hb dX1_isOn_0 rfl (lv_at hl 0 rfl) ?_
  refine va_get (D := g.1) (ci := 1) (v := .int (mv)) (C := RX1) (T := TX1) (N := 6) hx hb hts hi_1 hown hK hP 0 rfl rfl 2 (by decide) f_19 (fun _ h9 => h9) rfl dX1_isOn_1 ?_
  refine lv_iconst (v := -1) hx hb dX1_isOn_4 (by decide) ?_
  refine lv_icmp_eq (tgt := 12) hx hb dX1_isOn_5 (by decide) (fun c_5_1 => ?_) (fun c_5_1 => ?_)
  · skip
    refine lv_iconst (v := nI 0) hx hb dX1_isOn_12 (by decide) ?_
    exact hret (nI (0)) (QW g q u k np mv lm ch fr) _ _ _ _ dX1_isOn_13 (Or.inl rfl) (⟨rfl, Bv.no (fun q9 => q9 c_5_1)⟩) hP hD hS
  · skip
    refine lv_iconst (v := nI 1) hx hb dX1_isOn_8 (by decide) ?_
    refine lv_goto (tgt := 13) hx hb dX1_isOn_9 (by decide) ?_
    exact hret (nI (1)) (QW g q u k np mv lm ch fr) _ _ _ _ dX1_isOn_13 (Or.inr rfl) (⟨rfl, Bv.yes c_5_1⟩) hP hD hS

abbrev rm_X1_begin : Room := { frames := 0, cells := 0, slots := 0, locals := 0 }
set_option maxHeartbeats 4000000 in
set_option maxRecDepth 100000 in
theorem c_X1_begin (l : Launch) (g : GG) (q u : Nat) (k : Nat → Int32) (P0 mv lm ch : Int32) (fr : Int64) (n0 : Nat) : Cv l yX1_begin wsX1_begin rm_X1_begin g [.ref (q), .int (nI (n0))] (QW g q u k P0 mv lm ch fr) (fun w => ∃ k9, GK k9 (fun _ => 0) ∧ w = QW g q u k9 (nI n0) (nI 0) (-1) (-1) (lN 0)) := by
  refine Cv.ofV (cc := cX1_begin) (maxL := 3) (by decide) rfl (Nat.le_of_ble_eq_true rfl) ?_
  intro p e s m args below meth c A Z hx hb hml hts hown hK hA hret H locs ls hP hD hS hl
  have f_9 := hts (.fieldLink RX1 9 "GhostGame$Game" "strikes" "[I") (by decide +kernel)
  have f_15 := hts (.fieldLink RX1 15 "GhostGame$Game" "playerCount" "I") (by decide +kernel)
  have f_19 := hts (.fieldLink RX1 19 "GhostGame$Game" "mover" "I") (by decide +kernel)
  have f_22 := hts (.fieldLink RX1 22 "GhostGame$Game" "lastMover" "I") (by decide +kernel)
  have f_25 := hts (.fieldLink RX1 25 "GhostGame$Game" "champion" "I") (by decide +kernel)
  have f_30 := hts (.fieldLink RX1 30 "GhostGame$Game" "fragment" "J") (by decide +kernel)
  have hi_1 : ∀ w ∈ wsX10, w ∈ wsX1_begin := by decide +kernel
  have hl : lv_has ls 3 [(0, .ref (q)), (1, .int (nI (n0)))] := hl
  refine lv_iconst (v := nI 0) hx hb dX1_begin_0 (by decide) ?_
  refine lv_istore_n (lv' := [(2, .int (nI (0))), (0, .ref (q)), (1, .int (nI (n0)))]) hx hb dX1_begin_1 rfl hl (by decide) rfl (fun ls hl => ?_)
  have L_2 : ∀ (fu : Nat) (i : Nat) (kc : Nat → Int32), 4 - i < fu → (i ≤ 4) → (∀ j, j < i → kc j = nI 0) → ∀ (H : Heap) (locs : List Loc) (ls : Array Slot), va_P g.1 vwCl (QW g q u kc P0 mv lm ch fr) H → va_D A (QW g q u kc P0 mv lm ch fr) → va_S A s.heap H locs → lv_has ls 3 [(0, .ref (q)), (1, .int (nI (n0))), (2, .int (nI (i)))] → W p l e rm_X1_begin s m args below meth c H locs 0 0 Z (F0 m 2 ls []) := by
    intro fu
    induction fu with
    | zero => intro _ _ h0; exact absurd h0 (Nat.not_lt_zero _)
    | succ fu ih_2 =>
      intro i kc hfu hi1 hz H locs ls hP hD hS hl
      refine lv_iload_n hx hb dX1_begin_2 rfl (lv_at hl 2 rfl) ?_
      refine lv_aload_n hx hb dX1_begin_3 rfl (lv_at hl 0 rfl) ?_
      refine va_get (D := g.1) (ci := 1) (v := .ref (u)) (C := RX1) (T := TX1) (N := 6) hx hb hts hi_1 hown hK hP 0 rfl rfl 0 (by decide) f_9 (fun _ h9 => h9) rfl dX1_begin_4 ?_
      refine va_alen (v := nI 4) hx hb hK hP 1 0 rfl rfl rfl dX1_begin_7 ?_
      refine lv_icmp_ge (tgt := 24) hx hb dX1_begin_8 (by decide) (fun c_8_1 => ?_) (fun c_8_1 => ?_)
      · skip
        have n_8_1 : 4 ≤ i := (nI_leI (a := 4) (b := i) (by omega) (by omega)).mp c_8_1
        refine lv_aload_n hx hb dX1_begin_24 rfl (lv_at hl 0 rfl) ?_
        refine lv_iload_n hx hb dX1_begin_25 rfl (lv_at hl 1 rfl) ?_
        refine va_put (D := g.1) (ci := 1) (v := .int (nI (n0))) (ty := .int) (C := RX1) (T := TX1) (N := 6) hx hb hts hi_1 tyX1 tyX1_ok nmX1 hown hK hP hD hS 0 rfl rfl 1 (by decide) f_15 (fun _ h9 => h9) rfl (by decide +kernel) rfl rfl (Nat.le_of_ble_eq_true rfl) dX1_begin_26 (fun H locs hP hD hS => ?_)
        have hP : va_P g.1 vwCl (QW g q u kc (nI n0) mv lm ch fr) H := hP
        have hD : va_D A (QW g q u kc (nI n0) mv lm ch fr) := hD
        refine lv_aload_n hx hb dX1_begin_29 rfl (lv_at hl 0 rfl) ?_
        refine lv_iconst (v := nI 0) hx hb dX1_begin_30 (by decide) ?_
        refine va_put (D := g.1) (ci := 1) (v := .int (nI (0))) (ty := .int) (C := RX1) (T := TX1) (N := 6) hx hb hts hi_1 tyX1 tyX1_ok nmX1 hown hK hP hD hS 0 rfl rfl 2 (by decide) f_19 (fun _ h9 => h9) rfl (by decide +kernel) rfl rfl (Nat.le_of_ble_eq_true rfl) dX1_begin_31 (fun H locs hP hD hS => ?_)
        have hP : va_P g.1 vwCl (QW g q u kc (nI n0) (nI 0) lm ch fr) H := hP
        have hD : va_D A (QW g q u kc (nI n0) (nI 0) lm ch fr) := hD
        refine lv_aload_n hx hb dX1_begin_34 rfl (lv_at hl 0 rfl) ?_
        refine lv_iconst (v := -1) hx hb dX1_begin_35 (by decide) ?_
        refine va_put (D := g.1) (ci := 1) (v := .int (-1)) (ty := .int) (C := RX1) (T := TX1) (N := 6) hx hb hts hi_1 tyX1 tyX1_ok nmX1 hown hK hP hD hS 0 rfl rfl 3 (by decide) f_22 (fun _ h9 => h9) rfl (by decide +kernel) rfl rfl (Nat.le_of_ble_eq_true rfl) dX1_begin_36 (fun H locs hP hD hS => ?_)
        have hP : va_P g.1 vwCl (QW g q u kc (nI n0) (nI 0) (-1) ch fr) H := hP
        have hD : va_D A (QW g q u kc (nI n0) (nI 0) (-1) ch fr) := hD
        refine lv_aload_n hx hb dX1_begin_39 rfl (lv_at hl 0 rfl) ?_
        refine lv_iconst (v := -1) hx hb dX1_begin_40 (by decide) ?_
        refine va_put (D := g.1) (ci := 1) (v := .int (-1)) (ty := .int) (C := RX1) (T := TX1) (N := 6) hx hb hts hi_1 tyX1 tyX1_ok nmX1 hown hK hP hD hS 0 rfl rfl 4 (by decide) f_25 (fun _ h9 => h9) rfl (by decide +kernel) rfl rfl (Nat.le_of_ble_eq_true rfl) dX1_begin_41 (fun H locs hP hD hS => ?_)
        have hP : va_P g.1 vwCl (QW g q u kc (nI n0) (nI 0) (-1) (-1) fr) H := hP
        have hD : va_D A (QW g q u kc (nI n0) (nI 0) (-1) (-1) fr) := hD
        refine lv_aload_n hx hb dX1_begin_44 rfl (lv_at hl 0 rfl) ?_
        refine lv_lconst (v := lN 0) hx hb dX1_begin_45 (by decide) ?_
        refine va_put (D := g.1) (ci := 1) (v := .long (lN (0))) (ty := .long) (C := RX1) (T := TX1) (N := 6) hx hb hts hi_1 tyX1 tyX1_ok nmX1 hown hK hP hD hS 0 rfl rfl 5 (by decide) f_30 (fun _ h9 => h9) rfl (by decide +kernel) rfl rfl (Nat.le_of_ble_eq_true rfl) dX1_begin_46 (fun H locs hP hD hS => ?_)
        have hP : va_P g.1 vwCl (QW g q u kc (nI n0) (nI 0) (-1) (-1) (lN 0)) H := hP
        have hD : va_D A (QW g q u kc (nI n0) (nI 0) (-1) (-1) (lN 0)) := hD
        exact hret (QW g q u kc (nI n0) (nI 0) (-1) (-1) (lN 0)) _ _ _ _ dX1_begin_49 (⟨kc, fun j hj => ⟨hz j (by omega), Nat.zero_le _⟩, rfl⟩) hP hD hS
      · skip
        have n_8_1 : ¬ 4 ≤ i := fun q9 => c_8_1 ((nI_leI (a := 4) (b := i) (by omega) (by omega)).mpr q9)
        refine lv_aload_n hx hb dX1_begin_11 rfl (lv_at hl 0 rfl) ?_
        refine va_get (D := g.1) (ci := 1) (v := .ref (u)) (C := RX1) (T := TX1) (N := 6) hx hb hts hi_1 hown hK hP 0 rfl rfl 0 (by decide) f_9 (fun _ h9 => h9) rfl dX1_begin_12 ?_
        refine lv_iload_n hx hb dX1_begin_15 rfl (lv_at hl 2 rfl) ?_
        refine lv_iconst (v := nI 0) hx hb dX1_begin_16 (by decide) ?_
        refine va_iast (n := 4) (f := kc) hx hb hK hP hD hS 1 0 rfl rfl (vp_in_nI (n := i) (by omega) (by decide)) dX1_begin_17 (fun H locs hP hD hS => ?_)
        rw [nI_clamp (n := i) (by omega)] at hP hD
        have hP : va_P g.1 vwCl (QW g q u (upd kc i (nI (0))) P0 mv lm ch fr) H := hP
        have hD : va_D A (QW g q u (upd kc i (nI (0))) P0 mv lm ch fr) := hD
        refine lv_iinc (v := (nI (i + 1))) (lv' := [(2, .int (nI (i + 1))), (0, .ref (q)), (1, .int (nI (n0)))]) hx hb dX1_begin_18 hl (k := 2) rfl (nI_add (i) 1) (by decide) rfl (fun ls hl => ?_)
        refine lv_goto (tgt := 2) hx hb dX1_begin_21 (by decide) ?_
        exact ih_2 (i + 1) (upd kc i (nI (0))) (by omega) (by omega) (bg_step hz) _ _ _ hP hD hS (lv_sub hl [1, 2, 0] rfl)
  exact L_2 (_ + 1) 0 k (Nat.lt_succ_self _) (by omega) (fun j h => absurd h (Nat.not_lt_zero _)) _ _ _ hP hD hS (lv_sub hl [1, 2, 0] rfl)

abbrev rm_X1_hasPlayer : Room := { frames := 0, cells := 0, slots := 0, locals := 0 }
set_option maxHeartbeats 4000000 in
set_option maxRecDepth 100000 in
theorem c_X1_hasPlayer (l : Launch) (g : GG) (q u : Nat) (k : Nat → Int32) (np : Nat) (mv lm ch : Int32) (fr : Int64) (hp : np ≤ 4) (x : Int32) : Ci l yX1_hasPlayer wsX1_hasPlayer rm_X1_hasPlayer g [.ref (q), .int (x)] (QW g q u k (nI np) mv lm ch fr) (fun r w => w = (QW g q u k (nI np) mv lm ch fr) ∧ Bv r (∃ j : Nat, j < np ∧ nI j = x)) := by
  refine Ci.ofZ (cc := cX1_hasPlayer) (maxL := 2) (by decide) rfl (Nat.le_of_ble_eq_true rfl) ?_
  intro p e s m args below meth c A Z hx hb hml hts hown hK hA hret H locs ls hP hD hS hl
  have f_9 := hts (.fieldLink RX1 9 "GhostGame$Game" "strikes" "[I") (by decide +kernel)
  have f_15 := hts (.fieldLink RX1 15 "GhostGame$Game" "playerCount" "I") (by decide +kernel)
  have hi_1 : ∀ w ∈ wsX10, w ∈ wsX1_hasPlayer := by decide +kernel
  have hl : lv_has ls 2 [(0, .ref (q)), (1, .int (x))] := hl
  refine lv_iload_n hx hb dX1_hasPlayer_0 rfl (lv_at hl 1 rfl) ?_
  refine lv_if_lt (tgt := 25) hx hb dX1_hasPlayer_1 (by decide) (fun c_1_1 => ?_) (fun c_1_1 => ?_)
  · skip
    have nj : ¬ ∃ j : Nat, j < np ∧ nI j = x := by
      rintro ⟨j, hj, rfl⟩
      exact nI_pos (by omega) c_1_1
    refine lv_iconst (v := nI 0) hx hb dX1_hasPlayer_25 (by decide) ?_
    exact hret (nI (0)) (QW g q u k (nI np) mv lm ch fr) _ _ _ _ dX1_hasPlayer_26 (Or.inl rfl) (⟨rfl, Bv.no nj⟩) hP hD hS
  · skip
    refine lv_iload_n hx hb dX1_hasPlayer_4 rfl (lv_at hl 1 rfl) ?_
    refine lv_aload_n hx hb dX1_hasPlayer_5 rfl (lv_at hl 0 rfl) ?_
    refine va_get (D := g.1) (ci := 1) (v := .int (nI (np))) (C := RX1) (T := TX1) (N := 6) hx hb hts hi_1 hown hK hP 0 rfl rfl 1 (by decide) f_15 (fun _ h9 => h9) rfl dX1_hasPlayer_6 ?_
    refine lv_icmp_ge (tgt := 25) hx hb dX1_hasPlayer_9 (by decide) (fun c_9_2 => ?_) (fun c_9_2 => ?_)
    · skip
      have nj : ¬ ∃ j : Nat, j < np ∧ nI j = x := by
        rintro ⟨j, hj, rfl⟩
        have := (nI_leI (by omega) (by omega)).mp c_9_2
        omega
      refine lv_iconst (v := nI 0) hx hb dX1_hasPlayer_25 (by decide) ?_
      exact hret (nI (0)) (QW g q u k (nI np) mv lm ch fr) _ _ _ _ dX1_hasPlayer_26 (Or.inl rfl) (⟨rfl, Bv.no nj⟩) hP hD hS
    · skip
      refine lv_iload_n hx hb dX1_hasPlayer_12 rfl (lv_at hl 1 rfl) ?_
      refine lv_aload_n hx hb dX1_hasPlayer_13 rfl (lv_at hl 0 rfl) ?_
      refine va_get (D := g.1) (ci := 1) (v := .ref (u)) (C := RX1) (T := TX1) (N := 6) hx hb hts hi_1 hown hK hP 0 rfl rfl 0 (by decide) f_9 (fun _ h9 => h9) rfl dX1_hasPlayer_14 ?_
      refine va_alen (v := nI 4) hx hb hK hP 1 0 rfl rfl rfl dX1_hasPlayer_17 ?_
      refine lv_icmp_ge (tgt := 25) hx hb dX1_hasPlayer_18 (by decide) (fun c_18_3 => ?_) (fun c_18_3 => ?_)
      · skip
        have nj : ¬ ∃ j : Nat, j < np ∧ nI j = x := by
          rintro ⟨j, hj, rfl⟩
          have := (nI_leI (by omega) (by omega)).mp c_18_3
          omega
        refine lv_iconst (v := nI 0) hx hb dX1_hasPlayer_25 (by decide) ?_
        exact hret (nI (0)) (QW g q u k (nI np) mv lm ch fr) _ _ _ _ dX1_hasPlayer_26 (Or.inl rfl) (⟨rfl, Bv.no nj⟩) hP hD hS
      · skip
        have nj : ∃ j : Nat, j < np ∧ nI j = x := by
          rcases pk_ix x (n := np) (by omega) with h | h | ⟨j, h1, h2⟩
          · exact absurd h c_1_1
          · exact absurd h c_9_2
          · exact ⟨j, h1, h2.symm⟩
        refine lv_iconst (v := nI 1) hx hb dX1_hasPlayer_21 (by decide) ?_
        refine lv_goto (tgt := 26) hx hb dX1_hasPlayer_22 (by decide) ?_
        exact hret (nI (1)) (QW g q u k (nI np) mv lm ch fr) _ _ _ _ dX1_hasPlayer_26 (Or.inr rfl) (⟨rfl, Bv.yes nj⟩) hP hD hS

abbrev rm_X1_strikesOf : Room := { frames := 1, cells := 0, slots := 0, locals := 21 }
set_option maxHeartbeats 4000000 in
set_option maxRecDepth 100000 in
theorem c_X1_strikesOf (l : Launch) (g : GG) (q u : Nat) (k : Nat → Int32) (np : Nat) (mv lm ch : Int32) (fr : Int64) (hp : np ≤ 4) (x : Int32) : Ci l yX1_strikesOf wsX1_strikesOf rm_X1_strikesOf g [.ref (q), .int (x)] (QW g q u k (nI np) mv lm ch fr) (fun r w => w = (QW g q u k (nI np) mv lm ch fr) ∧ ((∃ j : Nat, j < np ∧ nI j = x ∧ r = k j) ∨ ((¬ ∃ j : Nat, j < np ∧ nI j = x) ∧ r = -1))) := by
  refine Ci.ofI (cc := cX1_strikesOf) (maxL := 2) (by decide) rfl (Nat.le_of_ble_eq_true rfl) ?_
  intro p e s m args below meth c A Z hx hb hml hts hown hK hA hret H locs ls hP hD hS hl
  have f_9 := hts (.fieldLink RX1 9 "GhostGame$Game" "strikes" "[I") (by decide +kernel)
  have hi_1 : ∀ w ∈ wsX10, w ∈ wsX1_strikesOf := by decide +kernel
  have hl : lv_has ls 2 [(0, .ref (q)), (1, .int (x))] := hl
  refine lv_aload_n hx hb dX1_strikesOf_0 rfl (lv_at hl 0 rfl) ?_
  refine lv_iload_n hx hb dX1_strikesOf_1 rfl (lv_at hl 1 rfl) ?_
  refine call_iVW (As := [.int (x)]) (rest := []) ⟨hx, hb, hml, hown, hts⟩ (c_X1_hasPlayer l g q u k np mv lm ch fr hp x) (cwV 1 hts gX1_strikesOf_X1_hasPlayer rfl rfl rfl (by decide +kernel) ⟨Nat.le_of_ble_eq_true rfl, Nat.le_of_ble_eq_true rfl⟩) hP hK hD hS hA 0 rfl rfl rfl rfl hl.1 rfl (Nat.le_of_ble_eq_true rfl) dX1_strikesOf_2 ⟨Nat.le_refl _, Nat.le_refl _⟩ (fun r_2 w H locs h_2 hP hD hS => ?_)
  obtain ⟨rfl, h_2⟩ := h_2
  have hP : va_P g.1 vwCl (QW g q u k (nI np) mv lm ch fr) H := hP
  have hD : va_D A (QW g q u k (nI np) mv lm ch fr) := hD
  refine lv_if_eq (tgt := 17) hx hb dX1_strikesOf_5 (by decide) (fun c_5_1 => ?_) (fun c_5_1 => ?_)
  · skip
    have n_5_1 := Bv.f h_2 c_5_1
    refine lv_iconst (v := -1) hx hb dX1_strikesOf_17 (by decide) ?_
    exact hret (-1) (QW g q u k (nI np) mv lm ch fr) _ _ _ _ dX1_strikesOf_18 (⟨rfl, Or.inr ⟨n_5_1, rfl⟩⟩) hP hD hS
  · skip
    have n_5_1 := Bv.t h_2 c_5_1
    obtain ⟨j, hj, rfl⟩ := n_5_1
    refine lv_aload_n hx hb dX1_strikesOf_8 rfl (lv_at hl 0 rfl) ?_
    refine va_get (D := g.1) (ci := 1) (v := .ref (u)) (C := RX1) (T := TX1) (N := 6) hx hb hts hi_1 hown hK hP 0 rfl rfl 0 (by decide) f_9 (fun _ h9 => h9) rfl dX1_strikesOf_9 ?_
    refine lv_iload_n hx hb dX1_strikesOf_12 rfl (lv_at hl 1 rfl) ?_
    refine va_iald (n := 4) (f := k) hx hb hK hP 1 0 rfl rfl (vp_in_nI (n := j) (by omega) (by decide)) dX1_strikesOf_13 ?_
    refine tp_i (congrArg k (nI_clamp (n := j) (by omega))) ?_
    refine lv_goto (tgt := 18) hx hb dX1_strikesOf_14 (by decide) ?_
    exact hret (k j) (QW g q u k (nI np) mv lm ch fr) _ _ _ _ dX1_strikesOf_18 (⟨rfl, Or.inl ⟨j, hj, rfl, rfl⟩⟩) hP hD hS

abbrev rm_X1_isOut : Room := { frames := 2, cells := 0, slots := 0, locals := 42 }
set_option maxHeartbeats 4000000 in
set_option maxRecDepth 100000 in
theorem c_X1_isOut (l : Launch) (g : GG) (q u : Nat) (k : Nat → Int32) (K : Nat → Nat) (np : Nat) (mv lm ch : Int32) (fr : Int64) (hk : GK k K) (hp : np ≤ 4) (j : Nat) (hj : j < np) : Ci l yX1_isOut wsX1_isOut rm_X1_isOut g [.ref (q), .int (nI (j))] (QW g q u k (nI np) mv lm ch fr) (fun r w => w = (QW g q u k (nI np) mv lm ch fr) ∧ Bv r (5 ≤ K j)) := by
  refine Ci.ofZ (cc := cX1_isOut) (maxL := 2) (by decide) rfl (Nat.le_of_ble_eq_true rfl) ?_
  intro p e s m args below meth c A Z hx hb hml hts hown hK hA hret H locs ls hP hD hS hl
  have hl : lv_has ls 2 [(0, .ref (q)), (1, .int (nI (j)))] := hl
  refine lv_aload_n hx hb dX1_isOut_0 rfl (lv_at hl 0 rfl) ?_
  refine lv_iload_n hx hb dX1_isOut_1 rfl (lv_at hl 1 rfl) ?_
  refine call_iVW (As := [.int (nI (j))]) (rest := []) ⟨hx, hb, hml, hown, hts⟩ (c_X1_strikesOf l g q u k np mv lm ch fr hp (nI j)) (cwV 1 hts gX1_isOut_X1_strikesOf rfl rfl rfl (by decide +kernel) ⟨Nat.le_of_ble_eq_true rfl, Nat.le_of_ble_eq_true rfl⟩) hP hK hD hS hA 0 rfl rfl rfl rfl hl.1 rfl (Nat.le_of_ble_eq_true rfl) dX1_isOut_2 ⟨Nat.le_refl _, Nat.le_refl _⟩ (fun r_2 w H locs h_2 hP hD hS => ?_)
  obtain ⟨rfl, h_2⟩ := h_2
  replace h_2 := (so_at hj hp h_2).trans (hk j (by omega)).1
  have hK5 := (hk j (by omega)).2
  subst h_2
  have hP : va_P g.1 vwCl (QW g q u k (nI np) mv lm ch fr) H := hP
  have hD : va_D A (QW g q u k (nI np) mv lm ch fr) := hD
  refine lv_iconst (v := nI 5) hx hb dX1_isOut_5 (by decide) ?_
  refine lv_icmp_lt (tgt := 13) hx hb dX1_isOut_6 (by decide) (fun c_6_1 => ?_) (fun c_6_1 => ?_)
  · skip
    have n_6_1 : K j < 5 := (nI_ltI (a := K j) (b := 5) (by omega) (by omega)).mp c_6_1
    refine lv_iconst (v := nI 0) hx hb dX1_isOut_13 (by decide) ?_
    exact hret (nI (0)) (QW g q u k (nI np) mv lm ch fr) _ _ _ _ dX1_isOut_14 (Or.inl rfl) (⟨rfl, Bv.no (by omega)⟩) hP hD hS
  · skip
    have n_6_1 : ¬ K j < 5 := fun q9 => c_6_1 ((nI_ltI (a := K j) (b := 5) (by omega) (by omega)).mpr q9)
    refine lv_iconst (v := nI 1) hx hb dX1_isOut_9 (by decide) ?_
    refine lv_goto (tgt := 14) hx hb dX1_isOut_10 (by decide) ?_
    exact hret (nI (1)) (QW g q u k (nI np) mv lm ch fr) _ _ _ _ dX1_isOut_14 (Or.inr rfl) (⟨rfl, Bv.yes (by omega)⟩) hP hD hS

abbrev rm_X1_playersLeft : Room := { frames := 3, cells := 0, slots := 0, locals := 63 }
set_option maxHeartbeats 4000000 in
set_option maxRecDepth 100000 in
theorem c_X1_playersLeft (l : Launch) (g : GG) (q u : Nat) (k : Nat → Int32) (K : Nat → Nat) (np : Nat) (mv lm ch : Int32) (fr : Int64) (hk : GK k K) (hp : np ≤ 4) : Ci l yX1_playersLeft wsX1_playersLeft rm_X1_playersLeft g [.ref (q)] (QW g q u k (nI np) mv lm ch fr) (fun r w => w = (QW g q u k (nI np) mv lm ch fr) ∧ r = nI (leftN K np)) := by
  refine Ci.ofI (cc := cX1_playersLeft) (maxL := 3) (by decide) rfl (Nat.le_of_ble_eq_true rfl) ?_
  intro p e s m args below meth c A Z hx hb hml hts hown hK hA hret H locs ls hP hD hS hl
  have f_15 := hts (.fieldLink RX1 15 "GhostGame$Game" "playerCount" "I") (by decide +kernel)
  have hi_1 : ∀ w ∈ wsX10, w ∈ wsX1_playersLeft := by decide +kernel
  have hl : lv_has ls 3 [(0, .ref (q))] := hl
  refine lv_iconst (v := nI 0) hx hb dX1_playersLeft_0 (by decide) ?_
  refine lv_istore_n (lv' := [(1, .int (nI (0))), (0, .ref (q))]) hx hb dX1_playersLeft_1 rfl hl (by decide) rfl (fun ls hl => ?_)
  refine lv_iconst (v := nI 0) hx hb dX1_playersLeft_2 (by decide) ?_
  refine lv_istore_n (lv' := [(2, .int (nI (0))), (1, .int (nI (0))), (0, .ref (q))]) hx hb dX1_playersLeft_3 rfl hl (by decide) rfl (fun ls hl => ?_)
  have L_4 : ∀ (fu : Nat) (i c0 : Nat), np - i < fu → (i ≤ np) → (c0 = leftN K i) → ∀ (H : Heap) (locs : List Loc) (ls : Array Slot), va_P g.1 vwCl (QW g q u k (nI np) mv lm ch fr) H → va_D A (QW g q u k (nI np) mv lm ch fr) → va_S A s.heap H locs → lv_has ls 3 [(0, .ref (q)), (1, .int (nI (c0))), (2, .int (nI (i)))] → W p l e rm_X1_playersLeft s m args below meth c H locs 0 0 Z (F0 m 4 ls []) := by
    intro fu
    induction fu with
    | zero => intro _ _ h0; exact absurd h0 (Nat.not_lt_zero _)
    | succ fu ih_4 =>
      intro i c0 hfu hi1 hc1 H locs ls hP hD hS hl
      refine lv_iload_n hx hb dX1_playersLeft_4 rfl (lv_at hl 2 rfl) ?_
      refine lv_aload_n hx hb dX1_playersLeft_5 rfl (lv_at hl 0 rfl) ?_
      refine va_get (D := g.1) (ci := 1) (v := .int (nI (np))) (C := RX1) (T := TX1) (N := 6) hx hb hts hi_1 hown hK hP 0 rfl rfl 1 (by decide) f_15 (fun _ h9 => h9) rfl dX1_playersLeft_6 ?_
      refine lv_icmp_ge (tgt := 29) hx hb dX1_playersLeft_9 (by decide) (fun c_9_1 => ?_) (fun c_9_1 => ?_)
      · skip
        have n_9_1 : np ≤ i := (nI_leI (a := np) (b := i) (by omega) (by omega)).mp c_9_1
        refine lv_iload_n hx hb dX1_playersLeft_29 rfl (lv_at hl 1 rfl) ?_
        exact hret (nI (c0)) (QW g q u k (nI np) mv lm ch fr) _ _ _ _ dX1_playersLeft_30 (⟨rfl, by rw [hc1, show i = np by omega]⟩) hP hD hS
      · skip
        have n_9_1 : ¬ np ≤ i := fun q9 => c_9_1 ((nI_leI (a := np) (b := i) (by omega) (by omega)).mpr q9)
        refine lv_aload_n hx hb dX1_playersLeft_12 rfl (lv_at hl 0 rfl) ?_
        refine lv_iload_n hx hb dX1_playersLeft_13 rfl (lv_at hl 2 rfl) ?_
        refine call_iVW (As := [.int (nI (i))]) (rest := []) ⟨hx, hb, hml, hown, hts⟩ (c_X1_isOut l g q u k K np mv lm ch fr hk hp i (by omega)) (cwV 1 hts gX1_playersLeft_X1_isOut rfl rfl rfl (by decide +kernel) ⟨Nat.le_of_ble_eq_true rfl, Nat.le_of_ble_eq_true rfl⟩) hP hK hD hS hA 0 rfl rfl rfl rfl hl.1 rfl (Nat.le_of_ble_eq_true rfl) dX1_playersLeft_14 ⟨Nat.le_refl _, Nat.le_refl _⟩ (fun r_14 w H locs h_14 hP hD hS => ?_)
        obtain ⟨rfl, h_14⟩ := h_14
        have hP : va_P g.1 vwCl (QW g q u k (nI np) mv lm ch fr) H := hP
        have hD : va_D A (QW g q u k (nI np) mv lm ch fr) := hD
        refine lv_if_ne (tgt := 23) hx hb dX1_playersLeft_17 (by decide) (fun c_17_2 => ?_) (fun c_17_2 => ?_)
        · skip
          have n_17_2 := Bv.t h_14 c_17_2
          refine lv_iinc (v := (nI (i + 1))) (lv' := [(2, .int (nI (i + 1))), (0, .ref (q)), (1, .int (nI (c0)))]) hx hb dX1_playersLeft_23 hl (k := 2) rfl (nI_add (i) 1) (by decide) rfl (fun ls hl => ?_)
          refine lv_goto (tgt := 4) hx hb dX1_playersLeft_26 (by decide) ?_
          exact ih_4 (i + 1) c0 (by omega) (by omega) (ct_f hc1 (decide_eq_false (by omega))) _ _ _ hP hD hS (lv_sub hl [1, 2, 0] rfl)
        · skip
          have n_17_2 := Bv.f h_14 c_17_2
          refine lv_iinc (v := (nI (c0 + 1))) (lv' := [(1, .int (nI (c0 + 1))), (0, .ref (q)), (2, .int (nI (i)))]) hx hb dX1_playersLeft_20 hl (k := 1) rfl (nI_add (c0) 1) (by decide) rfl (fun ls hl => ?_)
          refine lv_iinc (v := (nI (i + 1))) (lv' := [(2, .int (nI (i + 1))), (1, .int (nI (c0 + 1))), (0, .ref (q))]) hx hb dX1_playersLeft_23 hl (k := 2) rfl (nI_add (i) 1) (by decide) rfl (fun ls hl => ?_)
          refine lv_goto (tgt := 4) hx hb dX1_playersLeft_26 (by decide) ?_
          exact ih_4 (i + 1) (c0 + 1) (by omega) (by omega) (ct_t hc1 (decide_eq_true (by omega))) _ _ _ hP hD hS (lv_sub hl [2, 1, 0] rfl)
  exact L_4 (_ + 1) 0 0 (Nat.lt_succ_self _) (Nat.zero_le _) (rfl) _ _ _ hP hD hS (lv_sub hl [2, 1, 0] rfl)

abbrev rm_X1_nextBehind : Room := { frames := 3, cells := 0, slots := 0, locals := 63 }
set_option maxHeartbeats 4000000 in
set_option maxRecDepth 100000 in
theorem c_X1_nextBehind (l : Launch) (g : GG) (q u : Nat) (k : Nat → Int32) (K : Nat → Nat) (np : Nat) (mv lm ch : Int32) (fr : Int64) (hk : GK k K) (hp : np ≤ 4) (j : Nat) (hj : j < np) : Ci l yX1_nextBehind wsX1_nextBehind rm_X1_nextBehind g [.ref (q), .int (nI (j))] (QW g q u k (nI np) mv lm ch fr) (fun r w => w = (QW g q u k (nI np) mv lm ch fr) ∧ r = oI (nxF K np np j)) := by
  refine Ci.ofI (cc := cX1_nextBehind) (maxL := 4) (by decide) rfl (Nat.le_of_ble_eq_true rfl) ?_
  intro p e s m args below meth c A Z hx hb hml hts hown hK hA hret H locs ls hP hD hS hl
  have f_15 := hts (.fieldLink RX1 15 "GhostGame$Game" "playerCount" "I") (by decide +kernel)
  have hi_1 : ∀ w ∈ wsX10, w ∈ wsX1_nextBehind := by decide +kernel
  have hl : lv_has ls 4 [(0, .ref (q)), (1, .int (nI (j)))] := hl
  refine lv_iload_n hx hb dX1_nextBehind_0 rfl (lv_at hl 1 rfl) ?_
  refine lv_istore_n (lv' := [(2, .int (nI (j))), (0, .ref (q)), (1, .int (nI (j)))]) hx hb dX1_nextBehind_1 rfl hl (by decide) rfl (fun ls hl => ?_)
  refine lv_iconst (v := nI 0) hx hb dX1_nextBehind_2 (by decide) ?_
  refine lv_istore_n (lv' := [(3, .int (nI (0))), (2, .int (nI (j))), (0, .ref (q)), (1, .int (nI (j)))]) hx hb dX1_nextBehind_3 rfl hl (by decide) rfl (fun ls hl => ?_)
  have L_4 : ∀ (fu : Nat) (t c0 : Nat), np - t < fu → (t ≤ np) → (c0 < np) → (nxF K np (np - t) c0 = nxF K np np j) → ∀ (H : Heap) (locs : List Loc) (ls : Array Slot), va_P g.1 vwCl (QW g q u k (nI np) mv lm ch fr) H → va_D A (QW g q u k (nI np) mv lm ch fr) → va_S A s.heap H locs → lv_has ls 4 [(0, .ref (q)), (2, .int (nI (c0))), (3, .int (nI (t)))] → W p l e rm_X1_nextBehind s m args below meth c H locs 0 0 Z (F0 m 4 ls []) := by
    intro fu
    induction fu with
    | zero => intro _ _ h0; exact absurd h0 (Nat.not_lt_zero _)
    | succ fu ih_4 =>
      intro t c0 hfu ht1 hc1 hn H locs ls hP hD hS hl
      refine lv_iload_n hx hb dX1_nextBehind_4 rfl (lv_at hl 2 rfl) ?_
      refine lv_aload_n hx hb dX1_nextBehind_5 rfl (lv_at hl 0 rfl) ?_
      refine va_get (D := g.1) (ci := 1) (v := .int (nI (np))) (C := RX1) (T := TX1) (N := 6) hx hb hts hi_1 hown hK hP 0 rfl rfl 1 (by decide) f_15 (fun _ h9 => h9) rfl dX1_nextBehind_6 ?_
      refine lv_icmp_ge (tgt := 46) hx hb dX1_nextBehind_9 (by decide) (fun c_9_1 => ?_) (fun c_9_1 => ?_)
      · skip
        have n_9_1 : np ≤ t := (nI_leI (a := np) (b := t) (by omega) (by omega)).mp c_9_1
        refine lv_iconst (v := -1) hx hb dX1_nextBehind_46 (by decide) ?_
        exact hret (-1) (QW g q u k (nI np) mv lm ch fr) _ _ _ _ dX1_nextBehind_47 (⟨rfl, by rw [← hn, show np - t = 0 by omega]; rfl⟩) hP hD hS
      · skip
        have n_9_1 : ¬ np ≤ t := fun q9 => c_9_1 ((nI_leI (a := np) (b := t) (by omega) (by omega)).mpr q9)
        refine lv_iload_n hx hb dX1_nextBehind_12 rfl (lv_at hl 1 rfl) ?_
        refine lv_iconst (v := nI 1) hx hb dX1_nextBehind_13 (by decide) ?_
        refine lv_iadd hx hb dX1_nextBehind_14 ?_
        refine tp_i (nI_add c0 1) ?_
        refine lv_aload_n hx hb dX1_nextBehind_15 rfl (lv_at hl 0 rfl) ?_
        refine va_get (D := g.1) (ci := 1) (v := .int (nI (np))) (C := RX1) (T := TX1) (N := 6) hx hb hts hi_1 hown hK hP 0 rfl rfl 1 (by decide) f_15 (fun _ h9 => h9) rfl dX1_nextBehind_16 ?_
        refine lv_icmp_ge (tgt := 28) hx hb dX1_nextBehind_19 (by decide) (fun c_19_2 => ?_) (fun c_19_2 => ?_)
        · skip
          have n_19_2 : np ≤ c0 + 1 := (nI_leI (a := np) (b := c0 + 1) (by omega) (by omega)).mp c_19_2
          refine lv_iconst (v := nI 0) hx hb dX1_nextBehind_28 (by decide) ?_
          refine lv_istore_n (lv' := [(2, .int (nI (0))), (0, .ref (q)), (3, .int (nI (t)))]) hx hb dX1_nextBehind_29 rfl hl (by decide) rfl (fun ls hl => ?_)
          refine lv_aload_n hx hb dX1_nextBehind_30 rfl (lv_at hl 1 rfl) ?_
          refine lv_iload_n hx hb dX1_nextBehind_31 rfl (lv_at hl 0 rfl) ?_
          refine call_iVW (As := [.int (nI (0))]) (rest := []) ⟨hx, hb, hml, hown, hts⟩ (c_X1_isOut l g q u k K np mv lm ch fr hk hp 0 (by omega)) (cwV 1 hts gX1_nextBehind_X1_isOut rfl rfl rfl (by decide +kernel) ⟨Nat.le_of_ble_eq_true rfl, Nat.le_of_ble_eq_true rfl⟩) hP hK hD hS hA 0 rfl rfl rfl rfl hl.1 rfl (Nat.le_of_ble_eq_true rfl) dX1_nextBehind_32 ⟨Nat.le_refl _, Nat.le_refl _⟩ (fun r_32 w H locs h_32 hP hD hS => ?_)
          obtain ⟨rfl, h_32⟩ := h_32
          have hP : va_P g.1 vwCl (QW g q u k (nI np) mv lm ch fr) H := hP
          have hD : va_D A (QW g q u k (nI np) mv lm ch fr) := hD
          refine lv_if_ne (tgt := 40) hx hb dX1_nextBehind_35 (by decide) (fun c_35_3 => ?_) (fun c_35_3 => ?_)
          · skip
            have n_35_3 := Bv.t h_32 c_35_3
            refine lv_iinc (v := (nI (t + 1))) (lv' := [(3, .int (nI (t + 1))), (2, .int (nI (0))), (0, .ref (q))]) hx hb dX1_nextBehind_40 hl (k := 2) rfl (nI_add (t) 1) (by decide) rfl (fun ls hl => ?_)
            refine lv_goto (tgt := 4) hx hb dX1_nextBehind_43 (by decide) ?_
            exact ih_4 (t + 1) 0 (by omega) (by omega) (by omega) (by rw [← hn]; exact (nxF_go (by omega) (nx1_f n_19_2) n_35_3).symm) _ _ _ hP hD hS (lv_sub hl [2, 1, 0] rfl)
          · skip
            have n_35_3 := Bv.f h_32 c_35_3
            refine lv_iload_n hx hb dX1_nextBehind_38 rfl (lv_at hl 0 rfl) ?_
            exact hret (nI (0)) (QW g q u k (nI np) mv lm ch fr) _ _ _ _ dX1_nextBehind_39 (⟨rfl, by rw [← hn, nxF_hit (by omega) (nx1_f n_19_2) n_35_3]; rfl⟩) hP hD hS
        · skip
          have n_19_2 : ¬ np ≤ c0 + 1 := fun q9 => c_19_2 ((nI_leI (a := np) (b := c0 + 1) (by omega) (by omega)).mpr q9)
          refine lv_iload_n hx hb dX1_nextBehind_22 rfl (lv_at hl 1 rfl) ?_
          refine lv_iconst (v := nI 1) hx hb dX1_nextBehind_23 (by decide) ?_
          refine lv_iadd hx hb dX1_nextBehind_24 ?_
          refine tp_i (nI_add c0 1) ?_
          refine lv_goto (tgt := 29) hx hb dX1_nextBehind_25 (by decide) ?_
          refine lv_istore_n (lv' := [(2, .int (nI (c0 + 1))), (0, .ref (q)), (3, .int (nI (t)))]) hx hb dX1_nextBehind_29 rfl hl (by decide) rfl (fun ls hl => ?_)
          refine lv_aload_n hx hb dX1_nextBehind_30 rfl (lv_at hl 1 rfl) ?_
          refine lv_iload_n hx hb dX1_nextBehind_31 rfl (lv_at hl 0 rfl) ?_
          refine call_iVW (As := [.int (nI (c0 + 1))]) (rest := []) ⟨hx, hb, hml, hown, hts⟩ (c_X1_isOut l g q u k K np mv lm ch fr hk hp (c0 + 1) (by omega)) (cwV 1 hts gX1_nextBehind_X1_isOut rfl rfl rfl (by decide +kernel) ⟨Nat.le_of_ble_eq_true rfl, Nat.le_of_ble_eq_true rfl⟩) hP hK hD hS hA 0 rfl rfl rfl rfl hl.1 rfl (Nat.le_of_ble_eq_true rfl) dX1_nextBehind_32 ⟨Nat.le_refl _, Nat.le_refl _⟩ (fun r_32 w H locs h_32 hP hD hS => ?_)
          obtain ⟨rfl, h_32⟩ := h_32
          have hP : va_P g.1 vwCl (QW g q u k (nI np) mv lm ch fr) H := hP
          have hD : va_D A (QW g q u k (nI np) mv lm ch fr) := hD
          refine lv_if_ne (tgt := 40) hx hb dX1_nextBehind_35 (by decide) (fun c_35_4 => ?_) (fun c_35_4 => ?_)
          · skip
            have n_35_4 := Bv.t h_32 c_35_4
            refine lv_iinc (v := (nI (t + 1))) (lv' := [(3, .int (nI (t + 1))), (2, .int (nI (c0 + 1))), (0, .ref (q))]) hx hb dX1_nextBehind_40 hl (k := 2) rfl (nI_add (t) 1) (by decide) rfl (fun ls hl => ?_)
            refine lv_goto (tgt := 4) hx hb dX1_nextBehind_43 (by decide) ?_
            exact ih_4 (t + 1) (c0 + 1) (by omega) (by omega) (by omega) (by rw [← hn]; exact (nxF_go (by omega) (nx1_t n_19_2) n_35_4).symm) _ _ _ hP hD hS (lv_sub hl [2, 1, 0] rfl)
          · skip
            have n_35_4 := Bv.f h_32 c_35_4
            refine lv_iload_n hx hb dX1_nextBehind_38 rfl (lv_at hl 0 rfl) ?_
            exact hret (nI (c0 + 1)) (QW g q u k (nI np) mv lm ch fr) _ _ _ _ dX1_nextBehind_39 (⟨rfl, by rw [← hn, nxF_hit (by omega) (nx1_t n_19_2) n_35_4]; rfl⟩) hP hD hS
  exact L_4 (_ + 1) 0 j (Nat.lt_succ_self _) (Nat.zero_le _) (hj) (rfl) _ _ _ hP hD hS (lv_sub hl [2, 1, 0] rfl)

abbrev rm_X1_endRound : Room := { frames := 4, cells := 0, slots := 0, locals := 86 }
set_option maxHeartbeats 4000000 in
set_option maxRecDepth 100000 in
theorem c_X1_endRound (l : Launch) (g : GG) (q u : Nat) (k : Nat → Int32) (K : Nat → Nat) (np : Nat) (mv lm ch : Int32) (fr : Int64) (hk : GK k K) (hp : np ≤ 4) (j : Nat) (hj : j < np) (hKj : K j < 5) : Ci l yX1_endRound wsX1_endRound rm_X1_endRound g [.ref (q), .int (nI (j))] (QW g q u k (nI np) mv lm ch fr) (fun r w => r = nI j ∧ w = QW g q u (upd k j (nI (K j + 1))) (nI np) (erM K np j) lm (erC K np j ch) (lN 0)) := by
  refine Ci.ofI (cc := cX1_endRound) (maxL := 2) (by decide) rfl (Nat.le_of_ble_eq_true rfl) ?_
  intro p e s m args below meth c A Z hx hb hml hts hown hK hA hret H locs ls hP hD hS hl
  have f_9 := hts (.fieldLink RX1 9 "GhostGame$Game" "strikes" "[I") (by decide +kernel)
  have f_19 := hts (.fieldLink RX1 19 "GhostGame$Game" "mover" "I") (by decide +kernel)
  have f_25 := hts (.fieldLink RX1 25 "GhostGame$Game" "champion" "I") (by decide +kernel)
  have f_30 := hts (.fieldLink RX1 30 "GhostGame$Game" "fragment" "J") (by decide +kernel)
  have hi_1 : ∀ w ∈ wsX10, w ∈ wsX1_endRound := by decide +kernel
  have hl : lv_has ls 2 [(0, .ref (q)), (1, .int (nI (j)))] := hl
  have hk2 := hk.up hKj
  have hKb : leftN (erK K j) np ≤ np := fb_ct_le _ _
  refine lv_aload_n hx hb dX1_endRound_0 rfl (lv_at hl 0 rfl) ?_
  refine lv_iload_n hx hb dX1_endRound_1 rfl (lv_at hl 1 rfl) ?_
  refine call_iVW (As := [.int (nI (j))]) (rest := []) ⟨hx, hb, hml, hown, hts⟩ (c_X1_hasPlayer l g q u k np mv lm ch fr hp (nI j)) (cwV 1 hts gX1_endRound_X1_hasPlayer rfl rfl rfl (by decide +kernel) ⟨Nat.le_of_ble_eq_true rfl, Nat.le_of_ble_eq_true rfl⟩) hP hK hD hS hA 0 rfl rfl rfl rfl hl.1 rfl (Nat.le_of_ble_eq_true rfl) dX1_endRound_2 ⟨Nat.le_refl _, Nat.le_refl _⟩ (fun r_2 w H locs h_2 hP hD hS => ?_)
  obtain ⟨rfl, h_2⟩ := h_2
  have hP : va_P g.1 vwCl (QW g q u k (nI np) mv lm ch fr) H := hP
  have hD : va_D A (QW g q u k (nI np) mv lm ch fr) := hD
  refine lv_if_eq (tgt := 18) hx hb dX1_endRound_5 (by decide) (fun c_5_1 => ?_) (fun c_5_1 => ?_)
  · skip
    have n_5_1 := Bv.f h_2 c_5_1
    exact absurd ⟨j, hj, rfl⟩ n_5_1
  · skip
    have n_5_1 := Bv.t h_2 c_5_1
    refine lv_aload_n hx hb dX1_endRound_8 rfl (lv_at hl 0 rfl) ?_
    refine va_get (D := g.1) (ci := 1) (v := .ref (u)) (C := RX1) (T := TX1) (N := 6) hx hb hts hi_1 hown hK hP 0 rfl rfl 0 (by decide) f_9 (fun _ h9 => h9) rfl dX1_endRound_9 ?_
    refine lv_iload_n hx hb dX1_endRound_12 rfl (lv_at hl 1 rfl) ?_
    refine lv_dup2_11 hx hb dX1_endRound_13 rfl rfl ?_
    refine va_iald (n := 4) (f := k) hx hb hK hP 1 0 rfl rfl (vp_in_nI (n := j) (by omega) (by decide)) dX1_endRound_14 ?_
    refine tp_i (congrArg k (nI_clamp (n := j) (by omega))) ?_
    refine tp_i (b := (nI (K j))) ((hk j (by omega)).1) ?_
    refine lv_iconst (v := nI 1) hx hb dX1_endRound_15 (by decide) ?_
    refine lv_iadd hx hb dX1_endRound_16 ?_
    refine tp_i (nI_add (K j) 1) ?_
    refine va_iast (n := 4) (f := k) hx hb hK hP hD hS 1 0 rfl rfl (vp_in_nI (n := j) (by omega) (by decide)) dX1_endRound_17 (fun H locs hP hD hS => ?_)
    rw [nI_clamp (n := j) (by omega)] at hP hD
    have hP : va_P g.1 vwCl (QW g q u (upd k j (nI ((K j) + 1))) (nI np) mv lm ch fr) H := hP
    have hD : va_D A (QW g q u (upd k j (nI ((K j) + 1))) (nI np) mv lm ch fr) := hD
    refine lv_aload_n hx hb dX1_endRound_18 rfl (lv_at hl 0 rfl) ?_
    refine lv_lconst (v := lN 0) hx hb dX1_endRound_19 (by decide) ?_
    refine va_put (D := g.1) (ci := 1) (v := .long (lN (0))) (ty := .long) (C := RX1) (T := TX1) (N := 6) hx hb hts hi_1 tyX1 tyX1_ok nmX1 hown hK hP hD hS 0 rfl rfl 5 (by decide) f_30 (fun _ h9 => h9) rfl (by decide +kernel) rfl rfl (Nat.le_of_ble_eq_true rfl) dX1_endRound_20 (fun H locs hP hD hS => ?_)
    have hP : va_P g.1 vwCl (QW g q u (upd k j (nI ((K j) + 1))) (nI np) mv lm ch (lN 0)) H := hP
    have hD : va_D A (QW g q u (upd k j (nI ((K j) + 1))) (nI np) mv lm ch (lN 0)) := hD
    refine lv_aload_n hx hb dX1_endRound_23 rfl (lv_at hl 0 rfl) ?_
    refine call_iVW (As := []) (rest := []) ⟨hx, hb, hml, hown, hts⟩ (c_X1_playersLeft l g q u (upd k j (nI ((K j) + 1))) (erK K j) np mv lm ch (lN 0) hk2 hp) (cwV 0 hts gX1_endRound_X1_playersLeft rfl rfl rfl (by decide +kernel) ⟨Nat.le_of_ble_eq_true rfl, Nat.le_of_ble_eq_true rfl⟩) hP hK hD hS hA 0 rfl rfl rfl rfl hl.1 rfl (Nat.le_of_ble_eq_true rfl) dX1_endRound_24 ⟨Nat.le_refl _, Nat.le_refl _⟩ (fun r_24 w H locs h_24 hP hD hS => ?_)
    obtain ⟨rfl, h_24⟩ := h_24
    subst h_24
    have hP : va_P g.1 vwCl (QW g q u (upd k j (nI ((K j) + 1))) (nI np) mv lm ch (lN 0)) H := hP
    have hD : va_D A (QW g q u (upd k j (nI ((K j) + 1))) (nI np) mv lm ch (lN 0)) := hD
    refine lv_iconst (v := nI 1) hx hb dX1_endRound_27 (by decide) ?_
    refine lv_icmp_ne (tgt := 48) hx hb dX1_endRound_28 (by decide) (fun c_28_2 => ?_) (fun c_28_2 => ?_)
    · skip
      have n_28_2 : ¬ leftN (erK K j) np = 1 := fun q9 => c_28_2 ((nI_eq (a := leftN (erK K j) np) (b := 1) (by omega) (by omega)).mpr q9)
      refine lv_aload_n hx hb dX1_endRound_48 rfl (lv_at hl 0 rfl) ?_
      refine lv_aload_n hx hb dX1_endRound_49 rfl (lv_at hl 0 rfl) ?_
      refine lv_iload_n hx hb dX1_endRound_50 rfl (lv_at hl 1 rfl) ?_
      refine call_iVW (As := [.int (nI (j))]) (rest := [.ref (q)]) ⟨hx, hb, hml, hown, hts⟩ (c_X1_isOut l g q u (upd k j (nI ((K j) + 1))) (erK K j) np mv lm ch (lN 0) hk2 hp j (by omega)) (cwV 1 hts gX1_endRound_X1_isOut rfl rfl rfl (by decide +kernel) ⟨Nat.le_of_ble_eq_true rfl, Nat.le_of_ble_eq_true rfl⟩) hP hK hD hS hA 0 rfl rfl rfl rfl hl.1 rfl (Nat.le_of_ble_eq_true rfl) dX1_endRound_51 ⟨Nat.le_refl _, Nat.le_refl _⟩ (fun r_51 w H locs h_51 hP hD hS => ?_)
      obtain ⟨rfl, h_51⟩ := h_51
      have hP : va_P g.1 vwCl (QW g q u (upd k j (nI ((K j) + 1))) (nI np) mv lm ch (lN 0)) H := hP
      have hD : va_D A (QW g q u (upd k j (nI ((K j) + 1))) (nI np) mv lm ch (lN 0)) := hD
      refine lv_if_eq (tgt := 65) hx hb dX1_endRound_54 (by decide) (fun c_54_3 => ?_) (fun c_54_3 => ?_)
      · skip
        have n_54_3 := Bv.f h_51 c_54_3
        refine lv_iload_n hx hb dX1_endRound_65 rfl (lv_at hl 1 rfl) ?_
        refine va_put (D := g.1) (ci := 1) (v := .int (nI (j))) (ty := .int) (C := RX1) (T := TX1) (N := 6) hx hb hts hi_1 tyX1 tyX1_ok nmX1 hown hK hP hD hS 0 rfl rfl 2 (by decide) f_19 (fun _ h9 => h9) rfl (by decide +kernel) rfl rfl (Nat.le_of_ble_eq_true rfl) dX1_endRound_66 (fun H locs hP hD hS => ?_)
        have hP : va_P g.1 vwCl (QW g q u (upd k j (nI ((K j) + 1))) (nI np) (nI j) lm ch (lN 0)) H := hP
        have hD : va_D A (QW g q u (upd k j (nI ((K j) + 1))) (nI np) (nI j) lm ch (lN 0)) := hD
        refine lv_iload_n hx hb dX1_endRound_69 rfl (lv_at hl 1 rfl) ?_
        exact hret (nI (j)) (QW g q u (upd k j (nI ((K j) + 1))) (nI np) (nI j) lm ch (lN 0)) _ _ _ _ dX1_endRound_70 (⟨rfl, by unfold erM erC; rw [if_neg n_28_2, if_neg n_28_2, if_neg n_54_3]⟩) hP hD hS
      · skip
        have n_54_3 := Bv.t h_51 c_54_3
        refine lv_aload_n hx hb dX1_endRound_57 rfl (lv_at hl 0 rfl) ?_
        refine lv_iload_n hx hb dX1_endRound_58 rfl (lv_at hl 1 rfl) ?_
        refine call_iVW (As := [.int (nI (j))]) (rest := [.ref (q)]) ⟨hx, hb, hml, hown, hts⟩ (c_X1_nextBehind l g q u (upd k j (nI ((K j) + 1))) (erK K j) np mv lm ch (lN 0) hk2 hp j hj) (cwV 1 hts gX1_endRound_X1_nextBehind rfl rfl rfl (by decide +kernel) ⟨Nat.le_of_ble_eq_true rfl, Nat.le_of_ble_eq_true rfl⟩) hP hK hD hS hA 0 rfl rfl rfl rfl hl.1 rfl (Nat.le_of_ble_eq_true rfl) dX1_endRound_59 ⟨Nat.le_refl _, Nat.le_refl _⟩ (fun r_59 w H locs h_59 hP hD hS => ?_)
        obtain ⟨rfl, h_59⟩ := h_59
        subst h_59
        have hP : va_P g.1 vwCl (QW g q u (upd k j (nI ((K j) + 1))) (nI np) mv lm ch (lN 0)) H := hP
        have hD : va_D A (QW g q u (upd k j (nI ((K j) + 1))) (nI np) mv lm ch (lN 0)) := hD
        refine lv_goto (tgt := 66) hx hb dX1_endRound_62 (by decide) ?_
        refine va_put (D := g.1) (ci := 1) (v := .int (oI (nxF (erK K j) np np j))) (ty := .int) (C := RX1) (T := TX1) (N := 6) hx hb hts hi_1 tyX1 tyX1_ok nmX1 hown hK hP hD hS 0 rfl rfl 2 (by decide) f_19 (fun _ h9 => h9) rfl (by decide +kernel) rfl rfl (Nat.le_of_ble_eq_true rfl) dX1_endRound_66 (fun H locs hP hD hS => ?_)
        have hP : va_P g.1 vwCl (QW g q u (upd k j (nI ((K j) + 1))) (nI np) (oI (nxF (erK K j) np np j)) lm ch (lN 0)) H := hP
        have hD : va_D A (QW g q u (upd k j (nI ((K j) + 1))) (nI np) (oI (nxF (erK K j) np np j)) lm ch (lN 0)) := hD
        refine lv_iload_n hx hb dX1_endRound_69 rfl (lv_at hl 1 rfl) ?_
        exact hret (nI (j)) (QW g q u (upd k j (nI ((K j) + 1))) (nI np) (oI (nxF (erK K j) np np j)) lm ch (lN 0)) _ _ _ _ dX1_endRound_70 (⟨rfl, by unfold erM erC; rw [if_neg n_28_2, if_neg n_28_2, if_pos n_54_3]⟩) hP hD hS
    · skip
      have n_28_2 : leftN (erK K j) np = 1 := (nI_eq (a := leftN (erK K j) np) (b := 1) (by omega) (by omega)).mp c_28_2
      refine lv_aload_n hx hb dX1_endRound_31 rfl (lv_at hl 0 rfl) ?_
      refine lv_aload_n hx hb dX1_endRound_32 rfl (lv_at hl 0 rfl) ?_
      refine lv_iload_n hx hb dX1_endRound_33 rfl (lv_at hl 1 rfl) ?_
      refine call_iVW (As := [.int (nI (j))]) (rest := [.ref (q)]) ⟨hx, hb, hml, hown, hts⟩ (c_X1_nextBehind l g q u (upd k j (nI ((K j) + 1))) (erK K j) np mv lm ch (lN 0) hk2 hp j hj) (cwV 1 hts gX1_endRound_X1_nextBehind rfl rfl rfl (by decide +kernel) ⟨Nat.le_of_ble_eq_true rfl, Nat.le_of_ble_eq_true rfl⟩) hP hK hD hS hA 0 rfl rfl rfl rfl hl.1 rfl (Nat.le_of_ble_eq_true rfl) dX1_endRound_34 ⟨Nat.le_refl _, Nat.le_refl _⟩ (fun r_34 w H locs h_34 hP hD hS => ?_)
      obtain ⟨rfl, h_34⟩ := h_34
      subst h_34
      have hP : va_P g.1 vwCl (QW g q u (upd k j (nI ((K j) + 1))) (nI np) mv lm ch (lN 0)) H := hP
      have hD : va_D A (QW g q u (upd k j (nI ((K j) + 1))) (nI np) mv lm ch (lN 0)) := hD
      refine va_put (D := g.1) (ci := 1) (v := .int (oI (nxF (erK K j) np np j))) (ty := .int) (C := RX1) (T := TX1) (N := 6) hx hb hts hi_1 tyX1 tyX1_ok nmX1 hown hK hP hD hS 0 rfl rfl 4 (by decide) f_25 (fun _ h9 => h9) rfl (by decide +kernel) rfl rfl (Nat.le_of_ble_eq_true rfl) dX1_endRound_37 (fun H locs hP hD hS => ?_)
      have hP : va_P g.1 vwCl (QW g q u (upd k j (nI ((K j) + 1))) (nI np) mv lm (oI (nxF (erK K j) np np j)) (lN 0)) H := hP
      have hD : va_D A (QW g q u (upd k j (nI ((K j) + 1))) (nI np) mv lm (oI (nxF (erK K j) np np j)) (lN 0)) := hD
      refine lv_aload_n hx hb dX1_endRound_40 rfl (lv_at hl 0 rfl) ?_
      refine lv_iconst (v := -1) hx hb dX1_endRound_41 (by decide) ?_
      refine va_put (D := g.1) (ci := 1) (v := .int (-1)) (ty := .int) (C := RX1) (T := TX1) (N := 6) hx hb hts hi_1 tyX1 tyX1_ok nmX1 hown hK hP hD hS 0 rfl rfl 2 (by decide) f_19 (fun _ h9 => h9) rfl (by decide +kernel) rfl rfl (Nat.le_of_ble_eq_true rfl) dX1_endRound_42 (fun H locs hP hD hS => ?_)
      have hP : va_P g.1 vwCl (QW g q u (upd k j (nI ((K j) + 1))) (nI np) (-1) lm (oI (nxF (erK K j) np np j)) (lN 0)) H := hP
      have hD : va_D A (QW g q u (upd k j (nI ((K j) + 1))) (nI np) (-1) lm (oI (nxF (erK K j) np np j)) (lN 0)) := hD
      refine lv_goto (tgt := 69) hx hb dX1_endRound_45 (by decide) ?_
      refine lv_iload_n hx hb dX1_endRound_69 rfl (lv_at hl 1 rfl) ?_
      exact hret (nI (j)) (QW g q u (upd k j (nI ((K j) + 1))) (nI np) (-1) lm (oI (nxF (erK K j) np np j)) (lN 0)) _ _ _ _ dX1_endRound_70 (⟨rfl, by unfold erM erC; rw [if_pos n_28_2, if_pos n_28_2]⟩) hP hD hS

abbrev rm_X1_addLetter : Room := { frames := 5, cells := 0, slots := 0, locals := 107 }
set_option maxHeartbeats 4000000 in
set_option maxRecDepth 100000 in
theorem c_X1_addLetter (l : Launch) (g : GG) (q u : Nat) (k : Nat → Int32) (K : Nat → Nat) (np : Nat) (lm ch : Int32) (hk : GK k K) (hp : np ≤ 4) (d v : Nat) (f : Nat → Int64) (S : Nat → Nat) (cnt ll : Nat) (hf : DR f S cnt) (hc : cnt ≤ 50) (hll : ll ≤ 10) (F a j : Nat) (hF : RV F) (hF9 : rwL F < 10) (ha : a < 26) (hj : j < np) (hKj : K j < 5) : Ci l yX1_addLetter wsX1_addLetter rm_X1_addLetter g [.ref (q), .int (nI (a)), .ref (d)] (QDW g q u k (nI np) (nI j) lm ch (lN F) d v f (nI cnt) (nI ll)) (fun r w => ((ll ≤ rwL (rwX F a) ∧ inS S cnt (rwX F a)) ∧ r = nI j ∧ w = (QDW g q u (upd k j (nI (K j + 1))) (nI np) (erM K np j) lm (erC K np j ch) (lN 0) d v f (nI cnt) (nI ll))) ∨ (¬ (ll ≤ rwL (rwX F a) ∧ inS S cnt (rwX F a)) ∧ r = -1 ∧ w = (QDW g q u k (nI np) (oI (nxF K np np j)) (nI j) ch (lN (rwX F a)) d v f (nI cnt) (nI ll)))) := by
  refine Ci.ofI (cc := cX1_addLetter) (maxL := 3) (by decide) rfl (Nat.le_of_ble_eq_true rfl) ?_
  intro p e s m args below meth c A Z hx hb hml hts hown hK hA hret H locs ls hP hD hS hl
  have f_19 := hts (.fieldLink RX1 19 "GhostGame$Game" "mover" "I") (by decide +kernel)
  have f_22 := hts (.fieldLink RX1 22 "GhostGame$Game" "lastMover" "I") (by decide +kernel)
  have f_30 := hts (.fieldLink RX1 30 "GhostGame$Game" "fragment" "J") (by decide +kernel)
  have hi_1 : ∀ w ∈ wsX10, w ∈ wsX1_addLetter := by decide +kernel
  have hl : lv_has ls 3 [(0, .ref (q)), (1, .int (nI (a))), (2, .ref (d))] := hl
  have hX : RV (rwX F a) := hF.rx (by omega) ha
  refine lv_aload_n hx hb dX1_addLetter_0 rfl (lv_at hl 0 rfl) ?_
  refine lv_aload_n hx hb dX1_addLetter_1 rfl (lv_at hl 0 rfl) ?_
  refine va_get (D := g.1) (ci := 1) (v := .long (lN (F))) (C := RX1) (T := TX1) (N := 6) hx hb hts hi_1 hown hK hP 0 rfl rfl 5 (by decide) f_30 (fun _ h9 => h9) rfl dX1_addLetter_2 ?_
  refine lv_iload_n hx hb dX1_addLetter_5 rfl (lv_at hl 1 rfl) ?_
  refine call_lP (As := [.long (lN (F)), .int (nI (a))]) (rest := [.ref (q)]) ⟨hx, hb, hml, hown, hts⟩ (c_X2_with l F a hF hF9 (by omega)) (va_cwS 2 hts gX1_addLetter_X2_with rfl rfl rfl (by decide +kernel) ⟨Nat.le_of_ble_eq_true rfl, Nat.le_of_ble_eq_true rfl⟩) hP hK hD hS hA rfl hl.1 rfl (Nat.le_of_ble_eq_true rfl) dX1_addLetter_6 ⟨Nat.le_refl _, Nat.le_refl _⟩ (fun r_6 H locs h_6 hP hD hS => ?_)
  subst h_6
  refine va_put (D := g.1) (ci := 1) (v := .long (lN (rwX F a))) (ty := .long) (C := RX1) (T := TX1) (N := 6) hx hb hts hi_1 tyX1 tyX1_ok nmX1 hown hK hP hD hS 0 rfl rfl 5 (by decide) f_30 (fun _ h9 => h9) rfl (by decide +kernel) rfl rfl (Nat.le_of_ble_eq_true rfl) dX1_addLetter_9 (fun H locs hP hD hS => ?_)
  have hP : va_P g.1 vwCl (QDW g q u k (nI np) (nI j) lm ch (lN (rwX F a)) d v f (nI cnt) (nI ll)) H := hP
  have hD : va_D A (QDW g q u k (nI np) (nI j) lm ch (lN (rwX F a)) d v f (nI cnt) (nI ll)) := hD
  refine lv_aload_n hx hb dX1_addLetter_12 rfl (lv_at hl 2 rfl) ?_
  refine lv_aload_n hx hb dX1_addLetter_13 rfl (lv_at hl 0 rfl) ?_
  refine va_get (D := g.1) (ci := 1) (v := .long (lN (rwX F a))) (C := RX1) (T := TX1) (N := 6) hx hb hts hi_1 hown hK hP 0 rfl rfl 5 (by decide) f_30 (fun _ h9 => h9) rfl dX1_addLetter_14 ?_
  refine call_iV (As := [.long (lN (rwX F a))]) (rest := []) (wr := [(q, .inr (1, [.ref (u), .int (nI (np)), .int (nI (j)), .int (lm), .int (ch), .long (lN (rwX F a))])), (u, .inl (g.2.1, 4, .inl (k)))]) ⟨hx, hb, hml, hown, hts⟩ (c_X0_hasCounting l g d v f S cnt ll hf hc hll (rwX F a) hX) (cwV 1 hts gX1_addLetter_X0_hasCounting rfl rfl rfl (by decide +kernel) ⟨Nat.le_of_ble_eq_true rfl, Nat.le_of_ble_eq_true rfl⟩) hP hK hD hS hA [2, 3] [0, 1] rfl rfl (by decide) (by decide) (by decide) 0 rfl rfl rfl rfl hl.1 rfl (Nat.le_of_ble_eq_true rfl) dX1_addLetter_17 ⟨Nat.le_refl _, Nat.le_refl _⟩ (fun r_17 w H locs h_17 hP hD hS => ?_)
  obtain ⟨rfl, h_17⟩ := h_17
  have hP : va_P g.1 vwCl (QDW g q u k (nI np) (nI j) lm ch (lN (rwX F a)) d v f (nI cnt) (nI ll)) H := hP
  have hD : va_D A (QDW g q u k (nI np) (nI j) lm ch (lN (rwX F a)) d v f (nI cnt) (nI ll)) := hD
  refine lv_if_eq (tgt := 32) hx hb dX1_addLetter_20 (by decide) (fun c_20_1 => ?_) (fun c_20_1 => ?_)
  · skip
    have n_20_1 := Bv.f h_17 c_20_1
    refine lv_aload_n hx hb dX1_addLetter_32 rfl (lv_at hl 0 rfl) ?_
    refine lv_aload_n hx hb dX1_addLetter_33 rfl (lv_at hl 0 rfl) ?_
    refine va_get (D := g.1) (ci := 1) (v := .int (nI (j))) (C := RX1) (T := TX1) (N := 6) hx hb hts hi_1 hown hK hP 0 rfl rfl 2 (by decide) f_19 (fun _ h9 => h9) rfl dX1_addLetter_34 ?_
    refine va_put (D := g.1) (ci := 1) (v := .int (nI (j))) (ty := .int) (C := RX1) (T := TX1) (N := 6) hx hb hts hi_1 tyX1 tyX1_ok nmX1 hown hK hP hD hS 0 rfl rfl 3 (by decide) f_22 (fun _ h9 => h9) rfl (by decide +kernel) rfl rfl (Nat.le_of_ble_eq_true rfl) dX1_addLetter_37 (fun H locs hP hD hS => ?_)
    have hP : va_P g.1 vwCl (QDW g q u k (nI np) (nI j) (nI j) ch (lN (rwX F a)) d v f (nI cnt) (nI ll)) H := hP
    have hD : va_D A (QDW g q u k (nI np) (nI j) (nI j) ch (lN (rwX F a)) d v f (nI cnt) (nI ll)) := hD
    refine lv_aload_n hx hb dX1_addLetter_40 rfl (lv_at hl 0 rfl) ?_
    refine lv_aload_n hx hb dX1_addLetter_41 rfl (lv_at hl 0 rfl) ?_
    refine lv_aload_n hx hb dX1_addLetter_42 rfl (lv_at hl 0 rfl) ?_
    refine va_get (D := g.1) (ci := 1) (v := .int (nI (j))) (C := RX1) (T := TX1) (N := 6) hx hb hts hi_1 hown hK hP 0 rfl rfl 2 (by decide) f_19 (fun _ h9 => h9) rfl dX1_addLetter_43 ?_
    refine call_iV (As := [.int (nI (j))]) (rest := [.ref (q)]) (wr := [(d, .inr (0, [.ref (v), .int (nI (cnt)), .int (nI (ll))])), (v, .inl (g.2.2.1, 50, .inr (.inl (f))))]) ⟨hx, hb, hml, hown, hts⟩ (c_X1_nextBehind l g q u k K np (nI j) (nI j) ch (lN (rwX F a)) hk hp j hj) (cwV 1 hts gX1_addLetter_X1_nextBehind rfl rfl rfl (by decide +kernel) ⟨Nat.le_of_ble_eq_true rfl, Nat.le_of_ble_eq_true rfl⟩) hP hK hD hS hA [0, 1] [2, 3] rfl rfl (by decide) (by decide) (by decide) 0 rfl rfl rfl rfl hl.1 rfl (Nat.le_of_ble_eq_true rfl) dX1_addLetter_46 ⟨Nat.le_refl _, Nat.le_refl _⟩ (fun r_46 w H locs h_46 hP hD hS => ?_)
    obtain ⟨rfl, h_46⟩ := h_46
    subst h_46
    have hP := hP.sub [2, 3, 0, 1] (ws' := (QDW g q u k (nI np) (nI j) (nI j) ch (lN (rwX F a)) d v f (nI cnt) (nI ll))) rfl
    have hD := hD.sub [2, 3, 0, 1] (ws' := (QDW g q u k (nI np) (nI j) (nI j) ch (lN (rwX F a)) d v f (nI cnt) (nI ll))) (by decide) rfl
    have hP : va_P g.1 vwCl (QDW g q u k (nI np) (nI j) (nI j) ch (lN (rwX F a)) d v f (nI cnt) (nI ll)) H := hP
    have hD : va_D A (QDW g q u k (nI np) (nI j) (nI j) ch (lN (rwX F a)) d v f (nI cnt) (nI ll)) := hD
    refine va_put (D := g.1) (ci := 1) (v := .int (oI (nxF K np np j))) (ty := .int) (C := RX1) (T := TX1) (N := 6) hx hb hts hi_1 tyX1 tyX1_ok nmX1 hown hK hP hD hS 0 rfl rfl 2 (by decide) f_19 (fun _ h9 => h9) rfl (by decide +kernel) rfl rfl (Nat.le_of_ble_eq_true rfl) dX1_addLetter_49 (fun H locs hP hD hS => ?_)
    have hP : va_P g.1 vwCl (QDW g q u k (nI np) (oI (nxF K np np j)) (nI j) ch (lN (rwX F a)) d v f (nI cnt) (nI ll)) H := hP
    have hD : va_D A (QDW g q u k (nI np) (oI (nxF K np np j)) (nI j) ch (lN (rwX F a)) d v f (nI cnt) (nI ll)) := hD
    refine lv_iconst (v := -1) hx hb dX1_addLetter_52 (by decide) ?_
    exact hret (-1) (QDW g q u k (nI np) (oI (nxF K np np j)) (nI j) ch (lN (rwX F a)) d v f (nI cnt) (nI ll)) _ _ _ _ dX1_addLetter_53 (Or.inr ⟨n_20_1, rfl, rfl⟩) hP hD hS
  · skip
    have n_20_1 := Bv.t h_17 c_20_1
    refine lv_aload_n hx hb dX1_addLetter_23 rfl (lv_at hl 0 rfl) ?_
    refine lv_aload_n hx hb dX1_addLetter_24 rfl (lv_at hl 0 rfl) ?_
    refine va_get (D := g.1) (ci := 1) (v := .int (nI (j))) (C := RX1) (T := TX1) (N := 6) hx hb hts hi_1 hown hK hP 0 rfl rfl 2 (by decide) f_19 (fun _ h9 => h9) rfl dX1_addLetter_25 ?_
    refine call_iV (As := [.int (nI (j))]) (rest := []) (wr := [(d, .inr (0, [.ref (v), .int (nI (cnt)), .int (nI (ll))])), (v, .inl (g.2.2.1, 50, .inr (.inl (f))))]) ⟨hx, hb, hml, hown, hts⟩ (c_X1_endRound l g q u k K np (nI j) lm ch (lN (rwX F a)) hk hp j hj hKj) (cwV 1 hts gX1_addLetter_X1_endRound rfl rfl rfl (by decide +kernel) ⟨Nat.le_of_ble_eq_true rfl, Nat.le_of_ble_eq_true rfl⟩) hP hK hD hS hA [0, 1] [2, 3] rfl rfl (by decide) (by decide) (by decide) 0 rfl rfl rfl rfl hl.1 rfl (Nat.le_of_ble_eq_true rfl) dX1_addLetter_28 ⟨Nat.le_refl _, Nat.le_refl _⟩ (fun r_28 w H locs h_28 hP hD hS => ?_)
    obtain ⟨h_28, rfl⟩ := h_28
    subst h_28
    have hP := hP.sub [2, 3, 0, 1] (ws' := (QDW g q u (upd k j (nI (K j + 1))) (nI np) (erM K np j) lm (erC K np j ch) (lN 0) d v f (nI cnt) (nI ll))) rfl
    have hD := hD.sub [2, 3, 0, 1] (ws' := (QDW g q u (upd k j (nI (K j + 1))) (nI np) (erM K np j) lm (erC K np j ch) (lN 0) d v f (nI cnt) (nI ll))) (by decide) rfl
    have hP : va_P g.1 vwCl (QDW g q u (upd k j (nI (K j + 1))) (nI np) (erM K np j) lm (erC K np j ch) (lN 0) d v f (nI cnt) (nI ll)) H := hP
    have hD : va_D A (QDW g q u (upd k j (nI (K j + 1))) (nI np) (erM K np j) lm (erC K np j ch) (lN 0) d v f (nI cnt) (nI ll)) := hD
    exact hret (nI (j)) (QDW g q u (upd k j (nI (K j + 1))) (nI np) (erM K np j) lm (erC K np j ch) (lN 0) d v f (nI cnt) (nI ll)) _ _ _ _ dX1_addLetter_31 (Or.inl ⟨n_20_1, rfl, rfl⟩) hP hD hS

abbrev rm_X1_settleChallenge : Room := { frames := 5, cells := 0, slots := 0, locals := 107 }
set_option maxHeartbeats 4000000 in
set_option maxRecDepth 100000 in
theorem c_X1_settleChallenge (l : Launch) (g : GG) (q u : Nat) (k : Nat → Int32) (K : Nat → Nat) (np : Nat) (ch : Int32) (hk : GK k K) (hp : np ≤ 4) (d v : Nat) (f : Nat → Int64) (S : Nat → Nat) (cnt ll : Nat) (hf : DR f S cnt) (hc : cnt ≤ 50) (hll : ll ≤ 10) (F j j2 : Nat) (hF : RV F) (hj : j < np) (hKj : K j < 5) (hj2 : j2 < np) (hKj2 : K j2 < 5) : Ci l yX1_settleChallenge wsX1_settleChallenge rm_X1_settleChallenge g [.ref (q), .ref (d)] (QDW g q u k (nI np) (nI j) (nI j2) ch (lN F) d v f (nI cnt) (nI ll)) (fun r w => ((∃ i, i < cnt ∧ ll ≤ rwL (S i) ∧ bgP (S i) F) ∧ r = nI j ∧ w = (QDW g q u (upd k j (nI (K j + 1))) (nI np) (erM K np j) (nI j2) (erC K np j ch) (lN 0) d v f (nI cnt) (nI ll))) ∨ (¬ (∃ i, i < cnt ∧ ll ≤ rwL (S i) ∧ bgP (S i) F) ∧ r = nI j2 ∧ w = (QDW g q u (upd k j2 (nI (K j2 + 1))) (nI np) (erM K np j2) (nI j2) (erC K np j2 ch) (lN 0) d v f (nI cnt) (nI ll)))) := by
  refine Ci.ofI (cc := cX1_settleChallenge) (maxL := 2) (by decide) rfl (Nat.le_of_ble_eq_true rfl) ?_
  intro p e s m args below meth c A Z hx hb hml hts hown hK hA hret H locs ls hP hD hS hl
  have f_19 := hts (.fieldLink RX1 19 "GhostGame$Game" "mover" "I") (by decide +kernel)
  have f_22 := hts (.fieldLink RX1 22 "GhostGame$Game" "lastMover" "I") (by decide +kernel)
  have f_30 := hts (.fieldLink RX1 30 "GhostGame$Game" "fragment" "J") (by decide +kernel)
  have hi_1 : ∀ w ∈ wsX10, w ∈ wsX1_settleChallenge := by decide +kernel
  have hl : lv_has ls 2 [(0, .ref (q)), (1, .ref (d))] := hl
  refine lv_aload_n hx hb dX1_settleChallenge_0 rfl (lv_at hl 0 rfl) ?_
  refine lv_aload_n hx hb dX1_settleChallenge_1 rfl (lv_at hl 1 rfl) ?_
  refine lv_aload_n hx hb dX1_settleChallenge_2 rfl (lv_at hl 0 rfl) ?_
  refine va_get (D := g.1) (ci := 1) (v := .long (lN (F))) (C := RX1) (T := TX1) (N := 6) hx hb hts hi_1 hown hK hP 0 rfl rfl 5 (by decide) f_30 (fun _ h9 => h9) rfl dX1_settleChallenge_3 ?_
  refine call_iV (As := [.long (lN (F))]) (rest := [.ref (q)]) (wr := [(q, .inr (1, [.ref (u), .int (nI (np)), .int (nI (j)), .int (nI (j2)), .int (ch), .long (lN (F))])), (u, .inl (g.2.1, 4, .inl (k)))]) ⟨hx, hb, hml, hown, hts⟩ (c_X0_hasCountingFrom l g d v f S cnt ll hf hc hll F hF) (cwV 1 hts gX1_settleChallenge_X0_hasCountingFrom rfl rfl rfl (by decide +kernel) ⟨Nat.le_of_ble_eq_true rfl, Nat.le_of_ble_eq_true rfl⟩) hP hK hD hS hA [2, 3] [0, 1] rfl rfl (by decide) (by decide) (by decide) 0 rfl rfl rfl rfl hl.1 rfl (Nat.le_of_ble_eq_true rfl) dX1_settleChallenge_6 ⟨Nat.le_refl _, Nat.le_refl _⟩ (fun r_6 w H locs h_6 hP hD hS => ?_)
  obtain ⟨rfl, h_6⟩ := h_6
  have hP : va_P g.1 vwCl (QDW g q u k (nI np) (nI j) (nI j2) ch (lN F) d v f (nI cnt) (nI ll)) H := hP
  have hD : va_D A (QDW g q u k (nI np) (nI j) (nI j2) ch (lN F) d v f (nI cnt) (nI ll)) := hD
  refine lv_if_eq (tgt := 19) hx hb dX1_settleChallenge_9 (by decide) (fun c_9_1 => ?_) (fun c_9_1 => ?_)
  · skip
    have n_9_1 := Bv.f h_6 c_9_1
    refine lv_aload_n hx hb dX1_settleChallenge_19 rfl (lv_at hl 0 rfl) ?_
    refine va_get (D := g.1) (ci := 1) (v := .int (nI (j2))) (C := RX1) (T := TX1) (N := 6) hx hb hts hi_1 hown hK hP 0 rfl rfl 3 (by decide) f_22 (fun _ h9 => h9) rfl dX1_settleChallenge_20 ?_
    refine call_iV (As := [.int (nI (j2))]) (rest := []) (wr := [(d, .inr (0, [.ref (v), .int (nI (cnt)), .int (nI (ll))])), (v, .inl (g.2.2.1, 50, .inr (.inl (f))))]) ⟨hx, hb, hml, hown, hts⟩ (c_X1_endRound l g q u k K np (nI j) (nI j2) ch (lN F) hk hp j2 hj2 hKj2) (cwV 1 hts gX1_settleChallenge_X1_endRound rfl rfl rfl (by decide +kernel) ⟨Nat.le_of_ble_eq_true rfl, Nat.le_of_ble_eq_true rfl⟩) hP hK hD hS hA [0, 1] [2, 3] rfl rfl (by decide) (by decide) (by decide) 0 rfl rfl rfl rfl hl.1 rfl (Nat.le_of_ble_eq_true rfl) dX1_settleChallenge_23 ⟨Nat.le_refl _, Nat.le_refl _⟩ (fun r_23 w H locs h_23 hP hD hS => ?_)
    obtain ⟨h_23, rfl⟩ := h_23
    subst h_23
    have hP := hP.sub [2, 3, 0, 1] (ws' := (QDW g q u (upd k j2 (nI (K j2 + 1))) (nI np) (erM K np j2) (nI j2) (erC K np j2 ch) (lN 0) d v f (nI cnt) (nI ll))) rfl
    have hD := hD.sub [2, 3, 0, 1] (ws' := (QDW g q u (upd k j2 (nI (K j2 + 1))) (nI np) (erM K np j2) (nI j2) (erC K np j2 ch) (lN 0) d v f (nI cnt) (nI ll))) (by decide) rfl
    have hP : va_P g.1 vwCl (QDW g q u (upd k j2 (nI (K j2 + 1))) (nI np) (erM K np j2) (nI j2) (erC K np j2 ch) (lN 0) d v f (nI cnt) (nI ll)) H := hP
    have hD : va_D A (QDW g q u (upd k j2 (nI (K j2 + 1))) (nI np) (erM K np j2) (nI j2) (erC K np j2 ch) (lN 0) d v f (nI cnt) (nI ll)) := hD
    exact hret (nI (j2)) (QDW g q u (upd k j2 (nI (K j2 + 1))) (nI np) (erM K np j2) (nI j2) (erC K np j2 ch) (lN 0) d v f (nI cnt) (nI ll)) _ _ _ _ dX1_settleChallenge_26 (Or.inr ⟨n_9_1, rfl, rfl⟩) hP hD hS
  · skip
    have n_9_1 := Bv.t h_6 c_9_1
    refine lv_aload_n hx hb dX1_settleChallenge_12 rfl (lv_at hl 0 rfl) ?_
    refine va_get (D := g.1) (ci := 1) (v := .int (nI (j))) (C := RX1) (T := TX1) (N := 6) hx hb hts hi_1 hown hK hP 0 rfl rfl 2 (by decide) f_19 (fun _ h9 => h9) rfl dX1_settleChallenge_13 ?_
    refine lv_goto (tgt := 23) hx hb dX1_settleChallenge_16 (by decide) ?_
    refine call_iV (As := [.int (nI (j))]) (rest := []) (wr := [(d, .inr (0, [.ref (v), .int (nI (cnt)), .int (nI (ll))])), (v, .inl (g.2.2.1, 50, .inr (.inl (f))))]) ⟨hx, hb, hml, hown, hts⟩ (c_X1_endRound l g q u k K np (nI j) (nI j2) ch (lN F) hk hp j hj hKj) (cwV 1 hts gX1_settleChallenge_X1_endRound rfl rfl rfl (by decide +kernel) ⟨Nat.le_of_ble_eq_true rfl, Nat.le_of_ble_eq_true rfl⟩) hP hK hD hS hA [0, 1] [2, 3] rfl rfl (by decide) (by decide) (by decide) 0 rfl rfl rfl rfl hl.1 rfl (Nat.le_of_ble_eq_true rfl) dX1_settleChallenge_23 ⟨Nat.le_refl _, Nat.le_refl _⟩ (fun r_23 w H locs h_23 hP hD hS => ?_)
    obtain ⟨h_23, rfl⟩ := h_23
    subst h_23
    have hP := hP.sub [2, 3, 0, 1] (ws' := (QDW g q u (upd k j (nI (K j + 1))) (nI np) (erM K np j) (nI j2) (erC K np j ch) (lN 0) d v f (nI cnt) (nI ll))) rfl
    have hD := hD.sub [2, 3, 0, 1] (ws' := (QDW g q u (upd k j (nI (K j + 1))) (nI np) (erM K np j) (nI j2) (erC K np j ch) (lN 0) d v f (nI cnt) (nI ll))) (by decide) rfl
    have hP : va_P g.1 vwCl (QDW g q u (upd k j (nI (K j + 1))) (nI np) (erM K np j) (nI j2) (erC K np j ch) (lN 0) d v f (nI cnt) (nI ll)) H := hP
    have hD : va_D A (QDW g q u (upd k j (nI (K j + 1))) (nI np) (erM K np j) (nI j2) (erC K np j ch) (lN 0) d v f (nI cnt) (nI ll)) := hD
    exact hret (nI (j)) (QDW g q u (upd k j (nI (K j + 1))) (nI np) (erM K np j) (nI j2) (erC K np j ch) (lN 0) d v f (nI cnt) (nI ll)) _ _ _ _ dX1_settleChallenge_26 (Or.inl ⟨n_9_1, rfl, rfl⟩) hP hD hS
end
section
set_option maxRecDepth 20000 in
theorem ggX3_lettersOpenBehind_X0_size : GoodIn wsX3_lettersOpenBehind wsX0_size := goodIn_r _ [5, 6, 34, 35, 36] (by decide +kernel) (by decide +kernel)
set_option maxRecDepth 20000 in
theorem gX3_lettersOpenBehind_X0_size : GoodIn wsX3_lettersOpenBehind (wsV RX3 9 RX0 yX0_size wsX0_size) := goodIn_app (goodIn_of _ (by decide +kernel)) ggX3_lettersOpenBehind_X0_size
set_option maxRecDepth 20000 in
theorem ggX3_lettersOpenBehind_X0_wordAt : GoodIn wsX3_lettersOpenBehind wsX0_wordAt := goodIn_r _ [10, 6, 11, 34, 35, 36] (by decide +kernel) (by decide +kernel)
set_option maxRecDepth 20000 in
theorem gX3_lettersOpenBehind_X0_wordAt : GoodIn wsX3_lettersOpenBehind (wsV RX3 15 RX0 yX0_wordAt wsX0_wordAt) := goodIn_app (goodIn_of _ (by decide +kernel)) ggX3_lettersOpenBehind_X0_wordAt
set_option maxRecDepth 20000 in
theorem ggX3_lettersOpenBehind_X3_leadsOn : GoodIn wsX3_lettersOpenBehind wsX3_leadsOn := goodIn_r _ [15, 16, 17, 18, 4, 19, 20, 21, 22, 23, 24, 25, 26, 27, 28, 29, 34, 35, 36] (by decide +kernel) (by decide +kernel)
set_option maxRecDepth 20000 in
theorem gX3_lettersOpenBehind_X3_leadsOn : GoodIn wsX3_lettersOpenBehind (va_wsS RX3 19 yX3_leadsOn wsX3_leadsOn) := goodIn_app (goodIn_of _ (by decide +kernel)) ggX3_lettersOpenBehind_X3_leadsOn
set_option maxRecDepth 20000 in
theorem ggX3_lettersOpenBehind_X2_lengthOf : GoodIn wsX3_lettersOpenBehind wsX2_lengthOf := goodIn_r _ [24] (by decide +kernel) (by decide +kernel)
set_option maxRecDepth 20000 in
theorem gX3_lettersOpenBehind_X2_lengthOf : GoodIn wsX3_lettersOpenBehind (va_wsS RX3 25 yX2_lengthOf wsX2_lengthOf) := goodIn_app (goodIn_of _ (by decide +kernel)) ggX3_lettersOpenBehind_X2_lengthOf
set_option maxRecDepth 20000 in
theorem ggX3_lettersOpenBehind_X2_letterAt : GoodIn wsX3_lettersOpenBehind wsX2_letterAt := goodIn_r _ [33, 29, 22, 23, 24] (by decide +kernel) (by decide +kernel)
set_option maxRecDepth 20000 in
theorem gX3_lettersOpenBehind_X2_letterAt : GoodIn wsX3_lettersOpenBehind (va_wsS RX3 31 yX2_letterAt wsX2_letterAt) := goodIn_app (goodIn_of _ (by decide +kernel)) ggX3_lettersOpenBehind_X2_letterAt
theorem dX3_lettersOpenBehind_0 : decode cX3_lettersOpenBehind 0 = .ok (.iconst 0, 1) := by decide +kernel
theorem dX3_lettersOpenBehind_1 : decode cX3_lettersOpenBehind 1 = .ok (.istore_n 3, 1) := by decide +kernel
theorem dX3_lettersOpenBehind_2 : decode cX3_lettersOpenBehind 2 = .ok (.iconst 0, 1) := by decide +kernel
theorem dX3_lettersOpenBehind_3 : decode cX3_lettersOpenBehind 3 = .ok (.istore 4, 2) := by decide +kernel
theorem dX3_lettersOpenBehind_5 : decode cX3_lettersOpenBehind 5 = .ok (.iload 4, 2) := by decide +kernel
theorem dX3_lettersOpenBehind_7 : decode cX3_lettersOpenBehind 7 = .ok (.aload_n 0, 1) := by decide +kernel
theorem dX3_lettersOpenBehind_8 : decode cX3_lettersOpenBehind 8 = .ok (.invokevirtual 9, 3) := by decide +kernel
theorem dX3_lettersOpenBehind_11 : decode cX3_lettersOpenBehind 11 = .ok (.if_icmp .ge 41, 3) := by decide +kernel
theorem dX3_lettersOpenBehind_14 : decode cX3_lettersOpenBehind 14 = .ok (.aload_n 0, 1) := by decide +kernel
theorem dX3_lettersOpenBehind_15 : decode cX3_lettersOpenBehind 15 = .ok (.iload 4, 2) := by decide +kernel
theorem dX3_lettersOpenBehind_17 : decode cX3_lettersOpenBehind 17 = .ok (.invokevirtual 15, 3) := by decide +kernel
theorem dX3_lettersOpenBehind_20 : decode cX3_lettersOpenBehind 20 = .ok (.lstore 5, 2) := by decide +kernel
theorem dX3_lettersOpenBehind_22 : decode cX3_lettersOpenBehind 22 = .ok (.aload_n 0, 1) := by decide +kernel
theorem dX3_lettersOpenBehind_23 : decode cX3_lettersOpenBehind 23 = .ok (.lload 5, 2) := by decide +kernel
theorem dX3_lettersOpenBehind_25 : decode cX3_lettersOpenBehind 25 = .ok (.lload_n 1, 1) := by decide +kernel
theorem dX3_lettersOpenBehind_26 : decode cX3_lettersOpenBehind 26 = .ok (.invokestatic 19, 3) := by decide +kernel
theorem dX3_lettersOpenBehind_29 : decode cX3_lettersOpenBehind 29 = .ok (.ifCond .eq 17, 3) := by decide +kernel
theorem dX3_lettersOpenBehind_32 : decode cX3_lettersOpenBehind 32 = .ok (.iload_n 3, 1) := by decide +kernel
theorem dX3_lettersOpenBehind_33 : decode cX3_lettersOpenBehind 33 = .ok (.iconst 1, 1) := by decide +kernel
theorem dX3_lettersOpenBehind_34 : decode cX3_lettersOpenBehind 34 = .ok (.lload 5, 2) := by decide +kernel
theorem dX3_lettersOpenBehind_36 : decode cX3_lettersOpenBehind 36 = .ok (.lload_n 1, 1) := by decide +kernel
theorem dX3_lettersOpenBehind_37 : decode cX3_lettersOpenBehind 37 = .ok (.invokestatic 25, 3) := by decide +kernel
theorem dX3_lettersOpenBehind_40 : decode cX3_lettersOpenBehind 40 = .ok (.invokestatic 31, 3) := by decide +kernel
theorem dX3_lettersOpenBehind_43 : decode cX3_lettersOpenBehind 43 = .ok (.ishl, 1) := by decide +kernel
theorem dX3_lettersOpenBehind_44 : decode cX3_lettersOpenBehind 44 = .ok (.ior, 1) := by decide +kernel
theorem dX3_lettersOpenBehind_45 : decode cX3_lettersOpenBehind 45 = .ok (.istore_n 3, 1) := by decide +kernel
theorem dX3_lettersOpenBehind_46 : decode cX3_lettersOpenBehind 46 = .ok (.iinc 4 1, 3) := by decide +kernel
theorem dX3_lettersOpenBehind_49 : decode cX3_lettersOpenBehind 49 = .ok (.goto (-44), 3) := by decide +kernel
theorem dX3_lettersOpenBehind_52 : decode cX3_lettersOpenBehind 52 = .ok (.iload_n 3, 1) := by decide +kernel
theorem dX3_lettersOpenBehind_53 : decode cX3_lettersOpenBehind 53 = .ok (.ireturn, 1) := by decide +kernel
set_option maxRecDepth 20000 in
theorem ggX3_lettersWinningBehind_X3_lettersOpenBehind : GoodIn wsX3_lettersWinningBehind wsX3_lettersOpenBehind := goodIn_r _ [4, 5, 6, 7, 8, 9, 10, 11, 12, 13, 14, 15, 16, 17, 3, 18, 19, 20, 21, 22, 23, 24, 25, 26, 27, 28, 29, 30, 31, 32, 33, 34, 35, 36, 72, 73, 74] (by decide +kernel) (by decide +kernel)
set_option maxRecDepth 20000 in
theorem gX3_lettersWinningBehind_X3_lettersOpenBehind : GoodIn wsX3_lettersWinningBehind (va_wsS RX3 35 yX3_lettersOpenBehind wsX3_lettersOpenBehind) := goodIn_app (goodIn_of _ (by decide +kernel)) ggX3_lettersWinningBehind_X3_lettersOpenBehind
set_option maxRecDepth 20000 in
theorem ggX3_lettersWinningBehind_X3_isIn : GoodIn wsX3_lettersWinningBehind wsX3_isIn := goodIn_r _ [39] (by decide +kernel) (by decide +kernel)
set_option maxRecDepth 20000 in
theorem gX3_lettersWinningBehind_X3_isIn : GoodIn wsX3_lettersWinningBehind (va_wsS RX3 39 yX3_isIn wsX3_isIn) := goodIn_app (goodIn_of _ (by decide +kernel)) ggX3_lettersWinningBehind_X3_isIn
set_option maxRecDepth 20000 in
theorem ggX3_lettersWinningBehind_X3_scoreOfLetter : GoodIn wsX3_lettersWinningBehind wsX3_scoreOfLetter := goodIn_r _ [42, 43, 44, 26, 45, 31, 32, 25, 27, 46, 47, 48, 49, 50, 51, 8, 52, 53, 20, 21, 22, 23, 24, 54, 55, 56, 57, 58, 59, 60, 61, 10, 15, 62, 63, 3, 64, 65, 66, 67, 68, 69, 70, 71, 1, 2, 4, 5, 6, 7, 9, 11, 12, 13, 14, 16, 17, 18, 19, 28, 29, 30, 33, 34, 35, 36, 37, 38, 39, 40, 41, 72, 73, 74] (by decide +kernel) (by decide +kernel)
set_option maxRecDepth 20000 in
theorem gX3_lettersWinningBehind_X3_scoreOfLetter : GoodIn wsX3_lettersWinningBehind (va_wsS RX3 43 yX3_scoreOfLetter wsX3_scoreOfLetter) := goodIn_app (goodIn_of _ (by decide +kernel)) ggX3_lettersWinningBehind_X3_scoreOfLetter
theorem dX3_lettersWinningBehind_0 : decode cX3_lettersWinningBehind 0 = .ok (.aload_n 0, 1) := by decide +kernel
theorem dX3_lettersWinningBehind_1 : decode cX3_lettersWinningBehind 1 = .ok (.lload_n 1, 1) := by decide +kernel
theorem dX3_lettersWinningBehind_2 : decode cX3_lettersWinningBehind 2 = .ok (.invokestatic 35, 3) := by decide +kernel
theorem dX3_lettersWinningBehind_5 : decode cX3_lettersWinningBehind 5 = .ok (.istore_n 3, 1) := by decide +kernel
theorem dX3_lettersWinningBehind_6 : decode cX3_lettersWinningBehind 6 = .ok (.iconst 0, 1) := by decide +kernel
theorem dX3_lettersWinningBehind_7 : decode cX3_lettersWinningBehind 7 = .ok (.istore 4, 2) := by decide +kernel
theorem dX3_lettersWinningBehind_9 : decode cX3_lettersWinningBehind 9 = .ok (.iconst 0, 1) := by decide +kernel
theorem dX3_lettersWinningBehind_10 : decode cX3_lettersWinningBehind 10 = .ok (.istore 5, 2) := by decide +kernel
theorem dX3_lettersWinningBehind_12 : decode cX3_lettersWinningBehind 12 = .ok (.iload 5, 2) := by decide +kernel
theorem dX3_lettersWinningBehind_14 : decode cX3_lettersWinningBehind 14 = .ok (.bipush 26, 2) := by decide +kernel
theorem dX3_lettersWinningBehind_16 : decode cX3_lettersWinningBehind 16 = .ok (.if_icmp .ge 37, 3) := by decide +kernel
theorem dX3_lettersWinningBehind_19 : decode cX3_lettersWinningBehind 19 = .ok (.iload_n 3, 1) := by decide +kernel
theorem dX3_lettersWinningBehind_20 : decode cX3_lettersWinningBehind 20 = .ok (.iload 5, 2) := by decide +kernel
theorem dX3_lettersWinningBehind_22 : decode cX3_lettersWinningBehind 22 = .ok (.invokestatic 39, 3) := by decide +kernel
theorem dX3_lettersWinningBehind_25 : decode cX3_lettersWinningBehind 25 = .ok (.ifCond .eq 22, 3) := by decide +kernel
theorem dX3_lettersWinningBehind_28 : decode cX3_lettersWinningBehind 28 = .ok (.aload_n 0, 1) := by decide +kernel
theorem dX3_lettersWinningBehind_29 : decode cX3_lettersWinningBehind 29 = .ok (.lload_n 1, 1) := by decide +kernel
theorem dX3_lettersWinningBehind_30 : decode cX3_lettersWinningBehind 30 = .ok (.iload 5, 2) := by decide +kernel
theorem dX3_lettersWinningBehind_32 : decode cX3_lettersWinningBehind 32 = .ok (.invokestatic 43, 3) := by decide +kernel
theorem dX3_lettersWinningBehind_35 : decode cX3_lettersWinningBehind 35 = .ok (.ifCond .le 12, 3) := by decide +kernel
theorem dX3_lettersWinningBehind_38 : decode cX3_lettersWinningBehind 38 = .ok (.iload 4, 2) := by decide +kernel
theorem dX3_lettersWinningBehind_40 : decode cX3_lettersWinningBehind 40 = .ok (.iconst 1, 1) := by decide +kernel
theorem dX3_lettersWinningBehind_41 : decode cX3_lettersWinningBehind 41 = .ok (.iload 5, 2) := by decide +kernel
theorem dX3_lettersWinningBehind_43 : decode cX3_lettersWinningBehind 43 = .ok (.ishl, 1) := by decide +kernel
theorem dX3_lettersWinningBehind_44 : decode cX3_lettersWinningBehind 44 = .ok (.ior, 1) := by decide +kernel
theorem dX3_lettersWinningBehind_45 : decode cX3_lettersWinningBehind 45 = .ok (.istore 4, 2) := by decide +kernel
theorem dX3_lettersWinningBehind_47 : decode cX3_lettersWinningBehind 47 = .ok (.iinc 5 1, 3) := by decide +kernel
theorem dX3_lettersWinningBehind_50 : decode cX3_lettersWinningBehind 50 = .ok (.goto (-38), 3) := by decide +kernel
theorem dX3_lettersWinningBehind_53 : decode cX3_lettersWinningBehind 53 = .ok (.iload 4, 2) := by decide +kernel
theorem dX3_lettersWinningBehind_55 : decode cX3_lettersWinningBehind 55 = .ok (.ireturn, 1) := by decide +kernel
set_option maxRecDepth 20000 in
theorem ggX3_moverWins_X3_score : GoodIn wsX3_moverWins wsX3_score := goodIn_r _ [4, 5, 6, 7, 8, 9, 10, 11, 12, 13, 14, 15, 16, 17, 3, 18, 19, 20, 21, 22, 23, 24, 25, 26, 27, 28, 29, 30, 31, 32, 33, 34, 35, 36, 37, 38, 39, 40, 41, 42, 43, 44, 45, 46, 47, 48, 49, 50, 51, 52, 53, 54, 55, 56, 57, 58, 59, 60, 61, 62, 63, 64, 65, 66, 67, 68, 69, 70, 71, 1, 2, 72, 73, 74] (by decide +kernel) (by decide +kernel)
set_option maxRecDepth 20000 in
theorem gX3_moverWins_X3_score : GoodIn wsX3_moverWins (va_wsS RX3 47 yX3_score wsX3_score) := goodIn_app (goodIn_of _ (by decide +kernel)) ggX3_moverWins_X3_score
theorem dX3_moverWins_0 : decode cX3_moverWins 0 = .ok (.aload_n 0, 1) := by decide +kernel
theorem dX3_moverWins_1 : decode cX3_moverWins 1 = .ok (.lload_n 1, 1) := by decide +kernel
theorem dX3_moverWins_2 : decode cX3_moverWins 2 = .ok (.invokestatic 47, 3) := by decide +kernel
theorem dX3_moverWins_5 : decode cX3_moverWins 5 = .ok (.ifCond .le 7, 3) := by decide +kernel
theorem dX3_moverWins_8 : decode cX3_moverWins 8 = .ok (.iconst 1, 1) := by decide +kernel
theorem dX3_moverWins_9 : decode cX3_moverWins 9 = .ok (.goto 4, 3) := by decide +kernel
theorem dX3_moverWins_12 : decode cX3_moverWins 12 = .ok (.iconst 0, 1) := by decide +kernel
theorem dX3_moverWins_13 : decode cX3_moverWins 13 = .ok (.ireturn, 1) := by decide +kernel
set_option maxRecDepth 20000 in
theorem ggX3_endBehind_X3_score : GoodIn wsX3_endBehind wsX3_score := goodIn_r _ [8, 9, 10, 3, 11, 12, 13, 14, 15, 16, 17, 18, 19, 20, 7, 21, 22, 23, 24, 25, 26, 27, 28, 29, 30, 31, 32, 33, 34, 35, 36, 37, 38, 39, 40, 41, 42, 43, 44, 45, 46, 47, 48, 49, 50, 51, 52, 53, 54, 55, 56, 57, 58, 59, 60, 61, 62, 63, 64, 65, 66, 67, 68, 69, 70, 71, 72, 73, 74, 5, 6, 75, 76, 77] (by decide +kernel) (by decide +kernel)
set_option maxRecDepth 20000 in
theorem gX3_endBehind_X3_score : GoodIn wsX3_endBehind (va_wsS RX3 47 yX3_score wsX3_score) := goodIn_app (goodIn_of _ (by decide +kernel)) ggX3_endBehind_X3_score
theorem dX3_endBehind_0 : decode cX3_endBehind 0 = .ok (.bipush 100, 2) := by decide +kernel
theorem dX3_endBehind_2 : decode cX3_endBehind 2 = .ok (.aload_n 0, 1) := by decide +kernel
theorem dX3_endBehind_3 : decode cX3_endBehind 3 = .ok (.lload_n 1, 1) := by decide +kernel
theorem dX3_endBehind_4 : decode cX3_endBehind 4 = .ok (.invokestatic 47, 3) := by decide +kernel
theorem dX3_endBehind_7 : decode cX3_endBehind 7 = .ok (.invokestatic 50, 3) := by decide +kernel
theorem dX3_endBehind_10 : decode cX3_endBehind 10 = .ok (.isub, 1) := by decide +kernel
theorem dX3_endBehind_11 : decode cX3_endBehind 11 = .ok (.ireturn, 1) := by decide +kernel
set_option maxRecDepth 20000 in
theorem ggX3_letterChosenBehind_X3_lettersOpenBehind : GoodIn wsX3_letterChosenBehind wsX3_lettersOpenBehind := goodIn_r _ [4, 5, 6, 7, 8, 9, 10, 11, 12, 13, 14, 15, 16, 17, 3, 18, 19, 20, 21, 22, 23, 24, 25, 26, 27, 28, 29, 30, 31, 32, 33, 34, 35, 36, 72, 73, 74] (by decide +kernel) (by decide +kernel)
set_option maxRecDepth 20000 in
theorem gX3_letterChosenBehind_X3_lettersOpenBehind : GoodIn wsX3_letterChosenBehind (va_wsS RX3 35 yX3_lettersOpenBehind wsX3_lettersOpenBehind) := goodIn_app (goodIn_of _ (by decide +kernel)) ggX3_letterChosenBehind_X3_lettersOpenBehind
set_option maxRecDepth 20000 in
theorem ggX3_letterChosenBehind_X3_score : GoodIn wsX3_letterChosenBehind wsX3_score := goodIn_r _ [39, 40, 41, 42, 43, 44, 45, 26, 46, 32, 25, 27, 1, 2, 3, 4, 5, 6, 7, 8, 9, 10, 11, 12, 13, 14, 15, 16, 17, 18, 19, 20, 21, 22, 23, 24, 28, 29, 30, 31, 33, 34, 35, 36, 47, 48, 49, 50, 51, 52, 53, 54, 55, 56, 57, 58, 59, 60, 61, 62, 63, 64, 65, 66, 67, 68, 69, 70, 71, 37, 38, 72, 73, 74] (by decide +kernel) (by decide +kernel)
set_option maxRecDepth 20000 in
theorem gX3_letterChosenBehind_X3_score : GoodIn wsX3_letterChosenBehind (va_wsS RX3 47 yX3_score wsX3_score) := goodIn_app (goodIn_of _ (by decide +kernel)) ggX3_letterChosenBehind_X3_score
set_option maxRecDepth 20000 in
theorem ggX3_letterChosenBehind_X3_isIn : GoodIn wsX3_letterChosenBehind wsX3_isIn := goodIn_r _ [49] (by decide +kernel) (by decide +kernel)
set_option maxRecDepth 20000 in
theorem gX3_letterChosenBehind_X3_isIn : GoodIn wsX3_letterChosenBehind (va_wsS RX3 39 yX3_isIn wsX3_isIn) := goodIn_app (goodIn_of _ (by decide +kernel)) ggX3_letterChosenBehind_X3_isIn
set_option maxRecDepth 20000 in
theorem ggX3_letterChosenBehind_X3_scoreOfLetter : GoodIn wsX3_letterChosenBehind wsX3_scoreOfLetter := goodIn_r _ [52, 53, 54, 26, 55, 31, 32, 25, 27, 56, 57, 58, 59, 60, 61, 8, 62, 63, 20, 21, 22, 23, 24, 64, 65, 66, 67, 68, 69, 70, 71, 10, 15, 37, 38, 3, 39, 40, 41, 42, 43, 44, 45, 46, 1, 2, 4, 5, 6, 7, 9, 11, 12, 13, 14, 16, 17, 18, 19, 28, 29, 30, 33, 34, 35, 36, 47, 48, 49, 50, 51, 72, 73, 74] (by decide +kernel) (by decide +kernel)
set_option maxRecDepth 20000 in
theorem gX3_letterChosenBehind_X3_scoreOfLetter : GoodIn wsX3_letterChosenBehind (va_wsS RX3 43 yX3_scoreOfLetter wsX3_scoreOfLetter) := goodIn_app (goodIn_of _ (by decide +kernel)) ggX3_letterChosenBehind_X3_scoreOfLetter
theorem dX3_letterChosenBehind_0 : decode cX3_letterChosenBehind 0 = .ok (.aload_n 0, 1) := by decide +kernel
theorem dX3_letterChosenBehind_1 : decode cX3_letterChosenBehind 1 = .ok (.lload_n 1, 1) := by decide +kernel
theorem dX3_letterChosenBehind_2 : decode cX3_letterChosenBehind 2 = .ok (.invokestatic 35, 3) := by decide +kernel
theorem dX3_letterChosenBehind_5 : decode cX3_letterChosenBehind 5 = .ok (.istore_n 3, 1) := by decide +kernel
theorem dX3_letterChosenBehind_6 : decode cX3_letterChosenBehind 6 = .ok (.aload_n 0, 1) := by decide +kernel
theorem dX3_letterChosenBehind_7 : decode cX3_letterChosenBehind 7 = .ok (.lload_n 1, 1) := by decide +kernel
theorem dX3_letterChosenBehind_8 : decode cX3_letterChosenBehind 8 = .ok (.invokestatic 47, 3) := by decide +kernel
theorem dX3_letterChosenBehind_11 : decode cX3_letterChosenBehind 11 = .ok (.istore 4, 2) := by decide +kernel
theorem dX3_letterChosenBehind_13 : decode cX3_letterChosenBehind 13 = .ok (.iconst 0, 1) := by decide +kernel
theorem dX3_letterChosenBehind_14 : decode cX3_letterChosenBehind 14 = .ok (.istore 5, 2) := by decide +kernel
theorem dX3_letterChosenBehind_16 : decode cX3_letterChosenBehind 16 = .ok (.iload 5, 2) := by decide +kernel
theorem dX3_letterChosenBehind_18 : decode cX3_letterChosenBehind 18 = .ok (.bipush 26, 2) := by decide +kernel
theorem dX3_letterChosenBehind_20 : decode cX3_letterChosenBehind 20 = .ok (.if_icmp .ge 33, 3) := by decide +kernel
theorem dX3_letterChosenBehind_23 : decode cX3_letterChosenBehind 23 = .ok (.iload_n 3, 1) := by decide +kernel
theorem dX3_letterChosenBehind_24 : decode cX3_letterChosenBehind 24 = .ok (.iload 5, 2) := by decide +kernel
theorem dX3_letterChosenBehind_26 : decode cX3_letterChosenBehind 26 = .ok (.invokestatic 39, 3) := by decide +kernel
theorem dX3_letterChosenBehind_29 : decode cX3_letterChosenBehind 29 = .ok (.ifCond .eq 18, 3) := by decide +kernel
theorem dX3_letterChosenBehind_32 : decode cX3_letterChosenBehind 32 = .ok (.aload_n 0, 1) := by decide +kernel
theorem dX3_letterChosenBehind_33 : decode cX3_letterChosenBehind 33 = .ok (.lload_n 1, 1) := by decide +kernel
theorem dX3_letterChosenBehind_34 : decode cX3_letterChosenBehind 34 = .ok (.iload 5, 2) := by decide +kernel
theorem dX3_letterChosenBehind_36 : decode cX3_letterChosenBehind 36 = .ok (.invokestatic 43, 3) := by decide +kernel
theorem dX3_letterChosenBehind_39 : decode cX3_letterChosenBehind 39 = .ok (.iload 4, 2) := by decide +kernel
theorem dX3_letterChosenBehind_41 : decode cX3_letterChosenBehind 41 = .ok (.if_icmp .ne 6, 3) := by decide +kernel
theorem dX3_letterChosenBehind_44 : decode cX3_letterChosenBehind 44 = .ok (.iload 5, 2) := by decide +kernel
theorem dX3_letterChosenBehind_46 : decode cX3_letterChosenBehind 46 = .ok (.ireturn, 1) := by decide +kernel
theorem dX3_letterChosenBehind_47 : decode cX3_letterChosenBehind 47 = .ok (.iinc 5 1, 3) := by decide +kernel
theorem dX3_letterChosenBehind_50 : decode cX3_letterChosenBehind 50 = .ok (.goto (-34), 3) := by decide +kernel
theorem dX3_letterChosenBehind_53 : decode cX3_letterChosenBehind 53 = .ok (.iconst (-1), 1) := by decide +kernel
theorem dX3_letterChosenBehind_54 : decode cX3_letterChosenBehind 54 = .ok (.ireturn, 1) := by decide +kernel
set_option maxRecDepth 20000 in
theorem ggX3_countWays_X0_size : GoodIn wsX3_countWays wsX0_size := goodIn_r _ [5, 6, 53, 54, 55] (by decide +kernel) (by decide +kernel)
set_option maxRecDepth 20000 in
theorem gX3_countWays_X0_size : GoodIn wsX3_countWays (wsV RX3 9 RX0 yX0_size wsX0_size) := goodIn_app (goodIn_of _ (by decide +kernel)) ggX3_countWays_X0_size
set_option maxRecDepth 20000 in
theorem ggX3_countWays_X0_wordAt : GoodIn wsX3_countWays wsX0_wordAt := goodIn_r _ [10, 6, 11, 53, 54, 55] (by decide +kernel) (by decide +kernel)
set_option maxRecDepth 20000 in
theorem gX3_countWays_X0_wordAt : GoodIn wsX3_countWays (wsV RX3 15 RX0 yX0_wordAt wsX0_wordAt) := goodIn_app (goodIn_of _ (by decide +kernel)) ggX3_countWays_X0_wordAt
set_option maxRecDepth 20000 in
theorem ggX3_countWays_X3_isWay : GoodIn wsX3_countWays wsX3_isWay := goodIn_r _ [15, 16, 17, 14, 18, 19, 20, 21, 4, 22, 23, 24, 25, 26, 27, 28, 29, 30, 31, 32, 33, 34, 35, 36, 37, 38, 39, 40, 41, 42, 43, 44, 45, 46, 47, 48, 49, 50, 51, 52, 6, 11, 53, 54, 55] (by decide +kernel) (by decide +kernel)
set_option maxRecDepth 20000 in
theorem gX3_countWays_X3_isWay : GoodIn wsX3_countWays (va_wsS RX3 56 yX3_isWay wsX3_isWay) := goodIn_app (goodIn_of _ (by decide +kernel)) ggX3_countWays_X3_isWay
theorem dX3_countWays_0 : decode cX3_countWays 0 = .ok (.iconst 0, 1) := by decide +kernel
theorem dX3_countWays_1 : decode cX3_countWays 1 = .ok (.istore_n 3, 1) := by decide +kernel
theorem dX3_countWays_2 : decode cX3_countWays 2 = .ok (.iconst 0, 1) := by decide +kernel
theorem dX3_countWays_3 : decode cX3_countWays 3 = .ok (.istore 4, 2) := by decide +kernel
theorem dX3_countWays_5 : decode cX3_countWays 5 = .ok (.iload 4, 2) := by decide +kernel
theorem dX3_countWays_7 : decode cX3_countWays 7 = .ok (.aload_n 0, 1) := by decide +kernel
theorem dX3_countWays_8 : decode cX3_countWays 8 = .ok (.invokevirtual 9, 3) := by decide +kernel
theorem dX3_countWays_11 : decode cX3_countWays 11 = .ok (.if_icmp .ge 26, 3) := by decide +kernel
theorem dX3_countWays_14 : decode cX3_countWays 14 = .ok (.aload_n 0, 1) := by decide +kernel
theorem dX3_countWays_15 : decode cX3_countWays 15 = .ok (.aload_n 0, 1) := by decide +kernel
theorem dX3_countWays_16 : decode cX3_countWays 16 = .ok (.iload 4, 2) := by decide +kernel
theorem dX3_countWays_18 : decode cX3_countWays 18 = .ok (.invokevirtual 15, 3) := by decide +kernel
theorem dX3_countWays_21 : decode cX3_countWays 21 = .ok (.lload_n 1, 1) := by decide +kernel
theorem dX3_countWays_22 : decode cX3_countWays 22 = .ok (.invokestatic 56, 3) := by decide +kernel
theorem dX3_countWays_25 : decode cX3_countWays 25 = .ok (.ifCond .eq 6, 3) := by decide +kernel
theorem dX3_countWays_28 : decode cX3_countWays 28 = .ok (.iinc 3 1, 3) := by decide +kernel
theorem dX3_countWays_31 : decode cX3_countWays 31 = .ok (.iinc 4 1, 3) := by decide +kernel
theorem dX3_countWays_34 : decode cX3_countWays 34 = .ok (.goto (-29), 3) := by decide +kernel
theorem dX3_countWays_37 : decode cX3_countWays 37 = .ok (.iload_n 3, 1) := by decide +kernel
theorem dX3_countWays_38 : decode cX3_countWays 38 = .ok (.ireturn, 1) := by decide +kernel
set_option maxRecDepth 20000 in
theorem ggX3_countWonWays_X0_size : GoodIn wsX3_countWonWays wsX0_size := goodIn_r _ [5, 6, 56, 57, 58] (by decide +kernel) (by decide +kernel)
set_option maxRecDepth 20000 in
theorem gX3_countWonWays_X0_size : GoodIn wsX3_countWonWays (wsV RX3 9 RX0 yX0_size wsX0_size) := goodIn_app (goodIn_of _ (by decide +kernel)) ggX3_countWonWays_X0_size
set_option maxRecDepth 20000 in
theorem ggX3_countWonWays_X0_wordAt : GoodIn wsX3_countWonWays wsX0_wordAt := goodIn_r _ [10, 6, 11, 56, 57, 58] (by decide +kernel) (by decide +kernel)
set_option maxRecDepth 20000 in
theorem gX3_countWonWays_X0_wordAt : GoodIn wsX3_countWonWays (wsV RX3 15 RX0 yX0_wordAt wsX0_wordAt) := goodIn_app (goodIn_of _ (by decide +kernel)) ggX3_countWonWays_X0_wordAt
set_option maxRecDepth 20000 in
theorem ggX3_countWonWays_X3_isWay : GoodIn wsX3_countWonWays wsX3_isWay := goodIn_r _ [15, 16, 17, 14, 18, 19, 20, 21, 4, 22, 23, 24, 25, 26, 27, 28, 29, 30, 31, 32, 33, 34, 35, 36, 37, 38, 39, 40, 41, 42, 43, 44, 45, 46, 47, 48, 49, 50, 51, 52, 6, 11, 56, 57, 58] (by decide +kernel) (by decide +kernel)
set_option maxRecDepth 20000 in
theorem gX3_countWonWays_X3_isWay : GoodIn wsX3_countWonWays (va_wsS RX3 56 yX3_isWay wsX3_isWay) := goodIn_app (goodIn_of _ (by decide +kernel)) ggX3_countWonWays_X3_isWay
set_option maxRecDepth 20000 in
theorem ggX3_countWonWays_X3_otherSideCompletes : GoodIn wsX3_countWonWays wsX3_otherSideCompletes := goodIn_r _ [55, 33, 25, 26, 27] (by decide +kernel) (by decide +kernel)
set_option maxRecDepth 20000 in
theorem gX3_countWonWays_X3_otherSideCompletes : GoodIn wsX3_countWonWays (va_wsS RX3 59 yX3_otherSideCompletes wsX3_otherSideCompletes) := goodIn_app (goodIn_of _ (by decide +kernel)) ggX3_countWonWays_X3_otherSideCompletes
theorem dX3_countWonWays_0 : decode cX3_countWonWays 0 = .ok (.iconst 0, 1) := by decide +kernel
theorem dX3_countWonWays_1 : decode cX3_countWonWays 1 = .ok (.istore_n 3, 1) := by decide +kernel
theorem dX3_countWonWays_2 : decode cX3_countWonWays 2 = .ok (.iconst 0, 1) := by decide +kernel
theorem dX3_countWonWays_3 : decode cX3_countWonWays 3 = .ok (.istore 4, 2) := by decide +kernel
theorem dX3_countWonWays_5 : decode cX3_countWonWays 5 = .ok (.iload 4, 2) := by decide +kernel
theorem dX3_countWonWays_7 : decode cX3_countWonWays 7 = .ok (.aload_n 0, 1) := by decide +kernel
theorem dX3_countWonWays_8 : decode cX3_countWonWays 8 = .ok (.invokevirtual 9, 3) := by decide +kernel
theorem dX3_countWonWays_11 : decode cX3_countWonWays 11 = .ok (.if_icmp .ge 39, 3) := by decide +kernel
theorem dX3_countWonWays_14 : decode cX3_countWonWays 14 = .ok (.aload_n 0, 1) := by decide +kernel
theorem dX3_countWonWays_15 : decode cX3_countWonWays 15 = .ok (.iload 4, 2) := by decide +kernel
theorem dX3_countWonWays_17 : decode cX3_countWonWays 17 = .ok (.invokevirtual 15, 3) := by decide +kernel
theorem dX3_countWonWays_20 : decode cX3_countWonWays 20 = .ok (.lstore 5, 2) := by decide +kernel
theorem dX3_countWonWays_22 : decode cX3_countWonWays 22 = .ok (.aload_n 0, 1) := by decide +kernel
theorem dX3_countWonWays_23 : decode cX3_countWonWays 23 = .ok (.lload 5, 2) := by decide +kernel
theorem dX3_countWonWays_25 : decode cX3_countWonWays 25 = .ok (.lload_n 1, 1) := by decide +kernel
theorem dX3_countWonWays_26 : decode cX3_countWonWays 26 = .ok (.invokestatic 56, 3) := by decide +kernel
theorem dX3_countWonWays_29 : decode cX3_countWonWays 29 = .ok (.ifCond .eq 15, 3) := by decide +kernel
theorem dX3_countWonWays_32 : decode cX3_countWonWays 32 = .ok (.lload 5, 2) := by decide +kernel
theorem dX3_countWonWays_34 : decode cX3_countWonWays 34 = .ok (.lload_n 1, 1) := by decide +kernel
theorem dX3_countWonWays_35 : decode cX3_countWonWays 35 = .ok (.invokestatic 59, 3) := by decide +kernel
theorem dX3_countWonWays_38 : decode cX3_countWonWays 38 = .ok (.ifCond .eq 6, 3) := by decide +kernel
theorem dX3_countWonWays_41 : decode cX3_countWonWays 41 = .ok (.iinc 3 1, 3) := by decide +kernel
theorem dX3_countWonWays_44 : decode cX3_countWonWays 44 = .ok (.iinc 4 1, 3) := by decide +kernel
theorem dX3_countWonWays_47 : decode cX3_countWonWays 47 = .ok (.goto (-42), 3) := by decide +kernel
theorem dX3_countWonWays_50 : decode cX3_countWonWays 50 = .ok (.iload_n 3, 1) := by decide +kernel
theorem dX3_countWonWays_51 : decode cX3_countWonWays 51 = .ok (.ireturn, 1) := by decide +kernel
set_option maxRecDepth 20000 in
theorem ggX3_score_X2_isFull : GoodIn wsX3_score wsX2_isFull := goodIn_r _ [8, 9, 10, 7, 11] (by decide +kernel) (by decide +kernel)
set_option maxRecDepth 20000 in
theorem gX3_score_X2_isFull : GoodIn wsX3_score (va_wsS RX3 63 yX2_isFull wsX2_isFull) := goodIn_app (goodIn_of _ (by decide +kernel)) ggX3_score_X2_isFull
set_option maxRecDepth 20000 in
theorem ggX3_score_X3_lettersOpenBehind : GoodIn wsX3_score wsX3_lettersOpenBehind := goodIn_r _ [15, 16, 17, 18, 19, 20, 21, 22, 23, 24, 25, 26, 27, 28, 14, 29, 30, 31, 32, 33, 34, 35, 10, 7, 11, 36, 37, 38, 39, 9, 40, 41, 42, 43, 71, 72, 73] (by decide +kernel) (by decide +kernel)
set_option maxRecDepth 20000 in
theorem gX3_score_X3_lettersOpenBehind : GoodIn wsX3_score (va_wsS RX3 35 yX3_lettersOpenBehind wsX3_lettersOpenBehind) := goodIn_app (goodIn_of _ (by decide +kernel)) ggX3_score_X3_lettersOpenBehind
set_option maxRecDepth 20000 in
theorem ggX3_score_X3_isIn : GoodIn wsX3_score wsX3_isIn := goodIn_r _ [46] (by decide +kernel) (by decide +kernel)
set_option maxRecDepth 20000 in
theorem gX3_score_X3_isIn : GoodIn wsX3_score (va_wsS RX3 39 yX3_isIn wsX3_isIn) := goodIn_app (goodIn_of _ (by decide +kernel)) ggX3_score_X3_isIn
set_option maxRecDepth 20000 in
theorem ggX3_score_X3_scoreOfLetter : GoodIn wsX3_score wsX3_scoreOfLetter := goodIn_r _ [49, 50, 51, 7, 52, 39, 9, 10, 11, 53, 54, 55, 56, 57, 58, 19, 59, 60, 31, 32, 33, 34, 35, 61, 62, 63, 64, 65, 66, 67, 68, 21, 26, 69, 70, 14, 0, 1, 2, 3, 4, 5, 6, 8, 12, 13, 15, 16, 17, 18, 20, 22, 23, 24, 25, 27, 28, 29, 30, 36, 37, 38, 40, 41, 42, 43, 44, 45, 46, 47, 48, 71, 72, 73] (by decide +kernel) (by decide +kernel)
set_option maxRecDepth 20000 in
theorem gX3_score_X3_scoreOfLetter : GoodIn wsX3_score (va_wsS RX3 43 yX3_scoreOfLetter wsX3_scoreOfLetter) := goodIn_app (goodIn_of _ (by decide +kernel)) ggX3_score_X3_scoreOfLetter
theorem dX3_score_0 : decode cX3_score 0 = .ok (.lload_n 1, 1) := by decide +kernel
theorem dX3_score_1 : decode cX3_score 1 = .ok (.invokestatic 63, 3) := by decide +kernel
theorem dX3_score_4 : decode cX3_score 4 = .ok (.ifCond .eq 7, 3) := by decide +kernel
theorem dX3_score_7 : decode cX3_score 7 = .ok (.iconst 0, 1) := by decide +kernel
theorem dX3_score_8 : decode cX3_score 8 = .ok (.goto 8, 3) := by decide +kernel
theorem dX3_score_11 : decode cX3_score 11 = .ok (.aload_n 0, 1) := by decide +kernel
theorem dX3_score_12 : decode cX3_score 12 = .ok (.lload_n 1, 1) := by decide +kernel
theorem dX3_score_13 : decode cX3_score 13 = .ok (.invokestatic 35, 3) := by decide +kernel
theorem dX3_score_16 : decode cX3_score 16 = .ok (.istore_n 3, 1) := by decide +kernel
theorem dX3_score_17 : decode cX3_score 17 = .ok (.iload_n 3, 1) := by decide +kernel
theorem dX3_score_18 : decode cX3_score 18 = .ok (.ifCond .ne 6, 3) := by decide +kernel
theorem dX3_score_21 : decode cX3_score 21 = .ok (.bipush 100, 2) := by decide +kernel
theorem dX3_score_23 : decode cX3_score 23 = .ok (.ireturn, 1) := by decide +kernel
theorem dX3_score_24 : decode cX3_score 24 = .ok (.bipush (-100), 2) := by decide +kernel
theorem dX3_score_26 : decode cX3_score 26 = .ok (.istore 4, 2) := by decide +kernel
theorem dX3_score_28 : decode cX3_score 28 = .ok (.iconst 0, 1) := by decide +kernel
theorem dX3_score_29 : decode cX3_score 29 = .ok (.istore 5, 2) := by decide +kernel
theorem dX3_score_31 : decode cX3_score 31 = .ok (.iload 5, 2) := by decide +kernel
theorem dX3_score_33 : decode cX3_score 33 = .ok (.bipush 26, 2) := by decide +kernel
theorem dX3_score_35 : decode cX3_score 35 = .ok (.if_icmp .ge 32, 3) := by decide +kernel
theorem dX3_score_38 : decode cX3_score 38 = .ok (.iload_n 3, 1) := by decide +kernel
theorem dX3_score_39 : decode cX3_score 39 = .ok (.iload 5, 2) := by decide +kernel
theorem dX3_score_41 : decode cX3_score 41 = .ok (.invokestatic 39, 3) := by decide +kernel
theorem dX3_score_44 : decode cX3_score 44 = .ok (.ifCond .eq 17, 3) := by decide +kernel
theorem dX3_score_47 : decode cX3_score 47 = .ok (.iload 4, 2) := by decide +kernel
theorem dX3_score_49 : decode cX3_score 49 = .ok (.aload_n 0, 1) := by decide +kernel
theorem dX3_score_50 : decode cX3_score 50 = .ok (.lload_n 1, 1) := by decide +kernel
theorem dX3_score_51 : decode cX3_score 51 = .ok (.iload 5, 2) := by decide +kernel
theorem dX3_score_53 : decode cX3_score 53 = .ok (.invokestatic 43, 3) := by decide +kernel
theorem dX3_score_56 : decode cX3_score 56 = .ok (.invokestatic 67, 3) := by decide +kernel
theorem dX3_score_59 : decode cX3_score 59 = .ok (.istore 4, 2) := by decide +kernel
theorem dX3_score_61 : decode cX3_score 61 = .ok (.iinc 5 1, 3) := by decide +kernel
theorem dX3_score_64 : decode cX3_score 64 = .ok (.goto (-33), 3) := by decide +kernel
theorem dX3_score_67 : decode cX3_score 67 = .ok (.iload 4, 2) := by decide +kernel
theorem dX3_score_69 : decode cX3_score 69 = .ok (.ireturn, 1) := by decide +kernel
set_option maxRecDepth 20000 in
theorem ggX3_scoreOfLetter_X2_with : GoodIn wsX3_scoreOfLetter wsX2_with := goodIn_r _ [4, 5, 6, 7, 3, 8, 9, 10, 11] (by decide +kernel) (by decide +kernel)
set_option maxRecDepth 20000 in
theorem gX3_scoreOfLetter_X2_with : GoodIn wsX3_scoreOfLetter (va_wsS RX3 71 yX2_with wsX2_with) := goodIn_app (goodIn_of _ (by decide +kernel)) ggX3_scoreOfLetter_X2_with
set_option maxRecDepth 20000 in
theorem ggX3_scoreOfLetter_X0_hasCounting : GoodIn wsX3_scoreOfLetter wsX0_hasCounting := goodIn_r _ [16, 17, 18, 19, 15, 20, 21, 22, 7, 3, 8, 23, 24, 25, 26, 27, 28, 29, 30, 31, 32, 71, 72, 73] (by decide +kernel) (by decide +kernel)
set_option maxRecDepth 20000 in
theorem gX3_scoreOfLetter_X0_hasCounting : GoodIn wsX3_scoreOfLetter (wsV RX3 75 RX0 yX0_hasCounting wsX0_hasCounting) := goodIn_app (goodIn_of _ (by decide +kernel)) ggX3_scoreOfLetter_X0_hasCounting
set_option maxRecDepth 20000 in
theorem ggX3_scoreOfLetter_X3_score : GoodIn wsX3_scoreOfLetter wsX3_score := goodIn_r _ [36, 37, 38, 39, 40, 41, 42, 3, 43, 6, 7, 8, 44, 45, 35, 46, 47, 48, 49, 15, 50, 31, 51, 52, 53, 54, 32, 55, 56, 57, 58, 18, 19, 20, 21, 22, 59, 60, 61, 5, 62, 63, 64, 65, 66, 67, 68, 69, 70, 0, 1, 2, 4, 9, 10, 11, 12, 13, 14, 16, 17, 23, 24, 25, 26, 27, 28, 29, 30, 33, 34, 71, 72, 73] (by decide +kernel) (by decide +kernel)
set_option maxRecDepth 20000 in
theorem gX3_scoreOfLetter_X3_score : GoodIn wsX3_scoreOfLetter (va_wsS RX3 47 yX3_score wsX3_score) := goodIn_app (goodIn_of _ (by decide +kernel)) ggX3_scoreOfLetter_X3_score
theorem dX3_scoreOfLetter_0 : decode cX3_scoreOfLetter 0 = .ok (.lload_n 1, 1) := by decide +kernel
theorem dX3_scoreOfLetter_1 : decode cX3_scoreOfLetter 1 = .ok (.iload_n 3, 1) := by decide +kernel
theorem dX3_scoreOfLetter_2 : decode cX3_scoreOfLetter 2 = .ok (.invokestatic 71, 3) := by decide +kernel
theorem dX3_scoreOfLetter_5 : decode cX3_scoreOfLetter 5 = .ok (.lstore 4, 2) := by decide +kernel
theorem dX3_scoreOfLetter_7 : decode cX3_scoreOfLetter 7 = .ok (.aload_n 0, 1) := by decide +kernel
theorem dX3_scoreOfLetter_8 : decode cX3_scoreOfLetter 8 = .ok (.lload 4, 2) := by decide +kernel
theorem dX3_scoreOfLetter_10 : decode cX3_scoreOfLetter 10 = .ok (.invokevirtual 75, 3) := by decide +kernel
theorem dX3_scoreOfLetter_13 : decode cX3_scoreOfLetter 13 = .ok (.ifCond .eq 8, 3) := by decide +kernel
theorem dX3_scoreOfLetter_16 : decode cX3_scoreOfLetter 16 = .ok (.bipush 100, 2) := by decide +kernel
theorem dX3_scoreOfLetter_18 : decode cX3_scoreOfLetter 18 = .ok (.goto 9, 3) := by decide +kernel
theorem dX3_scoreOfLetter_21 : decode cX3_scoreOfLetter 21 = .ok (.aload_n 0, 1) := by decide +kernel
theorem dX3_scoreOfLetter_22 : decode cX3_scoreOfLetter 22 = .ok (.lload 4, 2) := by decide +kernel
theorem dX3_scoreOfLetter_24 : decode cX3_scoreOfLetter 24 = .ok (.invokestatic 47, 3) := by decide +kernel
theorem dX3_scoreOfLetter_27 : decode cX3_scoreOfLetter 27 = .ok (.istore 6, 2) := by decide +kernel
theorem dX3_scoreOfLetter_29 : decode cX3_scoreOfLetter 29 = .ok (.iload 6, 2) := by decide +kernel
theorem dX3_scoreOfLetter_31 : decode cX3_scoreOfLetter 31 = .ok (.ifCond .le 10, 3) := by decide +kernel
theorem dX3_scoreOfLetter_34 : decode cX3_scoreOfLetter 34 = .ok (.iconst 1, 1) := by decide +kernel
theorem dX3_scoreOfLetter_35 : decode cX3_scoreOfLetter 35 = .ok (.iload 6, 2) := by decide +kernel
theorem dX3_scoreOfLetter_37 : decode cX3_scoreOfLetter 37 = .ok (.isub, 1) := by decide +kernel
theorem dX3_scoreOfLetter_38 : decode cX3_scoreOfLetter 38 = .ok (.goto 7, 3) := by decide +kernel
theorem dX3_scoreOfLetter_41 : decode cX3_scoreOfLetter 41 = .ok (.iconst (-1), 1) := by decide +kernel
theorem dX3_scoreOfLetter_42 : decode cX3_scoreOfLetter 42 = .ok (.iload 6, 2) := by decide +kernel
theorem dX3_scoreOfLetter_44 : decode cX3_scoreOfLetter 44 = .ok (.isub, 1) := by decide +kernel
theorem dX3_scoreOfLetter_45 : decode cX3_scoreOfLetter 45 = .ok (.ireturn, 1) := by decide +kernel
set_option maxRecDepth 20000 in
theorem ggX3_leadsOn_X0_isLongEnough : GoodIn wsX3_leadsOn wsX0_isLongEnough := goodIn_r _ [5, 6, 7, 8, 9, 10, 16, 17, 18] (by decide +kernel) (by decide +kernel)
set_option maxRecDepth 20000 in
theorem gX3_leadsOn_X0_isLongEnough : GoodIn wsX3_leadsOn (wsV RX3 78 RX0 yX0_isLongEnough wsX0_isLongEnough) := goodIn_app (goodIn_of _ (by decide +kernel)) ggX3_leadsOn_X0_isLongEnough
set_option maxRecDepth 20000 in
theorem ggX3_leadsOn_X2_beginsWith : GoodIn wsX3_leadsOn wsX2_beginsWith := goodIn_r _ [13, 14, 15, 8, 9, 10] (by decide +kernel) (by decide +kernel)
set_option maxRecDepth 20000 in
theorem gX3_leadsOn_X2_beginsWith : GoodIn wsX3_leadsOn (va_wsS RX3 81 yX2_beginsWith wsX2_beginsWith) := goodIn_app (goodIn_of _ (by decide +kernel)) ggX3_leadsOn_X2_beginsWith
theorem dX3_leadsOn_0 : decode cX3_leadsOn 0 = .ok (.aload_n 0, 1) := by decide +kernel
theorem dX3_leadsOn_1 : decode cX3_leadsOn 1 = .ok (.lload_n 1, 1) := by decide +kernel
theorem dX3_leadsOn_2 : decode cX3_leadsOn 2 = .ok (.invokevirtual 78, 3) := by decide +kernel
theorem dX3_leadsOn_5 : decode cX3_leadsOn 5 = .ok (.ifCond .eq 21, 3) := by decide +kernel
theorem dX3_leadsOn_8 : decode cX3_leadsOn 8 = .ok (.lload_n 1, 1) := by decide +kernel
theorem dX3_leadsOn_9 : decode cX3_leadsOn 9 = .ok (.lload_n 3, 1) := by decide +kernel
theorem dX3_leadsOn_10 : decode cX3_leadsOn 10 = .ok (.lcmp, 1) := by decide +kernel
theorem dX3_leadsOn_11 : decode cX3_leadsOn 11 = .ok (.ifCond .eq 15, 3) := by decide +kernel
theorem dX3_leadsOn_14 : decode cX3_leadsOn 14 = .ok (.lload_n 1, 1) := by decide +kernel
theorem dX3_leadsOn_15 : decode cX3_leadsOn 15 = .ok (.lload_n 3, 1) := by decide +kernel
theorem dX3_leadsOn_16 : decode cX3_leadsOn 16 = .ok (.invokestatic 81, 3) := by decide +kernel
theorem dX3_leadsOn_19 : decode cX3_leadsOn 19 = .ok (.ifCond .eq 7, 3) := by decide +kernel
theorem dX3_leadsOn_22 : decode cX3_leadsOn 22 = .ok (.iconst 1, 1) := by decide +kernel
theorem dX3_leadsOn_23 : decode cX3_leadsOn 23 = .ok (.goto 4, 3) := by decide +kernel
theorem dX3_leadsOn_26 : decode cX3_leadsOn 26 = .ok (.iconst 0, 1) := by decide +kernel
theorem dX3_leadsOn_27 : decode cX3_leadsOn 27 = .ok (.ireturn, 1) := by decide +kernel
set_option maxRecDepth 20000 in
theorem ggX3_isWay_X3_leadsOn : GoodIn wsX3_isWay wsX3_leadsOn := goodIn_r _ [4, 5, 6, 7, 8, 9, 10, 11, 12, 13, 14, 15, 16, 17, 18, 19, 42, 43, 44] (by decide +kernel) (by decide +kernel)
set_option maxRecDepth 20000 in
theorem gX3_isWay_X3_leadsOn : GoodIn wsX3_isWay (va_wsS RX3 19 yX3_leadsOn wsX3_leadsOn) := goodIn_app (goodIn_of _ (by decide +kernel)) ggX3_isWay_X3_leadsOn
set_option maxRecDepth 20000 in
theorem ggX3_isWay_X2_lengthOf : GoodIn wsX3_isWay wsX2_lengthOf := goodIn_r _ [14] (by decide +kernel) (by decide +kernel)
set_option maxRecDepth 20000 in
theorem gX3_isWay_X2_lengthOf : GoodIn wsX3_isWay (va_wsS RX3 25 yX2_lengthOf wsX2_lengthOf) := goodIn_app (goodIn_of _ (by decide +kernel)) ggX3_isWay_X2_lengthOf
set_option maxRecDepth 20000 in
theorem ggX3_isWay_X2_beginning : GoodIn wsX3_isWay wsX2_beginning := goodIn_r _ [23, 18, 19, 12, 13, 14, 24, 25, 26] (by decide +kernel) (by decide +kernel)
set_option maxRecDepth 20000 in
theorem gX3_isWay_X2_beginning : GoodIn wsX3_isWay (va_wsS RX3 84 yX2_beginning wsX2_beginning) := goodIn_app (goodIn_of _ (by decide +kernel)) ggX3_isWay_X2_beginning
set_option maxRecDepth 20000 in
theorem ggX3_isWay_X0_hasCounting : GoodIn wsX3_isWay wsX0_hasCounting := goodIn_r _ [30, 31, 6, 7, 8, 9, 10, 11, 12, 13, 14, 32, 33, 34, 35, 36, 37, 38, 39, 40, 41, 42, 43, 44] (by decide +kernel) (by decide +kernel)
set_option maxRecDepth 20000 in
theorem gX3_isWay_X0_hasCounting : GoodIn wsX3_isWay (wsV RX3 75 RX0 yX0_hasCounting wsX0_hasCounting) := goodIn_app (goodIn_of _ (by decide +kernel)) ggX3_isWay_X0_hasCounting
theorem dX3_isWay_0 : decode cX3_isWay 0 = .ok (.aload_n 0, 1) := by decide +kernel
theorem dX3_isWay_1 : decode cX3_isWay 1 = .ok (.lload_n 1, 1) := by decide +kernel
theorem dX3_isWay_2 : decode cX3_isWay 2 = .ok (.lload_n 3, 1) := by decide +kernel
theorem dX3_isWay_3 : decode cX3_isWay 3 = .ok (.invokestatic 19, 3) := by decide +kernel
theorem dX3_isWay_6 : decode cX3_isWay 6 = .ok (.ifCond .ne 5, 3) := by decide +kernel
theorem dX3_isWay_9 : decode cX3_isWay 9 = .ok (.iconst 0, 1) := by decide +kernel
theorem dX3_isWay_10 : decode cX3_isWay 10 = .ok (.ireturn, 1) := by decide +kernel
theorem dX3_isWay_11 : decode cX3_isWay 11 = .ok (.lload_n 3, 1) := by decide +kernel
theorem dX3_isWay_12 : decode cX3_isWay 12 = .ok (.invokestatic 25, 3) := by decide +kernel
theorem dX3_isWay_15 : decode cX3_isWay 15 = .ok (.iconst 1, 1) := by decide +kernel
theorem dX3_isWay_16 : decode cX3_isWay 16 = .ok (.iadd, 1) := by decide +kernel
theorem dX3_isWay_17 : decode cX3_isWay 17 = .ok (.istore 5, 2) := by decide +kernel
theorem dX3_isWay_19 : decode cX3_isWay 19 = .ok (.iload 5, 2) := by decide +kernel
theorem dX3_isWay_21 : decode cX3_isWay 21 = .ok (.lload_n 1, 1) := by decide +kernel
theorem dX3_isWay_22 : decode cX3_isWay 22 = .ok (.invokestatic 25, 3) := by decide +kernel
theorem dX3_isWay_25 : decode cX3_isWay 25 = .ok (.if_icmp .ge 24, 3) := by decide +kernel
theorem dX3_isWay_28 : decode cX3_isWay 28 = .ok (.aload_n 0, 1) := by decide +kernel
theorem dX3_isWay_29 : decode cX3_isWay 29 = .ok (.lload_n 1, 1) := by decide +kernel
theorem dX3_isWay_30 : decode cX3_isWay 30 = .ok (.iload 5, 2) := by decide +kernel
theorem dX3_isWay_32 : decode cX3_isWay 32 = .ok (.invokestatic 84, 3) := by decide +kernel
theorem dX3_isWay_35 : decode cX3_isWay 35 = .ok (.invokevirtual 75, 3) := by decide +kernel
theorem dX3_isWay_38 : decode cX3_isWay 38 = .ok (.ifCond .eq 5, 3) := by decide +kernel
theorem dX3_isWay_41 : decode cX3_isWay 41 = .ok (.iconst 0, 1) := by decide +kernel
theorem dX3_isWay_42 : decode cX3_isWay 42 = .ok (.ireturn, 1) := by decide +kernel
theorem dX3_isWay_43 : decode cX3_isWay 43 = .ok (.iinc 5 1, 3) := by decide +kernel
theorem dX3_isWay_46 : decode cX3_isWay 46 = .ok (.goto (-27), 3) := by decide +kernel
theorem dX3_isWay_49 : decode cX3_isWay 49 = .ok (.iconst 1, 1) := by decide +kernel
theorem dX3_isWay_50 : decode cX3_isWay 50 = .ok (.ireturn, 1) := by decide +kernel
set_option maxRecDepth 20000 in
theorem ggX3_otherSideCompletes_X2_lengthOf : GoodIn wsX3_otherSideCompletes wsX2_lengthOf := goodIn_r _ [4] (by decide +kernel) (by decide +kernel)
set_option maxRecDepth 20000 in
theorem gX3_otherSideCompletes_X2_lengthOf : GoodIn wsX3_otherSideCompletes (va_wsS RX3 25 yX2_lengthOf wsX2_lengthOf) := goodIn_app (goodIn_of _ (by decide +kernel)) ggX3_otherSideCompletes_X2_lengthOf
theorem dX3_otherSideCompletes_0 : decode cX3_otherSideCompletes 0 = .ok (.lload_n 0, 1) := by decide +kernel
theorem dX3_otherSideCompletes_1 : decode cX3_otherSideCompletes 1 = .ok (.invokestatic 25, 3) := by decide +kernel
theorem dX3_otherSideCompletes_4 : decode cX3_otherSideCompletes 4 = .ok (.lload_n 2, 1) := by decide +kernel
theorem dX3_otherSideCompletes_5 : decode cX3_otherSideCompletes 5 = .ok (.invokestatic 25, 3) := by decide +kernel
theorem dX3_otherSideCompletes_8 : decode cX3_otherSideCompletes 8 = .ok (.isub, 1) := by decide +kernel
theorem dX3_otherSideCompletes_9 : decode cX3_otherSideCompletes 9 = .ok (.iconst 2, 1) := by decide +kernel
theorem dX3_otherSideCompletes_10 : decode cX3_otherSideCompletes 10 = .ok (.irem, 1) := by decide +kernel
theorem dX3_otherSideCompletes_11 : decode cX3_otherSideCompletes 11 = .ok (.ifCond .ne 7, 3) := by decide +kernel
theorem dX3_otherSideCompletes_14 : decode cX3_otherSideCompletes 14 = .ok (.iconst 1, 1) := by decide +kernel
theorem dX3_otherSideCompletes_15 : decode cX3_otherSideCompletes 15 = .ok (.goto 4, 3) := by decide +kernel
theorem dX3_otherSideCompletes_18 : decode cX3_otherSideCompletes 18 = .ok (.iconst 0, 1) := by decide +kernel
theorem dX3_otherSideCompletes_19 : decode cX3_otherSideCompletes 19 = .ok (.ireturn, 1) := by decide +kernel
theorem dX3_isIn_0 : decode cX3_isIn 0 = .ok (.iload_n 0, 1) := by decide +kernel
theorem dX3_isIn_1 : decode cX3_isIn 1 = .ok (.iload_n 1, 1) := by decide +kernel
theorem dX3_isIn_2 : decode cX3_isIn 2 = .ok (.ishr, 1) := by decide +kernel
theorem dX3_isIn_3 : decode cX3_isIn 3 = .ok (.iconst 1, 1) := by decide +kernel
theorem dX3_isIn_4 : decode cX3_isIn 4 = .ok (.iand, 1) := by decide +kernel
theorem dX3_isIn_5 : decode cX3_isIn 5 = .ok (.ifCond .eq 7, 3) := by decide +kernel
theorem dX3_isIn_8 : decode cX3_isIn 8 = .ok (.iconst 1, 1) := by decide +kernel
theorem dX3_isIn_9 : decode cX3_isIn 9 = .ok (.goto 4, 3) := by decide +kernel
theorem dX3_isIn_12 : decode cX3_isIn 12 = .ok (.iconst 0, 1) := by decide +kernel
theorem dX3_isIn_13 : decode cX3_isIn 13 = .ok (.ireturn, 1) := by decide +kernel
end
section
/-! whole numbers as ints -/
def zI (z : Int) : Int32 := Int32.ofInt z
theorem zI_toInt {z : Int} (h1 : -1000 ≤ z) (h2 : z ≤ 1000) : (zI z).toInt = z := fb_ofI (by omega) (by omega)
theorem zI_nat (n : Nat) : nI n = zI (n : Int) := by
  unfold nI zI
  exact (Int32.ofInt_eq_ofNat).symm
theorem zI_sub (a b : Int) : zI a - zI b = zI (a - b) := by
  unfold zI
  exact (Int32.ofInt_sub _ _).symm
theorem zI_eq {a b : Int} (h1 : -1000 ≤ a) (h2 : a ≤ 1000) (h3 : -1000 ≤ b) (h4 : b ≤ 1000) : zI a = zI b ↔ a = b := by
  rw [fa_eq, zI_toInt h1 h2, zI_toInt h3 h4]
theorem zI_le0 {a : Int} (h1 : -1000 ≤ a) (h2 : a ≤ 1000) : zI a ≤ 0 ↔ a ≤ 0 := by
  rw [fa_le, zI_toInt h1 h2]; rfl
theorem zI_ge0 {a : Int} (h1 : -1000 ≤ a) (h2 : a ≤ 1000) : 0 ≤ zI a ↔ 0 ≤ a := by
  rw [fa_le, zI_toInt h1 h2]; rfl
theorem zI_lt {a b : Int} (h1 : -1000 ≤ a) (h2 : a ≤ 1000) (h3 : -1000 ≤ b) (h4 : b ≤ 1000) : zI a < zI b ↔ a < b := by
  rw [fa_lt, zI_toInt h1 h2, zI_toInt h3 h4]
theorem zI_max {a b : Int} (h1 : -1000 ≤ a) (h2 : a ≤ 1000) (h3 : -1000 ≤ b) (h4 : b ≤ 1000) : (if zI a < zI b then zI b else zI a) = zI (max a b) := by
  by_cases h : a < b
  · rw [if_pos ((zI_lt h1 h2 h3 h4).mpr h), show max a b = b by omega]
  · rw [if_neg (fun q => h ((zI_lt h1 h2 h3 h4).mp q)), show max a b = a by omega]
theorem zI_abs {a : Int} (h1 : -1000 ≤ a) (h2 : a ≤ 1000) : (if 0 ≤ zI a then zI a else 0 - zI a) = nI a.natAbs := by
  rw [zI_nat]
  by_cases h : 0 ≤ a
  · rw [if_pos ((zI_ge0 h1 h2).mpr h)]; congr 1; omega
  · rw [if_neg (fun q => h ((zI_ge0 h1 h2).mp q)), show (0 : Int32) = zI 0 by rfl, zI_sub]; congr 1; omega
noncomputable def bB (P : Prop) : Bool := @decide P (Classical.propDecidable P)
theorem bB_t {P : Prop} (h : P) : bB P = true := @decide_eq_true P (Classical.propDecidable P) h
theorem bB_f {P : Prop} (h : ¬ P) : bB P = false := @decide_eq_false P (Classical.propDecidable P) h
theorem bB_p {P : Prop} (h : bB P = true) : P := @of_decide_eq_true P (Classical.propDecidable P) h
theorem bB_n {P : Prop} (h : bB P = false) : ¬ P := @of_decide_eq_false P (Classical.propDecidable P) h
theorem bB_iff {P : Prop} : bB P = true ↔ P := ⟨bB_p, bB_t⟩
theorem bB_cong {P Q : Prop} (h : P ↔ Q) : bB P = bB Q := by
  by_cases q : P
  · rw [bB_t q, bB_t (h.mp q)]
  · rw [bB_f q, bB_f (fun z => q (h.mpr z))]
/-! masks of letters -/
theorem sh_a : ∀ a, a < 32 → ((nI a &&& 31).toBitVec.smod 32).toNat = a := by decide +kernel
theorem mk_shr {n a : Nat} (h : n < 2147483648) (ha : a < 32) : nI n >>> (nI a &&& 31) = nI (n / 2 ^ a) := pk_shrN (by omega) _ a (sh_a a ha)
theorem mk_shl {a : Nat} (ha : a < 26) : nI 1 <<< (nI a &&& 31) = nI (2 ^ a) := by
  have h := pk_shlN (n := 1) (nI a &&& 31) a (sh_a a (by omega)) (by rw [Nat.one_mul]; exact Nat.pow_lt_pow_right (by decide) (by omega))
  rw [Nat.one_mul] at h
  exact h
theorem mk_tb {n a : Nat} : n / 2 ^ a % 2 = 0 ↔ n.testBit a = false := by
  rw [Nat.testBit_eq_decide_div_mod_eq]
  simp
theorem mk_or {n a : Nat} (h : n < 67108864) (ha : a < 26) : n ||| 2 ^ a < 67108864 :=
  Nat.or_lt_two_pow (n := 26) h (Nat.pow_lt_pow_right (by decide) ha)
theorem mk_tb2 (n a b : Nat) : (n ||| 2 ^ a).testBit b = (n.testBit b || decide (b = a)) := fb_bit_set n a b
/-! what leads on from F -/
def ldP (ll F W : Nat) : Prop := ll ≤ rwL W ∧ W ≠ F ∧ bgP W F
theorem ldP.lt {ll F W : Nat} (h : ldP ll F W) : rwL F < rwL W := by
  have h1 := h.2.2.1
  rcases Nat.lt_or_ge (rwL F) (rwL W) with q | q
  · exact q
  · have e : rwL F = rwL W := by omega
    have h2 := h.2.2.2
    rw [e, rb_all] at h2
    exact absurd h2 h.2.1
noncomputable def opM (S : Nat → Nat) (ll F : Nat) : Nat → Nat
  | 0 => 0
  | i + 1 => if bB (ldP ll F (S i)) = true then opM S ll F i ||| 2 ^ rwA (S i) (rwL F) else opM S ll F i
theorem opM_t {S : Nat → Nat} {ll F i o : Nat} (ho : o = opM S ll F i) (h : ldP ll F (S i)) : o ||| 2 ^ rwA (S i) (rwL F) = opM S ll F (i + 1) := by
  unfold opM; rw [if_pos (bB_t h), ho]
theorem opM_f {S : Nat → Nat} {ll F i o : Nat} (ho : o = opM S ll F i) (h : ¬ ldP ll F (S i)) : o = opM S ll F (i + 1) := by
  unfold opM; rw [if_neg (by rw [bB_f h]; exact Bool.false_ne_true), ho]
theorem opM_lt {S : Nat → Nat} {ll F : Nat} : ∀ {i : Nat}, (∀ j, j < i → RV (S j)) → opM S ll F i < 67108864
  | 0, _ => by show 0 < _; decide
  | i + 1, h => by
    have ih := opM_lt (S := S) (ll := ll) (F := F) (i := i) (fun j hj => h j (by omega))
    by_cases q : ldP ll F (S i)
    · rw [← opM_t rfl q]
      exact mk_or ih ((h i (by omega)).2.2 _ q.lt)
    · rw [← opM_f rfl q]; exact ih
theorem opM_bit {S : Nat → Nat} {ll F a : Nat} : ∀ {i : Nat}, (opM S ll F i).testBit a = true ↔ ∃ j, j < i ∧ ldP ll F (S j) ∧ rwA (S j) (rwL F) = a
  | 0 => ⟨fun h => absurd h (by rw [show opM S ll F 0 = 0 from rfl, Nat.zero_testBit]; exact Bool.false_ne_true), fun ⟨j, h, _⟩ => absurd h (Nat.not_lt_zero _)⟩
  | i + 1 => by
    have ih := opM_bit (S := S) (ll := ll) (F := F) (a := a) (i := i)
    by_cases q : ldP ll F (S i)
    · rw [← opM_t rfl q, mk_tb2, Bool.or_eq_true, ih, decide_eq_true_iff]
      constructor
      · rintro (⟨j, h1, h2⟩ | h)
        · exact ⟨j, by omega, h2⟩
        · exact ⟨i, by omega, q, h.symm⟩
      · rintro ⟨j, h1, h2, h3⟩
        by_cases e : j = i
        · subst e; exact Or.inr h3.symm
        · exact Or.inl ⟨j, by omega, h2, h3⟩
    · rw [← opM_f rfl q, ih]
      constructor
      · rintro ⟨j, h1, h2⟩; exact ⟨j, by omega, h2⟩
      · rintro ⟨j, h1, h2, h3⟩
        by_cases e : j = i
        · subst e; exact absurd h2 q
        · exact ⟨j, by omega, h2, h3⟩
theorem tb_ne0 {n a : Nat} (h : n.testBit a = true) : n ≠ 0 := fun e => by rw [e, Nat.zero_testBit] at h; cases h
/-- a word that counts -/
noncomputable def hwB (S : Nat → Nat) (cnt ll Q : Nat) : Bool := bB (ll ≤ rwL Q ∧ inS S cnt Q)
/-! scores: the class's solver, over any masks of open letters and any words -/
def scA (o : Int) : Int := if 0 < o then 1 - o else -1 - o
def scM (mk : Nat) (fn : Nat → Int) : Nat → Int
  | 0 => -100
  | a + 1 => if mk.testBit a = true then max (scM mk fn a) (fn a) else scM mk fn a
def sc (om : Nat → Nat) (hw : Nat → Bool) : Nat → Nat → Int
  | 0, _ => 100
  | k + 1, F => if om F = 0 then 100 else scM (om F) (fun a => scA (if hw (rwX F a) = true then 100 else sc om hw k (rwX F a))) 26
def scL (om : Nat → Nat) (hw : Nat → Bool) (k F a : Nat) : Int := scA (if hw (rwX F a) = true then 100 else sc om hw k (rwX F a))
theorem scA_b {o : Int} (h1 : -100 ≤ o) (h2 : o ≤ 100) : -100 ≤ scA o ∧ scA o ≤ 100 := by
  unfold scA
  by_cases h : 0 < o
  · rw [if_pos h]; omega
  · rw [if_neg h]; omega
theorem scM_b {mk : Nat} {fn : Nat → Int} (h : ∀ a, -100 ≤ fn a ∧ fn a ≤ 100) : ∀ a, -100 ≤ scM mk fn a ∧ scM mk fn a ≤ 100
  | 0 => by show (-100 : Int) ≤ -100 ∧ (-100 : Int) ≤ 100; omega
  | a + 1 => by
    have ih := scM_b (mk := mk) h a
    have ha := h a
    unfold scM
    by_cases q : mk.testBit a = true
    · rw [if_pos q]; omega
    · rw [if_neg q]; exact ih
theorem sc_b (om : Nat → Nat) (hw : Nat → Bool) : ∀ (k F : Nat), -100 ≤ sc om hw k F ∧ sc om hw k F ≤ 100
  | 0, _ => by show (-100 : Int) ≤ 100 ∧ (100 : Int) ≤ 100; omega
  | k + 1, F => by
    have ih := sc_b om hw k
    unfold sc
    by_cases q : om F = 0
    · rw [if_pos q]; omega
    · rw [if_neg q]
      refine scM_b (fun a => ?_) 26
      by_cases z : hw (rwX F a) = true
      · rw [if_pos z]; exact scA_b (by omega) (by omega)
      · rw [if_neg z]; exact scA_b (ih _).1 (ih _).2
theorem scL_b (om : Nat → Nat) (hw : Nat → Bool) (k F a : Nat) : -100 ≤ scL om hw k F a ∧ scL om hw k F a ≤ 100 := by
  unfold scL
  by_cases z : hw (rwX F a) = true
  · rw [if_pos z]; exact scA_b (by omega) (by omega)
  · rw [if_neg z]; exact scA_b (sc_b _ _ _ _).1 (sc_b _ _ _ _).2
theorem sc_s {om : Nat → Nat} {hw : Nat → Bool} {k F : Nat} (h : ¬ om F = 0) : sc om hw (k + 1) F = scM (om F) (scL om hw k F) 26 := if_neg h
theorem sc_z {om : Nat → Nat} {hw : Nat → Bool} {k F : Nat} (h : om F = 0) : sc om hw k F = 100 := by
  cases k with
  | zero => rfl
  | succ k => exact if_pos h
theorem scM_t {mk : Nat} {fn : Nat → Int} {a : Nat} {b : Int} (hb : b = scM mk fn a) (h : mk.testBit a = true) : max b (fn a) = scM mk fn (a + 1) := by
  unfold scM; rw [if_pos h, hb]
theorem scM_f {mk : Nat} {fn : Nat → Int} {a : Nat} {b : Int} (hb : b = scM mk fn a) (h : ¬ mk.testBit a = true) : b = scM mk fn (a + 1) := by
  unfold scM; rw [if_neg h, hb]
/-- the letters that win -/
noncomputable def scW (om : Nat → Nat) (hw : Nat → Bool) (k F : Nat) : Nat → Nat
  | 0 => 0
  | a + 1 => if bB ((om F).testBit a = true ∧ 0 < scL om hw k F a) = true then scW om hw k F a ||| 2 ^ a else scW om hw k F a
theorem scW_t {om : Nat → Nat} {hw : Nat → Bool} {k F a o : Nat} (ho : o = scW om hw k F a) (h : (om F).testBit a = true ∧ 0 < scL om hw k F a) : o ||| 2 ^ a = scW om hw k F (a + 1) := by
  unfold scW; rw [if_pos (bB_t h), ho]
theorem scW_f {om : Nat → Nat} {hw : Nat → Bool} {k F a o : Nat} (ho : o = scW om hw k F a) (h : ¬ ((om F).testBit a = true ∧ 0 < scL om hw k F a)) : o = scW om hw k F (a + 1) := by
  unfold scW; rw [if_neg (by rw [bB_f h]; exact Bool.false_ne_true), ho]
theorem scW_lt {om : Nat → Nat} {hw : Nat → Bool} {k F : Nat} : ∀ {a : Nat}, a ≤ 26 → scW om hw k F a < 67108864
  | 0, _ => by show 0 < _; decide
  | a + 1, h => by
    have ih := scW_lt (om := om) (hw := hw) (k := k) (F := F) (a := a) (by omega)
    by_cases q : (om F).testBit a = true ∧ 0 < scL om hw k F a
    · rw [← scW_t rfl q]; exact mk_or ih (by omega)
    · rw [← scW_f rfl q]; exact ih
/-- a way to play on -/
def wyP (S : Nat → Nat) (cnt ll F W : Nat) : Prop := ldP ll F W ∧ ∀ k, rwL F < k → k < rwL W → ¬ (ll ≤ k ∧ inS S cnt (rwB W k))
theorem wa_at {S : Nat → Nat} {cnt i : Nat} {r : Int64} (hi : i < cnt) (hc : cnt ≤ 50) (h : (∃ j : Nat, j < cnt ∧ nI j = nI i ∧ r = lN (S j)) ∨ ((¬ ∃ j : Nat, j < cnt ∧ nI j = nI i) ∧ r = lN 0)) : r = lN (S i) := by
  rcases h with ⟨j, hj, e, h⟩ | ⟨h, -⟩
  · rw [h, (nI_eq (by omega) (by omega)).mp e]
  · exact absurd ⟨i, hi, rfl⟩ h
theorem la_at {P i : Nat} {r : Int32} (hi : i < rwL P) (hV : RV P) (h : (∃ j : Nat, j < rwL P ∧ nI j = nI i ∧ r = nI (rwA P j)) ∨ ((¬ ∃ j : Nat, j < rwL P ∧ nI j = nI i) ∧ r = -1)) : r = nI (rwA P i) := by
  have := hV.1
  rcases h with ⟨j, hj, e, h⟩ | ⟨h, -⟩
  · rw [h, (nI_eq (by omega) (by omega)).mp e]
  · exact absurd ⟨i, hi, rfl⟩ h
abbrev rmS (d : Nat) : Room := { frames := 10 + 2 * d, cells := 0, slots := 0, locals := 400 + 80 * d }
abbrev rmL (d : Nat) : Room := { frames := 11 + 2 * d, cells := 0, slots := 0, locals := 440 + 80 * d }
abbrev rm_X3_leadsOn : Room := { frames := 2, cells := 0, slots := 0, locals := 45 }
set_option maxHeartbeats 4000000 in
set_option maxRecDepth 100000 in
theorem c_X3_leadsOn (l : Launch) (g : GG) (d v : Nat) (f : Nat → Int64) (S : Nat → Nat) (cnt ll : Nat) (hf : DR f S cnt) (hc : cnt ≤ 50) (hll : ll ≤ 10) (Y F : Nat) (hW : RV Y) (hF : RV F) : Ci l yX3_leadsOn wsX3_leadsOn rm_X3_leadsOn g [.ref (d), .long (lN (Y)), .long (lN (F))] (DW g d v f (nI cnt) (nI ll)) (fun r w => w = (DW g d v f (nI cnt) (nI ll)) ∧ Bv r (ldP ll F Y)) := by
  refine Ci.ofZ (cc := cX3_leadsOn) (maxL := 5) (by decide) rfl (Nat.le_of_ble_eq_true rfl) ?_
  intro p e s m args below meth c A Z hx hb hml hts hown hK hA hret H locs ls hP hD hS hl
  have hl : lv_has ls 5 [(0, .ref (d)), (1, .long (lN (Y))), (3, .long (lN (F)))] := hl
  have hW0 := hW.lt
  have hF0 := hF.lt
  refine lv_aload_n hx hb dX3_leadsOn_0 rfl (lv_at hl 0 rfl) ?_
  refine lv_lload_n hx hb dX3_leadsOn_1 rfl (lv_at hl 1 rfl) ?_
  refine call_iVW (As := [.long (lN (Y))]) (rest := []) ⟨hx, hb, hml, hown, hts⟩ (c_X0_isLongEnough l g d v f S cnt ll hf hc hll Y hW) (cwV 1 hts gX3_leadsOn_X0_isLongEnough rfl rfl rfl (by decide +kernel) ⟨Nat.le_of_ble_eq_true rfl, Nat.le_of_ble_eq_true rfl⟩) hP hK hD hS hA 0 rfl rfl rfl rfl hl.1 rfl (Nat.le_of_ble_eq_true rfl) dX3_leadsOn_2 ⟨Nat.le_refl _, Nat.le_refl _⟩ (fun r_2 w H locs h_2 hP hD hS => ?_)
  obtain ⟨rfl, h_2⟩ := h_2
  have hP : va_P g.1 vwCl (DW g d v f (nI cnt) (nI ll)) H := hP
  have hD : va_D A (DW g d v f (nI cnt) (nI ll)) := hD
  refine lv_if_eq (tgt := 26) hx hb dX3_leadsOn_5 (by decide) (fun c_5_1 => ?_) (fun c_5_1 => ?_)
  · skip
    have n_5_1 := Bv.f h_2 c_5_1
    refine lv_iconst (v := nI 0) hx hb dX3_leadsOn_26 (by decide) ?_
    exact hret (nI (0)) (DW g d v f (nI cnt) (nI ll)) _ _ _ _ dX3_leadsOn_27 (Or.inl rfl) (⟨rfl, Bv.no (fun q9 => n_5_1 q9.1)⟩) hP hD hS
  · skip
    have n_5_1 := Bv.t h_2 c_5_1
    refine lv_lload_n hx hb dX3_leadsOn_8 rfl (lv_at hl 1 rfl) ?_
    refine lv_lload_n hx hb dX3_leadsOn_9 rfl (lv_at hl 2 rfl) ?_
    refine W.lcmp hx hb dX3_leadsOn_10 ?_
    refine lv_if_eq (tgt := 26) hx hb dX3_leadsOn_11 (by decide) (fun c_11_2 => ?_) (fun c_11_2 => ?_)
    · skip
      have n_11_2 : Y = F := (lc_eq (a := Y) (b := F) (by omega) (by omega)).mp c_11_2
      refine lv_iconst (v := nI 0) hx hb dX3_leadsOn_26 (by decide) ?_
      exact hret (nI (0)) (DW g d v f (nI cnt) (nI ll)) _ _ _ _ dX3_leadsOn_27 (Or.inl rfl) (⟨rfl, Bv.no (fun q9 => q9.2.1 n_11_2)⟩) hP hD hS
    · skip
      have n_11_2 : ¬ Y = F := fun q9 => c_11_2 ((lc_eq (a := Y) (b := F) (by omega) (by omega)).mpr q9)
      refine lv_lload_n hx hb dX3_leadsOn_14 rfl (lv_at hl 1 rfl) ?_
      refine lv_lload_n hx hb dX3_leadsOn_15 rfl (lv_at hl 2 rfl) ?_
      refine call_iP (As := [.long (lN (Y)), .long (lN (F))]) (rest := []) ⟨hx, hb, hml, hown, hts⟩ (c_X2_beginsWith l Y F hW hF) (va_cwS 2 hts gX3_leadsOn_X2_beginsWith rfl rfl rfl (by decide +kernel) ⟨Nat.le_of_ble_eq_true rfl, Nat.le_of_ble_eq_true rfl⟩) hP hK hD hS hA rfl hl.1 rfl (Nat.le_of_ble_eq_true rfl) dX3_leadsOn_16 ⟨Nat.le_refl _, Nat.le_refl _⟩ (fun r_16 H locs h_16 hP hD hS => ?_)
      refine lv_if_eq (tgt := 26) hx hb dX3_leadsOn_19 (by decide) (fun c_19_3 => ?_) (fun c_19_3 => ?_)
      · skip
        have n_19_3 := Bv.f h_16 c_19_3
        refine lv_iconst (v := nI 0) hx hb dX3_leadsOn_26 (by decide) ?_
        exact hret (nI (0)) (DW g d v f (nI cnt) (nI ll)) _ _ _ _ dX3_leadsOn_27 (Or.inl rfl) (⟨rfl, Bv.no (fun q9 => n_19_3 q9.2.2)⟩) hP hD hS
      · skip
        have n_19_3 := Bv.t h_16 c_19_3
        refine lv_iconst (v := nI 1) hx hb dX3_leadsOn_22 (by decide) ?_
        refine lv_goto (tgt := 27) hx hb dX3_leadsOn_23 (by decide) ?_
        exact hret (nI (1)) (DW g d v f (nI cnt) (nI ll)) _ _ _ _ dX3_leadsOn_27 (Or.inr rfl) (⟨rfl, Bv.yes ⟨n_5_1, n_11_2, n_19_3⟩⟩) hP hD hS

abbrev rm_X3_isIn : Room := { frames := 0, cells := 0, slots := 0, locals := 0 }
set_option maxHeartbeats 4000000 in
set_option maxRecDepth 100000 in
theorem c_X3_isIn (l : Launch) (mk a : Nat) (hm0 : mk < 67108864) (ha : a < 26) : Pi l yX3_isIn wsX3_isIn rm_X3_isIn [.int (nI (mk)), .int (nI (a))] (fun r => Bv r (mk.testBit a = true)) := by
  intro g
  refine Ci.ofZ (cc := cX3_isIn) (maxL := 2) (by decide) rfl (Nat.le_of_ble_eq_true rfl) ?_
  intro p e s m args below meth c A Z hx hb hml hts hown hK hA hret H locs ls hP hD hS hl
  have hl : lv_has ls 2 [(0, .int (nI (mk))), (1, .int (nI (a)))] := hl
  refine lv_iload_n hx hb dX3_isIn_0 rfl (lv_at hl 0 rfl) ?_
  refine lv_iload_n hx hb dX3_isIn_1 rfl (lv_at hl 1 rfl) ?_
  refine lv_ishr hx hb dX3_isIn_2 ?_
  refine tp_i (b := (nI (mk / 2 ^ a))) (mk_shr (by omega) (by omega)) ?_
  refine lv_iconst (v := nI 1) hx hb dX3_isIn_3 (by decide) ?_
  refine lv_iand hx hb dX3_isIn_4 ?_
  refine tp_i (b := (nI (mk / 2 ^ a % 2))) (fa_mask _ 1) ?_
  refine lv_if_eq (tgt := 12) hx hb dX3_isIn_5 (by decide) (fun c_5_1 => ?_) (fun c_5_1 => ?_)
  · skip
    have n_5_1 : mk / 2 ^ a % 2 = 0 := (nI_eq (a := mk / 2 ^ a % 2) (b := 0) (by omega) (by omega)).mp c_5_1
    refine lv_iconst (v := nI 0) hx hb dX3_isIn_12 (by decide) ?_
    exact hret (nI (0)) [] _ _ _ _ dX3_isIn_13 (Or.inl rfl) (⟨rfl, Bv.no (by rw [mk_tb.mp n_5_1]; exact Bool.false_ne_true)⟩) hP hD hS
  · skip
    have n_5_1 : ¬ mk / 2 ^ a % 2 = 0 := fun q9 => c_5_1 ((nI_eq (a := mk / 2 ^ a % 2) (b := 0) (by omega) (by omega)).mpr q9)
    refine lv_iconst (v := nI 1) hx hb dX3_isIn_8 (by decide) ?_
    refine lv_goto (tgt := 13) hx hb dX3_isIn_9 (by decide) ?_
    exact hret (nI (1)) [] _ _ _ _ dX3_isIn_13 (Or.inr rfl) (⟨rfl, Bv.yes (by rcases q8 : mk.testBit a with _ | _; exact absurd (mk_tb.mpr q8) n_5_1; rfl)⟩) hP hD hS

abbrev rm_X3_lettersOpenBehind : Room := { frames := 3, cells := 0, slots := 0, locals := 69 }
set_option maxHeartbeats 4000000 in
set_option maxRecDepth 100000 in
theorem c_X3_lettersOpenBehind (l : Launch) (g : GG) (d v : Nat) (f : Nat → Int64) (S : Nat → Nat) (cnt ll : Nat) (hf : DR f S cnt) (hc : cnt ≤ 50) (hll : ll ≤ 10) (F : Nat) (hF : RV F) : Ci l yX3_lettersOpenBehind wsX3_lettersOpenBehind rm_X3_lettersOpenBehind g [.ref (d), .long (lN (F))] (DW g d v f (nI cnt) (nI ll)) (fun r w => w = (DW g d v f (nI cnt) (nI ll)) ∧ r = nI (opM S ll F cnt)) := by
  refine Ci.ofI (cc := cX3_lettersOpenBehind) (maxL := 7) (by decide) rfl (Nat.le_of_ble_eq_true rfl) ?_
  intro p e s m args below meth c A Z hx hb hml hts hown hK hA hret H locs ls hP hD hS hl
  have hl : lv_has ls 7 [(0, .ref (d)), (1, .long (lN (F)))] := hl
  refine lv_iconst (v := nI 0) hx hb dX3_lettersOpenBehind_0 (by decide) ?_
  refine lv_istore_n (lv' := [(3, .int (nI (0))), (0, .ref (d)), (1, .long (lN (F)))]) hx hb dX3_lettersOpenBehind_1 rfl hl (by decide) rfl (fun ls hl => ?_)
  refine lv_iconst (v := nI 0) hx hb dX3_lettersOpenBehind_2 (by decide) ?_
  refine lv_istore (lv' := [(4, .int (nI (0))), (3, .int (nI (0))), (0, .ref (d)), (1, .long (lN (F)))]) hx hb dX3_lettersOpenBehind_3 hl (by decide) rfl (fun ls hl => ?_)
  have L_5 : ∀ (fu : Nat) (i o : Nat), cnt - i < fu → (i ≤ cnt) → (o = opM S ll F i) → ∀ (H : Heap) (locs : List Loc) (ls : Array Slot), va_P g.1 vwCl (DW g d v f (nI cnt) (nI ll)) H → va_D A (DW g d v f (nI cnt) (nI ll)) → va_S A s.heap H locs → lv_has ls 7 [(0, .ref (d)), (1, .long (lN (F))), (3, .int (nI (o))), (4, .int (nI (i)))] → W p l e rm_X3_lettersOpenBehind s m args below meth c H locs 0 0 Z (F0 m 5 ls []) := by
    intro fu
    induction fu with
    | zero => intro _ _ h0; exact absurd h0 (Nat.not_lt_zero _)
    | succ fu ih_5 =>
      intro i o hfu hi1 ho H locs ls hP hD hS hl
      refine lv_iload hx hb dX3_lettersOpenBehind_5 (lv_at hl 3 rfl) ?_
      refine lv_aload_n hx hb dX3_lettersOpenBehind_7 rfl (lv_at hl 0 rfl) ?_
      refine call_iVW (As := []) (rest := [.int (nI (i))]) ⟨hx, hb, hml, hown, hts⟩ (c_X0_size l g d v f S cnt ll hf hc) (cwV 0 hts gX3_lettersOpenBehind_X0_size rfl rfl rfl (by decide +kernel) ⟨Nat.le_of_ble_eq_true rfl, Nat.le_of_ble_eq_true rfl⟩) hP hK hD hS hA 0 rfl rfl rfl rfl hl.1 rfl (Nat.le_of_ble_eq_true rfl) dX3_lettersOpenBehind_8 ⟨Nat.le_refl _, Nat.le_refl _⟩ (fun r_8 w H locs h_8 hP hD hS => ?_)
      obtain ⟨rfl, h_8⟩ := h_8
      subst h_8
      have hP : va_P g.1 vwCl (DW g d v f (nI cnt) (nI ll)) H := hP
      have hD : va_D A (DW g d v f (nI cnt) (nI ll)) := hD
      refine lv_icmp_ge (tgt := 52) hx hb dX3_lettersOpenBehind_11 (by decide) (fun c_11_1 => ?_) (fun c_11_1 => ?_)
      · skip
        have n_11_1 : cnt ≤ i := (nI_leI (a := cnt) (b := i) (by omega) (by omega)).mp c_11_1
        refine lv_iload_n hx hb dX3_lettersOpenBehind_52 rfl (lv_at hl 2 rfl) ?_
        exact hret (nI (o)) (DW g d v f (nI cnt) (nI ll)) _ _ _ _ dX3_lettersOpenBehind_53 (⟨rfl, by rw [ho, show i = cnt by omega]⟩) hP hD hS
      · skip
        have n_11_1 : ¬ cnt ≤ i := fun q9 => c_11_1 ((nI_leI (a := cnt) (b := i) (by omega) (by omega)).mpr q9)
        refine lv_aload_n hx hb dX3_lettersOpenBehind_14 rfl (lv_at hl 0 rfl) ?_
        refine lv_iload hx hb dX3_lettersOpenBehind_15 (lv_at hl 3 rfl) ?_
        refine call_lVW (As := [.int (nI (i))]) (rest := []) ⟨hx, hb, hml, hown, hts⟩ (c_X0_wordAt l g d v f S cnt ll hf hc (nI (i))) (cwV 1 hts gX3_lettersOpenBehind_X0_wordAt rfl rfl rfl (by decide +kernel) ⟨Nat.le_of_ble_eq_true rfl, Nat.le_of_ble_eq_true rfl⟩) hP hK hD hS hA 0 rfl rfl rfl rfl hl.1 rfl (Nat.le_of_ble_eq_true rfl) dX3_lettersOpenBehind_17 ⟨Nat.le_refl _, Nat.le_refl _⟩ (fun r_17 w H locs h_17 hP hD hS => ?_)
        obtain ⟨rfl, h_17⟩ := h_17
        replace h_17 := wa_at (i := i) (by omega) hc h_17
        subst h_17
        have hP : va_P g.1 vwCl (DW g d v f (nI cnt) (nI ll)) H := hP
        have hD : va_D A (DW g d v f (nI cnt) (nI ll)) := hD
        refine lv_lstore (lv' := [(5, .long (lN (S i))), (0, .ref (d)), (1, .long (lN (F))), (3, .int (nI (o))), (4, .int (nI (i)))]) hx hb dX3_lettersOpenBehind_20 hl (by decide) rfl (fun ls hl => ?_)
        refine lv_aload_n hx hb dX3_lettersOpenBehind_22 rfl (lv_at hl 1 rfl) ?_
        refine lv_lload hx hb dX3_lettersOpenBehind_23 (lv_at hl 0 rfl) ?_
        refine lv_lload_n hx hb dX3_lettersOpenBehind_25 rfl (lv_at hl 2 rfl) ?_
        refine call_iSW (As := [.ref (d), .long (lN (S i)), .long (lN (F))]) (rest := []) ⟨hx, hb, hml, hown, hts⟩ (c_X3_leadsOn l g d v f S cnt ll hf hc hll (S i) F (hf i (by omega)).2 hF) (va_cwS 3 hts gX3_lettersOpenBehind_X3_leadsOn rfl rfl rfl (by decide +kernel) ⟨Nat.le_of_ble_eq_true rfl, Nat.le_of_ble_eq_true rfl⟩) hP hK hD hS hA rfl hl.1 rfl (Nat.le_of_ble_eq_true rfl) dX3_lettersOpenBehind_26 ⟨Nat.le_refl _, Nat.le_refl _⟩ (fun r_26 w H locs h_26 hP hD hS => ?_)
        obtain ⟨rfl, h_26⟩ := h_26
        have hP : va_P g.1 vwCl (DW g d v f (nI cnt) (nI ll)) H := hP
        have hD : va_D A (DW g d v f (nI cnt) (nI ll)) := hD
        refine lv_if_eq (tgt := 46) hx hb dX3_lettersOpenBehind_29 (by decide) (fun c_29_2 => ?_) (fun c_29_2 => ?_)
        · skip
          have n_29_2 := Bv.f h_26 c_29_2
          refine lv_iinc (v := (nI (i + 1))) (lv' := [(4, .int (nI (i + 1))), (5, .long (lN (S i))), (0, .ref (d)), (1, .long (lN (F))), (3, .int (nI (o)))]) hx hb dX3_lettersOpenBehind_46 hl (k := 4) rfl (nI_add (i) 1) (by decide) rfl (fun ls hl => ?_)
          refine lv_goto (tgt := 5) hx hb dX3_lettersOpenBehind_49 (by decide) ?_
          exact ih_5 (i + 1) o (by omega) (by omega) (opM_f ho n_29_2) _ _ _ hP hD hS (lv_sub hl [2, 3, 4, 0] rfl)
        · skip
          have n_29_2 := Bv.t h_26 c_29_2
          refine lv_iload_n hx hb dX3_lettersOpenBehind_32 rfl (lv_at hl 3 rfl) ?_
          refine lv_iconst (v := nI 1) hx hb dX3_lettersOpenBehind_33 (by decide) ?_
          refine lv_lload hx hb dX3_lettersOpenBehind_34 (lv_at hl 0 rfl) ?_
          refine lv_lload_n hx hb dX3_lettersOpenBehind_36 rfl (lv_at hl 2 rfl) ?_
          refine call_iP (As := [.long (lN (F))]) (rest := [.long (lN (S i)), .int (nI (1)), .int (nI (o))]) ⟨hx, hb, hml, hown, hts⟩ (c_X2_lengthOf l F (hF).lt) (va_cwS 1 hts gX3_lettersOpenBehind_X2_lengthOf rfl rfl rfl (by decide +kernel) ⟨Nat.le_of_ble_eq_true rfl, Nat.le_of_ble_eq_true rfl⟩) hP hK hD hS hA rfl hl.1 rfl (Nat.le_of_ble_eq_true rfl) dX3_lettersOpenBehind_37 ⟨Nat.le_refl _, Nat.le_refl _⟩ (fun r_37 H locs h_37 hP hD hS => ?_)
          subst h_37
          refine call_iP (As := [.long (lN (S i)), .int (nI (rwL F))]) (rest := [.int (nI (1)), .int (nI (o))]) ⟨hx, hb, hml, hown, hts⟩ (c_X2_letterAt l (S i) (nI (rwL F)) (hf i (by omega)).2) (va_cwS 2 hts gX3_lettersOpenBehind_X2_letterAt rfl rfl rfl (by decide +kernel) ⟨Nat.le_of_ble_eq_true rfl, Nat.le_of_ble_eq_true rfl⟩) hP hK hD hS hA rfl hl.1 rfl (Nat.le_of_ble_eq_true rfl) dX3_lettersOpenBehind_40 ⟨Nat.le_refl _, Nat.le_refl _⟩ (fun r_40 H locs h_40 hP hD hS => ?_)
          replace h_40 := la_at n_29_2.lt (hf i (by omega)).2 h_40
          subst h_40
          have hlt := (hf i (by omega)).2.2.2 (rwL F) n_29_2.lt
          refine lv_ishl hx hb dX3_lettersOpenBehind_43 ?_
          refine tp_i (b := (nI (2 ^ rwA (S i) (rwL F)))) (mk_shl hlt) ?_
          refine lv_ior hx hb dX3_lettersOpenBehind_44 ?_
          refine tp_i (b := (nI (o ||| 2 ^ rwA (S i) (rwL F)))) (fa_or _ _) ?_
          refine lv_istore_n (lv' := [(3, .int (nI (o ||| 2 ^ rwA (S i) (rwL F)))), (5, .long (lN (S i))), (0, .ref (d)), (1, .long (lN (F))), (4, .int (nI (i)))]) hx hb dX3_lettersOpenBehind_45 rfl hl (by decide) rfl (fun ls hl => ?_)
          refine lv_iinc (v := (nI (i + 1))) (lv' := [(4, .int (nI (i + 1))), (3, .int (nI (o ||| 2 ^ rwA (S i) (rwL F)))), (5, .long (lN (S i))), (0, .ref (d)), (1, .long (lN (F)))]) hx hb dX3_lettersOpenBehind_46 hl (k := 4) rfl (nI_add (i) 1) (by decide) rfl (fun ls hl => ?_)
          refine lv_goto (tgt := 5) hx hb dX3_lettersOpenBehind_49 (by decide) ?_
          exact ih_5 (i + 1) (o ||| 2 ^ rwA (S i) (rwL F)) (by omega) (by omega) (opM_t ho n_29_2) _ _ _ hP hD hS (lv_sub hl [3, 4, 1, 0] rfl)
  exact L_5 (_ + 1) 0 0 (Nat.lt_succ_self _) (Nat.zero_le _) (rfl) _ _ _ hP hD hS (lv_sub hl [2, 3, 1, 0] rfl)

set_option maxHeartbeats 4000000 in
set_option maxRecDepth 100000 in
theorem c_X3_scoreOfLetter (l : Launch) (g : GG) (d v : Nat) (f : Nat → Int64) (S : Nat → Nat) (cnt ll : Nat) (hf : DR f S cnt) (hc : cnt ≤ 50) (hll : ll ≤ 10) (dd : Nat) (hrec : ∀ (k F : Nat), k ≤ dd → RV F → rwL F + k = 10 → Ci l yX3_score wsX3_score (rmS dd) g [.ref d, .long (lN F)] (DW g d v f (nI cnt) (nI ll)) (fun r w => w = (DW g d v f (nI cnt) (nI ll)) ∧ r = zI (sc (fun F => opM S ll F cnt) (hwB S cnt ll) k F))) (k F a : Nat) (hkd : k ≤ dd) (hF : RV F) (hk : rwL F + (k + 1) = 10) (ha : a < 26) : Ci l yX3_scoreOfLetter wsX3_scoreOfLetter (rmL dd) g [.ref (d), .long (lN (F)), .int (nI (a))] (DW g d v f (nI cnt) (nI ll)) (fun r w => w = (DW g d v f (nI cnt) (nI ll)) ∧ r = zI (scL (fun F => opM S ll F cnt) (hwB S cnt ll) k F a)) := by
  refine Ci.ofI (cc := cX3_scoreOfLetter) (maxL := 7) (by decide) rfl (Nat.le_of_ble_eq_true rfl) ?_
  intro p e s m args below meth c A Z hx hb hml hts hown hK hA hret H locs ls hP hD hS hl
  have hl : lv_has ls 7 [(0, .ref (d)), (1, .long (lN (F))), (3, .int (nI (a)))] := hl
  have hX : RV (rwX F a) := hF.rx (by omega) ha
  have hXl : rwL (rwX F a) = rwL F + 1 := hF.rxl (by omega) (by omega)
  have J_27 : ∀ (o : Int), (-100 ≤ o) → (o ≤ 100) → (scA o = scL (fun F => opM S ll F cnt) (hwB S cnt ll) k F a) → ∀ (H : Heap) (locs : List Loc) (ls : Array Slot), va_P g.1 vwCl (DW g d v f (nI cnt) (nI ll)) H → va_D A (DW g d v f (nI cnt) (nI ll)) → va_S A s.heap H locs → lv_has ls 7 [] → W p l e (rmL dd) s m args below meth c H locs 0 0 Z (F0 m 27 ls [.int (zI (o))]) := by
    intro o ho1 ho2 ho3 H locs ls hP hD hS hl
    refine lv_istore (lv' := [(6, .int (zI (o)))]) hx hb dX3_scoreOfLetter_27 hl (by decide) rfl (fun ls hl => ?_)
    refine lv_iload hx hb dX3_scoreOfLetter_29 (lv_at hl 0 rfl) ?_
    refine lv_if_le (tgt := 41) hx hb dX3_scoreOfLetter_31 (by decide) (fun c_31_1 => ?_) (fun c_31_1 => ?_)
    · skip
      have n_31_1 : o ≤ 0 := (zI_le0 (by omega) (by omega)).mp c_31_1
      refine lv_iconst (v := -1) hx hb dX3_scoreOfLetter_41 (by decide) ?_
      refine tp_i (b := zI (-1)) (by decide) ?_
      refine lv_iload hx hb dX3_scoreOfLetter_42 (lv_at hl 0 rfl) ?_
      refine lv_isub hx hb dX3_scoreOfLetter_44 ?_
      refine tp_i (b := (zI (-1 - o))) (zI_sub _ _) ?_
      exact hret (zI (-1 - o)) (DW g d v f (nI cnt) (nI ll)) _ _ _ _ dX3_scoreOfLetter_45 (⟨rfl, by rw [← ho3]; unfold scA; rw [if_neg (by omega)]⟩) hP hD hS
    · skip
      have n_31_1 : ¬ o ≤ 0 := fun q9 => c_31_1 ((zI_le0 (by omega) (by omega)).mpr q9)
      refine lv_iconst (v := nI 1) hx hb dX3_scoreOfLetter_34 (by decide) ?_
      refine tp_i (b := zI 1) (by decide) ?_
      refine lv_iload hx hb dX3_scoreOfLetter_35 (lv_at hl 0 rfl) ?_
      refine lv_isub hx hb dX3_scoreOfLetter_37 ?_
      refine tp_i (b := (zI (1 - o))) (zI_sub _ _) ?_
      refine lv_goto (tgt := 45) hx hb dX3_scoreOfLetter_38 (by decide) ?_
      exact hret (zI (1 - o)) (DW g d v f (nI cnt) (nI ll)) _ _ _ _ dX3_scoreOfLetter_45 (⟨rfl, by rw [← ho3]; unfold scA; rw [if_pos (by omega)]⟩) hP hD hS
  refine lv_lload_n hx hb dX3_scoreOfLetter_0 rfl (lv_at hl 1 rfl) ?_
  refine lv_iload_n hx hb dX3_scoreOfLetter_1 rfl (lv_at hl 2 rfl) ?_
  refine call_lP (As := [.long (lN (F)), .int (nI (a))]) (rest := []) ⟨hx, hb, hml, hown, hts⟩ (c_X2_with l F a hF (by omega) (by omega)) (va_cwS 2 hts gX3_scoreOfLetter_X2_with rfl rfl rfl (by decide +kernel) ⟨by show _ ≤ _; simp only [rmS, rmL]; omega, by show _ ≤ _; simp only [rmS, rmL]; omega⟩) hP hK hD hS hA rfl hl.1 rfl (Nat.le_of_ble_eq_true rfl) dX3_scoreOfLetter_2 ⟨Nat.le_refl _, Nat.le_refl _⟩ (fun r_2 H locs h_2 hP hD hS => ?_)
  subst h_2
  refine lv_lstore (lv' := [(4, .long (lN (rwX F a))), (0, .ref (d)), (1, .long (lN (F))), (3, .int (nI (a)))]) hx hb dX3_scoreOfLetter_5 hl (by decide) rfl (fun ls hl => ?_)
  refine lv_aload_n hx hb dX3_scoreOfLetter_7 rfl (lv_at hl 1 rfl) ?_
  refine lv_lload hx hb dX3_scoreOfLetter_8 (lv_at hl 0 rfl) ?_
  refine call_iVW (As := [.long (lN (rwX F a))]) (rest := []) ⟨hx, hb, hml, hown, hts⟩ (c_X0_hasCounting l g d v f S cnt ll hf hc hll (rwX F a) hX) (cwV 1 hts gX3_scoreOfLetter_X0_hasCounting rfl rfl rfl (by decide +kernel) ⟨by show _ ≤ _; simp only [rmS, rmL]; omega, by show _ ≤ _; simp only [rmS, rmL]; omega⟩) hP hK hD hS hA 0 rfl rfl rfl rfl hl.1 rfl (Nat.le_of_ble_eq_true rfl) dX3_scoreOfLetter_10 ⟨Nat.le_refl _, Nat.le_refl _⟩ (fun r_10 w H locs h_10 hP hD hS => ?_)
  obtain ⟨rfl, h_10⟩ := h_10
  have hP : va_P g.1 vwCl (DW g d v f (nI cnt) (nI ll)) H := hP
  have hD : va_D A (DW g d v f (nI cnt) (nI ll)) := hD
  refine lv_if_eq (tgt := 21) hx hb dX3_scoreOfLetter_13 (by decide) (fun c_13_2 => ?_) (fun c_13_2 => ?_)
  · skip
    have n_13_2 := Bv.f h_10 c_13_2
    refine lv_aload_n hx hb dX3_scoreOfLetter_21 rfl (lv_at hl 1 rfl) ?_
    refine lv_lload hx hb dX3_scoreOfLetter_22 (lv_at hl 0 rfl) ?_
    refine call_iSW (As := [.ref (d), .long (lN (rwX F a))]) (rest := []) ⟨hx, hb, hml, hown, hts⟩ (hrec k (rwX F a) hkd hX (by omega)) (va_cwS 2 hts gX3_scoreOfLetter_X3_score rfl rfl rfl (by decide +kernel) ⟨by show _ ≤ _; simp only [rmS, rmL]; omega, by show _ ≤ _; simp only [rmS, rmL]; omega⟩) hP hK hD hS hA rfl hl.1 rfl (Nat.le_of_ble_eq_true rfl) dX3_scoreOfLetter_24 ⟨Nat.le_refl _, Nat.le_refl _⟩ (fun r_24 w H locs h_24 hP hD hS => ?_)
    obtain ⟨rfl, h_24⟩ := h_24
    subst h_24
    have hP : va_P g.1 vwCl (DW g d v f (nI cnt) (nI ll)) H := hP
    have hD : va_D A (DW g d v f (nI cnt) (nI ll)) := hD
    exact J_27 (sc (fun F => opM S ll F cnt) (hwB S cnt ll) k (rwX F a)) ((sc_b (fun F => opM S ll F cnt) (hwB S cnt ll) k (rwX F a)).1) ((sc_b (fun F => opM S ll F cnt) (hwB S cnt ll) k (rwX F a)).2) (by unfold scL; rw [if_neg (show ¬ (hwB S cnt ll) (rwX F a) = true by rw [show (hwB S cnt ll) (rwX F a) = false from bB_f n_13_2]; exact Bool.false_ne_true)]) _ _ _ hP hD hS (lv_sub hl [] rfl)
  · skip
    have n_13_2 := Bv.t h_10 c_13_2
    refine lv_bipush (v := nI 100) hx hb dX3_scoreOfLetter_16 (by decide) ?_
    refine tp_i (b := zI 100) (by decide) ?_
    refine lv_goto (tgt := 27) hx hb dX3_scoreOfLetter_18 (by decide) ?_
    exact J_27 100 (by omega) (by omega) (by unfold scL; rw [if_pos (show (hwB S cnt ll) (rwX F a) = true from bB_t n_13_2)]) _ _ _ hP hD hS (lv_sub hl [] rfl)

set_option maxHeartbeats 4000000 in
set_option maxRecDepth 100000 in
theorem c_X3_score_0 (l : Launch) (g : GG) (d v : Nat) (f : Nat → Int64) (S : Nat → Nat) (cnt ll : Nat) (hf : DR f S cnt) (hc : cnt ≤ 50) (hll : ll ≤ 10) (F : Nat) (hF : RV F) (hk : rwL F = 10) : Ci l yX3_score wsX3_score (rmS 0) g [.ref (d), .long (lN (F))] (DW g d v f (nI cnt) (nI ll)) (fun r w => w = (DW g d v f (nI cnt) (nI ll)) ∧ r = zI (sc (fun F => opM S ll F cnt) (hwB S cnt ll) 0 F)) := by
  refine Ci.ofI (cc := cX3_score) (maxL := 6) (by decide) rfl (Nat.le_of_ble_eq_true rfl) ?_
  intro p e s m args below meth c A Z hx hb hml hts hown hK hA hret H locs ls hP hD hS hl
  have hl : lv_has ls 6 [(0, .ref (d)), (1, .long (lN (F)))] := hl
  have h10 := hF.1
  refine lv_lload_n hx hb dX3_score_0 rfl (lv_at hl 1 rfl) ?_
  refine call_iP (As := [.long (lN (F))]) (rest := []) ⟨hx, hb, hml, hown, hts⟩ (c_X2_isFull l F hF) (va_cwS 1 hts gX3_score_X2_isFull rfl rfl rfl (by decide +kernel) ⟨by show _ ≤ _; simp only [rmS, rmL]; omega, by show _ ≤ _; simp only [rmS, rmL]; omega⟩) hP hK hD hS hA rfl hl.1 rfl (Nat.le_of_ble_eq_true rfl) dX3_score_1 ⟨Nat.le_refl _, Nat.le_refl _⟩ (fun r_1 H locs h_1 hP hD hS => ?_)
  refine lv_if_eq (tgt := 11) hx hb dX3_score_4 (by decide) (fun c_4_1 => ?_) (fun c_4_1 => ?_)
  · skip
    have n_4_1 := Bv.f h_1 c_4_1
    exact absurd (show 10 ≤ rwL F by omega) n_4_1
  · skip
    have n_4_1 := Bv.t h_1 c_4_1
    refine lv_iconst (v := nI 0) hx hb dX3_score_7 (by decide) ?_
    refine lv_goto (tgt := 16) hx hb dX3_score_8 (by decide) ?_
    refine lv_istore_n (lv' := [(3, .int (nI (0))), (0, .ref (d)), (1, .long (lN (F)))]) hx hb dX3_score_16 rfl hl (by decide) rfl (fun ls hl => ?_)
    refine lv_iload_n hx hb dX3_score_17 rfl (lv_at hl 0 rfl) ?_
    refine lv_if_ne (tgt := 24) hx hb dX3_score_18 (by decide) (fun c_18_2 => absurd (by decide) c_18_2) (fun c_18_2 => ?_)
    refine lv_bipush (v := nI 100) hx hb dX3_score_21 (by decide) ?_
    exact hret (nI (100)) (DW g d v f (nI cnt) (nI ll)) _ _ _ _ dX3_score_23 (⟨rfl, (by decide : nI 100 = zI 100)⟩) hP hD hS

set_option maxHeartbeats 4000000 in
set_option maxRecDepth 100000 in
theorem c_X3_score_s (l : Launch) (g : GG) (d v : Nat) (f : Nat → Int64) (S : Nat → Nat) (cnt ll : Nat) (hf : DR f S cnt) (hc : cnt ≤ 50) (hll : ll ≤ 10) (dd : Nat) (hlet : ∀ (k F a : Nat), k ≤ dd → RV F → rwL F + (k + 1) = 10 → a < 26 → Ci l yX3_scoreOfLetter wsX3_scoreOfLetter (rmL dd) g [.ref d, .long (lN F), .int (nI a)] (DW g d v f (nI cnt) (nI ll)) (fun r w => w = (DW g d v f (nI cnt) (nI ll)) ∧ r = zI (scL (fun F => opM S ll F cnt) (hwB S cnt ll) k F a))) (k1 F : Nat) (hkd : k1 ≤ dd + 1) (hF : RV F) (hk : rwL F + k1 = 10) : Ci l yX3_score wsX3_score (rmS (dd + 1)) g [.ref (d), .long (lN (F))] (DW g d v f (nI cnt) (nI ll)) (fun r w => w = (DW g d v f (nI cnt) (nI ll)) ∧ r = zI (sc (fun F => opM S ll F cnt) (hwB S cnt ll) k1 F)) := by
  refine Ci.ofI (cc := cX3_score) (maxL := 6) (by decide) rfl (Nat.le_of_ble_eq_true rfl) ?_
  intro p e s m args below meth c A Z hx hb hml hts hown hK hA hret H locs ls hP hD hS hl
  have hl : lv_has ls 6 [(0, .ref (d)), (1, .long (lN (F)))] := hl
  have h10 := hF.1
  refine lv_lload_n hx hb dX3_score_0 rfl (lv_at hl 1 rfl) ?_
  refine call_iP (As := [.long (lN (F))]) (rest := []) ⟨hx, hb, hml, hown, hts⟩ (c_X2_isFull l F hF) (va_cwS 1 hts gX3_score_X2_isFull rfl rfl rfl (by decide +kernel) ⟨by show _ ≤ _; simp only [rmS, rmL]; omega, by show _ ≤ _; simp only [rmS, rmL]; omega⟩) hP hK hD hS hA rfl hl.1 rfl (Nat.le_of_ble_eq_true rfl) dX3_score_1 ⟨Nat.le_refl _, Nat.le_refl _⟩ (fun r_1 H locs h_1 hP hD hS => ?_)
  refine lv_if_eq (tgt := 11) hx hb dX3_score_4 (by decide) (fun c_4_1 => ?_) (fun c_4_1 => ?_)
  · skip
    have n_4_1 := Bv.f h_1 c_4_1
    obtain ⟨k, rfl⟩ : ∃ k0, k1 = k0 + 1 := ⟨k1 - 1, by omega⟩
    refine lv_aload_n hx hb dX3_score_11 rfl (lv_at hl 0 rfl) ?_
    refine lv_lload_n hx hb dX3_score_12 rfl (lv_at hl 1 rfl) ?_
    refine call_iSW (As := [.ref (d), .long (lN (F))]) (rest := []) ⟨hx, hb, hml, hown, hts⟩ (c_X3_lettersOpenBehind l g d v f S cnt ll hf hc hll F hF) (va_cwS 2 hts gX3_score_X3_lettersOpenBehind rfl rfl rfl (by decide +kernel) ⟨by show _ ≤ _; simp only [rmS, rmL]; omega, by show _ ≤ _; simp only [rmS, rmL]; omega⟩) hP hK hD hS hA rfl hl.1 rfl (Nat.le_of_ble_eq_true rfl) dX3_score_13 ⟨Nat.le_refl _, Nat.le_refl _⟩ (fun r_13 w H locs h_13 hP hD hS => ?_)
    obtain ⟨rfl, h_13⟩ := h_13
    subst h_13
    have hmk : opM S ll F cnt < 67108864 := opM_lt (fun j hj => (hf j hj).2)
    have hP : va_P g.1 vwCl (DW g d v f (nI cnt) (nI ll)) H := hP
    have hD : va_D A (DW g d v f (nI cnt) (nI ll)) := hD
    refine lv_istore_n (lv' := [(3, .int (nI (opM S ll F cnt))), (0, .ref (d)), (1, .long (lN (F)))]) hx hb dX3_score_16 rfl hl (by decide) rfl (fun ls hl => ?_)
    refine lv_iload_n hx hb dX3_score_17 rfl (lv_at hl 0 rfl) ?_
    refine lv_if_ne (tgt := 24) hx hb dX3_score_18 (by decide) (fun c_18_2 => ?_) (fun c_18_2 => ?_)
    · skip
      have n_18_2 : ¬ opM S ll F cnt = 0 := fun q9 => c_18_2 ((nI_eq (a := opM S ll F cnt) (b := 0) (by omega) (by omega)).mpr q9)
      refine lv_bipush (v := -100) hx hb dX3_score_24 (by decide) ?_
      refine tp_i (b := zI (-100)) (by decide) ?_
      refine lv_istore (lv' := [(4, .int (zI (-100))), (3, .int (nI (opM S ll F cnt))), (0, .ref (d)), (1, .long (lN (F)))]) hx hb dX3_score_26 hl (by decide) rfl (fun ls hl => ?_)
      refine lv_iconst (v := nI 0) hx hb dX3_score_28 (by decide) ?_
      refine lv_istore (lv' := [(5, .int (nI (0))), (4, .int (zI (-100))), (3, .int (nI (opM S ll F cnt))), (0, .ref (d)), (1, .long (lN (F)))]) hx hb dX3_score_29 hl (by decide) rfl (fun ls hl => ?_)
      have L_31 : ∀ (fu : Nat) (a : Nat) (b : Int), 26 - a < fu → (a ≤ 26) → (-100 ≤ b) → (b ≤ 100) → (b = scM (opM S ll F cnt) (scL (fun F => opM S ll F cnt) (hwB S cnt ll) k F) a) → ∀ (H : Heap) (locs : List Loc) (ls : Array Slot), va_P g.1 vwCl (DW g d v f (nI cnt) (nI ll)) H → va_D A (DW g d v f (nI cnt) (nI ll)) → va_S A s.heap H locs → lv_has ls 6 [(0, .ref (d)), (1, .long (lN (F))), (3, .int (nI (opM S ll F cnt))), (4, .int (zI (b))), (5, .int (nI (a)))] → W p l e (rmS (dd + 1)) s m args below meth c H locs 0 0 Z (F0 m 31 ls []) := by
        intro fu
        induction fu with
        | zero => intro _ _ h0; exact absurd h0 (Nat.not_lt_zero _)
        | succ fu ih_31 =>
          intro a b hfu ha1 hb1 hb2 hb3 H locs ls hP hD hS hl
          refine lv_iload hx hb dX3_score_31 (lv_at hl 4 rfl) ?_
          refine lv_bipush (v := nI 26) hx hb dX3_score_33 (by decide) ?_
          refine lv_icmp_ge (tgt := 67) hx hb dX3_score_35 (by decide) (fun c_35_3 => ?_) (fun c_35_3 => ?_)
          · skip
            have n_35_3 : 26 ≤ a := (nI_leI (a := 26) (b := a) (by omega) (by omega)).mp c_35_3
            refine lv_iload hx hb dX3_score_67 (lv_at hl 3 rfl) ?_
            exact hret (zI (b)) (DW g d v f (nI cnt) (nI ll)) _ _ _ _ dX3_score_69 (⟨rfl, by rw [sc_s (om := (fun F => opM S ll F cnt)) n_18_2, hb3, show a = 26 by omega]⟩) hP hD hS
          · skip
            have n_35_3 : ¬ 26 ≤ a := fun q9 => c_35_3 ((nI_leI (a := 26) (b := a) (by omega) (by omega)).mpr q9)
            refine lv_iload_n hx hb dX3_score_38 rfl (lv_at hl 2 rfl) ?_
            refine lv_iload hx hb dX3_score_39 (lv_at hl 4 rfl) ?_
            refine call_iP (As := [.int (nI (opM S ll F cnt)), .int (nI (a))]) (rest := []) ⟨hx, hb, hml, hown, hts⟩ (c_X3_isIn l (opM S ll F cnt) a hmk (by omega)) (va_cwS 2 hts gX3_score_X3_isIn rfl rfl rfl (by decide +kernel) ⟨by show _ ≤ _; simp only [rmS, rmL]; omega, by show _ ≤ _; simp only [rmS, rmL]; omega⟩) hP hK hD hS hA rfl hl.1 rfl (Nat.le_of_ble_eq_true rfl) dX3_score_41 ⟨Nat.le_refl _, Nat.le_refl _⟩ (fun r_41 H locs h_41 hP hD hS => ?_)
            refine lv_if_eq (tgt := 61) hx hb dX3_score_44 (by decide) (fun c_44_4 => ?_) (fun c_44_4 => ?_)
            · skip
              have n_44_4 := Bv.f h_41 c_44_4
              refine lv_iinc (v := (nI (a + 1))) (lv' := [(5, .int (nI (a + 1))), (0, .ref (d)), (1, .long (lN (F))), (3, .int (nI (opM S ll F cnt))), (4, .int (zI (b)))]) hx hb dX3_score_61 hl (k := 4) rfl (nI_add (a) 1) (by decide) rfl (fun ls hl => ?_)
              refine lv_goto (tgt := 31) hx hb dX3_score_64 (by decide) ?_
              exact ih_31 (a + 1) b (by omega) (by omega) (hb1) (hb2) (scM_f hb3 n_44_4) _ _ _ hP hD hS (lv_sub hl [1, 2, 3, 4, 0] rfl)
            · skip
              have n_44_4 := Bv.t h_41 c_44_4
              refine lv_iload hx hb dX3_score_47 (lv_at hl 3 rfl) ?_
              refine lv_aload_n hx hb dX3_score_49 rfl (lv_at hl 0 rfl) ?_
              refine lv_lload_n hx hb dX3_score_50 rfl (lv_at hl 1 rfl) ?_
              refine lv_iload hx hb dX3_score_51 (lv_at hl 4 rfl) ?_
              refine call_iSW (As := [.ref (d), .long (lN (F)), .int (nI (a))]) (rest := [.int (zI (b))]) ⟨hx, hb, hml, hown, hts⟩ (hlet k F a (by omega) hF (by omega) (by omega)) (va_cwS 3 hts gX3_score_X3_scoreOfLetter rfl rfl rfl (by decide +kernel) ⟨by show _ ≤ _; simp only [rmS, rmL]; omega, by show _ ≤ _; simp only [rmS, rmL]; omega⟩) hP hK hD hS hA rfl hl.1 rfl (Nat.le_of_ble_eq_true rfl) dX3_score_53 ⟨Nat.le_refl _, Nat.le_refl _⟩ (fun r_53 w H locs h_53 hP hD hS => ?_)
              obtain ⟨rfl, h_53⟩ := h_53
              subst h_53
              have hsb := scL_b (fun F => opM S ll F cnt) (hwB S cnt ll) k F a
              have hP : va_P g.1 vwCl (DW g d v f (nI cnt) (nI ll)) H := hP
              have hD : va_D A (DW g d v f (nI cnt) (nI ll)) := hD
              refine va_mmax hx hb (by rw [hml]; exact hl.1.symm) hown (hts (.methodLink RX3 67 Lib.Math.max.name) (by decide +kernel)) (hts (.static Lib.Math.max.name) (by decide +kernel)) (hts (.initialized "java/lang/Math") (by decide +kernel)) (hts (.code Lib.Math.max.name Lib.Math.max.code 2 (some .int)) (by decide +kernel)) (Nat.le_of_ble_eq_true rfl) (Nat.le_of_ble_eq_true rfl) (Nat.zero_le _) (Nat.zero_le _) dX3_score_56 ?_
              refine tp_i (b := (zI (max b (scL (fun F => opM S ll F cnt) (hwB S cnt ll) k F a)))) (zI_max (by omega) (by omega) (by omega) (by omega)) ?_
              refine lv_istore (lv' := [(4, .int (zI (max b (scL (fun F => opM S ll F cnt) (hwB S cnt ll) k F a)))), (0, .ref (d)), (1, .long (lN (F))), (3, .int (nI (opM S ll F cnt))), (5, .int (nI (a)))]) hx hb dX3_score_59 hl (by decide) rfl (fun ls hl => ?_)
              refine lv_iinc (v := (nI (a + 1))) (lv' := [(5, .int (nI (a + 1))), (4, .int (zI (max b (scL (fun F => opM S ll F cnt) (hwB S cnt ll) k F a)))), (0, .ref (d)), (1, .long (lN (F))), (3, .int (nI (opM S ll F cnt)))]) hx hb dX3_score_61 hl (k := 4) rfl (nI_add (a) 1) (by decide) rfl (fun ls hl => ?_)
              refine lv_goto (tgt := 31) hx hb dX3_score_64 (by decide) ?_
              exact ih_31 (a + 1) (max b (scL (fun F => opM S ll F cnt) (hwB S cnt ll) k F a)) (by omega) (by omega) (by omega) (by omega) (scM_t (fn := scL (fun F => opM S ll F cnt) (hwB S cnt ll) k F) hb3 n_44_4) _ _ _ hP hD hS (lv_sub hl [2, 3, 4, 1, 0] rfl)
      exact L_31 (_ + 1) 0 (-100) (Nat.lt_succ_self _) (Nat.zero_le _) (by omega) (by omega) (rfl) _ _ _ hP hD hS (lv_sub hl [3, 4, 2, 1, 0] rfl)
    · skip
      have n_18_2 : opM S ll F cnt = 0 := (nI_eq (a := opM S ll F cnt) (b := 0) (by omega) (by omega)).mp c_18_2
      refine lv_bipush (v := nI 100) hx hb dX3_score_21 (by decide) ?_
      exact hret (nI (100)) (DW g d v f (nI cnt) (nI ll)) _ _ _ _ dX3_score_23 (⟨rfl, by rw [sc_z (om := (fun F => opM S ll F cnt)) n_18_2]; decide⟩) hP hD hS
  · skip
    have n_4_1 := Bv.t h_1 c_4_1
    have hk9 : k1 = 0 := by omega
    subst hk9
    refine lv_iconst (v := nI 0) hx hb dX3_score_7 (by decide) ?_
    refine lv_goto (tgt := 16) hx hb dX3_score_8 (by decide) ?_
    refine lv_istore_n (lv' := [(3, .int (nI (0))), (0, .ref (d)), (1, .long (lN (F)))]) hx hb dX3_score_16 rfl hl (by decide) rfl (fun ls hl => ?_)
    refine lv_iload_n hx hb dX3_score_17 rfl (lv_at hl 0 rfl) ?_
    refine lv_if_ne (tgt := 24) hx hb dX3_score_18 (by decide) (fun c_18_5 => absurd (by decide) c_18_5) (fun c_18_5 => ?_)
    refine lv_bipush (v := nI 100) hx hb dX3_score_21 (by decide) ?_
    exact hret (nI (100)) (DW g d v f (nI cnt) (nI ll)) _ _ _ _ dX3_score_23 (⟨rfl, (by decide : nI 100 = zI 100)⟩) hP hD hS

/-- the score, at every depth -/
theorem c_X3_score (l : Launch) (g : GG) (d v : Nat) (f : Nat → Int64) (S : Nat → Nat) (cnt ll : Nat) (hf : DR f S cnt) (hc : cnt ≤ 50) (hll : ll ≤ 10) : ∀ (dd k F : Nat), k ≤ dd → RV F → rwL F + k = 10 → Ci l yX3_score wsX3_score (rmS dd) g [.ref d, .long (lN F)] (DW g d v f (nI cnt) (nI ll)) (fun r w => w = (DW g d v f (nI cnt) (nI ll)) ∧ r = zI (sc (fun F => opM S ll F cnt) (hwB S cnt ll) k F)) := by
  intro dd
  induction dd with
  | zero =>
    intro k F hk hF h
    have e : k = 0 := by omega
    subst e
    exact c_X3_score_0 l g d v f S cnt ll hf hc hll F hF h
  | succ dd ih =>
    intro k F hk hF h
    exact c_X3_score_s l g d v f S cnt ll hf hc hll dd (fun k F a hkd hF hk ha => c_X3_scoreOfLetter l g d v f S cnt ll hf hc hll dd ih k F a hkd hF hk ha) k F hk hF h
theorem c_X3_scoreOf (l : Launch) (g : GG) (d v : Nat) (f : Nat → Int64) (S : Nat → Nat) (cnt ll : Nat) (hf : DR f S cnt) (hc : cnt ≤ 50) (hll : ll ≤ 10) (k F a : Nat) (hkd : k ≤ 10) (hF : RV F) (hk : rwL F + (k + 1) = 10) (ha : a < 26) : Ci l yX3_scoreOfLetter wsX3_scoreOfLetter (rmL 10) g [.ref d, .long (lN F), .int (nI a)] (DW g d v f (nI cnt) (nI ll)) (fun r w => w = (DW g d v f (nI cnt) (nI ll)) ∧ r = zI (scL (fun F => opM S ll F cnt) (hwB S cnt ll) k F a)) := c_X3_scoreOfLetter l g d v f S cnt ll hf hc hll 10 (c_X3_score l g d v f S cnt ll hf hc hll 10) k F a hkd hF hk ha
abbrev rm_X3_moverWins : Room := { frames := 31, cells := 0, slots := 0, locals := 1225 }
set_option maxHeartbeats 4000000 in
set_option maxRecDepth 100000 in
theorem c_X3_moverWins (l : Launch) (g : GG) (d v : Nat) (f : Nat → Int64) (S : Nat → Nat) (cnt ll : Nat) (hf : DR f S cnt) (hc : cnt ≤ 50) (hll : ll ≤ 10) (F : Nat) (hF : RV F) : Ci l yX3_moverWins wsX3_moverWins rm_X3_moverWins g [.ref (d), .long (lN (F))] (DW g d v f (nI cnt) (nI ll)) (fun r w => w = (DW g d v f (nI cnt) (nI ll)) ∧ Bv r (0 < sc (fun F => opM S ll F cnt) (hwB S cnt ll) (10 - rwL F) F)) := by
  refine Ci.ofZ (cc := cX3_moverWins) (maxL := 3) (by decide) rfl (Nat.le_of_ble_eq_true rfl) ?_
  intro p e s m args below meth c A Z hx hb hml hts hown hK hA hret H locs ls hP hD hS hl
  have hl : lv_has ls 3 [(0, .ref (d)), (1, .long (lN (F)))] := hl
  have h10 := hF.1
  refine lv_aload_n hx hb dX3_moverWins_0 rfl (lv_at hl 0 rfl) ?_
  refine lv_lload_n hx hb dX3_moverWins_1 rfl (lv_at hl 1 rfl) ?_
  refine call_iSW (As := [.ref (d), .long (lN (F))]) (rest := []) ⟨hx, hb, hml, hown, hts⟩ (c_X3_score l g d v f S cnt ll hf hc hll 10 (10 - rwL F) F (by omega) hF (by omega)) (va_cwS 2 hts gX3_moverWins_X3_score rfl rfl rfl (by decide +kernel) ⟨Nat.le_of_ble_eq_true rfl, Nat.le_of_ble_eq_true rfl⟩) hP hK hD hS hA rfl hl.1 rfl (Nat.le_of_ble_eq_true rfl) dX3_moverWins_2 ⟨Nat.le_refl _, Nat.le_refl _⟩ (fun r_2 w H locs h_2 hP hD hS => ?_)
  obtain ⟨rfl, h_2⟩ := h_2
  subst h_2
  have hsb := sc_b (fun F => opM S ll F cnt) (hwB S cnt ll) (10 - rwL F) F
  have hP : va_P g.1 vwCl (DW g d v f (nI cnt) (nI ll)) H := hP
  have hD : va_D A (DW g d v f (nI cnt) (nI ll)) := hD
  refine lv_if_le (tgt := 12) hx hb dX3_moverWins_5 (by decide) (fun c_5_1 => ?_) (fun c_5_1 => ?_)
  · skip
    have n_5_1 : sc (fun F => opM S ll F cnt) (hwB S cnt ll) (10 - rwL F) F ≤ 0 := (zI_le0 (by omega) (by omega)).mp c_5_1
    refine lv_iconst (v := nI 0) hx hb dX3_moverWins_12 (by decide) ?_
    exact hret (nI (0)) (DW g d v f (nI cnt) (nI ll)) _ _ _ _ dX3_moverWins_13 (Or.inl rfl) (⟨rfl, Bv.no (by omega)⟩) hP hD hS
  · skip
    have n_5_1 : ¬ sc (fun F => opM S ll F cnt) (hwB S cnt ll) (10 - rwL F) F ≤ 0 := fun q9 => c_5_1 ((zI_le0 (by omega) (by omega)).mpr q9)
    refine lv_iconst (v := nI 1) hx hb dX3_moverWins_8 (by decide) ?_
    refine lv_goto (tgt := 13) hx hb dX3_moverWins_9 (by decide) ?_
    exact hret (nI (1)) (DW g d v f (nI cnt) (nI ll)) _ _ _ _ dX3_moverWins_13 (Or.inr rfl) (⟨rfl, Bv.yes (by omega)⟩) hP hD hS

abbrev rm_X3_endBehind : Room := { frames := 31, cells := 0, slots := 0, locals := 1225 }
set_option maxHeartbeats 4000000 in
set_option maxRecDepth 100000 in
theorem c_X3_endBehind (l : Launch) (g : GG) (d v : Nat) (f : Nat → Int64) (S : Nat → Nat) (cnt ll : Nat) (hf : DR f S cnt) (hc : cnt ≤ 50) (hll : ll ≤ 10) (F : Nat) (hF : RV F) : Ci l yX3_endBehind wsX3_endBehind rm_X3_endBehind g [.ref (d), .long (lN (F))] (DW g d v f (nI cnt) (nI ll)) (fun r w => w = (DW g d v f (nI cnt) (nI ll)) ∧ r = nI (100 - (sc (fun F => opM S ll F cnt) (hwB S cnt ll) (10 - rwL F) F).natAbs)) := by
  refine Ci.ofI (cc := cX3_endBehind) (maxL := 3) (by decide) rfl (Nat.le_of_ble_eq_true rfl) ?_
  intro p e s m args below meth c A Z hx hb hml hts hown hK hA hret H locs ls hP hD hS hl
  have hl : lv_has ls 3 [(0, .ref (d)), (1, .long (lN (F)))] := hl
  have h10 := hF.1
  refine lv_bipush (v := nI 100) hx hb dX3_endBehind_0 (by decide) ?_
  refine lv_aload_n hx hb dX3_endBehind_2 rfl (lv_at hl 0 rfl) ?_
  refine lv_lload_n hx hb dX3_endBehind_3 rfl (lv_at hl 1 rfl) ?_
  refine call_iSW (As := [.ref (d), .long (lN (F))]) (rest := [.int (nI (100))]) ⟨hx, hb, hml, hown, hts⟩ (c_X3_score l g d v f S cnt ll hf hc hll 10 (10 - rwL F) F (by omega) hF (by omega)) (va_cwS 2 hts gX3_endBehind_X3_score rfl rfl rfl (by decide +kernel) ⟨Nat.le_of_ble_eq_true rfl, Nat.le_of_ble_eq_true rfl⟩) hP hK hD hS hA rfl hl.1 rfl (Nat.le_of_ble_eq_true rfl) dX3_endBehind_4 ⟨Nat.le_refl _, Nat.le_refl _⟩ (fun r_4 w H locs h_4 hP hD hS => ?_)
  obtain ⟨rfl, h_4⟩ := h_4
  subst h_4
  have hsb := sc_b (fun F => opM S ll F cnt) (hwB S cnt ll) (10 - rwL F) F
  have hP : va_P g.1 vwCl (DW g d v f (nI cnt) (nI ll)) H := hP
  have hD : va_D A (DW g d v f (nI cnt) (nI ll)) := hD
  refine va_mabs hx hb (by rw [hml]; exact hl.1.symm) hown (hts (.methodLink RX3 50 Lib.Math.abs.name) (by decide +kernel)) (hts (.static Lib.Math.abs.name) (by decide +kernel)) (hts (.initialized "java/lang/Math") (by decide +kernel)) (hts (.code Lib.Math.abs.name Lib.Math.abs.code 1 (some .int)) (by decide +kernel)) (Nat.le_of_ble_eq_true rfl) (Nat.le_of_ble_eq_true rfl) (Nat.zero_le _) (Nat.zero_le _) dX3_endBehind_7 ?_
  refine tp_i (b := (nI ((sc (fun F => opM S ll F cnt) (hwB S cnt ll) (10 - rwL F) F).natAbs))) (zI_abs (by omega) (by omega)) ?_
  refine lv_isub hx hb dX3_endBehind_10 ?_
  refine tp_i (pk_sub (a := 100) (b := (sc (fun F => opM S ll F cnt) (hwB S cnt ll) (10 - rwL F) F).natAbs) (by omega)) ?_
  exact hret (nI (100 - ((sc (fun F => opM S ll F cnt) (hwB S cnt ll) (10 - rwL F) F).natAbs))) (DW g d v f (nI cnt) (nI ll)) _ _ _ _ dX3_endBehind_11 (⟨rfl, rfl⟩) hP hD hS

abbrev rm_X3_lettersWinningBehind : Room := { frames := 32, cells := 0, slots := 0, locals := 1266 }
set_option maxHeartbeats 4000000 in
set_option maxRecDepth 100000 in
theorem c_X3_lettersWinningBehind (l : Launch) (g : GG) (d v : Nat) (f : Nat → Int64) (S : Nat → Nat) (cnt ll : Nat) (hf : DR f S cnt) (hc : cnt ≤ 50) (hll : ll ≤ 10) (F : Nat) (hF : RV F) : Ci l yX3_lettersWinningBehind wsX3_lettersWinningBehind rm_X3_lettersWinningBehind g [.ref (d), .long (lN (F))] (DW g d v f (nI cnt) (nI ll)) (fun r w => w = (DW g d v f (nI cnt) (nI ll)) ∧ r = nI (scW (fun F => opM S ll F cnt) (hwB S cnt ll) (9 - rwL F) F 26)) := by
  refine Ci.ofI (cc := cX3_lettersWinningBehind) (maxL := 6) (by decide) rfl (Nat.le_of_ble_eq_true rfl) ?_
  intro p e s m args below meth c A Z hx hb hml hts hown hK hA hret H locs ls hP hD hS hl
  have hl : lv_has ls 6 [(0, .ref (d)), (1, .long (lN (F)))] := hl
  have h10 := hF.1
  refine lv_aload_n hx hb dX3_lettersWinningBehind_0 rfl (lv_at hl 0 rfl) ?_
  refine lv_lload_n hx hb dX3_lettersWinningBehind_1 rfl (lv_at hl 1 rfl) ?_
  refine call_iSW (As := [.ref (d), .long (lN (F))]) (rest := []) ⟨hx, hb, hml, hown, hts⟩ (c_X3_lettersOpenBehind l g d v f S cnt ll hf hc hll F hF) (va_cwS 2 hts gX3_lettersWinningBehind_X3_lettersOpenBehind rfl rfl rfl (by decide +kernel) ⟨Nat.le_of_ble_eq_true rfl, Nat.le_of_ble_eq_true rfl⟩) hP hK hD hS hA rfl hl.1 rfl (Nat.le_of_ble_eq_true rfl) dX3_lettersWinningBehind_2 ⟨Nat.le_refl _, Nat.le_refl _⟩ (fun r_2 w H locs h_2 hP hD hS => ?_)
  obtain ⟨rfl, h_2⟩ := h_2
  subst h_2
  have hmk : opM S ll F cnt < 67108864 := opM_lt (fun j hj => (hf j hj).2)
  have hP : va_P g.1 vwCl (DW g d v f (nI cnt) (nI ll)) H := hP
  have hD : va_D A (DW g d v f (nI cnt) (nI ll)) := hD
  refine lv_istore_n (lv' := [(3, .int (nI (opM S ll F cnt))), (0, .ref (d)), (1, .long (lN (F)))]) hx hb dX3_lettersWinningBehind_5 rfl hl (by decide) rfl (fun ls hl => ?_)
  refine lv_iconst (v := nI 0) hx hb dX3_lettersWinningBehind_6 (by decide) ?_
  refine lv_istore (lv' := [(4, .int (nI (0))), (3, .int (nI (opM S ll F cnt))), (0, .ref (d)), (1, .long (lN (F)))]) hx hb dX3_lettersWinningBehind_7 hl (by decide) rfl (fun ls hl => ?_)
  refine lv_iconst (v := nI 0) hx hb dX3_lettersWinningBehind_9 (by decide) ?_
  refine lv_istore (lv' := [(5, .int (nI (0))), (4, .int (nI (0))), (3, .int (nI (opM S ll F cnt))), (0, .ref (d)), (1, .long (lN (F)))]) hx hb dX3_lettersWinningBehind_10 hl (by decide) rfl (fun ls hl => ?_)
  have L_12 : ∀ (fu : Nat) (a o : Nat), 26 - a < fu → (a ≤ 26) → (o = scW (fun F => opM S ll F cnt) (hwB S cnt ll) (9 - rwL F) F a) → ∀ (H : Heap) (locs : List Loc) (ls : Array Slot), va_P g.1 vwCl (DW g d v f (nI cnt) (nI ll)) H → va_D A (DW g d v f (nI cnt) (nI ll)) → va_S A s.heap H locs → lv_has ls 6 [(0, .ref (d)), (1, .long (lN (F))), (3, .int (nI (opM S ll F cnt))), (4, .int (nI (o))), (5, .int (nI (a)))] → W p l e rm_X3_lettersWinningBehind s m args below meth c H locs 0 0 Z (F0 m 12 ls []) := by
    intro fu
    induction fu with
    | zero => intro _ _ h0; exact absurd h0 (Nat.not_lt_zero _)
    | succ fu ih_12 =>
      intro a o hfu ha1 ho H locs ls hP hD hS hl
      refine lv_iload hx hb dX3_lettersWinningBehind_12 (lv_at hl 4 rfl) ?_
      refine lv_bipush (v := nI 26) hx hb dX3_lettersWinningBehind_14 (by decide) ?_
      refine lv_icmp_ge (tgt := 53) hx hb dX3_lettersWinningBehind_16 (by decide) (fun c_16_1 => ?_) (fun c_16_1 => ?_)
      · skip
        have n_16_1 : 26 ≤ a := (nI_leI (a := 26) (b := a) (by omega) (by omega)).mp c_16_1
        refine lv_iload hx hb dX3_lettersWinningBehind_53 (lv_at hl 3 rfl) ?_
        exact hret (nI (o)) (DW g d v f (nI cnt) (nI ll)) _ _ _ _ dX3_lettersWinningBehind_55 (⟨rfl, by rw [ho, show a = 26 by omega]⟩) hP hD hS
      · skip
        have n_16_1 : ¬ 26 ≤ a := fun q9 => c_16_1 ((nI_leI (a := 26) (b := a) (by omega) (by omega)).mpr q9)
        refine lv_iload_n hx hb dX3_lettersWinningBehind_19 rfl (lv_at hl 2 rfl) ?_
        refine lv_iload hx hb dX3_lettersWinningBehind_20 (lv_at hl 4 rfl) ?_
        refine call_iP (As := [.int (nI (opM S ll F cnt)), .int (nI (a))]) (rest := []) ⟨hx, hb, hml, hown, hts⟩ (c_X3_isIn l (opM S ll F cnt) a hmk (by omega)) (va_cwS 2 hts gX3_lettersWinningBehind_X3_isIn rfl rfl rfl (by decide +kernel) ⟨Nat.le_of_ble_eq_true rfl, Nat.le_of_ble_eq_true rfl⟩) hP hK hD hS hA rfl hl.1 rfl (Nat.le_of_ble_eq_true rfl) dX3_lettersWinningBehind_22 ⟨Nat.le_refl _, Nat.le_refl _⟩ (fun r_22 H locs h_22 hP hD hS => ?_)
        refine lv_if_eq (tgt := 47) hx hb dX3_lettersWinningBehind_25 (by decide) (fun c_25_2 => ?_) (fun c_25_2 => ?_)
        · skip
          have n_25_2 := Bv.f h_22 c_25_2
          refine lv_iinc (v := (nI (a + 1))) (lv' := [(5, .int (nI (a + 1))), (0, .ref (d)), (1, .long (lN (F))), (3, .int (nI (opM S ll F cnt))), (4, .int (nI (o)))]) hx hb dX3_lettersWinningBehind_47 hl (k := 4) rfl (nI_add (a) 1) (by decide) rfl (fun ls hl => ?_)
          refine lv_goto (tgt := 12) hx hb dX3_lettersWinningBehind_50 (by decide) ?_
          exact ih_12 (a + 1) o (by omega) (by omega) (scW_f ho (fun q9 => n_25_2 q9.1)) _ _ _ hP hD hS (lv_sub hl [1, 2, 3, 4, 0] rfl)
        · skip
          have n_25_2 := Bv.t h_22 c_25_2
          have hF9 : rwL F < 10 := by
            obtain ⟨j, h1, h2, -⟩ := opM_bit.mp n_25_2
            have h3 := h2.lt
            have h4 := (hf j h1).2.1
            omega
          refine lv_aload_n hx hb dX3_lettersWinningBehind_28 rfl (lv_at hl 0 rfl) ?_
          refine lv_lload_n hx hb dX3_lettersWinningBehind_29 rfl (lv_at hl 1 rfl) ?_
          refine lv_iload hx hb dX3_lettersWinningBehind_30 (lv_at hl 4 rfl) ?_
          refine call_iSW (As := [.ref (d), .long (lN (F)), .int (nI (a))]) (rest := []) ⟨hx, hb, hml, hown, hts⟩ (c_X3_scoreOf l g d v f S cnt ll hf hc hll (9 - rwL F) F a (by omega) hF (by omega) (by omega)) (va_cwS 3 hts gX3_lettersWinningBehind_X3_scoreOfLetter rfl rfl rfl (by decide +kernel) ⟨Nat.le_of_ble_eq_true rfl, Nat.le_of_ble_eq_true rfl⟩) hP hK hD hS hA rfl hl.1 rfl (Nat.le_of_ble_eq_true rfl) dX3_lettersWinningBehind_32 ⟨Nat.le_refl _, Nat.le_refl _⟩ (fun r_32 w H locs h_32 hP hD hS => ?_)
          obtain ⟨rfl, h_32⟩ := h_32
          subst h_32
          have hlb := scL_b (fun F => opM S ll F cnt) (hwB S cnt ll) (9 - rwL F) F a
          have hP : va_P g.1 vwCl (DW g d v f (nI cnt) (nI ll)) H := hP
          have hD : va_D A (DW g d v f (nI cnt) (nI ll)) := hD
          refine lv_if_le (tgt := 47) hx hb dX3_lettersWinningBehind_35 (by decide) (fun c_35_3 => ?_) (fun c_35_3 => ?_)
          · skip
            have n_35_3 : scL (fun F => opM S ll F cnt) (hwB S cnt ll) (9 - rwL F) F a ≤ 0 := (zI_le0 (by omega) (by omega)).mp c_35_3
            refine lv_iinc (v := (nI (a + 1))) (lv' := [(5, .int (nI (a + 1))), (0, .ref (d)), (1, .long (lN (F))), (3, .int (nI (opM S ll F cnt))), (4, .int (nI (o)))]) hx hb dX3_lettersWinningBehind_47 hl (k := 4) rfl (nI_add (a) 1) (by decide) rfl (fun ls hl => ?_)
            refine lv_goto (tgt := 12) hx hb dX3_lettersWinningBehind_50 (by decide) ?_
            exact ih_12 (a + 1) o (by omega) (by omega) (scW_f ho (fun q9 => by have := q9.2; omega)) _ _ _ hP hD hS (lv_sub hl [1, 2, 3, 4, 0] rfl)
          · skip
            have n_35_3 : ¬ scL (fun F => opM S ll F cnt) (hwB S cnt ll) (9 - rwL F) F a ≤ 0 := fun q9 => c_35_3 ((zI_le0 (by omega) (by omega)).mpr q9)
            refine lv_iload hx hb dX3_lettersWinningBehind_38 (lv_at hl 3 rfl) ?_
            refine lv_iconst (v := nI 1) hx hb dX3_lettersWinningBehind_40 (by decide) ?_
            refine lv_iload hx hb dX3_lettersWinningBehind_41 (lv_at hl 4 rfl) ?_
            refine lv_ishl hx hb dX3_lettersWinningBehind_43 ?_
            refine tp_i (b := (nI (2 ^ a))) (mk_shl (by omega)) ?_
            refine lv_ior hx hb dX3_lettersWinningBehind_44 ?_
            refine tp_i (b := (nI (o ||| 2 ^ a))) (fa_or _ _) ?_
            refine lv_istore (lv' := [(4, .int (nI (o ||| 2 ^ a))), (0, .ref (d)), (1, .long (lN (F))), (3, .int (nI (opM S ll F cnt))), (5, .int (nI (a)))]) hx hb dX3_lettersWinningBehind_45 hl (by decide) rfl (fun ls hl => ?_)
            refine lv_iinc (v := (nI (a + 1))) (lv' := [(5, .int (nI (a + 1))), (4, .int (nI (o ||| 2 ^ a))), (0, .ref (d)), (1, .long (lN (F))), (3, .int (nI (opM S ll F cnt)))]) hx hb dX3_lettersWinningBehind_47 hl (k := 4) rfl (nI_add (a) 1) (by decide) rfl (fun ls hl => ?_)
            refine lv_goto (tgt := 12) hx hb dX3_lettersWinningBehind_50 (by decide) ?_
            exact ih_12 (a + 1) (o ||| 2 ^ a) (by omega) (by omega) (scW_t ho ⟨n_25_2, by omega⟩) _ _ _ hP hD hS (lv_sub hl [2, 3, 4, 1, 0] rfl)
  exact L_12 (_ + 1) 0 0 (Nat.lt_succ_self _) (Nat.zero_le _) (rfl) _ _ _ hP hD hS (lv_sub hl [3, 4, 2, 1, 0] rfl)

abbrev rm_X3_letterChosenBehind : Room := { frames := 32, cells := 0, slots := 0, locals := 1266 }
set_option maxHeartbeats 4000000 in
set_option maxRecDepth 100000 in
theorem c_X3_letterChosenBehind (l : Launch) (g : GG) (d v : Nat) (f : Nat → Int64) (S : Nat → Nat) (cnt ll : Nat) (hf : DR f S cnt) (hc : cnt ≤ 50) (hll : ll ≤ 10) (F : Nat) (hF : RV F) : Ci l yX3_letterChosenBehind wsX3_letterChosenBehind rm_X3_letterChosenBehind g [.ref (d), .long (lN (F))] (DW g d v f (nI cnt) (nI ll)) (fun r w => w = (DW g d v f (nI cnt) (nI ll)) ∧ ((∃ a, a < 26 ∧ ((opM S ll F cnt).testBit a = true ∧ scL (fun F => opM S ll F cnt) (hwB S cnt ll) (9 - rwL F) F a = sc (fun F => opM S ll F cnt) (hwB S cnt ll) (10 - rwL F) F) ∧ (∀ b, b < a → ¬ ((opM S ll F cnt).testBit b = true ∧ scL (fun F => opM S ll F cnt) (hwB S cnt ll) (9 - rwL F) F b = sc (fun F => opM S ll F cnt) (hwB S cnt ll) (10 - rwL F) F)) ∧ r = nI a) ∨ ((∀ b, b < 26 → ¬ ((opM S ll F cnt).testBit b = true ∧ scL (fun F => opM S ll F cnt) (hwB S cnt ll) (9 - rwL F) F b = sc (fun F => opM S ll F cnt) (hwB S cnt ll) (10 - rwL F) F)) ∧ r = -1))) := by
  refine Ci.ofI (cc := cX3_letterChosenBehind) (maxL := 6) (by decide) rfl (Nat.le_of_ble_eq_true rfl) ?_
  intro p e s m args below meth c A Z hx hb hml hts hown hK hA hret H locs ls hP hD hS hl
  have hl : lv_has ls 6 [(0, .ref (d)), (1, .long (lN (F)))] := hl
  have h10 := hF.1
  refine lv_aload_n hx hb dX3_letterChosenBehind_0 rfl (lv_at hl 0 rfl) ?_
  refine lv_lload_n hx hb dX3_letterChosenBehind_1 rfl (lv_at hl 1 rfl) ?_
  refine call_iSW (As := [.ref (d), .long (lN (F))]) (rest := []) ⟨hx, hb, hml, hown, hts⟩ (c_X3_lettersOpenBehind l g d v f S cnt ll hf hc hll F hF) (va_cwS 2 hts gX3_letterChosenBehind_X3_lettersOpenBehind rfl rfl rfl (by decide +kernel) ⟨Nat.le_of_ble_eq_true rfl, Nat.le_of_ble_eq_true rfl⟩) hP hK hD hS hA rfl hl.1 rfl (Nat.le_of_ble_eq_true rfl) dX3_letterChosenBehind_2 ⟨Nat.le_refl _, Nat.le_refl _⟩ (fun r_2 w H locs h_2 hP hD hS => ?_)
  obtain ⟨rfl, h_2⟩ := h_2
  subst h_2
  have hmk : opM S ll F cnt < 67108864 := opM_lt (fun j hj => (hf j hj).2)
  have hP : va_P g.1 vwCl (DW g d v f (nI cnt) (nI ll)) H := hP
  have hD : va_D A (DW g d v f (nI cnt) (nI ll)) := hD
  refine lv_istore_n (lv' := [(3, .int (nI (opM S ll F cnt))), (0, .ref (d)), (1, .long (lN (F)))]) hx hb dX3_letterChosenBehind_5 rfl hl (by decide) rfl (fun ls hl => ?_)
  refine lv_aload_n hx hb dX3_letterChosenBehind_6 rfl (lv_at hl 1 rfl) ?_
  refine lv_lload_n hx hb dX3_letterChosenBehind_7 rfl (lv_at hl 2 rfl) ?_
  refine call_iSW (As := [.ref (d), .long (lN (F))]) (rest := []) ⟨hx, hb, hml, hown, hts⟩ (c_X3_score l g d v f S cnt ll hf hc hll 10 (10 - rwL F) F (by omega) hF (by omega)) (va_cwS 2 hts gX3_letterChosenBehind_X3_score rfl rfl rfl (by decide +kernel) ⟨Nat.le_of_ble_eq_true rfl, Nat.le_of_ble_eq_true rfl⟩) hP hK hD hS hA rfl hl.1 rfl (Nat.le_of_ble_eq_true rfl) dX3_letterChosenBehind_8 ⟨Nat.le_refl _, Nat.le_refl _⟩ (fun r_8 w H locs h_8 hP hD hS => ?_)
  obtain ⟨rfl, h_8⟩ := h_8
  subst h_8
  have hsb := sc_b (fun F => opM S ll F cnt) (hwB S cnt ll) (10 - rwL F) F
  have hP : va_P g.1 vwCl (DW g d v f (nI cnt) (nI ll)) H := hP
  have hD : va_D A (DW g d v f (nI cnt) (nI ll)) := hD
  refine lv_istore (lv' := [(4, .int (zI (sc (fun F => opM S ll F cnt) (hwB S cnt ll) (10 - rwL F) F))), (3, .int (nI (opM S ll F cnt))), (0, .ref (d)), (1, .long (lN (F)))]) hx hb dX3_letterChosenBehind_11 hl (by decide) rfl (fun ls hl => ?_)
  refine lv_iconst (v := nI 0) hx hb dX3_letterChosenBehind_13 (by decide) ?_
  refine lv_istore (lv' := [(5, .int (nI (0))), (4, .int (zI (sc (fun F => opM S ll F cnt) (hwB S cnt ll) (10 - rwL F) F))), (3, .int (nI (opM S ll F cnt))), (0, .ref (d)), (1, .long (lN (F)))]) hx hb dX3_letterChosenBehind_14 hl (by decide) rfl (fun ls hl => ?_)
  have L_16 : ∀ (fu : Nat) (a : Nat), 26 - a < fu → (a ≤ 26) → (∀ b, b < a → ¬ ((opM S ll F cnt).testBit b = true ∧ scL (fun F => opM S ll F cnt) (hwB S cnt ll) (9 - rwL F) F b = sc (fun F => opM S ll F cnt) (hwB S cnt ll) (10 - rwL F) F)) → ∀ (H : Heap) (locs : List Loc) (ls : Array Slot), va_P g.1 vwCl (DW g d v f (nI cnt) (nI ll)) H → va_D A (DW g d v f (nI cnt) (nI ll)) → va_S A s.heap H locs → lv_has ls 6 [(0, .ref (d)), (1, .long (lN (F))), (3, .int (nI (opM S ll F cnt))), (4, .int (zI (sc (fun F => opM S ll F cnt) (hwB S cnt ll) (10 - rwL F) F))), (5, .int (nI (a)))] → W p l e rm_X3_letterChosenBehind s m args below meth c H locs 0 0 Z (F0 m 16 ls []) := by
    intro fu
    induction fu with
    | zero => intro _ h0; exact absurd h0 (Nat.not_lt_zero _)
    | succ fu ih_16 =>
      intro a hfu ha1 ha2 H locs ls hP hD hS hl
      refine lv_iload hx hb dX3_letterChosenBehind_16 (lv_at hl 4 rfl) ?_
      refine lv_bipush (v := nI 26) hx hb dX3_letterChosenBehind_18 (by decide) ?_
      refine lv_icmp_ge (tgt := 53) hx hb dX3_letterChosenBehind_20 (by decide) (fun c_20_1 => ?_) (fun c_20_1 => ?_)
      · skip
        have n_20_1 : 26 ≤ a := (nI_leI (a := 26) (b := a) (by omega) (by omega)).mp c_20_1
        refine lv_iconst (v := -1) hx hb dX3_letterChosenBehind_53 (by decide) ?_
        exact hret (-1) (DW g d v f (nI cnt) (nI ll)) _ _ _ _ dX3_letterChosenBehind_54 (⟨rfl, Or.inr ⟨fun b hb => ha2 b (by omega), rfl⟩⟩) hP hD hS
      · skip
        have n_20_1 : ¬ 26 ≤ a := fun q9 => c_20_1 ((nI_leI (a := 26) (b := a) (by omega) (by omega)).mpr q9)
        refine lv_iload_n hx hb dX3_letterChosenBehind_23 rfl (lv_at hl 2 rfl) ?_
        refine lv_iload hx hb dX3_letterChosenBehind_24 (lv_at hl 4 rfl) ?_
        refine call_iP (As := [.int (nI (opM S ll F cnt)), .int (nI (a))]) (rest := []) ⟨hx, hb, hml, hown, hts⟩ (c_X3_isIn l (opM S ll F cnt) a hmk (by omega)) (va_cwS 2 hts gX3_letterChosenBehind_X3_isIn rfl rfl rfl (by decide +kernel) ⟨Nat.le_of_ble_eq_true rfl, Nat.le_of_ble_eq_true rfl⟩) hP hK hD hS hA rfl hl.1 rfl (Nat.le_of_ble_eq_true rfl) dX3_letterChosenBehind_26 ⟨Nat.le_refl _, Nat.le_refl _⟩ (fun r_26 H locs h_26 hP hD hS => ?_)
        refine lv_if_eq (tgt := 47) hx hb dX3_letterChosenBehind_29 (by decide) (fun c_29_2 => ?_) (fun c_29_2 => ?_)
        · skip
          have n_29_2 := Bv.f h_26 c_29_2
          refine lv_iinc (v := (nI (a + 1))) (lv' := [(5, .int (nI (a + 1))), (0, .ref (d)), (1, .long (lN (F))), (3, .int (nI (opM S ll F cnt))), (4, .int (zI (sc (fun F => opM S ll F cnt) (hwB S cnt ll) (10 - rwL F) F)))]) hx hb dX3_letterChosenBehind_47 hl (k := 4) rfl (nI_add (a) 1) (by decide) rfl (fun ls hl => ?_)
          refine lv_goto (tgt := 16) hx hb dX3_letterChosenBehind_50 (by decide) ?_
          exact ih_16 (a + 1) (by omega) (by omega) (lt_s ha2 (fun q9 => n_29_2 q9.1)) _ _ _ hP hD hS (lv_sub hl [1, 2, 3, 4, 0] rfl)
        · skip
          have n_29_2 := Bv.t h_26 c_29_2
          have hF9 : rwL F < 10 := by
            obtain ⟨j, h1, h2, -⟩ := opM_bit.mp n_29_2
            have h3 := h2.lt
            have h4 := (hf j h1).2.1
            omega
          refine lv_aload_n hx hb dX3_letterChosenBehind_32 rfl (lv_at hl 0 rfl) ?_
          refine lv_lload_n hx hb dX3_letterChosenBehind_33 rfl (lv_at hl 1 rfl) ?_
          refine lv_iload hx hb dX3_letterChosenBehind_34 (lv_at hl 4 rfl) ?_
          refine call_iSW (As := [.ref (d), .long (lN (F)), .int (nI (a))]) (rest := []) ⟨hx, hb, hml, hown, hts⟩ (c_X3_scoreOf l g d v f S cnt ll hf hc hll (9 - rwL F) F a (by omega) hF (by omega) (by omega)) (va_cwS 3 hts gX3_letterChosenBehind_X3_scoreOfLetter rfl rfl rfl (by decide +kernel) ⟨Nat.le_of_ble_eq_true rfl, Nat.le_of_ble_eq_true rfl⟩) hP hK hD hS hA rfl hl.1 rfl (Nat.le_of_ble_eq_true rfl) dX3_letterChosenBehind_36 ⟨Nat.le_refl _, Nat.le_refl _⟩ (fun r_36 w H locs h_36 hP hD hS => ?_)
          obtain ⟨rfl, h_36⟩ := h_36
          subst h_36
          have hlb := scL_b (fun F => opM S ll F cnt) (hwB S cnt ll) (9 - rwL F) F a
          have hP : va_P g.1 vwCl (DW g d v f (nI cnt) (nI ll)) H := hP
          have hD : va_D A (DW g d v f (nI cnt) (nI ll)) := hD
          refine lv_iload hx hb dX3_letterChosenBehind_39 (lv_at hl 3 rfl) ?_
          refine lv_icmp_ne (tgt := 47) hx hb dX3_letterChosenBehind_41 (by decide) (fun c_41_3 => ?_) (fun c_41_3 => ?_)
          · skip
            have n_41_3 : ¬ scL (fun F => opM S ll F cnt) (hwB S cnt ll) (9 - rwL F) F a = sc (fun F => opM S ll F cnt) (hwB S cnt ll) (10 - rwL F) F := fun q9 => c_41_3 ((zI_eq (by omega) (by omega) (by omega) (by omega)).mpr q9)
            refine lv_iinc (v := (nI (a + 1))) (lv' := [(5, .int (nI (a + 1))), (0, .ref (d)), (1, .long (lN (F))), (3, .int (nI (opM S ll F cnt))), (4, .int (zI (sc (fun F => opM S ll F cnt) (hwB S cnt ll) (10 - rwL F) F)))]) hx hb dX3_letterChosenBehind_47 hl (k := 4) rfl (nI_add (a) 1) (by decide) rfl (fun ls hl => ?_)
            refine lv_goto (tgt := 16) hx hb dX3_letterChosenBehind_50 (by decide) ?_
            exact ih_16 (a + 1) (by omega) (by omega) (lt_s ha2 (fun q9 => n_41_3 q9.2)) _ _ _ hP hD hS (lv_sub hl [1, 2, 3, 4, 0] rfl)
          · skip
            have n_41_3 : scL (fun F => opM S ll F cnt) (hwB S cnt ll) (9 - rwL F) F a = sc (fun F => opM S ll F cnt) (hwB S cnt ll) (10 - rwL F) F := (zI_eq (by omega) (by omega) (by omega) (by omega)).mp c_41_3
            refine lv_iload hx hb dX3_letterChosenBehind_44 (lv_at hl 4 rfl) ?_
            exact hret (nI (a)) (DW g d v f (nI cnt) (nI ll)) _ _ _ _ dX3_letterChosenBehind_46 (⟨rfl, Or.inl ⟨a, by omega, ⟨n_29_2, n_41_3⟩, ha2, rfl⟩⟩) hP hD hS
  exact L_16 (_ + 1) 0 (Nat.lt_succ_self _) (Nat.zero_le _) (fun b h => absurd h (Nat.not_lt_zero _)) _ _ _ hP hD hS (lv_sub hl [3, 4, 2, 1, 0] rfl)

abbrev rm_X3_otherSideCompletes : Room := { frames := 1, cells := 0, slots := 0, locals := 21 }
set_option maxHeartbeats 4000000 in
set_option maxRecDepth 100000 in
theorem c_X3_otherSideCompletes (l : Launch) (Y F : Nat) (hW : RV Y) (hF : RV F) (hl0 : rwL F ≤ rwL Y) : Pi l yX3_otherSideCompletes wsX3_otherSideCompletes rm_X3_otherSideCompletes [.long (lN (Y)), .long (lN (F))] (fun r => Bv r ((rwL Y - rwL F) % 2 = 0)) := by
  intro g
  refine Ci.ofZ (cc := cX3_otherSideCompletes) (maxL := 4) (by decide) rfl (Nat.le_of_ble_eq_true rfl) ?_
  intro p e s m args below meth c A Z hx hb hml hts hown hK hA hret H locs ls hP hD hS hl
  have hl : lv_has ls 4 [(0, .long (lN (Y))), (2, .long (lN (F)))] := hl
  have h10 := hW.1
  refine lv_lload_n hx hb dX3_otherSideCompletes_0 rfl (lv_at hl 0 rfl) ?_
  refine call_iP (As := [.long (lN (Y))]) (rest := []) ⟨hx, hb, hml, hown, hts⟩ (c_X2_lengthOf l Y (hW).lt) (va_cwS 1 hts gX3_otherSideCompletes_X2_lengthOf rfl rfl rfl (by decide +kernel) ⟨Nat.le_of_ble_eq_true rfl, Nat.le_of_ble_eq_true rfl⟩) hP hK hD hS hA rfl hl.1 rfl (Nat.le_of_ble_eq_true rfl) dX3_otherSideCompletes_1 ⟨Nat.le_refl _, Nat.le_refl _⟩ (fun r_1 H locs h_1 hP hD hS => ?_)
  subst h_1
  refine lv_lload_n hx hb dX3_otherSideCompletes_4 rfl (lv_at hl 1 rfl) ?_
  refine call_iP (As := [.long (lN (F))]) (rest := [.int (nI (rwL Y))]) ⟨hx, hb, hml, hown, hts⟩ (c_X2_lengthOf l F (hF).lt) (va_cwS 1 hts gX3_otherSideCompletes_X2_lengthOf rfl rfl rfl (by decide +kernel) ⟨Nat.le_of_ble_eq_true rfl, Nat.le_of_ble_eq_true rfl⟩) hP hK hD hS hA rfl hl.1 rfl (Nat.le_of_ble_eq_true rfl) dX3_otherSideCompletes_5 ⟨Nat.le_refl _, Nat.le_refl _⟩ (fun r_5 H locs h_5 hP hD hS => ?_)
  subst h_5
  refine lv_isub hx hb dX3_otherSideCompletes_8 ?_
  refine tp_i (pk_sub (a := rwL Y) (b := rwL F) (by omega)) ?_
  refine lv_iconst (v := nI 2) hx hb dX3_otherSideCompletes_9 (by decide) ?_
  refine lv_irem hx hb dX3_otherSideCompletes_10 (by decide) ?_
  refine tp_i (b := (nI ((rwL Y - rwL F) % 2))) (pk_rem (by omega) (by decide) (by decide)) ?_
  refine lv_if_ne (tgt := 18) hx hb dX3_otherSideCompletes_11 (by decide) (fun c_11_1 => ?_) (fun c_11_1 => ?_)
  · skip
    have n_11_1 : ¬ (rwL Y - rwL F) % 2 = 0 := fun q9 => c_11_1 ((nI_eq (a := (rwL Y - rwL F) % 2) (b := 0) (by omega) (by omega)).mpr q9)
    refine lv_iconst (v := nI 0) hx hb dX3_otherSideCompletes_18 (by decide) ?_
    exact hret (nI (0)) [] _ _ _ _ dX3_otherSideCompletes_19 (Or.inl rfl) (⟨rfl, Bv.no (by omega)⟩) hP hD hS
  · skip
    have n_11_1 : (rwL Y - rwL F) % 2 = 0 := (nI_eq (a := (rwL Y - rwL F) % 2) (b := 0) (by omega) (by omega)).mp c_11_1
    refine lv_iconst (v := nI 1) hx hb dX3_otherSideCompletes_14 (by decide) ?_
    refine lv_goto (tgt := 19) hx hb dX3_otherSideCompletes_15 (by decide) ?_
    exact hret (nI (1)) [] _ _ _ _ dX3_otherSideCompletes_19 (Or.inr rfl) (⟨rfl, Bv.yes (by omega)⟩) hP hD hS

abbrev rm_X3_isWay : Room := { frames := 3, cells := 0, slots := 0, locals := 69 }
set_option maxHeartbeats 4000000 in
set_option maxRecDepth 100000 in
theorem c_X3_isWay (l : Launch) (g : GG) (d v : Nat) (f : Nat → Int64) (S : Nat → Nat) (cnt ll : Nat) (hf : DR f S cnt) (hc : cnt ≤ 50) (hll : ll ≤ 10) (Y F : Nat) (hW : RV Y) (hF : RV F) : Ci l yX3_isWay wsX3_isWay rm_X3_isWay g [.ref (d), .long (lN (Y)), .long (lN (F))] (DW g d v f (nI cnt) (nI ll)) (fun r w => w = (DW g d v f (nI cnt) (nI ll)) ∧ Bv r (wyP S cnt ll F Y)) := by
  refine Ci.ofZ (cc := cX3_isWay) (maxL := 6) (by decide) rfl (Nat.le_of_ble_eq_true rfl) ?_
  intro p e s m args below meth c A Z hx hb hml hts hown hK hA hret H locs ls hP hD hS hl
  have hl : lv_has ls 6 [(0, .ref (d)), (1, .long (lN (Y))), (3, .long (lN (F)))] := hl
  have h10 := hW.1
  have h11 := hF.1
  refine lv_aload_n hx hb dX3_isWay_0 rfl (lv_at hl 0 rfl) ?_
  refine lv_lload_n hx hb dX3_isWay_1 rfl (lv_at hl 1 rfl) ?_
  refine lv_lload_n hx hb dX3_isWay_2 rfl (lv_at hl 2 rfl) ?_
  refine call_iSW (As := [.ref (d), .long (lN (Y)), .long (lN (F))]) (rest := []) ⟨hx, hb, hml, hown, hts⟩ (c_X3_leadsOn l g d v f S cnt ll hf hc hll Y F hW hF) (va_cwS 3 hts gX3_isWay_X3_leadsOn rfl rfl rfl (by decide +kernel) ⟨Nat.le_of_ble_eq_true rfl, Nat.le_of_ble_eq_true rfl⟩) hP hK hD hS hA rfl hl.1 rfl (Nat.le_of_ble_eq_true rfl) dX3_isWay_3 ⟨Nat.le_refl _, Nat.le_refl _⟩ (fun r_3 w H locs h_3 hP hD hS => ?_)
  obtain ⟨rfl, h_3⟩ := h_3
  have hP : va_P g.1 vwCl (DW g d v f (nI cnt) (nI ll)) H := hP
  have hD : va_D A (DW g d v f (nI cnt) (nI ll)) := hD
  refine lv_if_ne (tgt := 11) hx hb dX3_isWay_6 (by decide) (fun c_6_1 => ?_) (fun c_6_1 => ?_)
  · skip
    have n_6_1 := Bv.t h_3 c_6_1
    refine lv_lload_n hx hb dX3_isWay_11 rfl (lv_at hl 2 rfl) ?_
    refine call_iP (As := [.long (lN (F))]) (rest := []) ⟨hx, hb, hml, hown, hts⟩ (c_X2_lengthOf l F (hF).lt) (va_cwS 1 hts gX3_isWay_X2_lengthOf rfl rfl rfl (by decide +kernel) ⟨Nat.le_of_ble_eq_true rfl, Nat.le_of_ble_eq_true rfl⟩) hP hK hD hS hA rfl hl.1 rfl (Nat.le_of_ble_eq_true rfl) dX3_isWay_12 ⟨Nat.le_refl _, Nat.le_refl _⟩ (fun r_12 H locs h_12 hP hD hS => ?_)
    subst h_12
    refine lv_iconst (v := nI 1) hx hb dX3_isWay_15 (by decide) ?_
    refine lv_iadd hx hb dX3_isWay_16 ?_
    refine tp_i (nI_add (rwL F) 1) ?_
    refine lv_istore (lv' := [(5, .int (nI ((rwL F) + 1))), (0, .ref (d)), (1, .long (lN (Y))), (3, .long (lN (F)))]) hx hb dX3_isWay_17 hl (by decide) rfl (fun ls hl => ?_)
    have L_19 : ∀ (fu : Nat) (k : Nat), 20 - k < fu → (rwL F < k) → (∀ j, rwL F < j → j < k → ¬ (ll ≤ j ∧ inS S cnt (rwB Y j))) → (k ≤ 11) → ∀ (H : Heap) (locs : List Loc) (ls : Array Slot), va_P g.1 vwCl (DW g d v f (nI cnt) (nI ll)) H → va_D A (DW g d v f (nI cnt) (nI ll)) → va_S A s.heap H locs → lv_has ls 6 [(0, .ref (d)), (1, .long (lN (Y))), (3, .long (lN (F))), (5, .int (nI (k)))] → W p l e rm_X3_isWay s m args below meth c H locs 0 0 Z (F0 m 19 ls []) := by
      intro fu
      induction fu with
      | zero => intro _ h0; exact absurd h0 (Nat.not_lt_zero _)
      | succ fu ih_19 =>
        intro k hfu hk1 hk2 hk3 H locs ls hP hD hS hl
        refine lv_iload hx hb dX3_isWay_19 (lv_at hl 3 rfl) ?_
        refine lv_lload_n hx hb dX3_isWay_21 rfl (lv_at hl 1 rfl) ?_
        refine call_iP (As := [.long (lN (Y))]) (rest := [.int (nI (k))]) ⟨hx, hb, hml, hown, hts⟩ (c_X2_lengthOf l Y (hW).lt) (va_cwS 1 hts gX3_isWay_X2_lengthOf rfl rfl rfl (by decide +kernel) ⟨Nat.le_of_ble_eq_true rfl, Nat.le_of_ble_eq_true rfl⟩) hP hK hD hS hA rfl hl.1 rfl (Nat.le_of_ble_eq_true rfl) dX3_isWay_22 ⟨Nat.le_refl _, Nat.le_refl _⟩ (fun r_22 H locs h_22 hP hD hS => ?_)
        subst h_22
        refine lv_icmp_ge (tgt := 49) hx hb dX3_isWay_25 (by decide) (fun c_25_2 => ?_) (fun c_25_2 => ?_)
        · skip
          have n_25_2 : rwL Y ≤ k := (nI_leI (a := rwL Y) (b := k) (by omega) (by omega)).mp c_25_2
          refine lv_iconst (v := nI 1) hx hb dX3_isWay_49 (by decide) ?_
          exact hret (nI (1)) (DW g d v f (nI cnt) (nI ll)) _ _ _ _ dX3_isWay_50 (Or.inr rfl) (⟨rfl, Bv.yes ⟨n_6_1, fun j h1 h2 => hk2 j h1 (by omega)⟩⟩) hP hD hS
        · skip
          have n_25_2 : ¬ rwL Y ≤ k := fun q9 => c_25_2 ((nI_leI (a := rwL Y) (b := k) (by omega) (by omega)).mpr q9)
          refine lv_aload_n hx hb dX3_isWay_28 rfl (lv_at hl 0 rfl) ?_
          refine lv_lload_n hx hb dX3_isWay_29 rfl (lv_at hl 1 rfl) ?_
          refine lv_iload hx hb dX3_isWay_30 (lv_at hl 3 rfl) ?_
          refine call_lP (As := [.long (lN (Y)), .int (nI (k))]) (rest := [.ref (d)]) ⟨hx, hb, hml, hown, hts⟩ (c_X2_beginning l Y k hW (by omega)) (va_cwS 2 hts gX3_isWay_X2_beginning rfl rfl rfl (by decide +kernel) ⟨Nat.le_of_ble_eq_true rfl, Nat.le_of_ble_eq_true rfl⟩) hP hK hD hS hA rfl hl.1 rfl (Nat.le_of_ble_eq_true rfl) dX3_isWay_32 ⟨Nat.le_refl _, Nat.le_refl _⟩ (fun r_32 H locs h_32 hP hD hS => ?_)
          subst h_32
          refine call_iVW (As := [.long (lN (rwB Y k))]) (rest := []) ⟨hx, hb, hml, hown, hts⟩ (c_X0_hasCounting l g d v f S cnt ll hf hc hll (rwB Y k) (hW.rb (by omega))) (cwV 1 hts gX3_isWay_X0_hasCounting rfl rfl rfl (by decide +kernel) ⟨Nat.le_of_ble_eq_true rfl, Nat.le_of_ble_eq_true rfl⟩) hP hK hD hS hA 0 rfl rfl rfl rfl hl.1 rfl (Nat.le_of_ble_eq_true rfl) dX3_isWay_35 ⟨Nat.le_refl _, Nat.le_refl _⟩ (fun r_35 w H locs h_35 hP hD hS => ?_)
          obtain ⟨rfl, h_35⟩ := h_35
          have hP : va_P g.1 vwCl (DW g d v f (nI cnt) (nI ll)) H := hP
          have hD : va_D A (DW g d v f (nI cnt) (nI ll)) := hD
          refine lv_if_eq (tgt := 43) hx hb dX3_isWay_38 (by decide) (fun c_38_3 => ?_) (fun c_38_3 => ?_)
          · skip
            have n_38_3 := Bv.f h_35 c_38_3
            refine lv_iinc (v := (nI (k + 1))) (lv' := [(5, .int (nI (k + 1))), (0, .ref (d)), (1, .long (lN (Y))), (3, .long (lN (F)))]) hx hb dX3_isWay_43 hl (k := 3) rfl (nI_add (k) 1) (by decide) rfl (fun ls hl => ?_)
            refine lv_goto (tgt := 19) hx hb dX3_isWay_46 (by decide) ?_
            exact ih_19 (k + 1) (by omega) (by omega) (fun j a b => if e9 : j = k then (by have := n_38_3; rw [hW.rbl (by omega)] at this; rw [e9]; exact this) else hk2 j a (by omega)) (by omega) _ _ _ hP hD hS (lv_sub hl [1, 2, 3, 0] rfl)
          · skip
            have n_38_3 := Bv.t h_35 c_38_3
            refine lv_iconst (v := nI 0) hx hb dX3_isWay_41 (by decide) ?_
            exact hret (nI (0)) (DW g d v f (nI cnt) (nI ll)) _ _ _ _ dX3_isWay_42 (Or.inl rfl) (⟨rfl, Bv.no (fun q9 => q9.2 k (by omega) (by omega) (by have := n_38_3; rw [hW.rbl (by omega)] at this; exact this))⟩) hP hD hS
    exact L_19 (_ + 1) ((rwL F) + 1) (Nat.lt_succ_self _) (Nat.lt_succ_self _) (fun j a b => absurd a (by omega)) (by omega) _ _ _ hP hD hS (lv_sub hl [1, 2, 3, 0] rfl)
  · skip
    have n_6_1 := Bv.f h_3 c_6_1
    refine lv_iconst (v := nI 0) hx hb dX3_isWay_9 (by decide) ?_
    exact hret (nI (0)) (DW g d v f (nI cnt) (nI ll)) _ _ _ _ dX3_isWay_10 (Or.inl rfl) (⟨rfl, Bv.no (fun q9 => n_6_1 q9.1)⟩) hP hD hS

abbrev rm_X3_countWays : Room := { frames := 4, cells := 0, slots := 0, locals := 94 }
set_option maxHeartbeats 4000000 in
set_option maxRecDepth 100000 in
theorem c_X3_countWays (l : Launch) (g : GG) (d v : Nat) (f : Nat → Int64) (S : Nat → Nat) (cnt ll : Nat) (hf : DR f S cnt) (hc : cnt ≤ 50) (hll : ll ≤ 10) (F : Nat) (hF : RV F) : Ci l yX3_countWays wsX3_countWays rm_X3_countWays g [.ref (d), .long (lN (F))] (DW g d v f (nI cnt) (nI ll)) (fun r w => w = (DW g d v f (nI cnt) (nI ll)) ∧ r = nI (fb_ct (fun i => bB (wyP S cnt ll F (S i))) cnt)) := by
  refine Ci.ofI (cc := cX3_countWays) (maxL := 5) (by decide) rfl (Nat.le_of_ble_eq_true rfl) ?_
  intro p e s m args below meth c A Z hx hb hml hts hown hK hA hret H locs ls hP hD hS hl
  have hl : lv_has ls 5 [(0, .ref (d)), (1, .long (lN (F)))] := hl
  refine lv_iconst (v := nI 0) hx hb dX3_countWays_0 (by decide) ?_
  refine lv_istore_n (lv' := [(3, .int (nI (0))), (0, .ref (d)), (1, .long (lN (F)))]) hx hb dX3_countWays_1 rfl hl (by decide) rfl (fun ls hl => ?_)
  refine lv_iconst (v := nI 0) hx hb dX3_countWays_2 (by decide) ?_
  refine lv_istore (lv' := [(4, .int (nI (0))), (3, .int (nI (0))), (0, .ref (d)), (1, .long (lN (F)))]) hx hb dX3_countWays_3 hl (by decide) rfl (fun ls hl => ?_)
  have L_5 : ∀ (fu : Nat) (i c0 : Nat), cnt - i < fu → (i ≤ cnt) → (c0 = fb_ct (fun i => bB (wyP S cnt ll F (S i))) i) → ∀ (H : Heap) (locs : List Loc) (ls : Array Slot), va_P g.1 vwCl (DW g d v f (nI cnt) (nI ll)) H → va_D A (DW g d v f (nI cnt) (nI ll)) → va_S A s.heap H locs → lv_has ls 5 [(0, .ref (d)), (1, .long (lN (F))), (3, .int (nI (c0))), (4, .int (nI (i)))] → W p l e rm_X3_countWays s m args below meth c H locs 0 0 Z (F0 m 5 ls []) := by
    intro fu
    induction fu with
    | zero => intro _ _ h0; exact absurd h0 (Nat.not_lt_zero _)
    | succ fu ih_5 =>
      intro i c0 hfu hi1 hc1 H locs ls hP hD hS hl
      refine lv_iload hx hb dX3_countWays_5 (lv_at hl 3 rfl) ?_
      refine lv_aload_n hx hb dX3_countWays_7 rfl (lv_at hl 0 rfl) ?_
      refine call_iVW (As := []) (rest := [.int (nI (i))]) ⟨hx, hb, hml, hown, hts⟩ (c_X0_size l g d v f S cnt ll hf hc) (cwV 0 hts gX3_countWays_X0_size rfl rfl rfl (by decide +kernel) ⟨Nat.le_of_ble_eq_true rfl, Nat.le_of_ble_eq_true rfl⟩) hP hK hD hS hA 0 rfl rfl rfl rfl hl.1 rfl (Nat.le_of_ble_eq_true rfl) dX3_countWays_8 ⟨Nat.le_refl _, Nat.le_refl _⟩ (fun r_8 w H locs h_8 hP hD hS => ?_)
      obtain ⟨rfl, h_8⟩ := h_8
      subst h_8
      have hP : va_P g.1 vwCl (DW g d v f (nI cnt) (nI ll)) H := hP
      have hD : va_D A (DW g d v f (nI cnt) (nI ll)) := hD
      refine lv_icmp_ge (tgt := 37) hx hb dX3_countWays_11 (by decide) (fun c_11_1 => ?_) (fun c_11_1 => ?_)
      · skip
        have n_11_1 : cnt ≤ i := (nI_leI (a := cnt) (b := i) (by omega) (by omega)).mp c_11_1
        refine lv_iload_n hx hb dX3_countWays_37 rfl (lv_at hl 2 rfl) ?_
        exact hret (nI (c0)) (DW g d v f (nI cnt) (nI ll)) _ _ _ _ dX3_countWays_38 (⟨rfl, by rw [hc1, show i = cnt by omega]⟩) hP hD hS
      · skip
        have n_11_1 : ¬ cnt ≤ i := fun q9 => c_11_1 ((nI_leI (a := cnt) (b := i) (by omega) (by omega)).mpr q9)
        refine lv_aload_n hx hb dX3_countWays_14 rfl (lv_at hl 0 rfl) ?_
        refine lv_aload_n hx hb dX3_countWays_15 rfl (lv_at hl 0 rfl) ?_
        refine lv_iload hx hb dX3_countWays_16 (lv_at hl 3 rfl) ?_
        refine call_lVW (As := [.int (nI (i))]) (rest := [.ref (d)]) ⟨hx, hb, hml, hown, hts⟩ (c_X0_wordAt l g d v f S cnt ll hf hc (nI (i))) (cwV 1 hts gX3_countWays_X0_wordAt rfl rfl rfl (by decide +kernel) ⟨Nat.le_of_ble_eq_true rfl, Nat.le_of_ble_eq_true rfl⟩) hP hK hD hS hA 0 rfl rfl rfl rfl hl.1 rfl (Nat.le_of_ble_eq_true rfl) dX3_countWays_18 ⟨Nat.le_refl _, Nat.le_refl _⟩ (fun r_18 w H locs h_18 hP hD hS => ?_)
        obtain ⟨rfl, h_18⟩ := h_18
        replace h_18 := wa_at (i := i) (by omega) hc h_18
        subst h_18
        have hP : va_P g.1 vwCl (DW g d v f (nI cnt) (nI ll)) H := hP
        have hD : va_D A (DW g d v f (nI cnt) (nI ll)) := hD
        refine lv_lload_n hx hb dX3_countWays_21 rfl (lv_at hl 1 rfl) ?_
        refine call_iSW (As := [.ref (d), .long (lN (S i)), .long (lN (F))]) (rest := []) ⟨hx, hb, hml, hown, hts⟩ (c_X3_isWay l g d v f S cnt ll hf hc hll (S i) F (hf i (by omega)).2 hF) (va_cwS 3 hts gX3_countWays_X3_isWay rfl rfl rfl (by decide +kernel) ⟨Nat.le_of_ble_eq_true rfl, Nat.le_of_ble_eq_true rfl⟩) hP hK hD hS hA rfl hl.1 rfl (Nat.le_of_ble_eq_true rfl) dX3_countWays_22 ⟨Nat.le_refl _, Nat.le_refl _⟩ (fun r_22 w H locs h_22 hP hD hS => ?_)
        obtain ⟨rfl, h_22⟩ := h_22
        have hP : va_P g.1 vwCl (DW g d v f (nI cnt) (nI ll)) H := hP
        have hD : va_D A (DW g d v f (nI cnt) (nI ll)) := hD
        refine lv_if_eq (tgt := 31) hx hb dX3_countWays_25 (by decide) (fun c_25_2 => ?_) (fun c_25_2 => ?_)
        · skip
          have n_25_2 := Bv.f h_22 c_25_2
          refine lv_iinc (v := (nI (i + 1))) (lv' := [(4, .int (nI (i + 1))), (0, .ref (d)), (1, .long (lN (F))), (3, .int (nI (c0)))]) hx hb dX3_countWays_31 hl (k := 3) rfl (nI_add (i) 1) (by decide) rfl (fun ls hl => ?_)
          refine lv_goto (tgt := 5) hx hb dX3_countWays_34 (by decide) ?_
          exact ih_5 (i + 1) c0 (by omega) (by omega) (ct_f hc1 (bB_f n_25_2)) _ _ _ hP hD hS (lv_sub hl [1, 2, 3, 0] rfl)
        · skip
          have n_25_2 := Bv.t h_22 c_25_2
          refine lv_iinc (v := (nI (c0 + 1))) (lv' := [(3, .int (nI (c0 + 1))), (0, .ref (d)), (1, .long (lN (F))), (4, .int (nI (i)))]) hx hb dX3_countWays_28 hl (k := 2) rfl (nI_add (c0) 1) (by decide) rfl (fun ls hl => ?_)
          refine lv_iinc (v := (nI (i + 1))) (lv' := [(4, .int (nI (i + 1))), (3, .int (nI (c0 + 1))), (0, .ref (d)), (1, .long (lN (F)))]) hx hb dX3_countWays_31 hl (k := 3) rfl (nI_add (i) 1) (by decide) rfl (fun ls hl => ?_)
          refine lv_goto (tgt := 5) hx hb dX3_countWays_34 (by decide) ?_
          exact ih_5 (i + 1) (c0 + 1) (by omega) (by omega) (ct_t hc1 (bB_t n_25_2)) _ _ _ hP hD hS (lv_sub hl [2, 3, 1, 0] rfl)
  exact L_5 (_ + 1) 0 0 (Nat.lt_succ_self _) (Nat.zero_le _) (rfl) _ _ _ hP hD hS (lv_sub hl [2, 3, 1, 0] rfl)

abbrev rm_X3_countWonWays : Room := { frames := 4, cells := 0, slots := 0, locals := 94 }
set_option maxHeartbeats 4000000 in
set_option maxRecDepth 100000 in
theorem c_X3_countWonWays (l : Launch) (g : GG) (d v : Nat) (f : Nat → Int64) (S : Nat → Nat) (cnt ll : Nat) (hf : DR f S cnt) (hc : cnt ≤ 50) (hll : ll ≤ 10) (F : Nat) (hF : RV F) : Ci l yX3_countWonWays wsX3_countWonWays rm_X3_countWonWays g [.ref (d), .long (lN (F))] (DW g d v f (nI cnt) (nI ll)) (fun r w => w = (DW g d v f (nI cnt) (nI ll)) ∧ r = nI (fb_ct (fun i => bB (wyP S cnt ll F (S i) ∧ (rwL (S i) - rwL F) % 2 = 0)) cnt)) := by
  refine Ci.ofI (cc := cX3_countWonWays) (maxL := 7) (by decide) rfl (Nat.le_of_ble_eq_true rfl) ?_
  intro p e s m args below meth c A Z hx hb hml hts hown hK hA hret H locs ls hP hD hS hl
  have hl : lv_has ls 7 [(0, .ref (d)), (1, .long (lN (F)))] := hl
  refine lv_iconst (v := nI 0) hx hb dX3_countWonWays_0 (by decide) ?_
  refine lv_istore_n (lv' := [(3, .int (nI (0))), (0, .ref (d)), (1, .long (lN (F)))]) hx hb dX3_countWonWays_1 rfl hl (by decide) rfl (fun ls hl => ?_)
  refine lv_iconst (v := nI 0) hx hb dX3_countWonWays_2 (by decide) ?_
  refine lv_istore (lv' := [(4, .int (nI (0))), (3, .int (nI (0))), (0, .ref (d)), (1, .long (lN (F)))]) hx hb dX3_countWonWays_3 hl (by decide) rfl (fun ls hl => ?_)
  have L_5 : ∀ (fu : Nat) (i c0 : Nat), cnt - i < fu → (i ≤ cnt) → (c0 = fb_ct (fun i => bB (wyP S cnt ll F (S i) ∧ (rwL (S i) - rwL F) % 2 = 0)) i) → ∀ (H : Heap) (locs : List Loc) (ls : Array Slot), va_P g.1 vwCl (DW g d v f (nI cnt) (nI ll)) H → va_D A (DW g d v f (nI cnt) (nI ll)) → va_S A s.heap H locs → lv_has ls 7 [(0, .ref (d)), (1, .long (lN (F))), (3, .int (nI (c0))), (4, .int (nI (i)))] → W p l e rm_X3_countWonWays s m args below meth c H locs 0 0 Z (F0 m 5 ls []) := by
    intro fu
    induction fu with
    | zero => intro _ _ h0; exact absurd h0 (Nat.not_lt_zero _)
    | succ fu ih_5 =>
      intro i c0 hfu hi1 hc1 H locs ls hP hD hS hl
      refine lv_iload hx hb dX3_countWonWays_5 (lv_at hl 3 rfl) ?_
      refine lv_aload_n hx hb dX3_countWonWays_7 rfl (lv_at hl 0 rfl) ?_
      refine call_iVW (As := []) (rest := [.int (nI (i))]) ⟨hx, hb, hml, hown, hts⟩ (c_X0_size l g d v f S cnt ll hf hc) (cwV 0 hts gX3_countWonWays_X0_size rfl rfl rfl (by decide +kernel) ⟨Nat.le_of_ble_eq_true rfl, Nat.le_of_ble_eq_true rfl⟩) hP hK hD hS hA 0 rfl rfl rfl rfl hl.1 rfl (Nat.le_of_ble_eq_true rfl) dX3_countWonWays_8 ⟨Nat.le_refl _, Nat.le_refl _⟩ (fun r_8 w H locs h_8 hP hD hS => ?_)
      obtain ⟨rfl, h_8⟩ := h_8
      subst h_8
      have hP : va_P g.1 vwCl (DW g d v f (nI cnt) (nI ll)) H := hP
      have hD : va_D A (DW g d v f (nI cnt) (nI ll)) := hD
      refine lv_icmp_ge (tgt := 50) hx hb dX3_countWonWays_11 (by decide) (fun c_11_1 => ?_) (fun c_11_1 => ?_)
      · skip
        have n_11_1 : cnt ≤ i := (nI_leI (a := cnt) (b := i) (by omega) (by omega)).mp c_11_1
        refine lv_iload_n hx hb dX3_countWonWays_50 rfl (lv_at hl 2 rfl) ?_
        exact hret (nI (c0)) (DW g d v f (nI cnt) (nI ll)) _ _ _ _ dX3_countWonWays_51 (⟨rfl, by rw [hc1, show i = cnt by omega]⟩) hP hD hS
      · skip
        have n_11_1 : ¬ cnt ≤ i := fun q9 => c_11_1 ((nI_leI (a := cnt) (b := i) (by omega) (by omega)).mpr q9)
        refine lv_aload_n hx hb dX3_countWonWays_14 rfl (lv_at hl 0 rfl) ?_
        refine lv_iload hx hb dX3_countWonWays_15 (lv_at hl 3 rfl) ?_
        refine call_lVW (As := [.int (nI (i))]) (rest := []) ⟨hx, hb, hml, hown, hts⟩ (c_X0_wordAt l g d v f S cnt ll hf hc (nI (i))) (cwV 1 hts gX3_countWonWays_X0_wordAt rfl rfl rfl (by decide +kernel) ⟨Nat.le_of_ble_eq_true rfl, Nat.le_of_ble_eq_true rfl⟩) hP hK hD hS hA 0 rfl rfl rfl rfl hl.1 rfl (Nat.le_of_ble_eq_true rfl) dX3_countWonWays_17 ⟨Nat.le_refl _, Nat.le_refl _⟩ (fun r_17 w H locs h_17 hP hD hS => ?_)
        obtain ⟨rfl, h_17⟩ := h_17
        replace h_17 := wa_at (i := i) (by omega) hc h_17
        subst h_17
        have hP : va_P g.1 vwCl (DW g d v f (nI cnt) (nI ll)) H := hP
        have hD : va_D A (DW g d v f (nI cnt) (nI ll)) := hD
        refine lv_lstore (lv' := [(5, .long (lN (S i))), (0, .ref (d)), (1, .long (lN (F))), (3, .int (nI (c0))), (4, .int (nI (i)))]) hx hb dX3_countWonWays_20 hl (by decide) rfl (fun ls hl => ?_)
        refine lv_aload_n hx hb dX3_countWonWays_22 rfl (lv_at hl 1 rfl) ?_
        refine lv_lload hx hb dX3_countWonWays_23 (lv_at hl 0 rfl) ?_
        refine lv_lload_n hx hb dX3_countWonWays_25 rfl (lv_at hl 2 rfl) ?_
        refine call_iSW (As := [.ref (d), .long (lN (S i)), .long (lN (F))]) (rest := []) ⟨hx, hb, hml, hown, hts⟩ (c_X3_isWay l g d v f S cnt ll hf hc hll (S i) F (hf i (by omega)).2 hF) (va_cwS 3 hts gX3_countWonWays_X3_isWay rfl rfl rfl (by decide +kernel) ⟨Nat.le_of_ble_eq_true rfl, Nat.le_of_ble_eq_true rfl⟩) hP hK hD hS hA rfl hl.1 rfl (Nat.le_of_ble_eq_true rfl) dX3_countWonWays_26 ⟨Nat.le_refl _, Nat.le_refl _⟩ (fun r_26 w H locs h_26 hP hD hS => ?_)
        obtain ⟨rfl, h_26⟩ := h_26
        have hP : va_P g.1 vwCl (DW g d v f (nI cnt) (nI ll)) H := hP
        have hD : va_D A (DW g d v f (nI cnt) (nI ll)) := hD
        refine lv_if_eq (tgt := 44) hx hb dX3_countWonWays_29 (by decide) (fun c_29_2 => ?_) (fun c_29_2 => ?_)
        · skip
          have n_29_2 := Bv.f h_26 c_29_2
          refine lv_iinc (v := (nI (i + 1))) (lv' := [(4, .int (nI (i + 1))), (5, .long (lN (S i))), (0, .ref (d)), (1, .long (lN (F))), (3, .int (nI (c0)))]) hx hb dX3_countWonWays_44 hl (k := 4) rfl (nI_add (i) 1) (by decide) rfl (fun ls hl => ?_)
          refine lv_goto (tgt := 5) hx hb dX3_countWonWays_47 (by decide) ?_
          exact ih_5 (i + 1) c0 (by omega) (by omega) (ct_f hc1 (bB_f (fun q9 => n_29_2 q9.1))) _ _ _ hP hD hS (lv_sub hl [2, 3, 4, 0] rfl)
        · skip
          have n_29_2 := Bv.t h_26 c_29_2
          refine lv_lload hx hb dX3_countWonWays_32 (lv_at hl 0 rfl) ?_
          refine lv_lload_n hx hb dX3_countWonWays_34 rfl (lv_at hl 2 rfl) ?_
          refine call_iP (As := [.long (lN (S i)), .long (lN (F))]) (rest := []) ⟨hx, hb, hml, hown, hts⟩ (c_X3_otherSideCompletes l (S i) F (hf i (by omega)).2 hF (Nat.le_of_lt n_29_2.1.lt)) (va_cwS 2 hts gX3_countWonWays_X3_otherSideCompletes rfl rfl rfl (by decide +kernel) ⟨Nat.le_of_ble_eq_true rfl, Nat.le_of_ble_eq_true rfl⟩) hP hK hD hS hA rfl hl.1 rfl (Nat.le_of_ble_eq_true rfl) dX3_countWonWays_35 ⟨Nat.le_refl _, Nat.le_refl _⟩ (fun r_35 H locs h_35 hP hD hS => ?_)
          refine lv_if_eq (tgt := 44) hx hb dX3_countWonWays_38 (by decide) (fun c_38_3 => ?_) (fun c_38_3 => ?_)
          · skip
            have n_38_3 := Bv.f h_35 c_38_3
            refine lv_iinc (v := (nI (i + 1))) (lv' := [(4, .int (nI (i + 1))), (5, .long (lN (S i))), (0, .ref (d)), (1, .long (lN (F))), (3, .int (nI (c0)))]) hx hb dX3_countWonWays_44 hl (k := 4) rfl (nI_add (i) 1) (by decide) rfl (fun ls hl => ?_)
            refine lv_goto (tgt := 5) hx hb dX3_countWonWays_47 (by decide) ?_
            exact ih_5 (i + 1) c0 (by omega) (by omega) (ct_f hc1 (bB_f (fun q9 => n_38_3 q9.2))) _ _ _ hP hD hS (lv_sub hl [2, 3, 4, 0] rfl)
          · skip
            have n_38_3 := Bv.t h_35 c_38_3
            refine lv_iinc (v := (nI (c0 + 1))) (lv' := [(3, .int (nI (c0 + 1))), (5, .long (lN (S i))), (0, .ref (d)), (1, .long (lN (F))), (4, .int (nI (i)))]) hx hb dX3_countWonWays_41 hl (k := 3) rfl (nI_add (c0) 1) (by decide) rfl (fun ls hl => ?_)
            refine lv_iinc (v := (nI (i + 1))) (lv' := [(4, .int (nI (i + 1))), (3, .int (nI (c0 + 1))), (5, .long (lN (S i))), (0, .ref (d)), (1, .long (lN (F)))]) hx hb dX3_countWonWays_44 hl (k := 4) rfl (nI_add (i) 1) (by decide) rfl (fun ls hl => ?_)
            refine lv_goto (tgt := 5) hx hb dX3_countWonWays_47 (by decide) ?_
            exact ih_5 (i + 1) (c0 + 1) (by omega) (by omega) (ct_t hc1 (bB_t ⟨n_29_2, n_38_3⟩)) _ _ _ hP hD hS (lv_sub hl [3, 4, 1, 0] rfl)
  exact L_5 (_ + 1) 0 0 (Nat.lt_succ_self _) (Nat.zero_le _) (rfl) _ _ _ hP hD hS (lv_sub hl [2, 3, 1, 0] rfl)
end
section
section THROWS
/-- the words of a throw that no list of words may hold -/
def xBw : List Cond := [.declares (Bundle.initS "java/lang/RuntimeException"), .declares (Bundle.initS "java/lang/Exception"), .declares (Bundle.initS Bundle.tN), .castable "java/lang/IllegalArgumentException" "java/lang/IllegalArgumentException", .castable "java/lang/IllegalStateException" "java/lang/IllegalStateException", .castable "java/lang/IndexOutOfBoundsException" "java/lang/IndexOutOfBoundsException"]
/-- the texts of the class's exceptions -/
def xTx : List (Nat × String) := [(35, "a letter is a number from 0 to 25"), (46, "the slip has 10 letters"), (63, "the slip has no such letter"), (66, "a word has at least 2 letters"), (71, "there are 50 words, or this one is there"), (80, "the dictionary does not have this word"), (95, "there is no such word"), (97, "the least length is from 2 to 10"), (103, "a game has 2 to 4 players"), (117, "no letter can be played"), (123, "there is nothing to challenge"), (141, "there is no such player"), (143, "the fragment has no such letter")]
def Xk (A : Nat → Prop) (U : State) : Prop := vx_Zq Bundle.tN "UNASSIGNED_STACK" Bundle.steD A U U.heap ∧ vx_Zq Bundle.tN "SUPPRESSED_SENTINEL" Bundle.listD A U U.heap ∧ (∀ w ∈ xBw, w.before #[] U = true) ∧ ∀ q ∈ xTx, ∃ sa : Nat, vk_R RX4 q.1 q.2 sa U
theorem xb_ok : ∀ w ∈ xBw, (w.faceAtom = true ∨ w.castAtom = true) ∧ vx_ot w = true := by decide +kernel
theorem xb_move {w : Cond} {s U : State} {a a' : Array Value} (hw : w ∈ xBw) (hW : s.WarmedH U.vm) (h : w.before a s = true) : w.before a' U = true := by
  obtain ⟨h1, h2⟩ := xb_ok w hw
  have h3 : w.before a (s.setVm U.vm) = true := by
    rcases h1 with q | q
    · exact Cond.faceAtom_setVm hW.alike w q h
    · exact Cond.castAtom_setVm hW.alike w q h
  exact vx_ot_at (s := s.setVm U.vm) (State.WarmedH.refl (s.setVm U.vm)) rfl h2 h3
theorem Xk.move {A A' : Nat → Prop} {s U : State} {H : Heap} {locs : List Loc} (hW : s.WarmedH U.vm) (hU : U.heap = H) (hS : va_S A s.heap H locs) (hA : ∀ q, A' q → A q) (h : Xk A s) : Xk A' U := by
  obtain ⟨h1, h2, h3, h4⟩ := h
  subst hU
  refine ⟨((h1.moved hW.alike).kept hS.2.1).narrow hA, ((h2.moved hW.alike).kept hS.2.1).narrow hA, fun w hw => xb_move hw hW (h3 w hw), fun q hq => ?_⟩
  obtain ⟨sa, h5⟩ := h4 q hq
  exact ⟨sa, h5.warm hW⟩
theorem Xk.blind {A : Nat → Prop} {U : State} (g : JFrame) (mk : MethodId) (a : Array Value) (h : Xk A U) : Xk A (U.calling g mk a) :=
  Xk.move (locs := []) (A := A) (State.WarmedH.refl U) rfl va_S.rf (fun _ q => q) h
def Pwx (g : GG) (wd : va_W) (sz : Nat) (U : State) : Prop := Pw g wd sz U ∧ Xk (va_A wd sz) U
theorem Pwx.blind (g : GG) (av : List Value) (wd : va_W) (sz : Nat) : FrameBlind (va_Pc av (Pwx g wd sz)) := fun a U gg mk q => by
  obtain ⟨q0, q1, q2⟩ := q
  have h := Pw.blind g av wd sz a U gg mk ⟨q0, q1⟩
  exact ⟨h.1, h.2, q2.blind gg mk a⟩
/-- a contract that returns or throws; a throw leaves the world as it was -/
def Xi (l : Launch) (y : MethodName) (ws : List Cond) (rm : Room) (g : GG) (av : List Value) (wd : va_W) (post : Int32 → va_W → Prop) (xp : String → Prop) : Prop := ∀ sz : Nat, vx_Met l y ws rm (va_Pc av (Pwx g wd sz)) (va_Qi post (fun w t => Bw g (va_A wd sz) w t) (va_A wd sz)) (vx_X (fun _ : Unit => True) (fun E _ t => xp E ∧ Bw g (va_A wd sz) wd t) (va_A wd sz)) 1 6 (va_A wd sz)
/-- a contract that returns or throws; a throw leaves the world as it was -/
def Xv (l : Launch) (y : MethodName) (ws : List Cond) (rm : Room) (g : GG) (av : List Value) (wd : va_W) (post : va_W → Prop) (xp : String → Prop) : Prop := ∀ sz : Nat, vx_Met l y ws rm (va_Pc av (Pwx g wd sz)) (va_Qv post (fun w t => Bw g (va_A wd sz) w t) (va_A wd sz)) (vx_X (fun _ : Unit => True) (fun E _ t => xp E ∧ Bw g (va_A wd sz) wd t) (va_A wd sz)) 1 6 (va_A wd sz)
variable {l : Launch} {y : MethodName} {ws ws' : List Cond} {rm : Room} {g : GG} {av : List Value} {wd : va_W} {cc : ByteArray} {maxL : Nat} {xp : String → Prop}
theorem Xi.of {post : Int32 → va_W → Prop} (hl0 : l.flags = flags0) (hyc : y.cls = RX4) (hy : plainName y.cls = true) (hw : ws = Cond.code y cc maxL (some .int) :: ws') (hn : (lg_sl av).length ≤ maxL) (hrm : rm.cells = 1 ∧ rm.slots = 6)
    (body : ∀ (p : Program) (e : Env) (s : State) (m : MethodId) (args : Array Value) (below : List Frame) (meth : Method) (c : Code) (A : Nat → Prop) (Z : State → Prop),
      p.tables.exec = Jvm.exec → c.code = cc → c.maxLocals = maxL → (∀ w ∈ ws, w.before args s = true) → s.vm.findClass y.cls = some m.cls → va_K g.1 vwCl (tyG g) s → (∀ q, s.heap.size ≤ q → A q) →
      (∀ (r : Int32) (w : va_W) (H : Heap) (locs : List Loc) (ls : Array Slot) (pc : Nat), decode cc pc = .ok (.ireturn, 1) → post r w → va_P g.1 vwCl w H → va_D A w → va_S A s.heap H locs → W p l e rm s m args below meth c H locs 0 0 Z (F0 m pc ls [.int r])) →
      (∀ (cls text : String) (names : List String) (ik is ic : Nat) (H : Heap) (locs : List Loc) (ls : Array Slot) (rest : List Value) (pc : Nat), Bundle.fit cls = true → (∀ n ∈ names, Bundle.fit n = true) → Cond.classLink RX4 ik cls ∈ ws → Cond.initialized cls ∈ ws → (is, text) ∈ xTx →
        (∀ w ∈ (vx_atS RX4 ic cls names).filter goodWord, w ∈ ws) → (∀ w ∈ (vx_atS RX4 ic cls names).filter (fun w => !goodWord w), w ∈ xBw) → (∀ w ∈ Cond.classLink RX4 ik cls :: Cond.initialized cls :: vx_atS RX4 ic cls names, vx_ot w = true) → ls.size = maxL →
        decode cc pc = .ok (.new ik, 3) → decode cc (pc + 3) = .ok (.dup, 1) → decode cc (pc + 4) = .ok (.ldc is, 2) → decode cc (pc + 6) = .ok (.invokespecial ic, 3) → decode cc (pc + 9) = .ok (.athrow, 1) →
        names.length + 3 < rm.frames → (rest.map fun v => v.category).sum + (13 * (names.length + 1) + 43) ≤ rm.locals → xp cls → va_P g.1 vwCl wd H → va_D A wd → va_S A s.heap H locs → W p l e rm s m args below meth c H locs 0 0 Z (F0 m pc ls rest)) →
      ∀ (H : Heap) (locs : List Loc) (ls : Array Slot), va_P g.1 vwCl wd H → va_D A wd → va_S A s.heap H locs → lv_has ls maxL (lv_args 0 av) → W p l e rm s m args below meth c H locs 0 0 Z (F0 m 0 ls [])) : Xi l y ws rm g av wd post xp := by
  intro sz
  have hst : l.stackTraces = false := by unfold Launch.stackTraces; rw [hl0]; decide +kernel
  refine vx_ofW (cc := cc) (maxL := maxL) (ret := (some .int)) hy hw ?_
  intro p e s m args below meth c s₁ B hml hnox hv
  obtain ⟨rfl, ⟨hsz, hP, hK, hD0⟩, hXk⟩ := hv
  have hx := B.exec
  have hb := B.bytes
  have hr := B.returns
  have hts := atoms_spec (ws := ws) B.pre
  have hown : s.vm.findClass y.cls = some m.cls := findClass_of_methodNamed B.named
  have hlocks := B.notSynchronized
  subst hsz
  have hD := hD0.self (sz := s.heap.size)
  generalize hAe : va_A wd s.heap.size = A at hD hXk ⊢
  have hA : ∀ q : Nat, s.heap.size ≤ q → A q := fun q h => by rw [← hAe]; exact Or.inr h
  have hl := lv_entry av (n := maxL) hn
  rw [lg_entry_eq]
  refine body p e s m av.toArray below meth c A _ hx hb hml hts hown hK hA (fun r w H locs ls pc hd hp hP hD hS => ?_) (fun cls text names ik is ic H locs ls rest pc f1 f2 f3 f4 f5 f6 f7 f8 f9 d0 d3 d4 d6 d9 r1 r2 hxp hP hD hS => ?_) _ _ _ hP hD va_S.rf hl
  · exact W.widen (k := 1) (n := 6) (by decide) (by decide) (vx_ret (W.iret (v := r) hx hb hr (fun t ht hW => ⟨⟨r, w, rfl, hp, by rw [ht]; exact hP, va_K.moved hW.alike hK, hD⟩, hS.F ht⟩) hS.2.2 hd))
  · obtain ⟨h1, h2, h3, h4⟩ := hXk
    obtain ⟨sa, h5⟩ := h4 _ f5
    rw [hyc] at hown
    refine vx_throwS (text := text) (names := names) (ik := ik) (is := is) (ic := ic) (sa := sa) (cls := cls) hx hb hst hown f1 f2 (hts _ f3) (hts _ f4) h5 (vx_hat (fun w hw => hts w (f6 w hw)) f7 (fun w hw => xb_move hw (State.WarmedH.refl s) (h3 w hw))) f8 h1 h2 hS (by rw [hml]; exact f9) d0 d3 d4 d6 d9 (fun x hx9 => (hnox x hx9).elim) r1 r2 (by rw [hrm.1]; decide) (by rw [hrm.2]; decide) hlocks (fun t ha hz hq => ?_) hS.2.2 (by decide) (by decide)
    exact ⟨(), trivial, ⟨hxp, hP.kept (fun k q hk => hq q.1 (hP k q hk).lt), va_K.moved ha hK, hD⟩, Nat.le_trans hS.1 hz, fun q g1 g2 => (hq q (Nat.lt_of_lt_of_le g1 hS.1)).trans (hS.2.1 q g1 g2)⟩
theorem Xv.of {post : va_W → Prop} (hl0 : l.flags = flags0) (hyc : y.cls = RX4) (hy : plainName y.cls = true) (hw : ws = Cond.code y cc maxL none :: ws') (hn : (lg_sl av).length ≤ maxL) (hrm : rm.cells = 1 ∧ rm.slots = 6)
    (body : ∀ (p : Program) (e : Env) (s : State) (m : MethodId) (args : Array Value) (below : List Frame) (meth : Method) (c : Code) (A : Nat → Prop) (Z : State → Prop),
      p.tables.exec = Jvm.exec → c.code = cc → c.maxLocals = maxL → (∀ w ∈ ws, w.before args s = true) → s.vm.findClass y.cls = some m.cls → va_K g.1 vwCl (tyG g) s → (∀ q, s.heap.size ≤ q → A q) →
      (∀ (w : va_W) (H : Heap) (locs : List Loc) (ls : Array Slot) (pc : Nat), decode cc pc = .ok (.return_, 1) → post w → va_P g.1 vwCl w H → va_D A w → va_S A s.heap H locs → W p l e rm s m args below meth c H locs 0 0 Z (F0 m pc ls [])) →
      (∀ (cls text : String) (names : List String) (ik is ic : Nat) (H : Heap) (locs : List Loc) (ls : Array Slot) (rest : List Value) (pc : Nat), Bundle.fit cls = true → (∀ n ∈ names, Bundle.fit n = true) → Cond.classLink RX4 ik cls ∈ ws → Cond.initialized cls ∈ ws → (is, text) ∈ xTx →
        (∀ w ∈ (vx_atS RX4 ic cls names).filter goodWord, w ∈ ws) → (∀ w ∈ (vx_atS RX4 ic cls names).filter (fun w => !goodWord w), w ∈ xBw) → (∀ w ∈ Cond.classLink RX4 ik cls :: Cond.initialized cls :: vx_atS RX4 ic cls names, vx_ot w = true) → ls.size = maxL →
        decode cc pc = .ok (.new ik, 3) → decode cc (pc + 3) = .ok (.dup, 1) → decode cc (pc + 4) = .ok (.ldc is, 2) → decode cc (pc + 6) = .ok (.invokespecial ic, 3) → decode cc (pc + 9) = .ok (.athrow, 1) →
        names.length + 3 < rm.frames → (rest.map fun v => v.category).sum + (13 * (names.length + 1) + 43) ≤ rm.locals → xp cls → va_P g.1 vwCl wd H → va_D A wd → va_S A s.heap H locs → W p l e rm s m args below meth c H locs 0 0 Z (F0 m pc ls rest)) →
      ∀ (H : Heap) (locs : List Loc) (ls : Array Slot), va_P g.1 vwCl wd H → va_D A wd → va_S A s.heap H locs → lv_has ls maxL (lv_args 0 av) → W p l e rm s m args below meth c H locs 0 0 Z (F0 m 0 ls [])) : Xv l y ws rm g av wd post xp := by
  intro sz
  have hst : l.stackTraces = false := by unfold Launch.stackTraces; rw [hl0]; decide +kernel
  refine vx_ofW (cc := cc) (maxL := maxL) (ret := none) hy hw ?_
  intro p e s m args below meth c s₁ B hml hnox hv
  obtain ⟨rfl, ⟨hsz, hP, hK, hD0⟩, hXk⟩ := hv
  have hx := B.exec
  have hb := B.bytes
  have hr := B.returns
  have hts := atoms_spec (ws := ws) B.pre
  have hown : s.vm.findClass y.cls = some m.cls := findClass_of_methodNamed B.named
  have hlocks := B.notSynchronized
  subst hsz
  have hD := hD0.self (sz := s.heap.size)
  generalize hAe : va_A wd s.heap.size = A at hD hXk ⊢
  have hA : ∀ q : Nat, s.heap.size ≤ q → A q := fun q h => by rw [← hAe]; exact Or.inr h
  have hl := lv_entry av (n := maxL) hn
  rw [lg_entry_eq]
  refine body p e s m av.toArray below meth c A _ hx hb hml hts hown hK hA (fun w H locs ls pc hd hp hP hD hS => ?_) (fun cls text names ik is ic H locs ls rest pc f1 f2 f3 f4 f5 f6 f7 f8 f9 d0 d3 d4 d6 d9 r1 r2 hxp hP hD hS => ?_) _ _ _ hP hD va_S.rf hl
  · exact W.widen (k := 1) (n := 6) (by decide) (by decide) (vx_ret (W.vret hx hb hr (fun t ht hW => ⟨⟨w, rfl, hp, by rw [ht]; exact hP, va_K.moved hW.alike hK, hD⟩, hS.F ht⟩) hS.2.2 hd))
  · obtain ⟨h1, h2, h3, h4⟩ := hXk
    obtain ⟨sa, h5⟩ := h4 _ f5
    rw [hyc] at hown
    refine vx_throwS (text := text) (names := names) (ik := ik) (is := is) (ic := ic) (sa := sa) (cls := cls) hx hb hst hown f1 f2 (hts _ f3) (hts _ f4) h5 (vx_hat (fun w hw => hts w (f6 w hw)) f7 (fun w hw => xb_move hw (State.WarmedH.refl s) (h3 w hw))) f8 h1 h2 hS (by rw [hml]; exact f9) d0 d3 d4 d6 d9 (fun x hx9 => (hnox x hx9).elim) r1 r2 (by rw [hrm.1]; decide) (by rw [hrm.2]; decide) hlocks (fun t ha hz hq => ?_) hS.2.2 (by decide) (by decide)
    exact ⟨(), trivial, ⟨hxp, hP.kept (fun k q hk => hq q.1 (hP k q hk).lt), va_K.moved ha hK, hD⟩, Nat.le_trans hS.1 hz, fun q g1 g2 => (hq q (Nat.lt_of_lt_of_le g1 hS.1)).trans (hS.2.1 q g1 g2)⟩
end THROWS
end
section
set_option maxRecDepth 20000 in
theorem ggX4_init_X0_init : GoodIn wsX4_init wsX0_init := goodIn_r _ [15, 16, 2, 3, 17, 18, 19, 20, 32, 33, 34] (by decide +kernel) (by decide +kernel)
set_option maxRecDepth 20000 in
theorem gX4_init_X0_init : GoodIn wsX4_init (wsX0_init) := ggX4_init_X0_init
set_option maxRecDepth 20000 in
theorem ggX4_init_X1_init : GoodIn wsX4_init wsX1_init := goodIn_r _ [23, 24, 2, 3, 25, 26, 27, 28, 29, 30, 31, 38, 39, 40, 41, 42, 43] (by decide +kernel) (by decide +kernel)
set_option maxRecDepth 20000 in
theorem gX4_init_X1_init : GoodIn wsX4_init (wsX1_init) := ggX4_init_X1_init
theorem dX4_init_0 : decode cX4_init 0 = .ok (.aload_n 0, 1) := by decide +kernel
theorem dX4_init_1 : decode cX4_init 1 = .ok (.invokespecial 1, 3) := by decide +kernel
theorem dX4_init_4 : decode cX4_init 4 = .ok (.aload_n 0, 1) := by decide +kernel
theorem dX4_init_5 : decode cX4_init 5 = .ok (.new 7, 3) := by decide +kernel
theorem dX4_init_8 : decode cX4_init 8 = .ok (.dup, 1) := by decide +kernel
theorem dX4_init_9 : decode cX4_init 9 = .ok (.invokespecial 9, 3) := by decide +kernel
theorem dX4_init_12 : decode cX4_init 12 = .ok (.putfield 10, 3) := by decide +kernel
theorem dX4_init_15 : decode cX4_init 15 = .ok (.aload_n 0, 1) := by decide +kernel
theorem dX4_init_16 : decode cX4_init 16 = .ok (.new 16, 3) := by decide +kernel
theorem dX4_init_19 : decode cX4_init 19 = .ok (.dup, 1) := by decide +kernel
theorem dX4_init_20 : decode cX4_init 20 = .ok (.invokespecial 18, 3) := by decide +kernel
theorem dX4_init_23 : decode cX4_init 23 = .ok (.putfield 19, 3) := by decide +kernel
theorem dX4_init_26 : decode cX4_init 26 = .ok (.aload_n 0, 1) := by decide +kernel
theorem dX4_init_27 : decode cX4_init 27 = .ok (.lconst 0, 1) := by decide +kernel
theorem dX4_init_28 : decode cX4_init 28 = .ok (.putfield 25, 3) := by decide +kernel
theorem dX4_init_31 : decode cX4_init 31 = .ok (.return_, 1) := by decide +kernel
set_option maxRecDepth 20000 in
theorem ggX4_write_X4_isLetter : GoodIn wsX4_write wsX4_isLetter := goodIn_r _ [9] (by decide +kernel) (by decide +kernel)
set_option maxRecDepth 20000 in
theorem gX4_write_X4_isLetter : GoodIn wsX4_write (va_wsS RX4 29 yX4_isLetter wsX4_isLetter) := goodIn_app (goodIn_of _ (by decide +kernel)) ggX4_write_X4_isLetter
set_option maxRecDepth 20000 in
theorem ggX4_write_X2_isFull : GoodIn wsX4_write wsX2_isFull := goodIn_r _ [13, 14, 15, 12, 16] (by decide +kernel) (by decide +kernel)
set_option maxRecDepth 20000 in
theorem gX4_write_X2_isFull : GoodIn wsX4_write (va_wsS RX4 40 yX2_isFull wsX2_isFull) := goodIn_app (goodIn_of _ (by decide +kernel)) ggX4_write_X2_isFull
set_option maxRecDepth 20000 in
theorem ggX4_write_X2_with : GoodIn wsX4_write wsX2_with := goodIn_r _ [19, 20, 14, 15, 12, 16, 21, 22, 23] (by decide +kernel) (by decide +kernel)
set_option maxRecDepth 20000 in
theorem gX4_write_X2_with : GoodIn wsX4_write (va_wsS RX4 49 yX2_with wsX2_with) := goodIn_app (goodIn_of _ (by decide +kernel)) ggX4_write_X2_with
set_option maxRecDepth 20000 in
theorem ggX4_write_X2_lengthOf : GoodIn wsX4_write wsX2_lengthOf := goodIn_r _ [16] (by decide +kernel) (by decide +kernel)
set_option maxRecDepth 20000 in
theorem gX4_write_X2_lengthOf : GoodIn wsX4_write (va_wsS RX4 53 yX2_lengthOf wsX2_lengthOf) := goodIn_app (goodIn_of _ (by decide +kernel)) ggX4_write_X2_lengthOf
theorem dX4_write_0 : decode cX4_write 0 = .ok (.iload_n 1, 1) := by decide +kernel
theorem dX4_write_1 : decode cX4_write 1 = .ok (.invokestatic 29, 3) := by decide +kernel
theorem dX4_write_4 : decode cX4_write 4 = .ok (.ifCond .ne 13, 3) := by decide +kernel
theorem dX4_write_7 : decode cX4_write 7 = .ok (.new 33, 3) := by decide +kernel
theorem dX4_write_10 : decode cX4_write 10 = .ok (.dup, 1) := by decide +kernel
theorem dX4_write_11 : decode cX4_write 11 = .ok (.ldc 35, 2) := by decide +kernel
theorem dX4_write_13 : decode cX4_write 13 = .ok (.invokespecial 37, 3) := by decide +kernel
theorem dX4_write_16 : decode cX4_write 16 = .ok (.athrow, 1) := by decide +kernel
theorem dX4_write_17 : decode cX4_write 17 = .ok (.aload_n 0, 1) := by decide +kernel
theorem dX4_write_18 : decode cX4_write 18 = .ok (.getfield 25, 3) := by decide +kernel
theorem dX4_write_21 : decode cX4_write 21 = .ok (.invokestatic 40, 3) := by decide +kernel
theorem dX4_write_24 : decode cX4_write 24 = .ok (.ifCond .eq 13, 3) := by decide +kernel
theorem dX4_write_27 : decode cX4_write 27 = .ok (.new 44, 3) := by decide +kernel
theorem dX4_write_30 : decode cX4_write 30 = .ok (.dup, 1) := by decide +kernel
theorem dX4_write_31 : decode cX4_write 31 = .ok (.ldc 46, 2) := by decide +kernel
theorem dX4_write_33 : decode cX4_write 33 = .ok (.invokespecial 48, 3) := by decide +kernel
theorem dX4_write_36 : decode cX4_write 36 = .ok (.athrow, 1) := by decide +kernel
theorem dX4_write_37 : decode cX4_write 37 = .ok (.aload_n 0, 1) := by decide +kernel
theorem dX4_write_38 : decode cX4_write 38 = .ok (.aload_n 0, 1) := by decide +kernel
theorem dX4_write_39 : decode cX4_write 39 = .ok (.getfield 25, 3) := by decide +kernel
theorem dX4_write_42 : decode cX4_write 42 = .ok (.iload_n 1, 1) := by decide +kernel
theorem dX4_write_43 : decode cX4_write 43 = .ok (.invokestatic 49, 3) := by decide +kernel
theorem dX4_write_46 : decode cX4_write 46 = .ok (.putfield 25, 3) := by decide +kernel
theorem dX4_write_49 : decode cX4_write 49 = .ok (.aload_n 0, 1) := by decide +kernel
theorem dX4_write_50 : decode cX4_write 50 = .ok (.getfield 25, 3) := by decide +kernel
theorem dX4_write_53 : decode cX4_write 53 = .ok (.invokestatic 53, 3) := by decide +kernel
theorem dX4_write_56 : decode cX4_write 56 = .ok (.ireturn, 1) := by decide +kernel
set_option maxRecDepth 20000 in
theorem ggX4_wipe_X2_lengthOf : GoodIn wsX4_wipe wsX2_lengthOf := goodIn_r _ [5] (by decide +kernel) (by decide +kernel)
set_option maxRecDepth 20000 in
theorem gX4_wipe_X2_lengthOf : GoodIn wsX4_wipe (va_wsS RX4 53 yX2_lengthOf wsX2_lengthOf) := goodIn_app (goodIn_of _ (by decide +kernel)) ggX4_wipe_X2_lengthOf
theorem dX4_wipe_0 : decode cX4_wipe 0 = .ok (.aload_n 0, 1) := by decide +kernel
theorem dX4_wipe_1 : decode cX4_wipe 1 = .ok (.getfield 25, 3) := by decide +kernel
theorem dX4_wipe_4 : decode cX4_wipe 4 = .ok (.invokestatic 53, 3) := by decide +kernel
theorem dX4_wipe_7 : decode cX4_wipe 7 = .ok (.istore_n 1, 1) := by decide +kernel
theorem dX4_wipe_8 : decode cX4_wipe 8 = .ok (.aload_n 0, 1) := by decide +kernel
theorem dX4_wipe_9 : decode cX4_wipe 9 = .ok (.lconst 0, 1) := by decide +kernel
theorem dX4_wipe_10 : decode cX4_wipe 10 = .ok (.putfield 25, 3) := by decide +kernel
theorem dX4_wipe_13 : decode cX4_wipe 13 = .ok (.iload_n 1, 1) := by decide +kernel
theorem dX4_wipe_14 : decode cX4_wipe 14 = .ok (.ireturn, 1) := by decide +kernel
set_option maxRecDepth 20000 in
theorem ggX4_slipLength_X2_lengthOf : GoodIn wsX4_slipLength wsX2_lengthOf := goodIn_r _ [5] (by decide +kernel) (by decide +kernel)
set_option maxRecDepth 20000 in
theorem gX4_slipLength_X2_lengthOf : GoodIn wsX4_slipLength (va_wsS RX4 53 yX2_lengthOf wsX2_lengthOf) := goodIn_app (goodIn_of _ (by decide +kernel)) ggX4_slipLength_X2_lengthOf
theorem dX4_slipLength_0 : decode cX4_slipLength 0 = .ok (.aload_n 0, 1) := by decide +kernel
theorem dX4_slipLength_1 : decode cX4_slipLength 1 = .ok (.getfield 25, 3) := by decide +kernel
theorem dX4_slipLength_4 : decode cX4_slipLength 4 = .ok (.invokestatic 53, 3) := by decide +kernel
theorem dX4_slipLength_7 : decode cX4_slipLength 7 = .ok (.ireturn, 1) := by decide +kernel
set_option maxRecDepth 20000 in
theorem ggX4_slipAt_X2_letterAt : GoodIn wsX4_slipAt wsX2_letterAt := goodIn_r _ [7, 8, 9, 6, 10] (by decide +kernel) (by decide +kernel)
set_option maxRecDepth 20000 in
theorem gX4_slipAt_X2_letterAt : GoodIn wsX4_slipAt (va_wsS RX4 57 yX2_letterAt wsX2_letterAt) := goodIn_app (goodIn_of _ (by decide +kernel)) ggX4_slipAt_X2_letterAt
theorem dX4_slipAt_0 : decode cX4_slipAt 0 = .ok (.aload_n 0, 1) := by decide +kernel
theorem dX4_slipAt_1 : decode cX4_slipAt 1 = .ok (.getfield 25, 3) := by decide +kernel
theorem dX4_slipAt_4 : decode cX4_slipAt 4 = .ok (.iload_n 1, 1) := by decide +kernel
theorem dX4_slipAt_5 : decode cX4_slipAt 5 = .ok (.invokestatic 57, 3) := by decide +kernel
theorem dX4_slipAt_8 : decode cX4_slipAt 8 = .ok (.istore_n 2, 1) := by decide +kernel
theorem dX4_slipAt_9 : decode cX4_slipAt 9 = .ok (.iload_n 2, 1) := by decide +kernel
theorem dX4_slipAt_10 : decode cX4_slipAt 10 = .ok (.iconst (-1), 1) := by decide +kernel
theorem dX4_slipAt_11 : decode cX4_slipAt 11 = .ok (.if_icmp .ne 13, 3) := by decide +kernel
theorem dX4_slipAt_14 : decode cX4_slipAt 14 = .ok (.new 61, 3) := by decide +kernel
theorem dX4_slipAt_17 : decode cX4_slipAt 17 = .ok (.dup, 1) := by decide +kernel
theorem dX4_slipAt_18 : decode cX4_slipAt 18 = .ok (.ldc 63, 2) := by decide +kernel
theorem dX4_slipAt_20 : decode cX4_slipAt 20 = .ok (.invokespecial 65, 3) := by decide +kernel
theorem dX4_slipAt_23 : decode cX4_slipAt 23 = .ok (.athrow, 1) := by decide +kernel
theorem dX4_slipAt_24 : decode cX4_slipAt 24 = .ok (.iload_n 2, 1) := by decide +kernel
theorem dX4_slipAt_25 : decode cX4_slipAt 25 = .ok (.ireturn, 1) := by decide +kernel
set_option maxRecDepth 20000 in
theorem ggX4_addWord_X2_lengthOf : GoodIn wsX4_addWord wsX2_lengthOf := goodIn_r _ [10] (by decide +kernel) (by decide +kernel)
set_option maxRecDepth 20000 in
theorem gX4_addWord_X2_lengthOf : GoodIn wsX4_addWord (va_wsS RX4 53 yX2_lengthOf wsX2_lengthOf) := goodIn_app (goodIn_of _ (by decide +kernel)) ggX4_addWord_X2_lengthOf
set_option maxRecDepth 20000 in
theorem ggX4_addWord_X0_add : GoodIn wsX4_addWord wsX0_add := goodIn_r _ [15, 16, 17, 18, 19, 20, 14, 21, 22, 23, 24, 25, 33, 34, 35] (by decide +kernel) (by decide +kernel)
set_option maxRecDepth 20000 in
theorem gX4_addWord_X0_add : GoodIn wsX4_addWord (wsV RX4 68 RX0 yX0_add wsX0_add) := goodIn_app (goodIn_of _ (by decide +kernel)) ggX4_addWord_X0_add
set_option maxRecDepth 20000 in
theorem ggX4_addWord_X0_size : GoodIn wsX4_addWord wsX0_size := goodIn_r _ [29, 16, 33, 34, 35] (by decide +kernel) (by decide +kernel)
set_option maxRecDepth 20000 in
theorem gX4_addWord_X0_size : GoodIn wsX4_addWord (wsV RX4 73 RX0 yX0_size wsX0_size) := goodIn_app (goodIn_of _ (by decide +kernel)) ggX4_addWord_X0_size
theorem dX4_addWord_0 : decode cX4_addWord 0 = .ok (.aload_n 0, 1) := by decide +kernel
theorem dX4_addWord_1 : decode cX4_addWord 1 = .ok (.getfield 25, 3) := by decide +kernel
theorem dX4_addWord_4 : decode cX4_addWord 4 = .ok (.invokestatic 53, 3) := by decide +kernel
theorem dX4_addWord_7 : decode cX4_addWord 7 = .ok (.iconst 2, 1) := by decide +kernel
theorem dX4_addWord_8 : decode cX4_addWord 8 = .ok (.if_icmp .ge 13, 3) := by decide +kernel
theorem dX4_addWord_11 : decode cX4_addWord 11 = .ok (.new 33, 3) := by decide +kernel
theorem dX4_addWord_14 : decode cX4_addWord 14 = .ok (.dup, 1) := by decide +kernel
theorem dX4_addWord_15 : decode cX4_addWord 15 = .ok (.ldc 66, 2) := by decide +kernel
theorem dX4_addWord_17 : decode cX4_addWord 17 = .ok (.invokespecial 37, 3) := by decide +kernel
theorem dX4_addWord_20 : decode cX4_addWord 20 = .ok (.athrow, 1) := by decide +kernel
theorem dX4_addWord_21 : decode cX4_addWord 21 = .ok (.aload_n 0, 1) := by decide +kernel
theorem dX4_addWord_22 : decode cX4_addWord 22 = .ok (.getfield 10, 3) := by decide +kernel
theorem dX4_addWord_25 : decode cX4_addWord 25 = .ok (.aload_n 0, 1) := by decide +kernel
theorem dX4_addWord_26 : decode cX4_addWord 26 = .ok (.getfield 25, 3) := by decide +kernel
theorem dX4_addWord_29 : decode cX4_addWord 29 = .ok (.invokevirtual 68, 3) := by decide +kernel
theorem dX4_addWord_32 : decode cX4_addWord 32 = .ok (.ifCond .ne 13, 3) := by decide +kernel
theorem dX4_addWord_35 : decode cX4_addWord 35 = .ok (.new 44, 3) := by decide +kernel
theorem dX4_addWord_38 : decode cX4_addWord 38 = .ok (.dup, 1) := by decide +kernel
theorem dX4_addWord_39 : decode cX4_addWord 39 = .ok (.ldc 71, 2) := by decide +kernel
theorem dX4_addWord_41 : decode cX4_addWord 41 = .ok (.invokespecial 48, 3) := by decide +kernel
theorem dX4_addWord_44 : decode cX4_addWord 44 = .ok (.athrow, 1) := by decide +kernel
theorem dX4_addWord_45 : decode cX4_addWord 45 = .ok (.aload_n 0, 1) := by decide +kernel
theorem dX4_addWord_46 : decode cX4_addWord 46 = .ok (.getfield 10, 3) := by decide +kernel
theorem dX4_addWord_49 : decode cX4_addWord 49 = .ok (.invokevirtual 73, 3) := by decide +kernel
theorem dX4_addWord_52 : decode cX4_addWord 52 = .ok (.ireturn, 1) := by decide +kernel
set_option maxRecDepth 20000 in
theorem ggX4_removeWord_X0_remove : GoodIn wsX4_removeWord wsX0_remove := goodIn_r _ [9, 10, 11, 12, 13, 14, 8, 15, 23, 24, 25] (by decide +kernel) (by decide +kernel)
set_option maxRecDepth 20000 in
theorem gX4_removeWord_X0_remove : GoodIn wsX4_removeWord (wsV RX4 77 RX0 yX0_remove wsX0_remove) := goodIn_app (goodIn_of _ (by decide +kernel)) ggX4_removeWord_X0_remove
set_option maxRecDepth 20000 in
theorem ggX4_removeWord_X0_size : GoodIn wsX4_removeWord wsX0_size := goodIn_r _ [19, 10, 23, 24, 25] (by decide +kernel) (by decide +kernel)
set_option maxRecDepth 20000 in
theorem gX4_removeWord_X0_size : GoodIn wsX4_removeWord (wsV RX4 73 RX0 yX0_size wsX0_size) := goodIn_app (goodIn_of _ (by decide +kernel)) ggX4_removeWord_X0_size
theorem dX4_removeWord_0 : decode cX4_removeWord 0 = .ok (.aload_n 0, 1) := by decide +kernel
theorem dX4_removeWord_1 : decode cX4_removeWord 1 = .ok (.getfield 10, 3) := by decide +kernel
theorem dX4_removeWord_4 : decode cX4_removeWord 4 = .ok (.aload_n 0, 1) := by decide +kernel
theorem dX4_removeWord_5 : decode cX4_removeWord 5 = .ok (.getfield 25, 3) := by decide +kernel
theorem dX4_removeWord_8 : decode cX4_removeWord 8 = .ok (.invokevirtual 77, 3) := by decide +kernel
theorem dX4_removeWord_11 : decode cX4_removeWord 11 = .ok (.ifCond .ne 13, 3) := by decide +kernel
theorem dX4_removeWord_14 : decode cX4_removeWord 14 = .ok (.new 44, 3) := by decide +kernel
theorem dX4_removeWord_17 : decode cX4_removeWord 17 = .ok (.dup, 1) := by decide +kernel
theorem dX4_removeWord_18 : decode cX4_removeWord 18 = .ok (.ldc 80, 2) := by decide +kernel
theorem dX4_removeWord_20 : decode cX4_removeWord 20 = .ok (.invokespecial 48, 3) := by decide +kernel
theorem dX4_removeWord_23 : decode cX4_removeWord 23 = .ok (.athrow, 1) := by decide +kernel
theorem dX4_removeWord_24 : decode cX4_removeWord 24 = .ok (.aload_n 0, 1) := by decide +kernel
theorem dX4_removeWord_25 : decode cX4_removeWord 25 = .ok (.getfield 10, 3) := by decide +kernel
theorem dX4_removeWord_28 : decode cX4_removeWord 28 = .ok (.invokevirtual 73, 3) := by decide +kernel
theorem dX4_removeWord_31 : decode cX4_removeWord 31 = .ok (.ireturn, 1) := by decide +kernel
set_option maxRecDepth 20000 in
theorem ggX4_isWord_X0_has : GoodIn wsX4_isWord wsX0_has := goodIn_r _ [7, 8, 9, 10, 6, 11, 12, 13, 17, 18, 19] (by decide +kernel) (by decide +kernel)
set_option maxRecDepth 20000 in
theorem gX4_isWord_X0_has : GoodIn wsX4_isWord (wsV RX4 82 RX0 yX0_has wsX0_has) := goodIn_app (goodIn_of _ (by decide +kernel)) ggX4_isWord_X0_has
theorem dX4_isWord_0 : decode cX4_isWord 0 = .ok (.aload_n 0, 1) := by decide +kernel
theorem dX4_isWord_1 : decode cX4_isWord 1 = .ok (.getfield 10, 3) := by decide +kernel
theorem dX4_isWord_4 : decode cX4_isWord 4 = .ok (.aload_n 0, 1) := by decide +kernel
theorem dX4_isWord_5 : decode cX4_isWord 5 = .ok (.getfield 25, 3) := by decide +kernel
theorem dX4_isWord_8 : decode cX4_isWord 8 = .ok (.invokevirtual 82, 3) := by decide +kernel
theorem dX4_isWord_11 : decode cX4_isWord 11 = .ok (.ireturn, 1) := by decide +kernel
set_option maxRecDepth 20000 in
theorem ggX4_words_X0_size : GoodIn wsX4_words wsX0_size := goodIn_r _ [6, 7, 11, 12, 13] (by decide +kernel) (by decide +kernel)
set_option maxRecDepth 20000 in
theorem gX4_words_X0_size : GoodIn wsX4_words (wsV RX4 73 RX0 yX0_size wsX0_size) := goodIn_app (goodIn_of _ (by decide +kernel)) ggX4_words_X0_size
theorem dX4_words_0 : decode cX4_words 0 = .ok (.aload_n 0, 1) := by decide +kernel
theorem dX4_words_1 : decode cX4_words 1 = .ok (.getfield 10, 3) := by decide +kernel
theorem dX4_words_4 : decode cX4_words 4 = .ok (.invokevirtual 73, 3) := by decide +kernel
theorem dX4_words_7 : decode cX4_words 7 = .ok (.ireturn, 1) := by decide +kernel
set_option maxRecDepth 20000 in
theorem ggX4_wordsFromSlip_X0_countFrom : GoodIn wsX4_wordsFromSlip wsX0_countFrom := goodIn_r _ [7, 8, 9, 10, 11, 12, 13, 14, 15, 16, 17, 21, 22, 23] (by decide +kernel) (by decide +kernel)
set_option maxRecDepth 20000 in
theorem gX4_wordsFromSlip_X0_countFrom : GoodIn wsX4_wordsFromSlip (wsV RX4 85 RX0 yX0_countFrom wsX0_countFrom) := goodIn_app (goodIn_of _ (by decide +kernel)) ggX4_wordsFromSlip_X0_countFrom
theorem dX4_wordsFromSlip_0 : decode cX4_wordsFromSlip 0 = .ok (.aload_n 0, 1) := by decide +kernel
theorem dX4_wordsFromSlip_1 : decode cX4_wordsFromSlip 1 = .ok (.getfield 10, 3) := by decide +kernel
theorem dX4_wordsFromSlip_4 : decode cX4_wordsFromSlip 4 = .ok (.aload_n 0, 1) := by decide +kernel
theorem dX4_wordsFromSlip_5 : decode cX4_wordsFromSlip 5 = .ok (.getfield 25, 3) := by decide +kernel
theorem dX4_wordsFromSlip_8 : decode cX4_wordsFromSlip 8 = .ok (.invokevirtual 85, 3) := by decide +kernel
theorem dX4_wordsFromSlip_11 : decode cX4_wordsFromSlip 11 = .ok (.ireturn, 1) := by decide +kernel
set_option maxRecDepth 20000 in
theorem ggX4_beginnings_X0_countBeginnings : GoodIn wsX4_beginnings wsX0_countBeginnings := goodIn_r _ [6, 7, 8, 9, 10, 11, 12, 13, 14, 15, 5, 16, 17, 18, 19, 20, 21, 22, 23, 24, 25, 26, 27, 28, 29, 30, 31, 32, 33, 34, 38, 39, 40] (by decide +kernel) (by decide +kernel)
set_option maxRecDepth 20000 in
theorem gX4_beginnings_X0_countBeginnings : GoodIn wsX4_beginnings (wsV RX4 88 RX0 yX0_countBeginnings wsX0_countBeginnings) := goodIn_app (goodIn_of _ (by decide +kernel)) ggX4_beginnings_X0_countBeginnings
theorem dX4_beginnings_0 : decode cX4_beginnings 0 = .ok (.aload_n 0, 1) := by decide +kernel
theorem dX4_beginnings_1 : decode cX4_beginnings 1 = .ok (.getfield 10, 3) := by decide +kernel
theorem dX4_beginnings_4 : decode cX4_beginnings 4 = .ok (.invokevirtual 88, 3) := by decide +kernel
theorem dX4_beginnings_7 : decode cX4_beginnings 7 = .ok (.ireturn, 1) := by decide +kernel
set_option maxRecDepth 20000 in
theorem ggX4_copyWord_X0_wordAt : GoodIn wsX4_copyWord wsX0_wordAt := goodIn_r _ [9, 10, 11, 19, 20, 21] (by decide +kernel) (by decide +kernel)
set_option maxRecDepth 20000 in
theorem gX4_copyWord_X0_wordAt : GoodIn wsX4_copyWord (wsV RX4 91 RX0 yX0_wordAt wsX0_wordAt) := goodIn_app (goodIn_of _ (by decide +kernel)) ggX4_copyWord_X0_wordAt
set_option maxRecDepth 20000 in
theorem ggX4_copyWord_X2_lengthOf : GoodIn wsX4_copyWord wsX2_lengthOf := goodIn_r _ [15] (by decide +kernel) (by decide +kernel)
set_option maxRecDepth 20000 in
theorem gX4_copyWord_X2_lengthOf : GoodIn wsX4_copyWord (va_wsS RX4 53 yX2_lengthOf wsX2_lengthOf) := goodIn_app (goodIn_of _ (by decide +kernel)) ggX4_copyWord_X2_lengthOf
theorem dX4_copyWord_0 : decode cX4_copyWord 0 = .ok (.aload_n 0, 1) := by decide +kernel
theorem dX4_copyWord_1 : decode cX4_copyWord 1 = .ok (.getfield 10, 3) := by decide +kernel
theorem dX4_copyWord_4 : decode cX4_copyWord 4 = .ok (.iload_n 1, 1) := by decide +kernel
theorem dX4_copyWord_5 : decode cX4_copyWord 5 = .ok (.invokevirtual 91, 3) := by decide +kernel
theorem dX4_copyWord_8 : decode cX4_copyWord 8 = .ok (.lstore_n 2, 1) := by decide +kernel
theorem dX4_copyWord_9 : decode cX4_copyWord 9 = .ok (.lload_n 2, 1) := by decide +kernel
theorem dX4_copyWord_10 : decode cX4_copyWord 10 = .ok (.lconst 0, 1) := by decide +kernel
theorem dX4_copyWord_11 : decode cX4_copyWord 11 = .ok (.lcmp, 1) := by decide +kernel
theorem dX4_copyWord_12 : decode cX4_copyWord 12 = .ok (.ifCond .ne 13, 3) := by decide +kernel
theorem dX4_copyWord_15 : decode cX4_copyWord 15 = .ok (.new 61, 3) := by decide +kernel
theorem dX4_copyWord_18 : decode cX4_copyWord 18 = .ok (.dup, 1) := by decide +kernel
theorem dX4_copyWord_19 : decode cX4_copyWord 19 = .ok (.ldc 95, 2) := by decide +kernel
theorem dX4_copyWord_21 : decode cX4_copyWord 21 = .ok (.invokespecial 65, 3) := by decide +kernel
theorem dX4_copyWord_24 : decode cX4_copyWord 24 = .ok (.athrow, 1) := by decide +kernel
theorem dX4_copyWord_25 : decode cX4_copyWord 25 = .ok (.aload_n 0, 1) := by decide +kernel
theorem dX4_copyWord_26 : decode cX4_copyWord 26 = .ok (.lload_n 2, 1) := by decide +kernel
theorem dX4_copyWord_27 : decode cX4_copyWord 27 = .ok (.putfield 25, 3) := by decide +kernel
theorem dX4_copyWord_30 : decode cX4_copyWord 30 = .ok (.aload_n 0, 1) := by decide +kernel
theorem dX4_copyWord_31 : decode cX4_copyWord 31 = .ok (.getfield 25, 3) := by decide +kernel
theorem dX4_copyWord_34 : decode cX4_copyWord 34 = .ok (.invokestatic 53, 3) := by decide +kernel
theorem dX4_copyWord_37 : decode cX4_copyWord 37 = .ok (.ireturn, 1) := by decide +kernel
set_option maxRecDepth 20000 in
theorem ggX4_setLeastLength_X0_changeLeastLength : GoodIn wsX4_setLeastLength wsX0_changeLeastLength := goodIn_r _ [8, 9, 13, 14, 15] (by decide +kernel) (by decide +kernel)
set_option maxRecDepth 20000 in
theorem gX4_setLeastLength_X0_changeLeastLength : GoodIn wsX4_setLeastLength (wsV RX4 99 RX0 yX0_changeLeastLength wsX0_changeLeastLength) := goodIn_app (goodIn_of _ (by decide +kernel)) ggX4_setLeastLength_X0_changeLeastLength
theorem dX4_setLeastLength_0 : decode cX4_setLeastLength 0 = .ok (.iload_n 1, 1) := by decide +kernel
theorem dX4_setLeastLength_1 : decode cX4_setLeastLength 1 = .ok (.iconst 2, 1) := by decide +kernel
theorem dX4_setLeastLength_2 : decode cX4_setLeastLength 2 = .ok (.if_icmp .lt 9, 3) := by decide +kernel
theorem dX4_setLeastLength_5 : decode cX4_setLeastLength 5 = .ok (.iload_n 1, 1) := by decide +kernel
theorem dX4_setLeastLength_6 : decode cX4_setLeastLength 6 = .ok (.bipush 10, 2) := by decide +kernel
theorem dX4_setLeastLength_8 : decode cX4_setLeastLength 8 = .ok (.if_icmp .le 13, 3) := by decide +kernel
theorem dX4_setLeastLength_11 : decode cX4_setLeastLength 11 = .ok (.new 33, 3) := by decide +kernel
theorem dX4_setLeastLength_14 : decode cX4_setLeastLength 14 = .ok (.dup, 1) := by decide +kernel
theorem dX4_setLeastLength_15 : decode cX4_setLeastLength 15 = .ok (.ldc 97, 2) := by decide +kernel
theorem dX4_setLeastLength_17 : decode cX4_setLeastLength 17 = .ok (.invokespecial 37, 3) := by decide +kernel
theorem dX4_setLeastLength_20 : decode cX4_setLeastLength 20 = .ok (.athrow, 1) := by decide +kernel
theorem dX4_setLeastLength_21 : decode cX4_setLeastLength 21 = .ok (.aload_n 0, 1) := by decide +kernel
theorem dX4_setLeastLength_22 : decode cX4_setLeastLength 22 = .ok (.getfield 10, 3) := by decide +kernel
theorem dX4_setLeastLength_25 : decode cX4_setLeastLength 25 = .ok (.iload_n 1, 1) := by decide +kernel
theorem dX4_setLeastLength_26 : decode cX4_setLeastLength 26 = .ok (.invokevirtual 99, 3) := by decide +kernel
theorem dX4_setLeastLength_29 : decode cX4_setLeastLength 29 = .ok (.ireturn, 1) := by decide +kernel
set_option maxRecDepth 20000 in
theorem ggX4_start_X1_begin : GoodIn wsX4_start wsX1_begin := goodIn_r _ [8, 9, 10, 11, 12, 13, 14, 18, 19, 20, 21, 22, 23] (by decide +kernel) (by decide +kernel)
set_option maxRecDepth 20000 in
theorem gX4_start_X1_begin : GoodIn wsX4_start (wsV RX4 105 RX1 yX1_begin wsX1_begin) := goodIn_app (goodIn_of _ (by decide +kernel)) ggX4_start_X1_begin
theorem dX4_start_0 : decode cX4_start 0 = .ok (.iload_n 1, 1) := by decide +kernel
theorem dX4_start_1 : decode cX4_start 1 = .ok (.iconst 2, 1) := by decide +kernel
theorem dX4_start_2 : decode cX4_start 2 = .ok (.if_icmp .lt 8, 3) := by decide +kernel
theorem dX4_start_5 : decode cX4_start 5 = .ok (.iload_n 1, 1) := by decide +kernel
theorem dX4_start_6 : decode cX4_start 6 = .ok (.iconst 4, 1) := by decide +kernel
theorem dX4_start_7 : decode cX4_start 7 = .ok (.if_icmp .le 13, 3) := by decide +kernel
theorem dX4_start_10 : decode cX4_start 10 = .ok (.new 33, 3) := by decide +kernel
theorem dX4_start_13 : decode cX4_start 13 = .ok (.dup, 1) := by decide +kernel
theorem dX4_start_14 : decode cX4_start 14 = .ok (.ldc 103, 2) := by decide +kernel
theorem dX4_start_16 : decode cX4_start 16 = .ok (.invokespecial 37, 3) := by decide +kernel
theorem dX4_start_19 : decode cX4_start 19 = .ok (.athrow, 1) := by decide +kernel
theorem dX4_start_20 : decode cX4_start 20 = .ok (.aload_n 0, 1) := by decide +kernel
theorem dX4_start_21 : decode cX4_start 21 = .ok (.getfield 19, 3) := by decide +kernel
theorem dX4_start_24 : decode cX4_start 24 = .ok (.iload_n 1, 1) := by decide +kernel
theorem dX4_start_25 : decode cX4_start 25 = .ok (.invokevirtual 105, 3) := by decide +kernel
theorem dX4_start_28 : decode cX4_start 28 = .ok (.return_, 1) := by decide +kernel
set_option maxRecDepth 20000 in
theorem ggX4_play_X4_isLetter : GoodIn wsX4_play wsX4_isLetter := goodIn_r _ [10] (by decide +kernel) (by decide +kernel)
set_option maxRecDepth 20000 in
theorem gX4_play_X4_isLetter : GoodIn wsX4_play (va_wsS RX4 29 yX4_isLetter wsX4_isLetter) := goodIn_app (goodIn_of _ (by decide +kernel)) ggX4_play_X4_isLetter
set_option maxRecDepth 20000 in
theorem ggX4_play_X1_isOn : GoodIn wsX4_play wsX1_isOn := goodIn_r _ [15, 16, 92, 93, 94, 95, 96, 97] (by decide +kernel) (by decide +kernel)
set_option maxRecDepth 20000 in
theorem gX4_play_X1_isOn : GoodIn wsX4_play (wsV RX4 109 RX1 yX1_isOn wsX1_isOn) := goodIn_app (goodIn_of _ (by decide +kernel)) ggX4_play_X1_isOn
set_option maxRecDepth 20000 in
theorem ggX4_play_X1_fragment : GoodIn wsX4_play wsX1_fragment := goodIn_r _ [20, 21, 92, 93, 94, 95, 96, 97] (by decide +kernel) (by decide +kernel)
set_option maxRecDepth 20000 in
theorem gX4_play_X1_fragment : GoodIn wsX4_play (wsV RX4 113 RX1 yX1_fragment wsX1_fragment) := goodIn_app (goodIn_of _ (by decide +kernel)) ggX4_play_X1_fragment
set_option maxRecDepth 20000 in
theorem ggX4_play_X2_isFull : GoodIn wsX4_play wsX2_isFull := goodIn_r _ [25, 26, 27, 24, 28] (by decide +kernel) (by decide +kernel)
set_option maxRecDepth 20000 in
theorem gX4_play_X2_isFull : GoodIn wsX4_play (va_wsS RX4 40 yX2_isFull wsX2_isFull) := goodIn_app (goodIn_of _ (by decide +kernel)) ggX4_play_X2_isFull
set_option maxRecDepth 20000 in
theorem ggX4_play_X1_addLetter : GoodIn wsX4_play wsX1_addLetter := goodIn_r _ [32, 21, 16, 33, 34, 35, 24, 36, 37, 26, 27, 28, 38, 39, 40, 41, 42, 43, 44, 45, 46, 47, 48, 49, 50, 51, 52, 53, 54, 55, 56, 57, 58, 59, 60, 61, 62, 63, 64, 14, 65, 66, 67, 68, 69, 70, 71, 72, 73, 74, 75, 76, 77, 78, 79, 80, 81, 82, 83, 84, 85, 86, 87, 88, 92, 93, 94, 95, 96, 97, 98, 99, 100] (by decide +kernel) (by decide +kernel)
set_option maxRecDepth 20000 in
theorem gX4_play_X1_addLetter : GoodIn wsX4_play (wsV RX4 119 RX1 yX1_addLetter wsX1_addLetter) := goodIn_app (goodIn_of _ (by decide +kernel)) ggX4_play_X1_addLetter
theorem dX4_play_0 : decode cX4_play 0 = .ok (.iload_n 1, 1) := by decide +kernel
theorem dX4_play_1 : decode cX4_play 1 = .ok (.invokestatic 29, 3) := by decide +kernel
theorem dX4_play_4 : decode cX4_play 4 = .ok (.ifCond .ne 13, 3) := by decide +kernel
theorem dX4_play_7 : decode cX4_play 7 = .ok (.new 33, 3) := by decide +kernel
theorem dX4_play_10 : decode cX4_play 10 = .ok (.dup, 1) := by decide +kernel
theorem dX4_play_11 : decode cX4_play 11 = .ok (.ldc 35, 2) := by decide +kernel
theorem dX4_play_13 : decode cX4_play 13 = .ok (.invokespecial 37, 3) := by decide +kernel
theorem dX4_play_16 : decode cX4_play 16 = .ok (.athrow, 1) := by decide +kernel
theorem dX4_play_17 : decode cX4_play 17 = .ok (.aload_n 0, 1) := by decide +kernel
theorem dX4_play_18 : decode cX4_play 18 = .ok (.getfield 19, 3) := by decide +kernel
theorem dX4_play_21 : decode cX4_play 21 = .ok (.invokevirtual 109, 3) := by decide +kernel
theorem dX4_play_24 : decode cX4_play 24 = .ok (.ifCond .eq 16, 3) := by decide +kernel
theorem dX4_play_27 : decode cX4_play 27 = .ok (.aload_n 0, 1) := by decide +kernel
theorem dX4_play_28 : decode cX4_play 28 = .ok (.getfield 19, 3) := by decide +kernel
theorem dX4_play_31 : decode cX4_play 31 = .ok (.invokevirtual 113, 3) := by decide +kernel
theorem dX4_play_34 : decode cX4_play 34 = .ok (.invokestatic 40, 3) := by decide +kernel
theorem dX4_play_37 : decode cX4_play 37 = .ok (.ifCond .eq 13, 3) := by decide +kernel
theorem dX4_play_40 : decode cX4_play 40 = .ok (.new 44, 3) := by decide +kernel
theorem dX4_play_43 : decode cX4_play 43 = .ok (.dup, 1) := by decide +kernel
theorem dX4_play_44 : decode cX4_play 44 = .ok (.ldc 117, 2) := by decide +kernel
theorem dX4_play_46 : decode cX4_play 46 = .ok (.invokespecial 48, 3) := by decide +kernel
theorem dX4_play_49 : decode cX4_play 49 = .ok (.athrow, 1) := by decide +kernel
theorem dX4_play_50 : decode cX4_play 50 = .ok (.aload_n 0, 1) := by decide +kernel
theorem dX4_play_51 : decode cX4_play 51 = .ok (.getfield 19, 3) := by decide +kernel
theorem dX4_play_54 : decode cX4_play 54 = .ok (.iload_n 1, 1) := by decide +kernel
theorem dX4_play_55 : decode cX4_play 55 = .ok (.aload_n 0, 1) := by decide +kernel
theorem dX4_play_56 : decode cX4_play 56 = .ok (.getfield 10, 3) := by decide +kernel
theorem dX4_play_59 : decode cX4_play 59 = .ok (.invokevirtual 119, 3) := by decide +kernel
theorem dX4_play_62 : decode cX4_play 62 = .ok (.ireturn, 1) := by decide +kernel
set_option maxRecDepth 20000 in
theorem ggX4_challenge_X1_isOn : GoodIn wsX4_challenge wsX1_isOn := goodIn_r _ [9, 10, 72, 73, 74, 75, 76, 77] (by decide +kernel) (by decide +kernel)
set_option maxRecDepth 20000 in
theorem gX4_challenge_X1_isOn : GoodIn wsX4_challenge (wsV RX4 109 RX1 yX1_isOn wsX1_isOn) := goodIn_app (goodIn_of _ (by decide +kernel)) ggX4_challenge_X1_isOn
set_option maxRecDepth 20000 in
theorem ggX4_challenge_X1_fragment : GoodIn wsX4_challenge wsX1_fragment := goodIn_r _ [14, 15, 72, 73, 74, 75, 76, 77] (by decide +kernel) (by decide +kernel)
set_option maxRecDepth 20000 in
theorem gX4_challenge_X1_fragment : GoodIn wsX4_challenge (wsV RX4 113 RX1 yX1_fragment wsX1_fragment) := goodIn_app (goodIn_of _ (by decide +kernel)) ggX4_challenge_X1_fragment
set_option maxRecDepth 20000 in
theorem ggX4_challenge_X1_settleChallenge : GoodIn wsX4_challenge wsX1_settleChallenge := goodIn_r _ [19, 15, 10, 20, 21, 22, 23, 24, 25, 26, 27, 28, 29, 30, 31, 32, 33, 34, 35, 36, 37, 38, 39, 40, 41, 42, 43, 44, 8, 45, 46, 47, 48, 49, 50, 51, 52, 53, 54, 55, 56, 57, 58, 59, 60, 61, 62, 63, 64, 65, 66, 67, 68, 72, 73, 74, 75, 76, 77, 78, 79, 80] (by decide +kernel) (by decide +kernel)
set_option maxRecDepth 20000 in
theorem gX4_challenge_X1_settleChallenge : GoodIn wsX4_challenge (wsV RX4 125 RX1 yX1_settleChallenge wsX1_settleChallenge) := goodIn_app (goodIn_of _ (by decide +kernel)) ggX4_challenge_X1_settleChallenge
theorem dX4_challenge_0 : decode cX4_challenge 0 = .ok (.aload_n 0, 1) := by decide +kernel
theorem dX4_challenge_1 : decode cX4_challenge 1 = .ok (.getfield 19, 3) := by decide +kernel
theorem dX4_challenge_4 : decode cX4_challenge 4 = .ok (.invokevirtual 109, 3) := by decide +kernel
theorem dX4_challenge_7 : decode cX4_challenge 7 = .ok (.ifCond .eq 15, 3) := by decide +kernel
theorem dX4_challenge_10 : decode cX4_challenge 10 = .ok (.aload_n 0, 1) := by decide +kernel
theorem dX4_challenge_11 : decode cX4_challenge 11 = .ok (.getfield 19, 3) := by decide +kernel
theorem dX4_challenge_14 : decode cX4_challenge 14 = .ok (.invokevirtual 113, 3) := by decide +kernel
theorem dX4_challenge_17 : decode cX4_challenge 17 = .ok (.lconst 0, 1) := by decide +kernel
theorem dX4_challenge_18 : decode cX4_challenge 18 = .ok (.lcmp, 1) := by decide +kernel
theorem dX4_challenge_19 : decode cX4_challenge 19 = .ok (.ifCond .ne 13, 3) := by decide +kernel
theorem dX4_challenge_22 : decode cX4_challenge 22 = .ok (.new 44, 3) := by decide +kernel
theorem dX4_challenge_25 : decode cX4_challenge 25 = .ok (.dup, 1) := by decide +kernel
theorem dX4_challenge_26 : decode cX4_challenge 26 = .ok (.ldc 123, 2) := by decide +kernel
theorem dX4_challenge_28 : decode cX4_challenge 28 = .ok (.invokespecial 48, 3) := by decide +kernel
theorem dX4_challenge_31 : decode cX4_challenge 31 = .ok (.athrow, 1) := by decide +kernel
theorem dX4_challenge_32 : decode cX4_challenge 32 = .ok (.aload_n 0, 1) := by decide +kernel
theorem dX4_challenge_33 : decode cX4_challenge 33 = .ok (.getfield 19, 3) := by decide +kernel
theorem dX4_challenge_36 : decode cX4_challenge 36 = .ok (.aload_n 0, 1) := by decide +kernel
theorem dX4_challenge_37 : decode cX4_challenge 37 = .ok (.getfield 10, 3) := by decide +kernel
theorem dX4_challenge_40 : decode cX4_challenge 40 = .ok (.invokevirtual 125, 3) := by decide +kernel
theorem dX4_challenge_43 : decode cX4_challenge 43 = .ok (.ireturn, 1) := by decide +kernel
set_option maxRecDepth 20000 in
theorem ggX4_turn_X1_mover : GoodIn wsX4_turn wsX1_mover := goodIn_r _ [6, 7, 11, 12, 13, 14, 15, 16] (by decide +kernel) (by decide +kernel)
set_option maxRecDepth 20000 in
theorem gX4_turn_X1_mover : GoodIn wsX4_turn (wsV RX4 129 RX1 yX1_mover wsX1_mover) := goodIn_app (goodIn_of _ (by decide +kernel)) ggX4_turn_X1_mover
theorem dX4_turn_0 : decode cX4_turn 0 = .ok (.aload_n 0, 1) := by decide +kernel
theorem dX4_turn_1 : decode cX4_turn 1 = .ok (.getfield 19, 3) := by decide +kernel
theorem dX4_turn_4 : decode cX4_turn 4 = .ok (.invokevirtual 129, 3) := by decide +kernel
theorem dX4_turn_7 : decode cX4_turn 7 = .ok (.ireturn, 1) := by decide +kernel
set_option maxRecDepth 20000 in
theorem ggX4_winner_X1_champion : GoodIn wsX4_winner wsX1_champion := goodIn_r _ [6, 7, 11, 12, 13, 14, 15, 16] (by decide +kernel) (by decide +kernel)
set_option maxRecDepth 20000 in
theorem gX4_winner_X1_champion : GoodIn wsX4_winner (wsV RX4 132 RX1 yX1_champion wsX1_champion) := goodIn_app (goodIn_of _ (by decide +kernel)) ggX4_winner_X1_champion
theorem dX4_winner_0 : decode cX4_winner 0 = .ok (.aload_n 0, 1) := by decide +kernel
theorem dX4_winner_1 : decode cX4_winner 1 = .ok (.getfield 19, 3) := by decide +kernel
theorem dX4_winner_4 : decode cX4_winner 4 = .ok (.invokevirtual 132, 3) := by decide +kernel
theorem dX4_winner_7 : decode cX4_winner 7 = .ok (.ireturn, 1) := by decide +kernel
set_option maxRecDepth 20000 in
theorem ggX4_players_X1_playerCount : GoodIn wsX4_players wsX1_playerCount := goodIn_r _ [6, 7, 11, 12, 13, 14, 15, 16] (by decide +kernel) (by decide +kernel)
set_option maxRecDepth 20000 in
theorem gX4_players_X1_playerCount : GoodIn wsX4_players (wsV RX4 135 RX1 yX1_playerCount wsX1_playerCount) := goodIn_app (goodIn_of _ (by decide +kernel)) ggX4_players_X1_playerCount
theorem dX4_players_0 : decode cX4_players 0 = .ok (.aload_n 0, 1) := by decide +kernel
theorem dX4_players_1 : decode cX4_players 1 = .ok (.getfield 19, 3) := by decide +kernel
theorem dX4_players_4 : decode cX4_players 4 = .ok (.invokevirtual 135, 3) := by decide +kernel
theorem dX4_players_7 : decode cX4_players 7 = .ok (.ireturn, 1) := by decide +kernel
set_option maxRecDepth 20000 in
theorem ggX4_strikes_X1_strikesOf : GoodIn wsX4_strikes wsX1_strikesOf := goodIn_r _ [8, 9, 10, 11, 12, 7, 13, 14, 18, 19, 20, 21, 22, 23] (by decide +kernel) (by decide +kernel)
set_option maxRecDepth 20000 in
theorem gX4_strikes_X1_strikesOf : GoodIn wsX4_strikes (wsV RX4 138 RX1 yX1_strikesOf wsX1_strikesOf) := goodIn_app (goodIn_of _ (by decide +kernel)) ggX4_strikes_X1_strikesOf
theorem dX4_strikes_0 : decode cX4_strikes 0 = .ok (.aload_n 0, 1) := by decide +kernel
theorem dX4_strikes_1 : decode cX4_strikes 1 = .ok (.getfield 19, 3) := by decide +kernel
theorem dX4_strikes_4 : decode cX4_strikes 4 = .ok (.iload_n 1, 1) := by decide +kernel
theorem dX4_strikes_5 : decode cX4_strikes 5 = .ok (.invokevirtual 138, 3) := by decide +kernel
theorem dX4_strikes_8 : decode cX4_strikes 8 = .ok (.istore_n 2, 1) := by decide +kernel
theorem dX4_strikes_9 : decode cX4_strikes 9 = .ok (.iload_n 2, 1) := by decide +kernel
theorem dX4_strikes_10 : decode cX4_strikes 10 = .ok (.iconst (-1), 1) := by decide +kernel
theorem dX4_strikes_11 : decode cX4_strikes 11 = .ok (.if_icmp .ne 13, 3) := by decide +kernel
theorem dX4_strikes_14 : decode cX4_strikes 14 = .ok (.new 61, 3) := by decide +kernel
theorem dX4_strikes_17 : decode cX4_strikes 17 = .ok (.dup, 1) := by decide +kernel
theorem dX4_strikes_18 : decode cX4_strikes 18 = .ok (.ldc 141, 2) := by decide +kernel
theorem dX4_strikes_20 : decode cX4_strikes 20 = .ok (.invokespecial 65, 3) := by decide +kernel
theorem dX4_strikes_23 : decode cX4_strikes 23 = .ok (.athrow, 1) := by decide +kernel
theorem dX4_strikes_24 : decode cX4_strikes 24 = .ok (.iload_n 2, 1) := by decide +kernel
theorem dX4_strikes_25 : decode cX4_strikes 25 = .ok (.ireturn, 1) := by decide +kernel
set_option maxRecDepth 20000 in
theorem ggX4_fragmentLength_X1_fragment : GoodIn wsX4_fragmentLength wsX1_fragment := goodIn_r _ [6, 7, 15, 16, 17, 18, 19, 20] (by decide +kernel) (by decide +kernel)
set_option maxRecDepth 20000 in
theorem gX4_fragmentLength_X1_fragment : GoodIn wsX4_fragmentLength (wsV RX4 113 RX1 yX1_fragment wsX1_fragment) := goodIn_app (goodIn_of _ (by decide +kernel)) ggX4_fragmentLength_X1_fragment
set_option maxRecDepth 20000 in
theorem ggX4_fragmentLength_X2_lengthOf : GoodIn wsX4_fragmentLength wsX2_lengthOf := goodIn_r _ [11] (by decide +kernel) (by decide +kernel)
set_option maxRecDepth 20000 in
theorem gX4_fragmentLength_X2_lengthOf : GoodIn wsX4_fragmentLength (va_wsS RX4 53 yX2_lengthOf wsX2_lengthOf) := goodIn_app (goodIn_of _ (by decide +kernel)) ggX4_fragmentLength_X2_lengthOf
theorem dX4_fragmentLength_0 : decode cX4_fragmentLength 0 = .ok (.aload_n 0, 1) := by decide +kernel
theorem dX4_fragmentLength_1 : decode cX4_fragmentLength 1 = .ok (.getfield 19, 3) := by decide +kernel
theorem dX4_fragmentLength_4 : decode cX4_fragmentLength 4 = .ok (.invokevirtual 113, 3) := by decide +kernel
theorem dX4_fragmentLength_7 : decode cX4_fragmentLength 7 = .ok (.invokestatic 53, 3) := by decide +kernel
theorem dX4_fragmentLength_10 : decode cX4_fragmentLength 10 = .ok (.ireturn, 1) := by decide +kernel
set_option maxRecDepth 20000 in
theorem ggX4_fragmentAt_X1_fragment : GoodIn wsX4_fragmentAt wsX1_fragment := goodIn_r _ [8, 9, 20, 21, 22, 23, 24, 25] (by decide +kernel) (by decide +kernel)
set_option maxRecDepth 20000 in
theorem gX4_fragmentAt_X1_fragment : GoodIn wsX4_fragmentAt (wsV RX4 113 RX1 yX1_fragment wsX1_fragment) := goodIn_app (goodIn_of _ (by decide +kernel)) ggX4_fragmentAt_X1_fragment
set_option maxRecDepth 20000 in
theorem ggX4_fragmentAt_X2_letterAt : GoodIn wsX4_fragmentAt wsX2_letterAt := goodIn_r _ [13, 14, 15, 12, 16] (by decide +kernel) (by decide +kernel)
set_option maxRecDepth 20000 in
theorem gX4_fragmentAt_X2_letterAt : GoodIn wsX4_fragmentAt (va_wsS RX4 57 yX2_letterAt wsX2_letterAt) := goodIn_app (goodIn_of _ (by decide +kernel)) ggX4_fragmentAt_X2_letterAt
theorem dX4_fragmentAt_0 : decode cX4_fragmentAt 0 = .ok (.aload_n 0, 1) := by decide +kernel
theorem dX4_fragmentAt_1 : decode cX4_fragmentAt 1 = .ok (.getfield 19, 3) := by decide +kernel
theorem dX4_fragmentAt_4 : decode cX4_fragmentAt 4 = .ok (.invokevirtual 113, 3) := by decide +kernel
theorem dX4_fragmentAt_7 : decode cX4_fragmentAt 7 = .ok (.iload_n 1, 1) := by decide +kernel
theorem dX4_fragmentAt_8 : decode cX4_fragmentAt 8 = .ok (.invokestatic 57, 3) := by decide +kernel
theorem dX4_fragmentAt_11 : decode cX4_fragmentAt 11 = .ok (.istore_n 2, 1) := by decide +kernel
theorem dX4_fragmentAt_12 : decode cX4_fragmentAt 12 = .ok (.iload_n 2, 1) := by decide +kernel
theorem dX4_fragmentAt_13 : decode cX4_fragmentAt 13 = .ok (.iconst (-1), 1) := by decide +kernel
theorem dX4_fragmentAt_14 : decode cX4_fragmentAt 14 = .ok (.if_icmp .ne 13, 3) := by decide +kernel
theorem dX4_fragmentAt_17 : decode cX4_fragmentAt 17 = .ok (.new 61, 3) := by decide +kernel
theorem dX4_fragmentAt_20 : decode cX4_fragmentAt 20 = .ok (.dup, 1) := by decide +kernel
theorem dX4_fragmentAt_21 : decode cX4_fragmentAt 21 = .ok (.ldc 143, 2) := by decide +kernel
theorem dX4_fragmentAt_23 : decode cX4_fragmentAt 23 = .ok (.invokespecial 65, 3) := by decide +kernel
theorem dX4_fragmentAt_26 : decode cX4_fragmentAt 26 = .ok (.athrow, 1) := by decide +kernel
theorem dX4_fragmentAt_27 : decode cX4_fragmentAt 27 = .ok (.iload_n 2, 1) := by decide +kernel
theorem dX4_fragmentAt_28 : decode cX4_fragmentAt 28 = .ok (.ireturn, 1) := by decide +kernel
set_option maxRecDepth 20000 in
theorem ggX4_openLetters_X1_fragment : GoodIn wsX4_openLetters wsX1_fragment := goodIn_r _ [7, 8, 48, 49, 50, 51, 52, 53] (by decide +kernel) (by decide +kernel)
set_option maxRecDepth 20000 in
theorem gX4_openLetters_X1_fragment : GoodIn wsX4_openLetters (wsV RX4 113 RX1 yX1_fragment wsX1_fragment) := goodIn_app (goodIn_of _ (by decide +kernel)) ggX4_openLetters_X1_fragment
set_option maxRecDepth 20000 in
theorem ggX4_openLetters_X3_lettersOpenBehind : GoodIn wsX4_openLetters wsX3_lettersOpenBehind := goodIn_r _ [12, 13, 14, 15, 16, 17, 18, 19, 20, 21, 22, 23, 24, 25, 11, 26, 27, 28, 29, 30, 31, 32, 33, 34, 35, 36, 37, 38, 39, 40, 41, 42, 43, 44, 54, 55, 56] (by decide +kernel) (by decide +kernel)
set_option maxRecDepth 20000 in
theorem gX4_openLetters_X3_lettersOpenBehind : GoodIn wsX4_openLetters (va_wsS RX4 145 yX3_lettersOpenBehind wsX3_lettersOpenBehind) := goodIn_app (goodIn_of _ (by decide +kernel)) ggX4_openLetters_X3_lettersOpenBehind
theorem dX4_openLetters_0 : decode cX4_openLetters 0 = .ok (.aload_n 0, 1) := by decide +kernel
theorem dX4_openLetters_1 : decode cX4_openLetters 1 = .ok (.getfield 10, 3) := by decide +kernel
theorem dX4_openLetters_4 : decode cX4_openLetters 4 = .ok (.aload_n 0, 1) := by decide +kernel
theorem dX4_openLetters_5 : decode cX4_openLetters 5 = .ok (.getfield 19, 3) := by decide +kernel
theorem dX4_openLetters_8 : decode cX4_openLetters 8 = .ok (.invokevirtual 113, 3) := by decide +kernel
theorem dX4_openLetters_11 : decode cX4_openLetters 11 = .ok (.invokestatic 145, 3) := by decide +kernel
theorem dX4_openLetters_14 : decode cX4_openLetters 14 = .ok (.ireturn, 1) := by decide +kernel
set_option maxRecDepth 20000 in
theorem ggX4_winningLetters_X1_fragment : GoodIn wsX4_winningLetters wsX1_fragment := goodIn_r _ [7, 8, 86, 87, 88, 89, 90, 91] (by decide +kernel) (by decide +kernel)
set_option maxRecDepth 20000 in
theorem gX4_winningLetters_X1_fragment : GoodIn wsX4_winningLetters (wsV RX4 113 RX1 yX1_fragment wsX1_fragment) := goodIn_app (goodIn_of _ (by decide +kernel)) ggX4_winningLetters_X1_fragment
set_option maxRecDepth 20000 in
theorem ggX4_winningLetters_X3_lettersWinningBehind : GoodIn wsX4_winningLetters wsX3_lettersWinningBehind := goodIn_r _ [12, 13, 14, 11, 15, 16, 17, 18, 19, 20, 21, 22, 23, 24, 25, 26, 27, 28, 29, 30, 31, 32, 33, 34, 35, 36, 37, 38, 39, 40, 41, 42, 43, 44, 45, 46, 47, 48, 49, 50, 51, 52, 53, 54, 55, 56, 57, 58, 59, 60, 61, 62, 63, 64, 65, 66, 67, 68, 69, 70, 71, 72, 73, 74, 75, 76, 77, 78, 79, 80, 81, 82, 92, 93, 94] (by decide +kernel) (by decide +kernel)
set_option maxRecDepth 20000 in
theorem gX4_winningLetters_X3_lettersWinningBehind : GoodIn wsX4_winningLetters (va_wsS RX4 151 yX3_lettersWinningBehind wsX3_lettersWinningBehind) := goodIn_app (goodIn_of _ (by decide +kernel)) ggX4_winningLetters_X3_lettersWinningBehind
theorem dX4_winningLetters_0 : decode cX4_winningLetters 0 = .ok (.aload_n 0, 1) := by decide +kernel
theorem dX4_winningLetters_1 : decode cX4_winningLetters 1 = .ok (.getfield 10, 3) := by decide +kernel
theorem dX4_winningLetters_4 : decode cX4_winningLetters 4 = .ok (.aload_n 0, 1) := by decide +kernel
theorem dX4_winningLetters_5 : decode cX4_winningLetters 5 = .ok (.getfield 19, 3) := by decide +kernel
theorem dX4_winningLetters_8 : decode cX4_winningLetters 8 = .ok (.invokevirtual 113, 3) := by decide +kernel
theorem dX4_winningLetters_11 : decode cX4_winningLetters 11 = .ok (.invokestatic 151, 3) := by decide +kernel
theorem dX4_winningLetters_14 : decode cX4_winningLetters 14 = .ok (.ireturn, 1) := by decide +kernel
set_option maxRecDepth 20000 in
theorem ggX4_canWin_X1_fragment : GoodIn wsX4_canWin wsX1_fragment := goodIn_r _ [7, 8, 86, 87, 88, 89, 90, 91] (by decide +kernel) (by decide +kernel)
set_option maxRecDepth 20000 in
theorem gX4_canWin_X1_fragment : GoodIn wsX4_canWin (wsV RX4 113 RX1 yX1_fragment wsX1_fragment) := goodIn_app (goodIn_of _ (by decide +kernel)) ggX4_canWin_X1_fragment
set_option maxRecDepth 20000 in
theorem ggX4_canWin_X3_moverWins : GoodIn wsX4_canWin wsX3_moverWins := goodIn_r _ [12, 13, 14, 11, 15, 16, 17, 18, 19, 20, 21, 22, 23, 24, 25, 26, 27, 28, 29, 30, 31, 32, 33, 34, 35, 36, 37, 38, 39, 40, 41, 42, 43, 44, 45, 46, 47, 48, 49, 50, 51, 52, 53, 54, 55, 56, 57, 58, 59, 60, 61, 62, 63, 64, 65, 66, 67, 68, 69, 70, 71, 72, 73, 74, 75, 76, 77, 78, 79, 80, 81, 82, 92, 93, 94] (by decide +kernel) (by decide +kernel)
set_option maxRecDepth 20000 in
theorem gX4_canWin_X3_moverWins : GoodIn wsX4_canWin (va_wsS RX4 154 yX3_moverWins wsX3_moverWins) := goodIn_app (goodIn_of _ (by decide +kernel)) ggX4_canWin_X3_moverWins
theorem dX4_canWin_0 : decode cX4_canWin 0 = .ok (.aload_n 0, 1) := by decide +kernel
theorem dX4_canWin_1 : decode cX4_canWin 1 = .ok (.getfield 10, 3) := by decide +kernel
theorem dX4_canWin_4 : decode cX4_canWin 4 = .ok (.aload_n 0, 1) := by decide +kernel
theorem dX4_canWin_5 : decode cX4_canWin 5 = .ok (.getfield 19, 3) := by decide +kernel
theorem dX4_canWin_8 : decode cX4_canWin 8 = .ok (.invokevirtual 113, 3) := by decide +kernel
theorem dX4_canWin_11 : decode cX4_canWin 11 = .ok (.invokestatic 154, 3) := by decide +kernel
theorem dX4_canWin_14 : decode cX4_canWin 14 = .ok (.ireturn, 1) := by decide +kernel
set_option maxRecDepth 20000 in
theorem ggX4_end_X1_fragment : GoodIn wsX4_end wsX1_fragment := goodIn_r _ [7, 8, 89, 90, 91, 92, 93, 94] (by decide +kernel) (by decide +kernel)
set_option maxRecDepth 20000 in
theorem gX4_end_X1_fragment : GoodIn wsX4_end (wsV RX4 113 RX1 yX1_fragment wsX1_fragment) := goodIn_app (goodIn_of _ (by decide +kernel)) ggX4_end_X1_fragment
set_option maxRecDepth 20000 in
theorem ggX4_end_X3_endBehind : GoodIn wsX4_end wsX3_endBehind := goodIn_r _ [12, 13, 14, 15, 16, 17, 18, 11, 19, 20, 21, 22, 23, 24, 25, 26, 27, 28, 29, 30, 31, 32, 33, 34, 35, 36, 37, 38, 39, 40, 41, 42, 43, 44, 45, 46, 47, 48, 49, 50, 51, 52, 53, 54, 55, 56, 57, 58, 59, 60, 61, 62, 63, 64, 65, 66, 67, 68, 69, 70, 71, 72, 73, 74, 75, 76, 77, 78, 79, 80, 81, 82, 83, 84, 85, 95, 96, 97] (by decide +kernel) (by decide +kernel)
set_option maxRecDepth 20000 in
theorem gX4_end_X3_endBehind : GoodIn wsX4_end (va_wsS RX4 158 yX3_endBehind wsX3_endBehind) := goodIn_app (goodIn_of _ (by decide +kernel)) ggX4_end_X3_endBehind
theorem dX4_end_0 : decode cX4_end 0 = .ok (.aload_n 0, 1) := by decide +kernel
theorem dX4_end_1 : decode cX4_end 1 = .ok (.getfield 10, 3) := by decide +kernel
theorem dX4_end_4 : decode cX4_end 4 = .ok (.aload_n 0, 1) := by decide +kernel
theorem dX4_end_5 : decode cX4_end 5 = .ok (.getfield 19, 3) := by decide +kernel
theorem dX4_end_8 : decode cX4_end 8 = .ok (.invokevirtual 113, 3) := by decide +kernel
theorem dX4_end_11 : decode cX4_end 11 = .ok (.invokestatic 158, 3) := by decide +kernel
theorem dX4_end_14 : decode cX4_end 14 = .ok (.ireturn, 1) := by decide +kernel
set_option maxRecDepth 20000 in
theorem ggX4_bestLetter_X1_fragment : GoodIn wsX4_bestLetter wsX1_fragment := goodIn_r _ [7, 8, 86, 87, 88, 89, 90, 91] (by decide +kernel) (by decide +kernel)
set_option maxRecDepth 20000 in
theorem gX4_bestLetter_X1_fragment : GoodIn wsX4_bestLetter (wsV RX4 113 RX1 yX1_fragment wsX1_fragment) := goodIn_app (goodIn_of _ (by decide +kernel)) ggX4_bestLetter_X1_fragment
set_option maxRecDepth 20000 in
theorem ggX4_bestLetter_X3_letterChosenBehind : GoodIn wsX4_bestLetter wsX3_letterChosenBehind := goodIn_r _ [12, 13, 14, 11, 15, 16, 17, 18, 19, 20, 21, 22, 23, 24, 25, 26, 27, 28, 29, 30, 31, 32, 33, 34, 35, 36, 37, 38, 39, 40, 41, 42, 43, 44, 45, 46, 47, 48, 49, 50, 51, 52, 53, 54, 55, 56, 57, 58, 59, 60, 61, 62, 63, 64, 65, 66, 67, 68, 69, 70, 71, 72, 73, 74, 75, 76, 77, 78, 79, 80, 81, 82, 92, 93, 94] (by decide +kernel) (by decide +kernel)
set_option maxRecDepth 20000 in
theorem gX4_bestLetter_X3_letterChosenBehind : GoodIn wsX4_bestLetter (va_wsS RX4 161 yX3_letterChosenBehind wsX3_letterChosenBehind) := goodIn_app (goodIn_of _ (by decide +kernel)) ggX4_bestLetter_X3_letterChosenBehind
theorem dX4_bestLetter_0 : decode cX4_bestLetter 0 = .ok (.aload_n 0, 1) := by decide +kernel
theorem dX4_bestLetter_1 : decode cX4_bestLetter 1 = .ok (.getfield 10, 3) := by decide +kernel
theorem dX4_bestLetter_4 : decode cX4_bestLetter 4 = .ok (.aload_n 0, 1) := by decide +kernel
theorem dX4_bestLetter_5 : decode cX4_bestLetter 5 = .ok (.getfield 19, 3) := by decide +kernel
theorem dX4_bestLetter_8 : decode cX4_bestLetter 8 = .ok (.invokevirtual 113, 3) := by decide +kernel
theorem dX4_bestLetter_11 : decode cX4_bestLetter 11 = .ok (.invokestatic 161, 3) := by decide +kernel
theorem dX4_bestLetter_14 : decode cX4_bestLetter 14 = .ok (.ireturn, 1) := by decide +kernel
set_option maxRecDepth 20000 in
theorem ggX4_waysToPlay_X1_fragment : GoodIn wsX4_waysToPlay wsX1_fragment := goodIn_r _ [7, 8, 67, 68, 69, 70, 71, 72] (by decide +kernel) (by decide +kernel)
set_option maxRecDepth 20000 in
theorem gX4_waysToPlay_X1_fragment : GoodIn wsX4_waysToPlay (wsV RX4 113 RX1 yX1_fragment wsX1_fragment) := goodIn_app (goodIn_of _ (by decide +kernel)) ggX4_waysToPlay_X1_fragment
set_option maxRecDepth 20000 in
theorem ggX4_waysToPlay_X3_countWays : GoodIn wsX4_waysToPlay wsX3_countWays := goodIn_r _ [12, 13, 14, 15, 16, 17, 18, 19, 20, 21, 22, 23, 24, 25, 11, 26, 27, 28, 29, 30, 31, 32, 33, 34, 35, 36, 37, 38, 39, 40, 41, 42, 43, 44, 45, 46, 47, 48, 49, 50, 51, 52, 53, 54, 55, 56, 57, 58, 59, 60, 61, 62, 63, 73, 74, 75] (by decide +kernel) (by decide +kernel)
set_option maxRecDepth 20000 in
theorem gX4_waysToPlay_X3_countWays : GoodIn wsX4_waysToPlay (va_wsS RX4 164 yX3_countWays wsX3_countWays) := goodIn_app (goodIn_of _ (by decide +kernel)) ggX4_waysToPlay_X3_countWays
theorem dX4_waysToPlay_0 : decode cX4_waysToPlay 0 = .ok (.aload_n 0, 1) := by decide +kernel
theorem dX4_waysToPlay_1 : decode cX4_waysToPlay 1 = .ok (.getfield 10, 3) := by decide +kernel
theorem dX4_waysToPlay_4 : decode cX4_waysToPlay 4 = .ok (.aload_n 0, 1) := by decide +kernel
theorem dX4_waysToPlay_5 : decode cX4_waysToPlay 5 = .ok (.getfield 19, 3) := by decide +kernel
theorem dX4_waysToPlay_8 : decode cX4_waysToPlay 8 = .ok (.invokevirtual 113, 3) := by decide +kernel
theorem dX4_waysToPlay_11 : decode cX4_waysToPlay 11 = .ok (.invokestatic 164, 3) := by decide +kernel
theorem dX4_waysToPlay_14 : decode cX4_waysToPlay 14 = .ok (.ireturn, 1) := by decide +kernel
set_option maxRecDepth 20000 in
theorem ggX4_waysToWin_X1_fragment : GoodIn wsX4_waysToWin wsX1_fragment := goodIn_r _ [7, 8, 70, 71, 72, 73, 74, 75] (by decide +kernel) (by decide +kernel)
set_option maxRecDepth 20000 in
theorem gX4_waysToWin_X1_fragment : GoodIn wsX4_waysToWin (wsV RX4 113 RX1 yX1_fragment wsX1_fragment) := goodIn_app (goodIn_of _ (by decide +kernel)) ggX4_waysToWin_X1_fragment
set_option maxRecDepth 20000 in
theorem ggX4_waysToWin_X3_countWonWays : GoodIn wsX4_waysToWin wsX3_countWonWays := goodIn_r _ [12, 13, 14, 15, 16, 17, 18, 19, 20, 21, 22, 23, 24, 25, 11, 26, 27, 28, 29, 30, 31, 32, 33, 34, 35, 36, 37, 38, 39, 40, 41, 42, 43, 44, 45, 46, 47, 48, 49, 50, 51, 52, 53, 54, 55, 56, 57, 58, 59, 60, 61, 62, 63, 64, 65, 66, 76, 77, 78] (by decide +kernel) (by decide +kernel)
set_option maxRecDepth 20000 in
theorem gX4_waysToWin_X3_countWonWays : GoodIn wsX4_waysToWin (va_wsS RX4 167 yX3_countWonWays wsX3_countWonWays) := goodIn_app (goodIn_of _ (by decide +kernel)) ggX4_waysToWin_X3_countWonWays
theorem dX4_waysToWin_0 : decode cX4_waysToWin 0 = .ok (.aload_n 0, 1) := by decide +kernel
theorem dX4_waysToWin_1 : decode cX4_waysToWin 1 = .ok (.getfield 10, 3) := by decide +kernel
theorem dX4_waysToWin_4 : decode cX4_waysToWin 4 = .ok (.aload_n 0, 1) := by decide +kernel
theorem dX4_waysToWin_5 : decode cX4_waysToWin 5 = .ok (.getfield 19, 3) := by decide +kernel
theorem dX4_waysToWin_8 : decode cX4_waysToWin 8 = .ok (.invokevirtual 113, 3) := by decide +kernel
theorem dX4_waysToWin_11 : decode cX4_waysToWin 11 = .ok (.invokestatic 167, 3) := by decide +kernel
theorem dX4_waysToWin_14 : decode cX4_waysToWin 14 = .ok (.ireturn, 1) := by decide +kernel
theorem dX4_isLetter_0 : decode cX4_isLetter 0 = .ok (.iload_n 0, 1) := by decide +kernel
theorem dX4_isLetter_1 : decode cX4_isLetter 1 = .ok (.ifCond .lt 13, 3) := by decide +kernel
theorem dX4_isLetter_4 : decode cX4_isLetter 4 = .ok (.iload_n 0, 1) := by decide +kernel
theorem dX4_isLetter_5 : decode cX4_isLetter 5 = .ok (.bipush 26, 2) := by decide +kernel
theorem dX4_isLetter_7 : decode cX4_isLetter 7 = .ok (.if_icmp .ge 7, 3) := by decide +kernel
theorem dX4_isLetter_10 : decode cX4_isLetter 10 = .ok (.iconst 1, 1) := by decide +kernel
theorem dX4_isLetter_11 : decode cX4_isLetter 11 = .ok (.goto 4, 3) := by decide +kernel
theorem dX4_isLetter_14 : decode cX4_isLetter 14 = .ok (.iconst 0, 1) := by decide +kernel
theorem dX4_isLetter_15 : decode cX4_isLetter 15 = .ok (.ireturn, 1) := by decide +kernel
end
section
theorem rl_pos {P : Nat} (h : RV P) (hn : ¬ P = 0) : 0 < rwL P := by
  rcases Nat.eq_zero_or_pos (rwL P) with q | q
  · have h1 := h.2.1
    rw [q, Nat.pow_zero] at h1
    have h2 := rk_e P
    rw [q] at h2
    unfold rwK at h2
    omega
  · exact q
abbrev rm_X4_isLetter : Room := { frames := 0, cells := 0, slots := 0, locals := 0 }
set_option maxHeartbeats 4000000 in
set_option maxRecDepth 100000 in
theorem c_X4_isLetter (l : Launch) (x : Int32) : Pi l yX4_isLetter wsX4_isLetter rm_X4_isLetter [.int (x)] (fun r => Bv r (∃ a : Nat, a < 26 ∧ nI a = x)) := by
  intro g
  refine Ci.ofZ (cc := cX4_isLetter) (maxL := 1) (by decide) rfl (Nat.le_of_ble_eq_true rfl) ?_
  intro p e s m args below meth c A Z hx hb hml hts hown hK hA hret H locs ls hP hD hS hl
  have hl : lv_has ls 1 [(0, .int (x))] := hl
  refine lv_iload_n hx hb dX4_isLetter_0 rfl (lv_at hl 0 rfl) ?_
  refine lv_if_lt (tgt := 14) hx hb dX4_isLetter_1 (by decide) (fun c_1_1 => ?_) (fun c_1_1 => ?_)
  · skip
    have nj : ¬ (∃ a : Nat, a < 26 ∧ nI a = x) := by
      rintro ⟨j, hj, rfl⟩
      exact nI_pos (by omega) c_1_1
    refine lv_iconst (v := nI 0) hx hb dX4_isLetter_14 (by decide) ?_
    exact hret (nI (0)) [] _ _ _ _ dX4_isLetter_15 (Or.inl rfl) (⟨rfl, Bv.no nj⟩) hP hD hS
  · skip
    refine lv_iload_n hx hb dX4_isLetter_4 rfl (lv_at hl 0 rfl) ?_
    refine lv_bipush (v := nI 26) hx hb dX4_isLetter_5 (by decide) ?_
    refine lv_icmp_ge (tgt := 14) hx hb dX4_isLetter_7 (by decide) (fun c_7_2 => ?_) (fun c_7_2 => ?_)
    · skip
      have nj : ¬ (∃ a : Nat, a < 26 ∧ nI a = x) := by
        rintro ⟨j, hj, rfl⟩
        have := (nI_leI (by omega) (by omega)).mp c_7_2
        omega
      refine lv_iconst (v := nI 0) hx hb dX4_isLetter_14 (by decide) ?_
      exact hret (nI (0)) [] _ _ _ _ dX4_isLetter_15 (Or.inl rfl) (⟨rfl, Bv.no nj⟩) hP hD hS
    · skip
      have nj : (∃ a : Nat, a < 26 ∧ nI a = x) := by
        rcases pk_ix x (n := 26) (by omega) with h | h | ⟨j, h1, h2⟩
        · exact absurd h c_1_1
        · exact absurd h c_7_2
        · exact ⟨j, h1, h2.symm⟩
      refine lv_iconst (v := nI 1) hx hb dX4_isLetter_10 (by decide) ?_
      refine lv_goto (tgt := 15) hx hb dX4_isLetter_11 (by decide) ?_
      exact hret (nI (1)) [] _ _ _ _ dX4_isLetter_15 (Or.inr rfl) (⟨rfl, Bv.yes nj⟩) hP hD hS

abbrev rm_X4_slipLength : Room := { frames := 1, cells := 0, slots := 0, locals := 21 }
set_option maxHeartbeats 4000000 in
set_option maxRecDepth 100000 in
theorem c_X4_slipLength (l : Launch) (g : GG) (x q u d v : Nat) (SL : Nat) (k : Nat → Int32) (K : Nat → Nat) (np : Nat) (mv lm ch : Int32) (F : Nat) (f : Nat → Int64) (S : Nat → Nat) (cnt ll : Nat) (hSL : RV SL) (hF : RV F) (hk : GK k K) (hp : np ≤ 4) (hf : DR f S cnt) (hc : cnt ≤ 50) (hll : ll ≤ 10) : Ci l yX4_slipLength wsX4_slipLength rm_X4_slipLength g [.ref (x)] (FW g x (lN SL) q u k (nI np) mv lm ch (lN F) d v f (nI cnt) (nI ll)) (fun r w => w = (FW g x (lN SL) q u k (nI np) mv lm ch (lN F) d v f (nI cnt) (nI ll)) ∧ r = nI (rwL SL)) := by
  refine Ci.ofI (cc := cX4_slipLength) (maxL := 1) (by decide) rfl (Nat.le_of_ble_eq_true rfl) ?_
  intro p e s m args below meth c A Z hx hb hml hts hown hK hA hret H locs ls hP hD hS hl
  have f_25 := hts (.fieldLink RX4 25 "GhostGame" "slip" "J") (by decide +kernel)
  have hi_2 : ∀ w ∈ wsX40, w ∈ wsX4_slipLength := by decide +kernel
  have hl : lv_has ls 1 [(0, .ref (x))] := hl
  refine lv_aload_n hx hb dX4_slipLength_0 rfl (lv_at hl 0 rfl) ?_
  refine va_get (D := g.1) (ci := 2) (v := .long (lN (SL))) (C := RX4) (T := TX4) (N := 3) hx hb hts hi_2 hown hK hP 0 rfl rfl 2 (by decide) f_25 (fun _ h9 => h9) rfl dX4_slipLength_1 ?_
  refine call_iP (As := [.long (lN (SL))]) (rest := []) ⟨hx, hb, hml, hown, hts⟩ (c_X2_lengthOf l SL (hSL).lt) (va_cwS 1 hts gX4_slipLength_X2_lengthOf rfl rfl rfl (by decide +kernel) ⟨Nat.le_of_ble_eq_true rfl, Nat.le_of_ble_eq_true rfl⟩) hP hK hD hS hA rfl hl.1 rfl (Nat.le_of_ble_eq_true rfl) dX4_slipLength_4 ⟨Nat.le_refl _, Nat.le_refl _⟩ (fun r_4 H locs h_4 hP hD hS => ?_)
  subst h_4
  exact hret (nI (rwL SL)) (FW g x (lN SL) q u k (nI np) mv lm ch (lN F) d v f (nI cnt) (nI ll)) _ _ _ _ dX4_slipLength_7 (⟨rfl, rfl⟩) hP hD hS

abbrev rm_X4_fragmentLength : Room := { frames := 1, cells := 0, slots := 0, locals := 21 }
set_option maxHeartbeats 4000000 in
set_option maxRecDepth 100000 in
theorem c_X4_fragmentLength (l : Launch) (g : GG) (x q u d v : Nat) (SL : Nat) (k : Nat → Int32) (K : Nat → Nat) (np : Nat) (mv lm ch : Int32) (F : Nat) (f : Nat → Int64) (S : Nat → Nat) (cnt ll : Nat) (hSL : RV SL) (hF : RV F) (hk : GK k K) (hp : np ≤ 4) (hf : DR f S cnt) (hc : cnt ≤ 50) (hll : ll ≤ 10) : Ci l yX4_fragmentLength wsX4_fragmentLength rm_X4_fragmentLength g [.ref (x)] (FW g x (lN SL) q u k (nI np) mv lm ch (lN F) d v f (nI cnt) (nI ll)) (fun r w => w = (FW g x (lN SL) q u k (nI np) mv lm ch (lN F) d v f (nI cnt) (nI ll)) ∧ r = nI (rwL F)) := by
  refine Ci.ofI (cc := cX4_fragmentLength) (maxL := 1) (by decide) rfl (Nat.le_of_ble_eq_true rfl) ?_
  intro p e s m args below meth c A Z hx hb hml hts hown hK hA hret H locs ls hP hD hS hl
  have f_19 := hts (.fieldLink RX4 19 "GhostGame" "game" "LGhostGame$Game;") (by decide +kernel)
  have hi_2 : ∀ w ∈ wsX40, w ∈ wsX4_fragmentLength := by decide +kernel
  have hl : lv_has ls 1 [(0, .ref (x))] := hl
  refine lv_aload_n hx hb dX4_fragmentLength_0 rfl (lv_at hl 0 rfl) ?_
  refine va_get (D := g.1) (ci := 2) (v := .ref (q)) (C := RX4) (T := TX4) (N := 3) hx hb hts hi_2 hown hK hP 0 rfl rfl 1 (by decide) f_19 (fun _ h9 => h9) rfl dX4_fragmentLength_1 ?_
  refine call_lV (As := []) (rest := []) (wr := [(x, .inr (2, [.ref (d), .ref (q), .long (lN (SL))])), (d, .inr (0, [.ref (v), .int (nI (cnt)), .int (nI (ll))])), (v, .inl (g.2.2.1, 50, .inr (.inl (f))))]) ⟨hx, hb, hml, hown, hts⟩ (c_X1_fragment l g q u k (nI np) mv lm ch (lN F)) (cwV 0 hts gX4_fragmentLength_X1_fragment rfl rfl rfl (by decide +kernel) ⟨Nat.le_of_ble_eq_true rfl, Nat.le_of_ble_eq_true rfl⟩) hP hK hD hS hA [1, 2] [0, 3, 4] rfl rfl (by decide) (by decide) (by decide) 0 rfl rfl rfl rfl hl.1 rfl (Nat.le_of_ble_eq_true rfl) dX4_fragmentLength_4 ⟨Nat.le_refl _, Nat.le_refl _⟩ (fun r_4 w H locs h_4 hP hD hS => ?_)
  obtain ⟨rfl, h_4⟩ := h_4
  subst h_4
  have hP := hP.sub [0, 3, 4, 1, 2] (ws' := (FW g x (lN SL) q u k (nI np) mv lm ch (lN F) d v f (nI cnt) (nI ll))) rfl
  have hD := hD.sub [0, 3, 4, 1, 2] (ws' := (FW g x (lN SL) q u k (nI np) mv lm ch (lN F) d v f (nI cnt) (nI ll))) (by decide) rfl
  have hP : va_P g.1 vwCl (FW g x (lN SL) q u k (nI np) mv lm ch (lN F) d v f (nI cnt) (nI ll)) H := hP
  have hD : va_D A (FW g x (lN SL) q u k (nI np) mv lm ch (lN F) d v f (nI cnt) (nI ll)) := hD
  refine call_iP (As := [.long (lN (F))]) (rest := []) ⟨hx, hb, hml, hown, hts⟩ (c_X2_lengthOf l F (hF).lt) (va_cwS 1 hts gX4_fragmentLength_X2_lengthOf rfl rfl rfl (by decide +kernel) ⟨Nat.le_of_ble_eq_true rfl, Nat.le_of_ble_eq_true rfl⟩) hP hK hD hS hA rfl hl.1 rfl (Nat.le_of_ble_eq_true rfl) dX4_fragmentLength_7 ⟨Nat.le_refl _, Nat.le_refl _⟩ (fun r_7 H locs h_7 hP hD hS => ?_)
  subst h_7
  exact hret (nI (rwL F)) (FW g x (lN SL) q u k (nI np) mv lm ch (lN F) d v f (nI cnt) (nI ll)) _ _ _ _ dX4_fragmentLength_10 (⟨rfl, rfl⟩) hP hD hS

abbrev rm_X4_wipe : Room := { frames := 1, cells := 0, slots := 0, locals := 21 }
set_option maxHeartbeats 4000000 in
set_option maxRecDepth 100000 in
theorem c_X4_wipe (l : Launch) (g : GG) (x q u d v : Nat) (SL : Nat) (k : Nat → Int32) (K : Nat → Nat) (np : Nat) (mv lm ch : Int32) (F : Nat) (f : Nat → Int64) (S : Nat → Nat) (cnt ll : Nat) (hSL : RV SL) (hF : RV F) (hk : GK k K) (hp : np ≤ 4) (hf : DR f S cnt) (hc : cnt ≤ 50) (hll : ll ≤ 10) : Ci l yX4_wipe wsX4_wipe rm_X4_wipe g [.ref (x)] (FW g x (lN SL) q u k (nI np) mv lm ch (lN F) d v f (nI cnt) (nI ll)) (fun r w => w = (FW g x (lN 0) q u k (nI np) mv lm ch (lN F) d v f (nI cnt) (nI ll)) ∧ r = nI (rwL SL)) := by
  refine Ci.ofI (cc := cX4_wipe) (maxL := 2) (by decide) rfl (Nat.le_of_ble_eq_true rfl) ?_
  intro p e s m args below meth c A Z hx hb hml hts hown hK hA hret H locs ls hP hD hS hl
  have f_25 := hts (.fieldLink RX4 25 "GhostGame" "slip" "J") (by decide +kernel)
  have hi_2 : ∀ w ∈ wsX40, w ∈ wsX4_wipe := by decide +kernel
  have hl : lv_has ls 2 [(0, .ref (x))] := hl
  refine lv_aload_n hx hb dX4_wipe_0 rfl (lv_at hl 0 rfl) ?_
  refine va_get (D := g.1) (ci := 2) (v := .long (lN (SL))) (C := RX4) (T := TX4) (N := 3) hx hb hts hi_2 hown hK hP 0 rfl rfl 2 (by decide) f_25 (fun _ h9 => h9) rfl dX4_wipe_1 ?_
  refine call_iP (As := [.long (lN (SL))]) (rest := []) ⟨hx, hb, hml, hown, hts⟩ (c_X2_lengthOf l SL (hSL).lt) (va_cwS 1 hts gX4_wipe_X2_lengthOf rfl rfl rfl (by decide +kernel) ⟨Nat.le_of_ble_eq_true rfl, Nat.le_of_ble_eq_true rfl⟩) hP hK hD hS hA rfl hl.1 rfl (Nat.le_of_ble_eq_true rfl) dX4_wipe_4 ⟨Nat.le_refl _, Nat.le_refl _⟩ (fun r_4 H locs h_4 hP hD hS => ?_)
  subst h_4
  refine lv_istore_n (lv' := [(1, .int (nI (rwL SL))), (0, .ref (x))]) hx hb dX4_wipe_7 rfl hl (by decide) rfl (fun ls hl => ?_)
  refine lv_aload_n hx hb dX4_wipe_8 rfl (lv_at hl 1 rfl) ?_
  refine lv_lconst (v := lN 0) hx hb dX4_wipe_9 (by decide) ?_
  refine va_put (D := g.1) (ci := 2) (v := .long (lN (0))) (ty := .long) (C := RX4) (T := TX4) (N := 3) hx hb hts hi_2 tyX4 tyX4_ok nmX4 hown hK hP hD hS 0 rfl rfl 2 (by decide) f_25 (fun _ h9 => h9) rfl (by decide +kernel) rfl rfl (Nat.le_of_ble_eq_true rfl) dX4_wipe_10 (fun H locs hP hD hS => ?_)
  have hP : va_P g.1 vwCl (FW g x (lN 0) q u k (nI np) mv lm ch (lN F) d v f (nI cnt) (nI ll)) H := hP
  have hD : va_D A (FW g x (lN 0) q u k (nI np) mv lm ch (lN F) d v f (nI cnt) (nI ll)) := hD
  refine lv_iload_n hx hb dX4_wipe_13 rfl (lv_at hl 0 rfl) ?_
  exact hret (nI (rwL SL)) (FW g x (lN 0) q u k (nI np) mv lm ch (lN F) d v f (nI cnt) (nI ll)) _ _ _ _ dX4_wipe_14 (⟨rfl, rfl⟩) hP hD hS

abbrev rm_X4_isWord : Room := { frames := 2, cells := 0, slots := 0, locals := 45 }
set_option maxHeartbeats 4000000 in
set_option maxRecDepth 100000 in
theorem c_X4_isWord (l : Launch) (g : GG) (x q u d v : Nat) (SL : Nat) (k : Nat → Int32) (K : Nat → Nat) (np : Nat) (mv lm ch : Int32) (F : Nat) (f : Nat → Int64) (S : Nat → Nat) (cnt ll : Nat) (hSL : RV SL) (hF : RV F) (hk : GK k K) (hp : np ≤ 4) (hf : DR f S cnt) (hc : cnt ≤ 50) (hll : ll ≤ 10) : Ci l yX4_isWord wsX4_isWord rm_X4_isWord g [.ref (x)] (FW g x (lN SL) q u k (nI np) mv lm ch (lN F) d v f (nI cnt) (nI ll)) (fun r w => w = (FW g x (lN SL) q u k (nI np) mv lm ch (lN F) d v f (nI cnt) (nI ll)) ∧ Bv r (inS S cnt SL)) := by
  refine Ci.ofZ (cc := cX4_isWord) (maxL := 1) (by decide) rfl (Nat.le_of_ble_eq_true rfl) ?_
  intro p e s m args below meth c A Z hx hb hml hts hown hK hA hret H locs ls hP hD hS hl
  have f_10 := hts (.fieldLink RX4 10 "GhostGame" "dictionary" "LGhostGame$Dictionary;") (by decide +kernel)
  have f_25 := hts (.fieldLink RX4 25 "GhostGame" "slip" "J") (by decide +kernel)
  have hi_2 : ∀ w ∈ wsX40, w ∈ wsX4_isWord := by decide +kernel
  have hl : lv_has ls 1 [(0, .ref (x))] := hl
  refine lv_aload_n hx hb dX4_isWord_0 rfl (lv_at hl 0 rfl) ?_
  refine va_get (D := g.1) (ci := 2) (v := .ref (d)) (C := RX4) (T := TX4) (N := 3) hx hb hts hi_2 hown hK hP 0 rfl rfl 0 (by decide) f_10 (fun _ h9 => h9) rfl dX4_isWord_1 ?_
  refine lv_aload_n hx hb dX4_isWord_4 rfl (lv_at hl 0 rfl) ?_
  refine va_get (D := g.1) (ci := 2) (v := .long (lN (SL))) (C := RX4) (T := TX4) (N := 3) hx hb hts hi_2 hown hK hP 0 rfl rfl 2 (by decide) f_25 (fun _ h9 => h9) rfl dX4_isWord_5 ?_
  refine call_iV (As := [.long (lN (SL))]) (rest := []) (wr := [(x, .inr (2, [.ref (d), .ref (q), .long (lN (SL))])), (q, .inr (1, [.ref (u), .int (nI (np)), .int (mv), .int (lm), .int (ch), .long (lN (F))])), (u, .inl (g.2.1, 4, .inl (k)))]) ⟨hx, hb, hml, hown, hts⟩ (c_X0_has l g d v f S cnt ll hf hc SL hSL) (cwV 1 hts gX4_isWord_X0_has rfl rfl rfl (by decide +kernel) ⟨Nat.le_of_ble_eq_true rfl, Nat.le_of_ble_eq_true rfl⟩) hP hK hD hS hA [3, 4] [0, 1, 2] rfl rfl (by decide) (by decide) (by decide) 0 rfl rfl rfl rfl hl.1 rfl (Nat.le_of_ble_eq_true rfl) dX4_isWord_8 ⟨Nat.le_refl _, Nat.le_refl _⟩ (fun r_8 w H locs h_8 hP hD hS => ?_)
  obtain ⟨rfl, h_8⟩ := h_8
  have hP : va_P g.1 vwCl (FW g x (lN SL) q u k (nI np) mv lm ch (lN F) d v f (nI cnt) (nI ll)) H := hP
  have hD : va_D A (FW g x (lN SL) q u k (nI np) mv lm ch (lN F) d v f (nI cnt) (nI ll)) := hD
  exact hret (r_8) (FW g x (lN SL) q u k (nI np) mv lm ch (lN F) d v f (nI cnt) (nI ll)) _ _ _ _ dX4_isWord_11 (Bv.z h_8) (⟨rfl, h_8⟩) hP hD hS

abbrev rm_X4_words : Room := { frames := 1, cells := 0, slots := 0, locals := 20 }
set_option maxHeartbeats 4000000 in
set_option maxRecDepth 100000 in
theorem c_X4_words (l : Launch) (g : GG) (x q u d v : Nat) (SL : Nat) (k : Nat → Int32) (K : Nat → Nat) (np : Nat) (mv lm ch : Int32) (F : Nat) (f : Nat → Int64) (S : Nat → Nat) (cnt ll : Nat) (hSL : RV SL) (hF : RV F) (hk : GK k K) (hp : np ≤ 4) (hf : DR f S cnt) (hc : cnt ≤ 50) (hll : ll ≤ 10) : Ci l yX4_words wsX4_words rm_X4_words g [.ref (x)] (FW g x (lN SL) q u k (nI np) mv lm ch (lN F) d v f (nI cnt) (nI ll)) (fun r w => w = (FW g x (lN SL) q u k (nI np) mv lm ch (lN F) d v f (nI cnt) (nI ll)) ∧ r = nI cnt) := by
  refine Ci.ofI (cc := cX4_words) (maxL := 1) (by decide) rfl (Nat.le_of_ble_eq_true rfl) ?_
  intro p e s m args below meth c A Z hx hb hml hts hown hK hA hret H locs ls hP hD hS hl
  have f_10 := hts (.fieldLink RX4 10 "GhostGame" "dictionary" "LGhostGame$Dictionary;") (by decide +kernel)
  have hi_2 : ∀ w ∈ wsX40, w ∈ wsX4_words := by decide +kernel
  have hl : lv_has ls 1 [(0, .ref (x))] := hl
  refine lv_aload_n hx hb dX4_words_0 rfl (lv_at hl 0 rfl) ?_
  refine va_get (D := g.1) (ci := 2) (v := .ref (d)) (C := RX4) (T := TX4) (N := 3) hx hb hts hi_2 hown hK hP 0 rfl rfl 0 (by decide) f_10 (fun _ h9 => h9) rfl dX4_words_1 ?_
  refine call_iV (As := []) (rest := []) (wr := [(x, .inr (2, [.ref (d), .ref (q), .long (lN (SL))])), (q, .inr (1, [.ref (u), .int (nI (np)), .int (mv), .int (lm), .int (ch), .long (lN (F))])), (u, .inl (g.2.1, 4, .inl (k)))]) ⟨hx, hb, hml, hown, hts⟩ (c_X0_size l g d v f S cnt ll hf hc) (cwV 0 hts gX4_words_X0_size rfl rfl rfl (by decide +kernel) ⟨Nat.le_of_ble_eq_true rfl, Nat.le_of_ble_eq_true rfl⟩) hP hK hD hS hA [3, 4] [0, 1, 2] rfl rfl (by decide) (by decide) (by decide) 0 rfl rfl rfl rfl hl.1 rfl (Nat.le_of_ble_eq_true rfl) dX4_words_4 ⟨Nat.le_refl _, Nat.le_refl _⟩ (fun r_4 w H locs h_4 hP hD hS => ?_)
  obtain ⟨rfl, h_4⟩ := h_4
  subst h_4
  have hP : va_P g.1 vwCl (FW g x (lN SL) q u k (nI np) mv lm ch (lN F) d v f (nI cnt) (nI ll)) H := hP
  have hD : va_D A (FW g x (lN SL) q u k (nI np) mv lm ch (lN F) d v f (nI cnt) (nI ll)) := hD
  exact hret (nI (cnt)) (FW g x (lN SL) q u k (nI np) mv lm ch (lN F) d v f (nI cnt) (nI ll)) _ _ _ _ dX4_words_7 (⟨rfl, rfl⟩) hP hD hS

abbrev rm_X4_wordsFromSlip : Room := { frames := 3, cells := 0, slots := 0, locals := 69 }
set_option maxHeartbeats 4000000 in
set_option maxRecDepth 100000 in
theorem c_X4_wordsFromSlip (l : Launch) (g : GG) (x q u d v : Nat) (SL : Nat) (k : Nat → Int32) (K : Nat → Nat) (np : Nat) (mv lm ch : Int32) (F : Nat) (f : Nat → Int64) (S : Nat → Nat) (cnt ll : Nat) (hSL : RV SL) (hF : RV F) (hk : GK k K) (hp : np ≤ 4) (hf : DR f S cnt) (hc : cnt ≤ 50) (hll : ll ≤ 10) : Ci l yX4_wordsFromSlip wsX4_wordsFromSlip rm_X4_wordsFromSlip g [.ref (x)] (FW g x (lN SL) q u k (nI np) mv lm ch (lN F) d v f (nI cnt) (nI ll)) (fun r w => w = (FW g x (lN SL) q u k (nI np) mv lm ch (lN F) d v f (nI cnt) (nI ll)) ∧ r = nI (fb_ct (fun i => bgB (S i) SL) cnt)) := by
  refine Ci.ofI (cc := cX4_wordsFromSlip) (maxL := 1) (by decide) rfl (Nat.le_of_ble_eq_true rfl) ?_
  intro p e s m args below meth c A Z hx hb hml hts hown hK hA hret H locs ls hP hD hS hl
  have f_10 := hts (.fieldLink RX4 10 "GhostGame" "dictionary" "LGhostGame$Dictionary;") (by decide +kernel)
  have f_25 := hts (.fieldLink RX4 25 "GhostGame" "slip" "J") (by decide +kernel)
  have hi_2 : ∀ w ∈ wsX40, w ∈ wsX4_wordsFromSlip := by decide +kernel
  have hl : lv_has ls 1 [(0, .ref (x))] := hl
  refine lv_aload_n hx hb dX4_wordsFromSlip_0 rfl (lv_at hl 0 rfl) ?_
  refine va_get (D := g.1) (ci := 2) (v := .ref (d)) (C := RX4) (T := TX4) (N := 3) hx hb hts hi_2 hown hK hP 0 rfl rfl 0 (by decide) f_10 (fun _ h9 => h9) rfl dX4_wordsFromSlip_1 ?_
  refine lv_aload_n hx hb dX4_wordsFromSlip_4 rfl (lv_at hl 0 rfl) ?_
  refine va_get (D := g.1) (ci := 2) (v := .long (lN (SL))) (C := RX4) (T := TX4) (N := 3) hx hb hts hi_2 hown hK hP 0 rfl rfl 2 (by decide) f_25 (fun _ h9 => h9) rfl dX4_wordsFromSlip_5 ?_
  refine call_iV (As := [.long (lN (SL))]) (rest := []) (wr := [(x, .inr (2, [.ref (d), .ref (q), .long (lN (SL))])), (q, .inr (1, [.ref (u), .int (nI (np)), .int (mv), .int (lm), .int (ch), .long (lN (F))])), (u, .inl (g.2.1, 4, .inl (k)))]) ⟨hx, hb, hml, hown, hts⟩ (c_X0_countFrom l g d v f S cnt ll hf hc SL hSL) (cwV 1 hts gX4_wordsFromSlip_X0_countFrom rfl rfl rfl (by decide +kernel) ⟨Nat.le_of_ble_eq_true rfl, Nat.le_of_ble_eq_true rfl⟩) hP hK hD hS hA [3, 4] [0, 1, 2] rfl rfl (by decide) (by decide) (by decide) 0 rfl rfl rfl rfl hl.1 rfl (Nat.le_of_ble_eq_true rfl) dX4_wordsFromSlip_8 ⟨Nat.le_refl _, Nat.le_refl _⟩ (fun r_8 w H locs h_8 hP hD hS => ?_)
  obtain ⟨rfl, h_8⟩ := h_8
  subst h_8
  have hP : va_P g.1 vwCl (FW g x (lN SL) q u k (nI np) mv lm ch (lN F) d v f (nI cnt) (nI ll)) H := hP
  have hD : va_D A (FW g x (lN SL) q u k (nI np) mv lm ch (lN F) d v f (nI cnt) (nI ll)) := hD
  exact hret (nI (fb_ct (fun i => bgB (S i) SL) cnt)) (FW g x (lN SL) q u k (nI np) mv lm ch (lN F) d v f (nI cnt) (nI ll)) _ _ _ _ dX4_wordsFromSlip_11 (⟨rfl, rfl⟩) hP hD hS

abbrev rm_X4_beginnings : Room := { frames := 5, cells := 0, slots := 0, locals := 114 }
set_option maxHeartbeats 4000000 in
set_option maxRecDepth 100000 in
theorem c_X4_beginnings (l : Launch) (g : GG) (x q u d v : Nat) (SL : Nat) (k : Nat → Int32) (K : Nat → Nat) (np : Nat) (mv lm ch : Int32) (F : Nat) (f : Nat → Int64) (S : Nat → Nat) (cnt ll : Nat) (hSL : RV SL) (hF : RV F) (hk : GK k K) (hp : np ≤ 4) (hf : DR f S cnt) (hc : cnt ≤ 50) (hll : ll ≤ 10) : Ci l yX4_beginnings wsX4_beginnings rm_X4_beginnings g [.ref (x)] (FW g x (lN SL) q u k (nI np) mv lm ch (lN F) d v f (nI cnt) (nI ll)) (fun r w => w = (FW g x (lN SL) q u k (nI np) mv lm ch (lN F) d v f (nI cnt) (nI ll)) ∧ r = nI (bgnN S cnt)) := by
  refine Ci.ofI (cc := cX4_beginnings) (maxL := 1) (by decide) rfl (Nat.le_of_ble_eq_true rfl) ?_
  intro p e s m args below meth c A Z hx hb hml hts hown hK hA hret H locs ls hP hD hS hl
  have f_10 := hts (.fieldLink RX4 10 "GhostGame" "dictionary" "LGhostGame$Dictionary;") (by decide +kernel)
  have hi_2 : ∀ w ∈ wsX40, w ∈ wsX4_beginnings := by decide +kernel
  have hl : lv_has ls 1 [(0, .ref (x))] := hl
  refine lv_aload_n hx hb dX4_beginnings_0 rfl (lv_at hl 0 rfl) ?_
  refine va_get (D := g.1) (ci := 2) (v := .ref (d)) (C := RX4) (T := TX4) (N := 3) hx hb hts hi_2 hown hK hP 0 rfl rfl 0 (by decide) f_10 (fun _ h9 => h9) rfl dX4_beginnings_1 ?_
  refine call_iV (As := []) (rest := []) (wr := [(x, .inr (2, [.ref (d), .ref (q), .long (lN (SL))])), (q, .inr (1, [.ref (u), .int (nI (np)), .int (mv), .int (lm), .int (ch), .long (lN (F))])), (u, .inl (g.2.1, 4, .inl (k)))]) ⟨hx, hb, hml, hown, hts⟩ (c_X0_countBeginnings l g d v f S cnt ll hf hc) (cwV 0 hts gX4_beginnings_X0_countBeginnings rfl rfl rfl (by decide +kernel) ⟨Nat.le_of_ble_eq_true rfl, Nat.le_of_ble_eq_true rfl⟩) hP hK hD hS hA [3, 4] [0, 1, 2] rfl rfl (by decide) (by decide) (by decide) 0 rfl rfl rfl rfl hl.1 rfl (Nat.le_of_ble_eq_true rfl) dX4_beginnings_4 ⟨Nat.le_refl _, Nat.le_refl _⟩ (fun r_4 w H locs h_4 hP hD hS => ?_)
  obtain ⟨rfl, h_4⟩ := h_4
  subst h_4
  have hP : va_P g.1 vwCl (FW g x (lN SL) q u k (nI np) mv lm ch (lN F) d v f (nI cnt) (nI ll)) H := hP
  have hD : va_D A (FW g x (lN SL) q u k (nI np) mv lm ch (lN F) d v f (nI cnt) (nI ll)) := hD
  exact hret (nI (bgnN S cnt)) (FW g x (lN SL) q u k (nI np) mv lm ch (lN F) d v f (nI cnt) (nI ll)) _ _ _ _ dX4_beginnings_7 (⟨rfl, rfl⟩) hP hD hS

abbrev rm_X4_turn : Room := { frames := 1, cells := 0, slots := 0, locals := 20 }
set_option maxHeartbeats 4000000 in
set_option maxRecDepth 100000 in
theorem c_X4_turn (l : Launch) (g : GG) (x q u d v : Nat) (SL : Nat) (k : Nat → Int32) (K : Nat → Nat) (np : Nat) (mv lm ch : Int32) (F : Nat) (f : Nat → Int64) (S : Nat → Nat) (cnt ll : Nat) (hSL : RV SL) (hF : RV F) (hk : GK k K) (hp : np ≤ 4) (hf : DR f S cnt) (hc : cnt ≤ 50) (hll : ll ≤ 10) : Ci l yX4_turn wsX4_turn rm_X4_turn g [.ref (x)] (FW g x (lN SL) q u k (nI np) mv lm ch (lN F) d v f (nI cnt) (nI ll)) (fun r w => w = (FW g x (lN SL) q u k (nI np) mv lm ch (lN F) d v f (nI cnt) (nI ll)) ∧ r = mv) := by
  refine Ci.ofI (cc := cX4_turn) (maxL := 1) (by decide) rfl (Nat.le_of_ble_eq_true rfl) ?_
  intro p e s m args below meth c A Z hx hb hml hts hown hK hA hret H locs ls hP hD hS hl
  have f_19 := hts (.fieldLink RX4 19 "GhostGame" "game" "LGhostGame$Game;") (by decide +kernel)
  have hi_2 : ∀ w ∈ wsX40, w ∈ wsX4_turn := by decide +kernel
  have hl : lv_has ls 1 [(0, .ref (x))] := hl
  refine lv_aload_n hx hb dX4_turn_0 rfl (lv_at hl 0 rfl) ?_
  refine va_get (D := g.1) (ci := 2) (v := .ref (q)) (C := RX4) (T := TX4) (N := 3) hx hb hts hi_2 hown hK hP 0 rfl rfl 1 (by decide) f_19 (fun _ h9 => h9) rfl dX4_turn_1 ?_
  refine call_iV (As := []) (rest := []) (wr := [(x, .inr (2, [.ref (d), .ref (q), .long (lN (SL))])), (d, .inr (0, [.ref (v), .int (nI (cnt)), .int (nI (ll))])), (v, .inl (g.2.2.1, 50, .inr (.inl (f))))]) ⟨hx, hb, hml, hown, hts⟩ (c_X1_mover l g q u k (nI np) mv lm ch (lN F)) (cwV 0 hts gX4_turn_X1_mover rfl rfl rfl (by decide +kernel) ⟨Nat.le_of_ble_eq_true rfl, Nat.le_of_ble_eq_true rfl⟩) hP hK hD hS hA [1, 2] [0, 3, 4] rfl rfl (by decide) (by decide) (by decide) 0 rfl rfl rfl rfl hl.1 rfl (Nat.le_of_ble_eq_true rfl) dX4_turn_4 ⟨Nat.le_refl _, Nat.le_refl _⟩ (fun r_4 w H locs h_4 hP hD hS => ?_)
  obtain ⟨rfl, h_4⟩ := h_4
  have hP := hP.sub [0, 3, 4, 1, 2] (ws' := (FW g x (lN SL) q u k (nI np) mv lm ch (lN F) d v f (nI cnt) (nI ll))) rfl
  have hD := hD.sub [0, 3, 4, 1, 2] (ws' := (FW g x (lN SL) q u k (nI np) mv lm ch (lN F) d v f (nI cnt) (nI ll))) (by decide) rfl
  have hP : va_P g.1 vwCl (FW g x (lN SL) q u k (nI np) mv lm ch (lN F) d v f (nI cnt) (nI ll)) H := hP
  have hD : va_D A (FW g x (lN SL) q u k (nI np) mv lm ch (lN F) d v f (nI cnt) (nI ll)) := hD
  exact hret (r_4) (FW g x (lN SL) q u k (nI np) mv lm ch (lN F) d v f (nI cnt) (nI ll)) _ _ _ _ dX4_turn_7 (⟨rfl, h_4⟩) hP hD hS

abbrev rm_X4_winner : Room := { frames := 1, cells := 0, slots := 0, locals := 20 }
set_option maxHeartbeats 4000000 in
set_option maxRecDepth 100000 in
theorem c_X4_winner (l : Launch) (g : GG) (x q u d v : Nat) (SL : Nat) (k : Nat → Int32) (K : Nat → Nat) (np : Nat) (mv lm ch : Int32) (F : Nat) (f : Nat → Int64) (S : Nat → Nat) (cnt ll : Nat) (hSL : RV SL) (hF : RV F) (hk : GK k K) (hp : np ≤ 4) (hf : DR f S cnt) (hc : cnt ≤ 50) (hll : ll ≤ 10) : Ci l yX4_winner wsX4_winner rm_X4_winner g [.ref (x)] (FW g x (lN SL) q u k (nI np) mv lm ch (lN F) d v f (nI cnt) (nI ll)) (fun r w => w = (FW g x (lN SL) q u k (nI np) mv lm ch (lN F) d v f (nI cnt) (nI ll)) ∧ r = ch) := by
  refine Ci.ofI (cc := cX4_winner) (maxL := 1) (by decide) rfl (Nat.le_of_ble_eq_true rfl) ?_
  intro p e s m args below meth c A Z hx hb hml hts hown hK hA hret H locs ls hP hD hS hl
  have f_19 := hts (.fieldLink RX4 19 "GhostGame" "game" "LGhostGame$Game;") (by decide +kernel)
  have hi_2 : ∀ w ∈ wsX40, w ∈ wsX4_winner := by decide +kernel
  have hl : lv_has ls 1 [(0, .ref (x))] := hl
  refine lv_aload_n hx hb dX4_winner_0 rfl (lv_at hl 0 rfl) ?_
  refine va_get (D := g.1) (ci := 2) (v := .ref (q)) (C := RX4) (T := TX4) (N := 3) hx hb hts hi_2 hown hK hP 0 rfl rfl 1 (by decide) f_19 (fun _ h9 => h9) rfl dX4_winner_1 ?_
  refine call_iV (As := []) (rest := []) (wr := [(x, .inr (2, [.ref (d), .ref (q), .long (lN (SL))])), (d, .inr (0, [.ref (v), .int (nI (cnt)), .int (nI (ll))])), (v, .inl (g.2.2.1, 50, .inr (.inl (f))))]) ⟨hx, hb, hml, hown, hts⟩ (c_X1_champion l g q u k (nI np) mv lm ch (lN F)) (cwV 0 hts gX4_winner_X1_champion rfl rfl rfl (by decide +kernel) ⟨Nat.le_of_ble_eq_true rfl, Nat.le_of_ble_eq_true rfl⟩) hP hK hD hS hA [1, 2] [0, 3, 4] rfl rfl (by decide) (by decide) (by decide) 0 rfl rfl rfl rfl hl.1 rfl (Nat.le_of_ble_eq_true rfl) dX4_winner_4 ⟨Nat.le_refl _, Nat.le_refl _⟩ (fun r_4 w H locs h_4 hP hD hS => ?_)
  obtain ⟨rfl, h_4⟩ := h_4
  have hP := hP.sub [0, 3, 4, 1, 2] (ws' := (FW g x (lN SL) q u k (nI np) mv lm ch (lN F) d v f (nI cnt) (nI ll))) rfl
  have hD := hD.sub [0, 3, 4, 1, 2] (ws' := (FW g x (lN SL) q u k (nI np) mv lm ch (lN F) d v f (nI cnt) (nI ll))) (by decide) rfl
  have hP : va_P g.1 vwCl (FW g x (lN SL) q u k (nI np) mv lm ch (lN F) d v f (nI cnt) (nI ll)) H := hP
  have hD : va_D A (FW g x (lN SL) q u k (nI np) mv lm ch (lN F) d v f (nI cnt) (nI ll)) := hD
  exact hret (r_4) (FW g x (lN SL) q u k (nI np) mv lm ch (lN F) d v f (nI cnt) (nI ll)) _ _ _ _ dX4_winner_7 (⟨rfl, h_4⟩) hP hD hS

abbrev rm_X4_players : Room := { frames := 1, cells := 0, slots := 0, locals := 20 }
set_option maxHeartbeats 4000000 in
set_option maxRecDepth 100000 in
theorem c_X4_players (l : Launch) (g : GG) (x q u d v : Nat) (SL : Nat) (k : Nat → Int32) (K : Nat → Nat) (np : Nat) (mv lm ch : Int32) (F : Nat) (f : Nat → Int64) (S : Nat → Nat) (cnt ll : Nat) (hSL : RV SL) (hF : RV F) (hk : GK k K) (hp : np ≤ 4) (hf : DR f S cnt) (hc : cnt ≤ 50) (hll : ll ≤ 10) : Ci l yX4_players wsX4_players rm_X4_players g [.ref (x)] (FW g x (lN SL) q u k (nI np) mv lm ch (lN F) d v f (nI cnt) (nI ll)) (fun r w => w = (FW g x (lN SL) q u k (nI np) mv lm ch (lN F) d v f (nI cnt) (nI ll)) ∧ r = nI np) := by
  refine Ci.ofI (cc := cX4_players) (maxL := 1) (by decide) rfl (Nat.le_of_ble_eq_true rfl) ?_
  intro p e s m args below meth c A Z hx hb hml hts hown hK hA hret H locs ls hP hD hS hl
  have f_19 := hts (.fieldLink RX4 19 "GhostGame" "game" "LGhostGame$Game;") (by decide +kernel)
  have hi_2 : ∀ w ∈ wsX40, w ∈ wsX4_players := by decide +kernel
  have hl : lv_has ls 1 [(0, .ref (x))] := hl
  refine lv_aload_n hx hb dX4_players_0 rfl (lv_at hl 0 rfl) ?_
  refine va_get (D := g.1) (ci := 2) (v := .ref (q)) (C := RX4) (T := TX4) (N := 3) hx hb hts hi_2 hown hK hP 0 rfl rfl 1 (by decide) f_19 (fun _ h9 => h9) rfl dX4_players_1 ?_
  refine call_iV (As := []) (rest := []) (wr := [(x, .inr (2, [.ref (d), .ref (q), .long (lN (SL))])), (d, .inr (0, [.ref (v), .int (nI (cnt)), .int (nI (ll))])), (v, .inl (g.2.2.1, 50, .inr (.inl (f))))]) ⟨hx, hb, hml, hown, hts⟩ (c_X1_playerCount l g q u k (nI np) mv lm ch (lN F)) (cwV 0 hts gX4_players_X1_playerCount rfl rfl rfl (by decide +kernel) ⟨Nat.le_of_ble_eq_true rfl, Nat.le_of_ble_eq_true rfl⟩) hP hK hD hS hA [1, 2] [0, 3, 4] rfl rfl (by decide) (by decide) (by decide) 0 rfl rfl rfl rfl hl.1 rfl (Nat.le_of_ble_eq_true rfl) dX4_players_4 ⟨Nat.le_refl _, Nat.le_refl _⟩ (fun r_4 w H locs h_4 hP hD hS => ?_)
  obtain ⟨rfl, h_4⟩ := h_4
  subst h_4
  have hP := hP.sub [0, 3, 4, 1, 2] (ws' := (FW g x (lN SL) q u k (nI np) mv lm ch (lN F) d v f (nI cnt) (nI ll))) rfl
  have hD := hD.sub [0, 3, 4, 1, 2] (ws' := (FW g x (lN SL) q u k (nI np) mv lm ch (lN F) d v f (nI cnt) (nI ll))) (by decide) rfl
  have hP : va_P g.1 vwCl (FW g x (lN SL) q u k (nI np) mv lm ch (lN F) d v f (nI cnt) (nI ll)) H := hP
  have hD : va_D A (FW g x (lN SL) q u k (nI np) mv lm ch (lN F) d v f (nI cnt) (nI ll)) := hD
  exact hret (nI (np)) (FW g x (lN SL) q u k (nI np) mv lm ch (lN F) d v f (nI cnt) (nI ll)) _ _ _ _ dX4_players_7 (⟨rfl, rfl⟩) hP hD hS

abbrev rm_X4_openLetters : Room := { frames := 4, cells := 0, slots := 0, locals := 95 }
set_option maxHeartbeats 4000000 in
set_option maxRecDepth 100000 in
theorem c_X4_openLetters (l : Launch) (g : GG) (x q u d v : Nat) (SL : Nat) (k : Nat → Int32) (K : Nat → Nat) (np : Nat) (mv lm ch : Int32) (F : Nat) (f : Nat → Int64) (S : Nat → Nat) (cnt ll : Nat) (hSL : RV SL) (hF : RV F) (hk : GK k K) (hp : np ≤ 4) (hf : DR f S cnt) (hc : cnt ≤ 50) (hll : ll ≤ 10) : Ci l yX4_openLetters wsX4_openLetters rm_X4_openLetters g [.ref (x)] (FW g x (lN SL) q u k (nI np) mv lm ch (lN F) d v f (nI cnt) (nI ll)) (fun r w => w = (FW g x (lN SL) q u k (nI np) mv lm ch (lN F) d v f (nI cnt) (nI ll)) ∧ r = nI (opM S ll F cnt)) := by
  refine Ci.ofI (cc := cX4_openLetters) (maxL := 1) (by decide) rfl (Nat.le_of_ble_eq_true rfl) ?_
  intro p e s m args below meth c A Z hx hb hml hts hown hK hA hret H locs ls hP hD hS hl
  have f_10 := hts (.fieldLink RX4 10 "GhostGame" "dictionary" "LGhostGame$Dictionary;") (by decide +kernel)
  have f_19 := hts (.fieldLink RX4 19 "GhostGame" "game" "LGhostGame$Game;") (by decide +kernel)
  have hi_2 : ∀ w ∈ wsX40, w ∈ wsX4_openLetters := by decide +kernel
  have hl : lv_has ls 1 [(0, .ref (x))] := hl
  refine lv_aload_n hx hb dX4_openLetters_0 rfl (lv_at hl 0 rfl) ?_
  refine va_get (D := g.1) (ci := 2) (v := .ref (d)) (C := RX4) (T := TX4) (N := 3) hx hb hts hi_2 hown hK hP 0 rfl rfl 0 (by decide) f_10 (fun _ h9 => h9) rfl dX4_openLetters_1 ?_
  refine lv_aload_n hx hb dX4_openLetters_4 rfl (lv_at hl 0 rfl) ?_
  refine va_get (D := g.1) (ci := 2) (v := .ref (q)) (C := RX4) (T := TX4) (N := 3) hx hb hts hi_2 hown hK hP 0 rfl rfl 1 (by decide) f_19 (fun _ h9 => h9) rfl dX4_openLetters_5 ?_
  refine call_lV (As := []) (rest := [.ref (d)]) (wr := [(x, .inr (2, [.ref (d), .ref (q), .long (lN (SL))])), (d, .inr (0, [.ref (v), .int (nI (cnt)), .int (nI (ll))])), (v, .inl (g.2.2.1, 50, .inr (.inl (f))))]) ⟨hx, hb, hml, hown, hts⟩ (c_X1_fragment l g q u k (nI np) mv lm ch (lN F)) (cwV 0 hts gX4_openLetters_X1_fragment rfl rfl rfl (by decide +kernel) ⟨Nat.le_of_ble_eq_true rfl, Nat.le_of_ble_eq_true rfl⟩) hP hK hD hS hA [1, 2] [0, 3, 4] rfl rfl (by decide) (by decide) (by decide) 0 rfl rfl rfl rfl hl.1 rfl (Nat.le_of_ble_eq_true rfl) dX4_openLetters_8 ⟨Nat.le_refl _, Nat.le_refl _⟩ (fun r_8 w H locs h_8 hP hD hS => ?_)
  obtain ⟨rfl, h_8⟩ := h_8
  subst h_8
  have hP := hP.sub [0, 3, 4, 1, 2] (ws' := (FW g x (lN SL) q u k (nI np) mv lm ch (lN F) d v f (nI cnt) (nI ll))) rfl
  have hD := hD.sub [0, 3, 4, 1, 2] (ws' := (FW g x (lN SL) q u k (nI np) mv lm ch (lN F) d v f (nI cnt) (nI ll))) (by decide) rfl
  have hP : va_P g.1 vwCl (FW g x (lN SL) q u k (nI np) mv lm ch (lN F) d v f (nI cnt) (nI ll)) H := hP
  have hD : va_D A (FW g x (lN SL) q u k (nI np) mv lm ch (lN F) d v f (nI cnt) (nI ll)) := hD
  refine call_iS (As := [.ref (d), .long (lN (F))]) (rest := []) (wr := [(x, .inr (2, [.ref (d), .ref (q), .long (lN (SL))])), (q, .inr (1, [.ref (u), .int (nI (np)), .int (mv), .int (lm), .int (ch), .long (lN (F))])), (u, .inl (g.2.1, 4, .inl (k)))]) ⟨hx, hb, hml, hown, hts⟩ (c_X3_lettersOpenBehind l g d v f S cnt ll hf hc hll F hF) (va_cwS 2 hts gX4_openLetters_X3_lettersOpenBehind rfl rfl rfl (by decide +kernel) ⟨Nat.le_of_ble_eq_true rfl, Nat.le_of_ble_eq_true rfl⟩) hP hK hD hS hA [3, 4] [0, 1, 2] rfl rfl (by decide) (by decide) (by decide) rfl hl.1 rfl (Nat.le_of_ble_eq_true rfl) dX4_openLetters_11 ⟨Nat.le_refl _, Nat.le_refl _⟩ (fun r_11 w H locs h_11 hP hD hS => ?_)
  obtain ⟨rfl, h_11⟩ := h_11
  subst h_11
  have hP : va_P g.1 vwCl (FW g x (lN SL) q u k (nI np) mv lm ch (lN F) d v f (nI cnt) (nI ll)) H := hP
  have hD : va_D A (FW g x (lN SL) q u k (nI np) mv lm ch (lN F) d v f (nI cnt) (nI ll)) := hD
  exact hret (nI (opM S ll F cnt)) (FW g x (lN SL) q u k (nI np) mv lm ch (lN F) d v f (nI cnt) (nI ll)) _ _ _ _ dX4_openLetters_14 (⟨rfl, rfl⟩) hP hD hS

abbrev rm_X4_winningLetters : Room := { frames := 33, cells := 0, slots := 0, locals := 1291 }
set_option maxHeartbeats 4000000 in
set_option maxRecDepth 100000 in
theorem c_X4_winningLetters (l : Launch) (g : GG) (x q u d v : Nat) (SL : Nat) (k : Nat → Int32) (K : Nat → Nat) (np : Nat) (mv lm ch : Int32) (F : Nat) (f : Nat → Int64) (S : Nat → Nat) (cnt ll : Nat) (hSL : RV SL) (hF : RV F) (hk : GK k K) (hp : np ≤ 4) (hf : DR f S cnt) (hc : cnt ≤ 50) (hll : ll ≤ 10) : Ci l yX4_winningLetters wsX4_winningLetters rm_X4_winningLetters g [.ref (x)] (FW g x (lN SL) q u k (nI np) mv lm ch (lN F) d v f (nI cnt) (nI ll)) (fun r w => w = (FW g x (lN SL) q u k (nI np) mv lm ch (lN F) d v f (nI cnt) (nI ll)) ∧ r = nI (scW (fun F => opM S ll F cnt) (hwB S cnt ll) (9 - rwL F) F 26)) := by
  refine Ci.ofI (cc := cX4_winningLetters) (maxL := 1) (by decide) rfl (Nat.le_of_ble_eq_true rfl) ?_
  intro p e s m args below meth c A Z hx hb hml hts hown hK hA hret H locs ls hP hD hS hl
  have f_10 := hts (.fieldLink RX4 10 "GhostGame" "dictionary" "LGhostGame$Dictionary;") (by decide +kernel)
  have f_19 := hts (.fieldLink RX4 19 "GhostGame" "game" "LGhostGame$Game;") (by decide +kernel)
  have hi_2 : ∀ w ∈ wsX40, w ∈ wsX4_winningLetters := by decide +kernel
  have hl : lv_has ls 1 [(0, .ref (x))] := hl
  refine lv_aload_n hx hb dX4_winningLetters_0 rfl (lv_at hl 0 rfl) ?_
  refine va_get (D := g.1) (ci := 2) (v := .ref (d)) (C := RX4) (T := TX4) (N := 3) hx hb hts hi_2 hown hK hP 0 rfl rfl 0 (by decide) f_10 (fun _ h9 => h9) rfl dX4_winningLetters_1 ?_
  refine lv_aload_n hx hb dX4_winningLetters_4 rfl (lv_at hl 0 rfl) ?_
  refine va_get (D := g.1) (ci := 2) (v := .ref (q)) (C := RX4) (T := TX4) (N := 3) hx hb hts hi_2 hown hK hP 0 rfl rfl 1 (by decide) f_19 (fun _ h9 => h9) rfl dX4_winningLetters_5 ?_
  refine call_lV (As := []) (rest := [.ref (d)]) (wr := [(x, .inr (2, [.ref (d), .ref (q), .long (lN (SL))])), (d, .inr (0, [.ref (v), .int (nI (cnt)), .int (nI (ll))])), (v, .inl (g.2.2.1, 50, .inr (.inl (f))))]) ⟨hx, hb, hml, hown, hts⟩ (c_X1_fragment l g q u k (nI np) mv lm ch (lN F)) (cwV 0 hts gX4_winningLetters_X1_fragment rfl rfl rfl (by decide +kernel) ⟨Nat.le_of_ble_eq_true rfl, Nat.le_of_ble_eq_true rfl⟩) hP hK hD hS hA [1, 2] [0, 3, 4] rfl rfl (by decide) (by decide) (by decide) 0 rfl rfl rfl rfl hl.1 rfl (Nat.le_of_ble_eq_true rfl) dX4_winningLetters_8 ⟨Nat.le_refl _, Nat.le_refl _⟩ (fun r_8 w H locs h_8 hP hD hS => ?_)
  obtain ⟨rfl, h_8⟩ := h_8
  subst h_8
  have hP := hP.sub [0, 3, 4, 1, 2] (ws' := (FW g x (lN SL) q u k (nI np) mv lm ch (lN F) d v f (nI cnt) (nI ll))) rfl
  have hD := hD.sub [0, 3, 4, 1, 2] (ws' := (FW g x (lN SL) q u k (nI np) mv lm ch (lN F) d v f (nI cnt) (nI ll))) (by decide) rfl
  have hP : va_P g.1 vwCl (FW g x (lN SL) q u k (nI np) mv lm ch (lN F) d v f (nI cnt) (nI ll)) H := hP
  have hD : va_D A (FW g x (lN SL) q u k (nI np) mv lm ch (lN F) d v f (nI cnt) (nI ll)) := hD
  refine call_iS (As := [.ref (d), .long (lN (F))]) (rest := []) (wr := [(x, .inr (2, [.ref (d), .ref (q), .long (lN (SL))])), (q, .inr (1, [.ref (u), .int (nI (np)), .int (mv), .int (lm), .int (ch), .long (lN (F))])), (u, .inl (g.2.1, 4, .inl (k)))]) ⟨hx, hb, hml, hown, hts⟩ (c_X3_lettersWinningBehind l g d v f S cnt ll hf hc hll F hF) (va_cwS 2 hts gX4_winningLetters_X3_lettersWinningBehind rfl rfl rfl (by decide +kernel) ⟨Nat.le_of_ble_eq_true rfl, Nat.le_of_ble_eq_true rfl⟩) hP hK hD hS hA [3, 4] [0, 1, 2] rfl rfl (by decide) (by decide) (by decide) rfl hl.1 rfl (Nat.le_of_ble_eq_true rfl) dX4_winningLetters_11 ⟨Nat.le_refl _, Nat.le_refl _⟩ (fun r_11 w H locs h_11 hP hD hS => ?_)
  obtain ⟨rfl, h_11⟩ := h_11
  subst h_11
  have hP : va_P g.1 vwCl (FW g x (lN SL) q u k (nI np) mv lm ch (lN F) d v f (nI cnt) (nI ll)) H := hP
  have hD : va_D A (FW g x (lN SL) q u k (nI np) mv lm ch (lN F) d v f (nI cnt) (nI ll)) := hD
  exact hret (nI (scW (fun F => opM S ll F cnt) (hwB S cnt ll) (9 - rwL F) F 26)) (FW g x (lN SL) q u k (nI np) mv lm ch (lN F) d v f (nI cnt) (nI ll)) _ _ _ _ dX4_winningLetters_14 (⟨rfl, rfl⟩) hP hD hS

abbrev rm_X4_canWin : Room := { frames := 32, cells := 0, slots := 0, locals := 1247 }
set_option maxHeartbeats 4000000 in
set_option maxRecDepth 100000 in
theorem c_X4_canWin (l : Launch) (g : GG) (x q u d v : Nat) (SL : Nat) (k : Nat → Int32) (K : Nat → Nat) (np : Nat) (mv lm ch : Int32) (F : Nat) (f : Nat → Int64) (S : Nat → Nat) (cnt ll : Nat) (hSL : RV SL) (hF : RV F) (hk : GK k K) (hp : np ≤ 4) (hf : DR f S cnt) (hc : cnt ≤ 50) (hll : ll ≤ 10) : Ci l yX4_canWin wsX4_canWin rm_X4_canWin g [.ref (x)] (FW g x (lN SL) q u k (nI np) mv lm ch (lN F) d v f (nI cnt) (nI ll)) (fun r w => w = (FW g x (lN SL) q u k (nI np) mv lm ch (lN F) d v f (nI cnt) (nI ll)) ∧ Bv r (0 < sc (fun F => opM S ll F cnt) (hwB S cnt ll) (10 - rwL F) F)) := by
  refine Ci.ofZ (cc := cX4_canWin) (maxL := 1) (by decide) rfl (Nat.le_of_ble_eq_true rfl) ?_
  intro p e s m args below meth c A Z hx hb hml hts hown hK hA hret H locs ls hP hD hS hl
  have f_10 := hts (.fieldLink RX4 10 "GhostGame" "dictionary" "LGhostGame$Dictionary;") (by decide +kernel)
  have f_19 := hts (.fieldLink RX4 19 "GhostGame" "game" "LGhostGame$Game;") (by decide +kernel)
  have hi_2 : ∀ w ∈ wsX40, w ∈ wsX4_canWin := by decide +kernel
  have hl : lv_has ls 1 [(0, .ref (x))] := hl
  refine lv_aload_n hx hb dX4_canWin_0 rfl (lv_at hl 0 rfl) ?_
  refine va_get (D := g.1) (ci := 2) (v := .ref (d)) (C := RX4) (T := TX4) (N := 3) hx hb hts hi_2 hown hK hP 0 rfl rfl 0 (by decide) f_10 (fun _ h9 => h9) rfl dX4_canWin_1 ?_
  refine lv_aload_n hx hb dX4_canWin_4 rfl (lv_at hl 0 rfl) ?_
  refine va_get (D := g.1) (ci := 2) (v := .ref (q)) (C := RX4) (T := TX4) (N := 3) hx hb hts hi_2 hown hK hP 0 rfl rfl 1 (by decide) f_19 (fun _ h9 => h9) rfl dX4_canWin_5 ?_
  refine call_lV (As := []) (rest := [.ref (d)]) (wr := [(x, .inr (2, [.ref (d), .ref (q), .long (lN (SL))])), (d, .inr (0, [.ref (v), .int (nI (cnt)), .int (nI (ll))])), (v, .inl (g.2.2.1, 50, .inr (.inl (f))))]) ⟨hx, hb, hml, hown, hts⟩ (c_X1_fragment l g q u k (nI np) mv lm ch (lN F)) (cwV 0 hts gX4_canWin_X1_fragment rfl rfl rfl (by decide +kernel) ⟨Nat.le_of_ble_eq_true rfl, Nat.le_of_ble_eq_true rfl⟩) hP hK hD hS hA [1, 2] [0, 3, 4] rfl rfl (by decide) (by decide) (by decide) 0 rfl rfl rfl rfl hl.1 rfl (Nat.le_of_ble_eq_true rfl) dX4_canWin_8 ⟨Nat.le_refl _, Nat.le_refl _⟩ (fun r_8 w H locs h_8 hP hD hS => ?_)
  obtain ⟨rfl, h_8⟩ := h_8
  subst h_8
  have hP := hP.sub [0, 3, 4, 1, 2] (ws' := (FW g x (lN SL) q u k (nI np) mv lm ch (lN F) d v f (nI cnt) (nI ll))) rfl
  have hD := hD.sub [0, 3, 4, 1, 2] (ws' := (FW g x (lN SL) q u k (nI np) mv lm ch (lN F) d v f (nI cnt) (nI ll))) (by decide) rfl
  have hP : va_P g.1 vwCl (FW g x (lN SL) q u k (nI np) mv lm ch (lN F) d v f (nI cnt) (nI ll)) H := hP
  have hD : va_D A (FW g x (lN SL) q u k (nI np) mv lm ch (lN F) d v f (nI cnt) (nI ll)) := hD
  refine call_iS (As := [.ref (d), .long (lN (F))]) (rest := []) (wr := [(x, .inr (2, [.ref (d), .ref (q), .long (lN (SL))])), (q, .inr (1, [.ref (u), .int (nI (np)), .int (mv), .int (lm), .int (ch), .long (lN (F))])), (u, .inl (g.2.1, 4, .inl (k)))]) ⟨hx, hb, hml, hown, hts⟩ (c_X3_moverWins l g d v f S cnt ll hf hc hll F hF) (va_cwS 2 hts gX4_canWin_X3_moverWins rfl rfl rfl (by decide +kernel) ⟨Nat.le_of_ble_eq_true rfl, Nat.le_of_ble_eq_true rfl⟩) hP hK hD hS hA [3, 4] [0, 1, 2] rfl rfl (by decide) (by decide) (by decide) rfl hl.1 rfl (Nat.le_of_ble_eq_true rfl) dX4_canWin_11 ⟨Nat.le_refl _, Nat.le_refl _⟩ (fun r_11 w H locs h_11 hP hD hS => ?_)
  obtain ⟨rfl, h_11⟩ := h_11
  have hP : va_P g.1 vwCl (FW g x (lN SL) q u k (nI np) mv lm ch (lN F) d v f (nI cnt) (nI ll)) H := hP
  have hD : va_D A (FW g x (lN SL) q u k (nI np) mv lm ch (lN F) d v f (nI cnt) (nI ll)) := hD
  exact hret (r_11) (FW g x (lN SL) q u k (nI np) mv lm ch (lN F) d v f (nI cnt) (nI ll)) _ _ _ _ dX4_canWin_14 (Bv.z h_11) (⟨rfl, h_11⟩) hP hD hS

abbrev rm_X4_end : Room := { frames := 32, cells := 0, slots := 0, locals := 1247 }
set_option maxHeartbeats 4000000 in
set_option maxRecDepth 100000 in
theorem c_X4_end (l : Launch) (g : GG) (x q u d v : Nat) (SL : Nat) (k : Nat → Int32) (K : Nat → Nat) (np : Nat) (mv lm ch : Int32) (F : Nat) (f : Nat → Int64) (S : Nat → Nat) (cnt ll : Nat) (hSL : RV SL) (hF : RV F) (hk : GK k K) (hp : np ≤ 4) (hf : DR f S cnt) (hc : cnt ≤ 50) (hll : ll ≤ 10) : Ci l yX4_end wsX4_end rm_X4_end g [.ref (x)] (FW g x (lN SL) q u k (nI np) mv lm ch (lN F) d v f (nI cnt) (nI ll)) (fun r w => w = (FW g x (lN SL) q u k (nI np) mv lm ch (lN F) d v f (nI cnt) (nI ll)) ∧ r = nI (100 - (sc (fun F => opM S ll F cnt) (hwB S cnt ll) (10 - rwL F) F).natAbs)) := by
  refine Ci.ofI (cc := cX4_end) (maxL := 1) (by decide) rfl (Nat.le_of_ble_eq_true rfl) ?_
  intro p e s m args below meth c A Z hx hb hml hts hown hK hA hret H locs ls hP hD hS hl
  have f_10 := hts (.fieldLink RX4 10 "GhostGame" "dictionary" "LGhostGame$Dictionary;") (by decide +kernel)
  have f_19 := hts (.fieldLink RX4 19 "GhostGame" "game" "LGhostGame$Game;") (by decide +kernel)
  have hi_2 : ∀ w ∈ wsX40, w ∈ wsX4_end := by decide +kernel
  have hl : lv_has ls 1 [(0, .ref (x))] := hl
  refine lv_aload_n hx hb dX4_end_0 rfl (lv_at hl 0 rfl) ?_
  refine va_get (D := g.1) (ci := 2) (v := .ref (d)) (C := RX4) (T := TX4) (N := 3) hx hb hts hi_2 hown hK hP 0 rfl rfl 0 (by decide) f_10 (fun _ h9 => h9) rfl dX4_end_1 ?_
  refine lv_aload_n hx hb dX4_end_4 rfl (lv_at hl 0 rfl) ?_
  refine va_get (D := g.1) (ci := 2) (v := .ref (q)) (C := RX4) (T := TX4) (N := 3) hx hb hts hi_2 hown hK hP 0 rfl rfl 1 (by decide) f_19 (fun _ h9 => h9) rfl dX4_end_5 ?_
  refine call_lV (As := []) (rest := [.ref (d)]) (wr := [(x, .inr (2, [.ref (d), .ref (q), .long (lN (SL))])), (d, .inr (0, [.ref (v), .int (nI (cnt)), .int (nI (ll))])), (v, .inl (g.2.2.1, 50, .inr (.inl (f))))]) ⟨hx, hb, hml, hown, hts⟩ (c_X1_fragment l g q u k (nI np) mv lm ch (lN F)) (cwV 0 hts gX4_end_X1_fragment rfl rfl rfl (by decide +kernel) ⟨Nat.le_of_ble_eq_true rfl, Nat.le_of_ble_eq_true rfl⟩) hP hK hD hS hA [1, 2] [0, 3, 4] rfl rfl (by decide) (by decide) (by decide) 0 rfl rfl rfl rfl hl.1 rfl (Nat.le_of_ble_eq_true rfl) dX4_end_8 ⟨Nat.le_refl _, Nat.le_refl _⟩ (fun r_8 w H locs h_8 hP hD hS => ?_)
  obtain ⟨rfl, h_8⟩ := h_8
  subst h_8
  have hP := hP.sub [0, 3, 4, 1, 2] (ws' := (FW g x (lN SL) q u k (nI np) mv lm ch (lN F) d v f (nI cnt) (nI ll))) rfl
  have hD := hD.sub [0, 3, 4, 1, 2] (ws' := (FW g x (lN SL) q u k (nI np) mv lm ch (lN F) d v f (nI cnt) (nI ll))) (by decide) rfl
  have hP : va_P g.1 vwCl (FW g x (lN SL) q u k (nI np) mv lm ch (lN F) d v f (nI cnt) (nI ll)) H := hP
  have hD : va_D A (FW g x (lN SL) q u k (nI np) mv lm ch (lN F) d v f (nI cnt) (nI ll)) := hD
  refine call_iS (As := [.ref (d), .long (lN (F))]) (rest := []) (wr := [(x, .inr (2, [.ref (d), .ref (q), .long (lN (SL))])), (q, .inr (1, [.ref (u), .int (nI (np)), .int (mv), .int (lm), .int (ch), .long (lN (F))])), (u, .inl (g.2.1, 4, .inl (k)))]) ⟨hx, hb, hml, hown, hts⟩ (c_X3_endBehind l g d v f S cnt ll hf hc hll F hF) (va_cwS 2 hts gX4_end_X3_endBehind rfl rfl rfl (by decide +kernel) ⟨Nat.le_of_ble_eq_true rfl, Nat.le_of_ble_eq_true rfl⟩) hP hK hD hS hA [3, 4] [0, 1, 2] rfl rfl (by decide) (by decide) (by decide) rfl hl.1 rfl (Nat.le_of_ble_eq_true rfl) dX4_end_11 ⟨Nat.le_refl _, Nat.le_refl _⟩ (fun r_11 w H locs h_11 hP hD hS => ?_)
  obtain ⟨rfl, h_11⟩ := h_11
  subst h_11
  have hP : va_P g.1 vwCl (FW g x (lN SL) q u k (nI np) mv lm ch (lN F) d v f (nI cnt) (nI ll)) H := hP
  have hD : va_D A (FW g x (lN SL) q u k (nI np) mv lm ch (lN F) d v f (nI cnt) (nI ll)) := hD
  exact hret (nI (100 - (sc (fun F => opM S ll F cnt) (hwB S cnt ll) (10 - rwL F) F).natAbs)) (FW g x (lN SL) q u k (nI np) mv lm ch (lN F) d v f (nI cnt) (nI ll)) _ _ _ _ dX4_end_14 (⟨rfl, rfl⟩) hP hD hS

abbrev rm_X4_bestLetter : Room := { frames := 33, cells := 0, slots := 0, locals := 1291 }
set_option maxHeartbeats 4000000 in
set_option maxRecDepth 100000 in
theorem c_X4_bestLetter (l : Launch) (g : GG) (x q u d v : Nat) (SL : Nat) (k : Nat → Int32) (K : Nat → Nat) (np : Nat) (mv lm ch : Int32) (F : Nat) (f : Nat → Int64) (S : Nat → Nat) (cnt ll : Nat) (hSL : RV SL) (hF : RV F) (hk : GK k K) (hp : np ≤ 4) (hf : DR f S cnt) (hc : cnt ≤ 50) (hll : ll ≤ 10) : Ci l yX4_bestLetter wsX4_bestLetter rm_X4_bestLetter g [.ref (x)] (FW g x (lN SL) q u k (nI np) mv lm ch (lN F) d v f (nI cnt) (nI ll)) (fun r w => w = (FW g x (lN SL) q u k (nI np) mv lm ch (lN F) d v f (nI cnt) (nI ll)) ∧ ((∃ a, a < 26 ∧ ((opM S ll F cnt).testBit a = true ∧ scL (fun F => opM S ll F cnt) (hwB S cnt ll) (9 - rwL F) F a = sc (fun F => opM S ll F cnt) (hwB S cnt ll) (10 - rwL F) F) ∧ (∀ b, b < a → ¬ ((opM S ll F cnt).testBit b = true ∧ scL (fun F => opM S ll F cnt) (hwB S cnt ll) (9 - rwL F) F b = sc (fun F => opM S ll F cnt) (hwB S cnt ll) (10 - rwL F) F)) ∧ r = nI a) ∨ ((∀ b, b < 26 → ¬ ((opM S ll F cnt).testBit b = true ∧ scL (fun F => opM S ll F cnt) (hwB S cnt ll) (9 - rwL F) F b = sc (fun F => opM S ll F cnt) (hwB S cnt ll) (10 - rwL F) F)) ∧ r = -1))) := by
  refine Ci.ofI (cc := cX4_bestLetter) (maxL := 1) (by decide) rfl (Nat.le_of_ble_eq_true rfl) ?_
  intro p e s m args below meth c A Z hx hb hml hts hown hK hA hret H locs ls hP hD hS hl
  have f_10 := hts (.fieldLink RX4 10 "GhostGame" "dictionary" "LGhostGame$Dictionary;") (by decide +kernel)
  have f_19 := hts (.fieldLink RX4 19 "GhostGame" "game" "LGhostGame$Game;") (by decide +kernel)
  have hi_2 : ∀ w ∈ wsX40, w ∈ wsX4_bestLetter := by decide +kernel
  have hl : lv_has ls 1 [(0, .ref (x))] := hl
  refine lv_aload_n hx hb dX4_bestLetter_0 rfl (lv_at hl 0 rfl) ?_
  refine va_get (D := g.1) (ci := 2) (v := .ref (d)) (C := RX4) (T := TX4) (N := 3) hx hb hts hi_2 hown hK hP 0 rfl rfl 0 (by decide) f_10 (fun _ h9 => h9) rfl dX4_bestLetter_1 ?_
  refine lv_aload_n hx hb dX4_bestLetter_4 rfl (lv_at hl 0 rfl) ?_
  refine va_get (D := g.1) (ci := 2) (v := .ref (q)) (C := RX4) (T := TX4) (N := 3) hx hb hts hi_2 hown hK hP 0 rfl rfl 1 (by decide) f_19 (fun _ h9 => h9) rfl dX4_bestLetter_5 ?_
  refine call_lV (As := []) (rest := [.ref (d)]) (wr := [(x, .inr (2, [.ref (d), .ref (q), .long (lN (SL))])), (d, .inr (0, [.ref (v), .int (nI (cnt)), .int (nI (ll))])), (v, .inl (g.2.2.1, 50, .inr (.inl (f))))]) ⟨hx, hb, hml, hown, hts⟩ (c_X1_fragment l g q u k (nI np) mv lm ch (lN F)) (cwV 0 hts gX4_bestLetter_X1_fragment rfl rfl rfl (by decide +kernel) ⟨Nat.le_of_ble_eq_true rfl, Nat.le_of_ble_eq_true rfl⟩) hP hK hD hS hA [1, 2] [0, 3, 4] rfl rfl (by decide) (by decide) (by decide) 0 rfl rfl rfl rfl hl.1 rfl (Nat.le_of_ble_eq_true rfl) dX4_bestLetter_8 ⟨Nat.le_refl _, Nat.le_refl _⟩ (fun r_8 w H locs h_8 hP hD hS => ?_)
  obtain ⟨rfl, h_8⟩ := h_8
  subst h_8
  have hP := hP.sub [0, 3, 4, 1, 2] (ws' := (FW g x (lN SL) q u k (nI np) mv lm ch (lN F) d v f (nI cnt) (nI ll))) rfl
  have hD := hD.sub [0, 3, 4, 1, 2] (ws' := (FW g x (lN SL) q u k (nI np) mv lm ch (lN F) d v f (nI cnt) (nI ll))) (by decide) rfl
  have hP : va_P g.1 vwCl (FW g x (lN SL) q u k (nI np) mv lm ch (lN F) d v f (nI cnt) (nI ll)) H := hP
  have hD : va_D A (FW g x (lN SL) q u k (nI np) mv lm ch (lN F) d v f (nI cnt) (nI ll)) := hD
  refine call_iS (As := [.ref (d), .long (lN (F))]) (rest := []) (wr := [(x, .inr (2, [.ref (d), .ref (q), .long (lN (SL))])), (q, .inr (1, [.ref (u), .int (nI (np)), .int (mv), .int (lm), .int (ch), .long (lN (F))])), (u, .inl (g.2.1, 4, .inl (k)))]) ⟨hx, hb, hml, hown, hts⟩ (c_X3_letterChosenBehind l g d v f S cnt ll hf hc hll F hF) (va_cwS 2 hts gX4_bestLetter_X3_letterChosenBehind rfl rfl rfl (by decide +kernel) ⟨Nat.le_of_ble_eq_true rfl, Nat.le_of_ble_eq_true rfl⟩) hP hK hD hS hA [3, 4] [0, 1, 2] rfl rfl (by decide) (by decide) (by decide) rfl hl.1 rfl (Nat.le_of_ble_eq_true rfl) dX4_bestLetter_11 ⟨Nat.le_refl _, Nat.le_refl _⟩ (fun r_11 w H locs h_11 hP hD hS => ?_)
  obtain ⟨rfl, h_11⟩ := h_11
  have hP : va_P g.1 vwCl (FW g x (lN SL) q u k (nI np) mv lm ch (lN F) d v f (nI cnt) (nI ll)) H := hP
  have hD : va_D A (FW g x (lN SL) q u k (nI np) mv lm ch (lN F) d v f (nI cnt) (nI ll)) := hD
  exact hret (r_11) (FW g x (lN SL) q u k (nI np) mv lm ch (lN F) d v f (nI cnt) (nI ll)) _ _ _ _ dX4_bestLetter_14 (⟨rfl, h_11⟩) hP hD hS

abbrev rm_X4_waysToPlay : Room := { frames := 5, cells := 0, slots := 0, locals := 118 }
set_option maxHeartbeats 4000000 in
set_option maxRecDepth 100000 in
theorem c_X4_waysToPlay (l : Launch) (g : GG) (x q u d v : Nat) (SL : Nat) (k : Nat → Int32) (K : Nat → Nat) (np : Nat) (mv lm ch : Int32) (F : Nat) (f : Nat → Int64) (S : Nat → Nat) (cnt ll : Nat) (hSL : RV SL) (hF : RV F) (hk : GK k K) (hp : np ≤ 4) (hf : DR f S cnt) (hc : cnt ≤ 50) (hll : ll ≤ 10) : Ci l yX4_waysToPlay wsX4_waysToPlay rm_X4_waysToPlay g [.ref (x)] (FW g x (lN SL) q u k (nI np) mv lm ch (lN F) d v f (nI cnt) (nI ll)) (fun r w => w = (FW g x (lN SL) q u k (nI np) mv lm ch (lN F) d v f (nI cnt) (nI ll)) ∧ r = nI (fb_ct (fun i => bB (wyP S cnt ll F (S i))) cnt)) := by
  refine Ci.ofI (cc := cX4_waysToPlay) (maxL := 1) (by decide) rfl (Nat.le_of_ble_eq_true rfl) ?_
  intro p e s m args below meth c A Z hx hb hml hts hown hK hA hret H locs ls hP hD hS hl
  have f_10 := hts (.fieldLink RX4 10 "GhostGame" "dictionary" "LGhostGame$Dictionary;") (by decide +kernel)
  have f_19 := hts (.fieldLink RX4 19 "GhostGame" "game" "LGhostGame$Game;") (by decide +kernel)
  have hi_2 : ∀ w ∈ wsX40, w ∈ wsX4_waysToPlay := by decide +kernel
  have hl : lv_has ls 1 [(0, .ref (x))] := hl
  refine lv_aload_n hx hb dX4_waysToPlay_0 rfl (lv_at hl 0 rfl) ?_
  refine va_get (D := g.1) (ci := 2) (v := .ref (d)) (C := RX4) (T := TX4) (N := 3) hx hb hts hi_2 hown hK hP 0 rfl rfl 0 (by decide) f_10 (fun _ h9 => h9) rfl dX4_waysToPlay_1 ?_
  refine lv_aload_n hx hb dX4_waysToPlay_4 rfl (lv_at hl 0 rfl) ?_
  refine va_get (D := g.1) (ci := 2) (v := .ref (q)) (C := RX4) (T := TX4) (N := 3) hx hb hts hi_2 hown hK hP 0 rfl rfl 1 (by decide) f_19 (fun _ h9 => h9) rfl dX4_waysToPlay_5 ?_
  refine call_lV (As := []) (rest := [.ref (d)]) (wr := [(x, .inr (2, [.ref (d), .ref (q), .long (lN (SL))])), (d, .inr (0, [.ref (v), .int (nI (cnt)), .int (nI (ll))])), (v, .inl (g.2.2.1, 50, .inr (.inl (f))))]) ⟨hx, hb, hml, hown, hts⟩ (c_X1_fragment l g q u k (nI np) mv lm ch (lN F)) (cwV 0 hts gX4_waysToPlay_X1_fragment rfl rfl rfl (by decide +kernel) ⟨Nat.le_of_ble_eq_true rfl, Nat.le_of_ble_eq_true rfl⟩) hP hK hD hS hA [1, 2] [0, 3, 4] rfl rfl (by decide) (by decide) (by decide) 0 rfl rfl rfl rfl hl.1 rfl (Nat.le_of_ble_eq_true rfl) dX4_waysToPlay_8 ⟨Nat.le_refl _, Nat.le_refl _⟩ (fun r_8 w H locs h_8 hP hD hS => ?_)
  obtain ⟨rfl, h_8⟩ := h_8
  subst h_8
  have hP := hP.sub [0, 3, 4, 1, 2] (ws' := (FW g x (lN SL) q u k (nI np) mv lm ch (lN F) d v f (nI cnt) (nI ll))) rfl
  have hD := hD.sub [0, 3, 4, 1, 2] (ws' := (FW g x (lN SL) q u k (nI np) mv lm ch (lN F) d v f (nI cnt) (nI ll))) (by decide) rfl
  have hP : va_P g.1 vwCl (FW g x (lN SL) q u k (nI np) mv lm ch (lN F) d v f (nI cnt) (nI ll)) H := hP
  have hD : va_D A (FW g x (lN SL) q u k (nI np) mv lm ch (lN F) d v f (nI cnt) (nI ll)) := hD
  refine call_iS (As := [.ref (d), .long (lN (F))]) (rest := []) (wr := [(x, .inr (2, [.ref (d), .ref (q), .long (lN (SL))])), (q, .inr (1, [.ref (u), .int (nI (np)), .int (mv), .int (lm), .int (ch), .long (lN (F))])), (u, .inl (g.2.1, 4, .inl (k)))]) ⟨hx, hb, hml, hown, hts⟩ (c_X3_countWays l g d v f S cnt ll hf hc hll F hF) (va_cwS 2 hts gX4_waysToPlay_X3_countWays rfl rfl rfl (by decide +kernel) ⟨Nat.le_of_ble_eq_true rfl, Nat.le_of_ble_eq_true rfl⟩) hP hK hD hS hA [3, 4] [0, 1, 2] rfl rfl (by decide) (by decide) (by decide) rfl hl.1 rfl (Nat.le_of_ble_eq_true rfl) dX4_waysToPlay_11 ⟨Nat.le_refl _, Nat.le_refl _⟩ (fun r_11 w H locs h_11 hP hD hS => ?_)
  obtain ⟨rfl, h_11⟩ := h_11
  subst h_11
  have hP : va_P g.1 vwCl (FW g x (lN SL) q u k (nI np) mv lm ch (lN F) d v f (nI cnt) (nI ll)) H := hP
  have hD : va_D A (FW g x (lN SL) q u k (nI np) mv lm ch (lN F) d v f (nI cnt) (nI ll)) := hD
  exact hret (nI (fb_ct (fun i => bB (wyP S cnt ll F (S i))) cnt)) (FW g x (lN SL) q u k (nI np) mv lm ch (lN F) d v f (nI cnt) (nI ll)) _ _ _ _ dX4_waysToPlay_14 (⟨rfl, rfl⟩) hP hD hS

abbrev rm_X4_waysToWin : Room := { frames := 5, cells := 0, slots := 0, locals := 120 }
set_option maxHeartbeats 4000000 in
set_option maxRecDepth 100000 in
theorem c_X4_waysToWin (l : Launch) (g : GG) (x q u d v : Nat) (SL : Nat) (k : Nat → Int32) (K : Nat → Nat) (np : Nat) (mv lm ch : Int32) (F : Nat) (f : Nat → Int64) (S : Nat → Nat) (cnt ll : Nat) (hSL : RV SL) (hF : RV F) (hk : GK k K) (hp : np ≤ 4) (hf : DR f S cnt) (hc : cnt ≤ 50) (hll : ll ≤ 10) : Ci l yX4_waysToWin wsX4_waysToWin rm_X4_waysToWin g [.ref (x)] (FW g x (lN SL) q u k (nI np) mv lm ch (lN F) d v f (nI cnt) (nI ll)) (fun r w => w = (FW g x (lN SL) q u k (nI np) mv lm ch (lN F) d v f (nI cnt) (nI ll)) ∧ r = nI (fb_ct (fun i => bB (wyP S cnt ll F (S i) ∧ (rwL (S i) - rwL F) % 2 = 0)) cnt)) := by
  refine Ci.ofI (cc := cX4_waysToWin) (maxL := 1) (by decide) rfl (Nat.le_of_ble_eq_true rfl) ?_
  intro p e s m args below meth c A Z hx hb hml hts hown hK hA hret H locs ls hP hD hS hl
  have f_10 := hts (.fieldLink RX4 10 "GhostGame" "dictionary" "LGhostGame$Dictionary;") (by decide +kernel)
  have f_19 := hts (.fieldLink RX4 19 "GhostGame" "game" "LGhostGame$Game;") (by decide +kernel)
  have hi_2 : ∀ w ∈ wsX40, w ∈ wsX4_waysToWin := by decide +kernel
  have hl : lv_has ls 1 [(0, .ref (x))] := hl
  refine lv_aload_n hx hb dX4_waysToWin_0 rfl (lv_at hl 0 rfl) ?_
  refine va_get (D := g.1) (ci := 2) (v := .ref (d)) (C := RX4) (T := TX4) (N := 3) hx hb hts hi_2 hown hK hP 0 rfl rfl 0 (by decide) f_10 (fun _ h9 => h9) rfl dX4_waysToWin_1 ?_
  refine lv_aload_n hx hb dX4_waysToWin_4 rfl (lv_at hl 0 rfl) ?_
  refine va_get (D := g.1) (ci := 2) (v := .ref (q)) (C := RX4) (T := TX4) (N := 3) hx hb hts hi_2 hown hK hP 0 rfl rfl 1 (by decide) f_19 (fun _ h9 => h9) rfl dX4_waysToWin_5 ?_
  refine call_lV (As := []) (rest := [.ref (d)]) (wr := [(x, .inr (2, [.ref (d), .ref (q), .long (lN (SL))])), (d, .inr (0, [.ref (v), .int (nI (cnt)), .int (nI (ll))])), (v, .inl (g.2.2.1, 50, .inr (.inl (f))))]) ⟨hx, hb, hml, hown, hts⟩ (c_X1_fragment l g q u k (nI np) mv lm ch (lN F)) (cwV 0 hts gX4_waysToWin_X1_fragment rfl rfl rfl (by decide +kernel) ⟨Nat.le_of_ble_eq_true rfl, Nat.le_of_ble_eq_true rfl⟩) hP hK hD hS hA [1, 2] [0, 3, 4] rfl rfl (by decide) (by decide) (by decide) 0 rfl rfl rfl rfl hl.1 rfl (Nat.le_of_ble_eq_true rfl) dX4_waysToWin_8 ⟨Nat.le_refl _, Nat.le_refl _⟩ (fun r_8 w H locs h_8 hP hD hS => ?_)
  obtain ⟨rfl, h_8⟩ := h_8
  subst h_8
  have hP := hP.sub [0, 3, 4, 1, 2] (ws' := (FW g x (lN SL) q u k (nI np) mv lm ch (lN F) d v f (nI cnt) (nI ll))) rfl
  have hD := hD.sub [0, 3, 4, 1, 2] (ws' := (FW g x (lN SL) q u k (nI np) mv lm ch (lN F) d v f (nI cnt) (nI ll))) (by decide) rfl
  have hP : va_P g.1 vwCl (FW g x (lN SL) q u k (nI np) mv lm ch (lN F) d v f (nI cnt) (nI ll)) H := hP
  have hD : va_D A (FW g x (lN SL) q u k (nI np) mv lm ch (lN F) d v f (nI cnt) (nI ll)) := hD
  refine call_iS (As := [.ref (d), .long (lN (F))]) (rest := []) (wr := [(x, .inr (2, [.ref (d), .ref (q), .long (lN (SL))])), (q, .inr (1, [.ref (u), .int (nI (np)), .int (mv), .int (lm), .int (ch), .long (lN (F))])), (u, .inl (g.2.1, 4, .inl (k)))]) ⟨hx, hb, hml, hown, hts⟩ (c_X3_countWonWays l g d v f S cnt ll hf hc hll F hF) (va_cwS 2 hts gX4_waysToWin_X3_countWonWays rfl rfl rfl (by decide +kernel) ⟨Nat.le_of_ble_eq_true rfl, Nat.le_of_ble_eq_true rfl⟩) hP hK hD hS hA [3, 4] [0, 1, 2] rfl rfl (by decide) (by decide) (by decide) rfl hl.1 rfl (Nat.le_of_ble_eq_true rfl) dX4_waysToWin_11 ⟨Nat.le_refl _, Nat.le_refl _⟩ (fun r_11 w H locs h_11 hP hD hS => ?_)
  obtain ⟨rfl, h_11⟩ := h_11
  subst h_11
  have hP : va_P g.1 vwCl (FW g x (lN SL) q u k (nI np) mv lm ch (lN F) d v f (nI cnt) (nI ll)) H := hP
  have hD : va_D A (FW g x (lN SL) q u k (nI np) mv lm ch (lN F) d v f (nI cnt) (nI ll)) := hD
  exact hret (nI (fb_ct (fun i => bB (wyP S cnt ll F (S i) ∧ (rwL (S i) - rwL F) % 2 = 0)) cnt)) (FW g x (lN SL) q u k (nI np) mv lm ch (lN F) d v f (nI cnt) (nI ll)) _ _ _ _ dX4_waysToWin_14 (⟨rfl, rfl⟩) hP hD hS

abbrev rm_X4_write : Room := { frames := 6, cells := 1, slots := 6, locals := 90 }
set_option maxHeartbeats 4000000 in
set_option maxRecDepth 100000 in
theorem c_X4_write (l : Launch) (hl0 : l.flags = flags0) (g : GG) (x q u d v : Nat) (SL : Nat) (k : Nat → Int32) (K : Nat → Nat) (np : Nat) (mv lm ch : Int32) (F : Nat) (f : Nat → Int64) (S : Nat → Nat) (cnt ll : Nat) (hSL : RV SL) (hF : RV F) (hk : GK k K) (hp : np ≤ 4) (hf : DR f S cnt) (hc : cnt ≤ 50) (hll : ll ≤ 10) (x0 : Int32) : Xi l yX4_write wsX4_write rm_X4_write g [.ref (x), .int (x0)] (FW g x (lN SL) q u k (nI np) mv lm ch (lN F) d v f (nI cnt) (nI ll)) (fun r w => ∃ a : Nat, a < 26 ∧ nI a = x0 ∧ rwL SL < 10 ∧ r = nI (rwL SL + 1) ∧ w = (FW g x (lN (rwX SL a)) q u k (nI np) mv lm ch (lN F) d v f (nI cnt) (nI ll))) (fun E => (E = "java/lang/IllegalArgumentException" ∧ ¬ (∃ a : Nat, a < 26 ∧ nI a = x0)) ∨ (E = "java/lang/IllegalStateException" ∧ (∃ a : Nat, a < 26 ∧ nI a = x0) ∧ 10 ≤ rwL SL)) := by
  refine Xi.of (cc := cX4_write) (maxL := 2) hl0 rfl (by decide) rfl (Nat.le_of_ble_eq_true rfl) ⟨rfl, rfl⟩ ?_
  intro p e s m args below meth c A Z hx hb hml hts hown hK hA hret hthr H locs ls hP hD hS hl
  have f_25 := hts (.fieldLink RX4 25 "GhostGame" "slip" "J") (by decide +kernel)
  have hi_2 : ∀ w ∈ wsX40, w ∈ wsX4_write := by decide +kernel
  have hl : lv_has ls 2 [(0, .ref (x)), (1, .int (x0))] := hl
  refine lv_iload_n hx hb dX4_write_0 rfl (lv_at hl 1 rfl) ?_
  refine call_iP (As := [.int (x0)]) (rest := []) ⟨hx, hb, hml, hown, hts⟩ (c_X4_isLetter l (x0)) (va_cwS 1 hts gX4_write_X4_isLetter rfl rfl rfl (by decide +kernel) ⟨Nat.le_of_ble_eq_true rfl, Nat.le_of_ble_eq_true rfl⟩) hP hK hD hS hA rfl hl.1 rfl (Nat.le_of_ble_eq_true rfl) dX4_write_1 ⟨Nat.le_of_ble_eq_true rfl, Nat.le_of_ble_eq_true rfl⟩ (fun r_1 H locs h_1 hP hD hS => ?_)
  refine lv_if_ne (tgt := 17) hx hb dX4_write_4 (by decide) (fun c_4_1 => ?_) (fun c_4_1 => ?_)
  · skip
    have n_4_1 := Bv.t h_1 c_4_1
    obtain ⟨a, ha, rfl⟩ := n_4_1
    refine lv_aload_n hx hb dX4_write_17 rfl (lv_at hl 0 rfl) ?_
    refine va_get (D := g.1) (ci := 2) (v := .long (lN (SL))) (C := RX4) (T := TX4) (N := 3) hx hb hts hi_2 hown hK hP 0 rfl rfl 2 (by decide) f_25 (fun _ h9 => h9) rfl dX4_write_18 ?_
    refine call_iP (As := [.long (lN (SL))]) (rest := []) ⟨hx, hb, hml, hown, hts⟩ (c_X2_isFull l SL hSL) (va_cwS 1 hts gX4_write_X2_isFull rfl rfl rfl (by decide +kernel) ⟨Nat.le_of_ble_eq_true rfl, Nat.le_of_ble_eq_true rfl⟩) hP hK hD hS hA rfl hl.1 rfl (Nat.le_of_ble_eq_true rfl) dX4_write_21 ⟨Nat.le_of_ble_eq_true rfl, Nat.le_of_ble_eq_true rfl⟩ (fun r_21 H locs h_21 hP hD hS => ?_)
    refine lv_if_eq (tgt := 37) hx hb dX4_write_24 (by decide) (fun c_24_2 => ?_) (fun c_24_2 => ?_)
    · skip
      have n_24_2 := Bv.f h_21 c_24_2
      refine lv_aload_n hx hb dX4_write_37 rfl (lv_at hl 0 rfl) ?_
      refine lv_aload_n hx hb dX4_write_38 rfl (lv_at hl 0 rfl) ?_
      refine va_get (D := g.1) (ci := 2) (v := .long (lN (SL))) (C := RX4) (T := TX4) (N := 3) hx hb hts hi_2 hown hK hP 0 rfl rfl 2 (by decide) f_25 (fun _ h9 => h9) rfl dX4_write_39 ?_
      refine lv_iload_n hx hb dX4_write_42 rfl (lv_at hl 1 rfl) ?_
      refine call_lP (As := [.long (lN (SL)), .int (nI (a))]) (rest := [.ref (x)]) ⟨hx, hb, hml, hown, hts⟩ (c_X2_with l SL a hSL (by omega) (by omega)) (va_cwS 2 hts gX4_write_X2_with rfl rfl rfl (by decide +kernel) ⟨Nat.le_of_ble_eq_true rfl, Nat.le_of_ble_eq_true rfl⟩) hP hK hD hS hA rfl hl.1 rfl (Nat.le_of_ble_eq_true rfl) dX4_write_43 ⟨Nat.le_of_ble_eq_true rfl, Nat.le_of_ble_eq_true rfl⟩ (fun r_43 H locs h_43 hP hD hS => ?_)
      subst h_43
      refine va_put (D := g.1) (ci := 2) (v := .long (lN (rwX SL a))) (ty := .long) (C := RX4) (T := TX4) (N := 3) hx hb hts hi_2 tyX4 tyX4_ok nmX4 hown hK hP hD hS 0 rfl rfl 2 (by decide) f_25 (fun _ h9 => h9) rfl (by decide +kernel) rfl rfl (Nat.le_of_ble_eq_true rfl) dX4_write_46 (fun H locs hP hD hS => ?_)
      have hP : va_P g.1 vwCl (FW g x (lN (rwX SL a)) q u k (nI np) mv lm ch (lN F) d v f (nI cnt) (nI ll)) H := hP
      have hD : va_D A (FW g x (lN (rwX SL a)) q u k (nI np) mv lm ch (lN F) d v f (nI cnt) (nI ll)) := hD
      refine lv_aload_n hx hb dX4_write_49 rfl (lv_at hl 0 rfl) ?_
      refine va_get (D := g.1) (ci := 2) (v := .long (lN (rwX SL a))) (C := RX4) (T := TX4) (N := 3) hx hb hts hi_2 hown hK hP 0 rfl rfl 2 (by decide) f_25 (fun _ h9 => h9) rfl dX4_write_50 ?_
      refine call_iP (As := [.long (lN (rwX SL a))]) (rest := []) ⟨hx, hb, hml, hown, hts⟩ (c_X2_lengthOf l (rwX SL a) (hSL.rx (by omega) ha).lt) (va_cwS 1 hts gX4_write_X2_lengthOf rfl rfl rfl (by decide +kernel) ⟨Nat.le_of_ble_eq_true rfl, Nat.le_of_ble_eq_true rfl⟩) hP hK hD hS hA rfl hl.1 rfl (Nat.le_of_ble_eq_true rfl) dX4_write_53 ⟨Nat.le_of_ble_eq_true rfl, Nat.le_of_ble_eq_true rfl⟩ (fun r_53 H locs h_53 hP hD hS => ?_)
      rw [hSL.rxl (by omega) (by omega)] at h_53
      subst h_53
      exact hret (nI (rwL SL + 1)) (FW g x (lN (rwX SL a)) q u k (nI np) mv lm ch (lN F) d v f (nI cnt) (nI ll)) _ _ _ _ dX4_write_56 (⟨a, ha, rfl, by omega, rfl, rfl⟩) hP hD hS
    · skip
      have n_24_2 := Bv.t h_21 c_24_2
      exact hthr "java/lang/IllegalStateException" "the slip has 10 letters" ["java/lang/RuntimeException", "java/lang/Exception"] 44 46 48 H locs ls [] 27 (by decide +kernel) (by decide +kernel) (by decide +kernel) (by decide +kernel) (by decide +kernel) (fun w h => List.mem_cons_of_mem _ (List.mem_append_right _ h)) (by decide +kernel) (by decide +kernel) hl.1 dX4_write_27 dX4_write_30 dX4_write_31 dX4_write_33 dX4_write_36 (Nat.le_of_ble_eq_true rfl) (Nat.le_of_ble_eq_true rfl) (Or.inr ⟨rfl, ⟨a, ha, rfl⟩, n_24_2⟩) hP hD hS
  · skip
    have n_4_1 := Bv.f h_1 c_4_1
    exact hthr "java/lang/IllegalArgumentException" "a letter is a number from 0 to 25" ["java/lang/RuntimeException", "java/lang/Exception"] 33 35 37 H locs ls [] 7 (by decide +kernel) (by decide +kernel) (by decide +kernel) (by decide +kernel) (by decide +kernel) (fun w h => List.mem_cons_of_mem _ (List.mem_append_left _ (List.mem_append_right _ h))) (by decide +kernel) (by decide +kernel) hl.1 dX4_write_7 dX4_write_10 dX4_write_11 dX4_write_13 dX4_write_16 (Nat.le_of_ble_eq_true rfl) (Nat.le_of_ble_eq_true rfl) (Or.inl ⟨rfl, n_4_1⟩) hP hD hS

abbrev rm_X4_slipAt : Room := { frames := 6, cells := 1, slots := 6, locals := 90 }
set_option maxHeartbeats 4000000 in
set_option maxRecDepth 100000 in
theorem c_X4_slipAt (l : Launch) (hl0 : l.flags = flags0) (g : GG) (x q u d v : Nat) (SL : Nat) (k : Nat → Int32) (K : Nat → Nat) (np : Nat) (mv lm ch : Int32) (F : Nat) (f : Nat → Int64) (S : Nat → Nat) (cnt ll : Nat) (hSL : RV SL) (hF : RV F) (hk : GK k K) (hp : np ≤ 4) (hf : DR f S cnt) (hc : cnt ≤ 50) (hll : ll ≤ 10) (x0 : Int32) : Xi l yX4_slipAt wsX4_slipAt rm_X4_slipAt g [.ref (x), .int (x0)] (FW g x (lN SL) q u k (nI np) mv lm ch (lN F) d v f (nI cnt) (nI ll)) (fun r w => w = (FW g x (lN SL) q u k (nI np) mv lm ch (lN F) d v f (nI cnt) (nI ll)) ∧ ∃ j : Nat, j < rwL SL ∧ nI j = x0 ∧ r = nI (rwA SL j)) (fun E => E = "java/lang/IndexOutOfBoundsException" ∧ ¬ ∃ j : Nat, j < rwL SL ∧ nI j = x0) := by
  refine Xi.of (cc := cX4_slipAt) (maxL := 3) hl0 rfl (by decide) rfl (Nat.le_of_ble_eq_true rfl) ⟨rfl, rfl⟩ ?_
  intro p e s m args below meth c A Z hx hb hml hts hown hK hA hret hthr H locs ls hP hD hS hl
  have f_25 := hts (.fieldLink RX4 25 "GhostGame" "slip" "J") (by decide +kernel)
  have hi_2 : ∀ w ∈ wsX40, w ∈ wsX4_slipAt := by decide +kernel
  have hl : lv_has ls 3 [(0, .ref (x)), (1, .int (x0))] := hl
  refine lv_aload_n hx hb dX4_slipAt_0 rfl (lv_at hl 0 rfl) ?_
  refine va_get (D := g.1) (ci := 2) (v := .long (lN (SL))) (C := RX4) (T := TX4) (N := 3) hx hb hts hi_2 hown hK hP 0 rfl rfl 2 (by decide) f_25 (fun _ h9 => h9) rfl dX4_slipAt_1 ?_
  refine lv_iload_n hx hb dX4_slipAt_4 rfl (lv_at hl 1 rfl) ?_
  refine call_iP (As := [.long (lN (SL)), .int (x0)]) (rest := []) ⟨hx, hb, hml, hown, hts⟩ (c_X2_letterAt l SL x0 hSL) (va_cwS 2 hts gX4_slipAt_X2_letterAt rfl rfl rfl (by decide +kernel) ⟨Nat.le_of_ble_eq_true rfl, Nat.le_of_ble_eq_true rfl⟩) hP hK hD hS hA rfl hl.1 rfl (Nat.le_of_ble_eq_true rfl) dX4_slipAt_5 ⟨Nat.le_of_ble_eq_true rfl, Nat.le_of_ble_eq_true rfl⟩ (fun r_5 H locs h_5 hP hD hS => ?_)
  refine lv_istore_n (lv' := [(2, .int (r_5)), (0, .ref (x)), (1, .int (x0))]) hx hb dX4_slipAt_8 rfl hl (by decide) rfl (fun ls hl => ?_)
  refine lv_iload_n hx hb dX4_slipAt_9 rfl (lv_at hl 0 rfl) ?_
  refine lv_iconst (v := -1) hx hb dX4_slipAt_10 (by decide) ?_
  refine lv_icmp_ne (tgt := 24) hx hb dX4_slipAt_11 (by decide) (fun c_11_1 => ?_) (fun c_11_1 => ?_)
  · skip
    have n9 : ∃ j : Nat, j < rwL SL ∧ nI j = x0 ∧ r_5 = nI (rwA SL j) := by
      rcases h_5 with h | ⟨-, h⟩
      · exact h
      · exact absurd h c_11_1
    refine lv_iload_n hx hb dX4_slipAt_24 rfl (lv_at hl 0 rfl) ?_
    exact hret (r_5) (FW g x (lN SL) q u k (nI np) mv lm ch (lN F) d v f (nI cnt) (nI ll)) _ _ _ _ dX4_slipAt_25 (⟨rfl, n9⟩) hP hD hS
  · skip
    have n9 : ¬ ∃ j : Nat, j < rwL SL ∧ nI j = x0 := by
      rcases h_5 with ⟨j, h1, h2, h3⟩ | ⟨h, -⟩
      · have hlt := hSL.2.2 j h1
        rw [h3] at c_11_1
        exact absurd c_11_1 (nI_nem1 (by omega))
      · exact h
    exact hthr "java/lang/IndexOutOfBoundsException" "the slip has no such letter" ["java/lang/RuntimeException", "java/lang/Exception"] 61 63 65 H locs ls [] 14 (by decide +kernel) (by decide +kernel) (by decide +kernel) (by decide +kernel) (by decide +kernel) (fun w h => List.mem_cons_of_mem _ (List.mem_append_right _ h)) (by decide +kernel) (by decide +kernel) hl.1 dX4_slipAt_14 dX4_slipAt_17 dX4_slipAt_18 dX4_slipAt_20 dX4_slipAt_23 (Nat.le_of_ble_eq_true rfl) (Nat.le_of_ble_eq_true rfl) (⟨rfl, n9⟩) hP hD hS

abbrev rm_X4_fragmentAt : Room := { frames := 6, cells := 1, slots := 6, locals := 90 }
set_option maxHeartbeats 4000000 in
set_option maxRecDepth 100000 in
theorem c_X4_fragmentAt (l : Launch) (hl0 : l.flags = flags0) (g : GG) (x q u d v : Nat) (SL : Nat) (k : Nat → Int32) (K : Nat → Nat) (np : Nat) (mv lm ch : Int32) (F : Nat) (f : Nat → Int64) (S : Nat → Nat) (cnt ll : Nat) (hSL : RV SL) (hF : RV F) (hk : GK k K) (hp : np ≤ 4) (hf : DR f S cnt) (hc : cnt ≤ 50) (hll : ll ≤ 10) (x0 : Int32) : Xi l yX4_fragmentAt wsX4_fragmentAt rm_X4_fragmentAt g [.ref (x), .int (x0)] (FW g x (lN SL) q u k (nI np) mv lm ch (lN F) d v f (nI cnt) (nI ll)) (fun r w => w = (FW g x (lN SL) q u k (nI np) mv lm ch (lN F) d v f (nI cnt) (nI ll)) ∧ ∃ j : Nat, j < rwL F ∧ nI j = x0 ∧ r = nI (rwA F j)) (fun E => E = "java/lang/IndexOutOfBoundsException" ∧ ¬ ∃ j : Nat, j < rwL F ∧ nI j = x0) := by
  refine Xi.of (cc := cX4_fragmentAt) (maxL := 3) hl0 rfl (by decide) rfl (Nat.le_of_ble_eq_true rfl) ⟨rfl, rfl⟩ ?_
  intro p e s m args below meth c A Z hx hb hml hts hown hK hA hret hthr H locs ls hP hD hS hl
  have f_19 := hts (.fieldLink RX4 19 "GhostGame" "game" "LGhostGame$Game;") (by decide +kernel)
  have hi_2 : ∀ w ∈ wsX40, w ∈ wsX4_fragmentAt := by decide +kernel
  have hl : lv_has ls 3 [(0, .ref (x)), (1, .int (x0))] := hl
  refine lv_aload_n hx hb dX4_fragmentAt_0 rfl (lv_at hl 0 rfl) ?_
  refine va_get (D := g.1) (ci := 2) (v := .ref (q)) (C := RX4) (T := TX4) (N := 3) hx hb hts hi_2 hown hK hP 0 rfl rfl 1 (by decide) f_19 (fun _ h9 => h9) rfl dX4_fragmentAt_1 ?_
  refine call_lV (As := []) (rest := []) (wr := [(x, .inr (2, [.ref (d), .ref (q), .long (lN (SL))])), (d, .inr (0, [.ref (v), .int (nI (cnt)), .int (nI (ll))])), (v, .inl (g.2.2.1, 50, .inr (.inl (f))))]) ⟨hx, hb, hml, hown, hts⟩ (c_X1_fragment l g q u k (nI np) mv lm ch (lN F)) (cwV 0 hts gX4_fragmentAt_X1_fragment rfl rfl rfl (by decide +kernel) ⟨Nat.le_of_ble_eq_true rfl, Nat.le_of_ble_eq_true rfl⟩) hP hK hD hS hA [1, 2] [0, 3, 4] rfl rfl (by decide) (by decide) (by decide) 0 rfl rfl rfl rfl hl.1 rfl (Nat.le_of_ble_eq_true rfl) dX4_fragmentAt_4 ⟨Nat.le_of_ble_eq_true rfl, Nat.le_of_ble_eq_true rfl⟩ (fun r_4 w H locs h_4 hP hD hS => ?_)
  obtain ⟨rfl, h_4⟩ := h_4
  subst h_4
  have hP := hP.sub [0, 3, 4, 1, 2] (ws' := (FW g x (lN SL) q u k (nI np) mv lm ch (lN F) d v f (nI cnt) (nI ll))) rfl
  have hD := hD.sub [0, 3, 4, 1, 2] (ws' := (FW g x (lN SL) q u k (nI np) mv lm ch (lN F) d v f (nI cnt) (nI ll))) (by decide) rfl
  have hP : va_P g.1 vwCl (FW g x (lN SL) q u k (nI np) mv lm ch (lN F) d v f (nI cnt) (nI ll)) H := hP
  have hD : va_D A (FW g x (lN SL) q u k (nI np) mv lm ch (lN F) d v f (nI cnt) (nI ll)) := hD
  refine lv_iload_n hx hb dX4_fragmentAt_7 rfl (lv_at hl 1 rfl) ?_
  refine call_iP (As := [.long (lN (F)), .int (x0)]) (rest := []) ⟨hx, hb, hml, hown, hts⟩ (c_X2_letterAt l F x0 hF) (va_cwS 2 hts gX4_fragmentAt_X2_letterAt rfl rfl rfl (by decide +kernel) ⟨Nat.le_of_ble_eq_true rfl, Nat.le_of_ble_eq_true rfl⟩) hP hK hD hS hA rfl hl.1 rfl (Nat.le_of_ble_eq_true rfl) dX4_fragmentAt_8 ⟨Nat.le_of_ble_eq_true rfl, Nat.le_of_ble_eq_true rfl⟩ (fun r_8 H locs h_8 hP hD hS => ?_)
  refine lv_istore_n (lv' := [(2, .int (r_8)), (0, .ref (x)), (1, .int (x0))]) hx hb dX4_fragmentAt_11 rfl hl (by decide) rfl (fun ls hl => ?_)
  refine lv_iload_n hx hb dX4_fragmentAt_12 rfl (lv_at hl 0 rfl) ?_
  refine lv_iconst (v := -1) hx hb dX4_fragmentAt_13 (by decide) ?_
  refine lv_icmp_ne (tgt := 27) hx hb dX4_fragmentAt_14 (by decide) (fun c_14_1 => ?_) (fun c_14_1 => ?_)
  · skip
    have n9 : ∃ j : Nat, j < rwL F ∧ nI j = x0 ∧ r_8 = nI (rwA F j) := by
      rcases h_8 with h | ⟨-, h⟩
      · exact h
      · exact absurd h c_14_1
    refine lv_iload_n hx hb dX4_fragmentAt_27 rfl (lv_at hl 0 rfl) ?_
    exact hret (r_8) (FW g x (lN SL) q u k (nI np) mv lm ch (lN F) d v f (nI cnt) (nI ll)) _ _ _ _ dX4_fragmentAt_28 (⟨rfl, n9⟩) hP hD hS
  · skip
    have n9 : ¬ ∃ j : Nat, j < rwL F ∧ nI j = x0 := by
      rcases h_8 with ⟨j, h1, h2, h3⟩ | ⟨h, -⟩
      · have hlt := hF.2.2 j h1
        rw [h3] at c_14_1
        exact absurd c_14_1 (nI_nem1 (by omega))
      · exact h
    exact hthr "java/lang/IndexOutOfBoundsException" "the fragment has no such letter" ["java/lang/RuntimeException", "java/lang/Exception"] 61 143 65 H locs ls [] 17 (by decide +kernel) (by decide +kernel) (by decide +kernel) (by decide +kernel) (by decide +kernel) (fun w h => List.mem_cons_of_mem _ (List.mem_append_right _ h)) (by decide +kernel) (by decide +kernel) hl.1 dX4_fragmentAt_17 dX4_fragmentAt_20 dX4_fragmentAt_21 dX4_fragmentAt_23 dX4_fragmentAt_26 (Nat.le_of_ble_eq_true rfl) (Nat.le_of_ble_eq_true rfl) (⟨rfl, n9⟩) hP hD hS

abbrev rm_X4_strikes : Room := { frames := 6, cells := 1, slots := 6, locals := 90 }
set_option maxHeartbeats 4000000 in
set_option maxRecDepth 100000 in
theorem c_X4_strikes (l : Launch) (hl0 : l.flags = flags0) (g : GG) (x q u d v : Nat) (SL : Nat) (k : Nat → Int32) (K : Nat → Nat) (np : Nat) (mv lm ch : Int32) (F : Nat) (f : Nat → Int64) (S : Nat → Nat) (cnt ll : Nat) (hSL : RV SL) (hF : RV F) (hk : GK k K) (hp : np ≤ 4) (hf : DR f S cnt) (hc : cnt ≤ 50) (hll : ll ≤ 10) (x0 : Int32) : Xi l yX4_strikes wsX4_strikes rm_X4_strikes g [.ref (x), .int (x0)] (FW g x (lN SL) q u k (nI np) mv lm ch (lN F) d v f (nI cnt) (nI ll)) (fun r w => w = (FW g x (lN SL) q u k (nI np) mv lm ch (lN F) d v f (nI cnt) (nI ll)) ∧ ∃ j : Nat, j < np ∧ nI j = x0 ∧ r = nI (K j)) (fun E => E = "java/lang/IndexOutOfBoundsException" ∧ ¬ ∃ j : Nat, j < np ∧ nI j = x0) := by
  refine Xi.of (cc := cX4_strikes) (maxL := 3) hl0 rfl (by decide) rfl (Nat.le_of_ble_eq_true rfl) ⟨rfl, rfl⟩ ?_
  intro p e s m args below meth c A Z hx hb hml hts hown hK hA hret hthr H locs ls hP hD hS hl
  have f_19 := hts (.fieldLink RX4 19 "GhostGame" "game" "LGhostGame$Game;") (by decide +kernel)
  have hi_2 : ∀ w ∈ wsX40, w ∈ wsX4_strikes := by decide +kernel
  have hl : lv_has ls 3 [(0, .ref (x)), (1, .int (x0))] := hl
  refine lv_aload_n hx hb dX4_strikes_0 rfl (lv_at hl 0 rfl) ?_
  refine va_get (D := g.1) (ci := 2) (v := .ref (q)) (C := RX4) (T := TX4) (N := 3) hx hb hts hi_2 hown hK hP 0 rfl rfl 1 (by decide) f_19 (fun _ h9 => h9) rfl dX4_strikes_1 ?_
  refine lv_iload_n hx hb dX4_strikes_4 rfl (lv_at hl 1 rfl) ?_
  refine call_iV (As := [.int (x0)]) (rest := []) (wr := [(x, .inr (2, [.ref (d), .ref (q), .long (lN (SL))])), (d, .inr (0, [.ref (v), .int (nI (cnt)), .int (nI (ll))])), (v, .inl (g.2.2.1, 50, .inr (.inl (f))))]) ⟨hx, hb, hml, hown, hts⟩ (c_X1_strikesOf l g q u k np mv lm ch (lN F) hp x0) (cwV 1 hts gX4_strikes_X1_strikesOf rfl rfl rfl (by decide +kernel) ⟨Nat.le_of_ble_eq_true rfl, Nat.le_of_ble_eq_true rfl⟩) hP hK hD hS hA [1, 2] [0, 3, 4] rfl rfl (by decide) (by decide) (by decide) 0 rfl rfl rfl rfl hl.1 rfl (Nat.le_of_ble_eq_true rfl) dX4_strikes_5 ⟨Nat.le_of_ble_eq_true rfl, Nat.le_of_ble_eq_true rfl⟩ (fun r_5 w H locs h_5 hP hD hS => ?_)
  obtain ⟨rfl, h_5⟩ := h_5
  have hP := hP.sub [0, 3, 4, 1, 2] (ws' := (FW g x (lN SL) q u k (nI np) mv lm ch (lN F) d v f (nI cnt) (nI ll))) rfl
  have hD := hD.sub [0, 3, 4, 1, 2] (ws' := (FW g x (lN SL) q u k (nI np) mv lm ch (lN F) d v f (nI cnt) (nI ll))) (by decide) rfl
  have hP : va_P g.1 vwCl (FW g x (lN SL) q u k (nI np) mv lm ch (lN F) d v f (nI cnt) (nI ll)) H := hP
  have hD : va_D A (FW g x (lN SL) q u k (nI np) mv lm ch (lN F) d v f (nI cnt) (nI ll)) := hD
  refine lv_istore_n (lv' := [(2, .int (r_5)), (0, .ref (x)), (1, .int (x0))]) hx hb dX4_strikes_8 rfl hl (by decide) rfl (fun ls hl => ?_)
  refine lv_iload_n hx hb dX4_strikes_9 rfl (lv_at hl 0 rfl) ?_
  refine lv_iconst (v := -1) hx hb dX4_strikes_10 (by decide) ?_
  refine lv_icmp_ne (tgt := 24) hx hb dX4_strikes_11 (by decide) (fun c_11_1 => ?_) (fun c_11_1 => ?_)
  · skip
    have n9 : ∃ j : Nat, j < np ∧ nI j = x0 ∧ r_5 = nI (K j) := by
      rcases h_5 with ⟨j, h1, h2, h3⟩ | ⟨-, h⟩
      · exact ⟨j, h1, h2, h3.trans (hk j (by omega)).1⟩
      · exact absurd h c_11_1
    refine lv_iload_n hx hb dX4_strikes_24 rfl (lv_at hl 0 rfl) ?_
    exact hret (r_5) (FW g x (lN SL) q u k (nI np) mv lm ch (lN F) d v f (nI cnt) (nI ll)) _ _ _ _ dX4_strikes_25 (⟨rfl, n9⟩) hP hD hS
  · skip
    have n9 : ¬ ∃ j : Nat, j < np ∧ nI j = x0 := by
      rcases h_5 with ⟨j, h1, h2, h3⟩ | ⟨h, -⟩
      · have hlt := hk j (by omega)
        rw [h3, hlt.1] at c_11_1
        exact absurd c_11_1 (nI_nem1 (by omega))
      · exact h
    exact hthr "java/lang/IndexOutOfBoundsException" "there is no such player" ["java/lang/RuntimeException", "java/lang/Exception"] 61 141 65 H locs ls [] 14 (by decide +kernel) (by decide +kernel) (by decide +kernel) (by decide +kernel) (by decide +kernel) (fun w h => List.mem_cons_of_mem _ (List.mem_append_right _ h)) (by decide +kernel) (by decide +kernel) hl.1 dX4_strikes_14 dX4_strikes_17 dX4_strikes_18 dX4_strikes_20 dX4_strikes_23 (Nat.le_of_ble_eq_true rfl) (Nat.le_of_ble_eq_true rfl) (⟨rfl, n9⟩) hP hD hS

abbrev rm_X4_addWord : Room := { frames := 6, cells := 1, slots := 6, locals := 90 }
set_option maxHeartbeats 4000000 in
set_option maxRecDepth 100000 in
theorem c_X4_addWord (l : Launch) (hl0 : l.flags = flags0) (g : GG) (x q u d v : Nat) (SL : Nat) (k : Nat → Int32) (K : Nat → Nat) (np : Nat) (mv lm ch : Int32) (F : Nat) (f : Nat → Int64) (S : Nat → Nat) (cnt ll : Nat) (hSL : RV SL) (hF : RV F) (hk : GK k K) (hp : np ≤ 4) (hf : DR f S cnt) (hc : cnt ≤ 50) (hll : ll ≤ 10) : Xi l yX4_addWord wsX4_addWord rm_X4_addWord g [.ref (x)] (FW g x (lN SL) q u k (nI np) mv lm ch (lN F) d v f (nI cnt) (nI ll)) (fun r w => 2 ≤ rwL SL ∧ cnt < 50 ∧ ¬ inS S cnt SL ∧ r = nI (cnt + 1) ∧ ∃ (f9 : Nat → Int64) (S9 : Nat → Nat) (t : Nat), w = FW g x (lN SL) q u k (nI np) mv lm ch (lN F) d v f9 (nI (cnt + 1)) (nI ll) ∧ DR f9 S9 (cnt + 1) ∧ InsAt S cnt t SL S9) (fun E => (E = "java/lang/IllegalArgumentException" ∧ ¬ 2 ≤ rwL SL) ∨ (E = "java/lang/IllegalStateException" ∧ 2 ≤ rwL SL ∧ (50 ≤ cnt ∨ inS S cnt SL))) := by
  refine Xi.of (cc := cX4_addWord) (maxL := 1) hl0 rfl (by decide) rfl (Nat.le_of_ble_eq_true rfl) ⟨rfl, rfl⟩ ?_
  intro p e s m args below meth c A Z hx hb hml hts hown hK hA hret hthr H locs ls hP hD hS hl
  have f_10 := hts (.fieldLink RX4 10 "GhostGame" "dictionary" "LGhostGame$Dictionary;") (by decide +kernel)
  have f_25 := hts (.fieldLink RX4 25 "GhostGame" "slip" "J") (by decide +kernel)
  have hi_2 : ∀ w ∈ wsX40, w ∈ wsX4_addWord := by decide +kernel
  have hl : lv_has ls 1 [(0, .ref (x))] := hl
  have h10 := hSL.1
  refine lv_aload_n hx hb dX4_addWord_0 rfl (lv_at hl 0 rfl) ?_
  refine va_get (D := g.1) (ci := 2) (v := .long (lN (SL))) (C := RX4) (T := TX4) (N := 3) hx hb hts hi_2 hown hK hP 0 rfl rfl 2 (by decide) f_25 (fun _ h9 => h9) rfl dX4_addWord_1 ?_
  refine call_iP (As := [.long (lN (SL))]) (rest := []) ⟨hx, hb, hml, hown, hts⟩ (c_X2_lengthOf l SL (hSL).lt) (va_cwS 1 hts gX4_addWord_X2_lengthOf rfl rfl rfl (by decide +kernel) ⟨Nat.le_of_ble_eq_true rfl, Nat.le_of_ble_eq_true rfl⟩) hP hK hD hS hA rfl hl.1 rfl (Nat.le_of_ble_eq_true rfl) dX4_addWord_4 ⟨Nat.le_of_ble_eq_true rfl, Nat.le_of_ble_eq_true rfl⟩ (fun r_4 H locs h_4 hP hD hS => ?_)
  subst h_4
  refine lv_iconst (v := nI 2) hx hb dX4_addWord_7 (by decide) ?_
  refine lv_icmp_ge (tgt := 21) hx hb dX4_addWord_8 (by decide) (fun c_8_1 => ?_) (fun c_8_1 => ?_)
  · skip
    have n_8_1 : 2 ≤ rwL SL := (nI_leI (a := 2) (b := rwL SL) (by omega) (by omega)).mp c_8_1
    refine lv_aload_n hx hb dX4_addWord_21 rfl (lv_at hl 0 rfl) ?_
    refine va_get (D := g.1) (ci := 2) (v := .ref (d)) (C := RX4) (T := TX4) (N := 3) hx hb hts hi_2 hown hK hP 0 rfl rfl 0 (by decide) f_10 (fun _ h9 => h9) rfl dX4_addWord_22 ?_
    refine lv_aload_n hx hb dX4_addWord_25 rfl (lv_at hl 0 rfl) ?_
    refine va_get (D := g.1) (ci := 2) (v := .long (lN (SL))) (C := RX4) (T := TX4) (N := 3) hx hb hts hi_2 hown hK hP 0 rfl rfl 2 (by decide) f_25 (fun _ h9 => h9) rfl dX4_addWord_26 ?_
    refine call_iV (As := [.long (lN (SL))]) (rest := []) (wr := [(x, .inr (2, [.ref (d), .ref (q), .long (lN (SL))])), (q, .inr (1, [.ref (u), .int (nI (np)), .int (mv), .int (lm), .int (ch), .long (lN (F))])), (u, .inl (g.2.1, 4, .inl (k)))]) ⟨hx, hb, hml, hown, hts⟩ (c_X0_add l g d v f S cnt ll hf hc SL hSL) (cwV 1 hts gX4_addWord_X0_add rfl rfl rfl (by decide +kernel) ⟨Nat.le_of_ble_eq_true rfl, Nat.le_of_ble_eq_true rfl⟩) hP hK hD hS hA [3, 4] [0, 1, 2] rfl rfl (by decide) (by decide) (by decide) 0 rfl rfl rfl rfl hl.1 rfl (Nat.le_of_ble_eq_true rfl) dX4_addWord_29 ⟨Nat.le_of_ble_eq_true rfl, Nat.le_of_ble_eq_true rfl⟩ (fun r_29 w H locs h_29 hP hD hS => ?_)
    rcases h_29 with ⟨rfl, rfl, n32⟩ | ⟨rfl, h32, h33, f9, S9, t9, rfl, hS9, hI9⟩
    · skip
      have hP : va_P g.1 vwCl (FW g x (lN SL) q u k (nI np) mv lm ch (lN F) d v f (nI cnt) (nI ll)) H := hP
      have hD : va_D A (FW g x (lN SL) q u k (nI np) mv lm ch (lN F) d v f (nI cnt) (nI ll)) := hD
      refine lv_if_ne (tgt := 45) hx hb dX4_addWord_32 (by decide) (fun c_32_2 => absurd (by decide) c_32_2) (fun c_32_2 => ?_)
      exact hthr "java/lang/IllegalStateException" "there are 50 words, or this one is there" ["java/lang/RuntimeException", "java/lang/Exception"] 44 71 48 H locs ls [] 35 (by decide +kernel) (by decide +kernel) (by decide +kernel) (by decide +kernel) (by decide +kernel) (fun w h => List.mem_cons_of_mem _ (List.mem_append_right _ h)) (by decide +kernel) (by decide +kernel) hl.1 dX4_addWord_35 dX4_addWord_38 dX4_addWord_39 dX4_addWord_41 dX4_addWord_44 (Nat.le_of_ble_eq_true rfl) (Nat.le_of_ble_eq_true rfl) (Or.inr ⟨rfl, by omega, n32⟩) hP hD hS
    · skip
      have hP : va_P g.1 vwCl (FW g x (lN SL) q u k (nI np) mv lm ch (lN F) d v f9 (nI (cnt + 1)) (nI ll)) H := hP
      have hD : va_D A (FW g x (lN SL) q u k (nI np) mv lm ch (lN F) d v f9 (nI (cnt + 1)) (nI ll)) := hD
      refine lv_if_ne (tgt := 45) hx hb dX4_addWord_32 (by decide) (fun c_32_3 => ?_) (fun c_32_3 => absurd c_32_3 (by decide))
      refine lv_aload_n hx hb dX4_addWord_45 rfl (lv_at hl 0 rfl) ?_
      refine va_get (D := g.1) (ci := 2) (v := .ref (d)) (C := RX4) (T := TX4) (N := 3) hx hb hts hi_2 hown hK hP 0 rfl rfl 0 (by decide) f_10 (fun _ h9 => h9) rfl dX4_addWord_46 ?_
      refine call_iV (As := []) (rest := []) (wr := [(x, .inr (2, [.ref (d), .ref (q), .long (lN (SL))])), (q, .inr (1, [.ref (u), .int (nI (np)), .int (mv), .int (lm), .int (ch), .long (lN (F))])), (u, .inl (g.2.1, 4, .inl (k)))]) ⟨hx, hb, hml, hown, hts⟩ (c_X0_size l g d v f9 S9 (cnt + 1) ll hS9 (by omega)) (cwV 0 hts gX4_addWord_X0_size rfl rfl rfl (by decide +kernel) ⟨Nat.le_of_ble_eq_true rfl, Nat.le_of_ble_eq_true rfl⟩) hP hK hD hS hA [3, 4] [0, 1, 2] rfl rfl (by decide) (by decide) (by decide) 0 rfl rfl rfl rfl hl.1 rfl (Nat.le_of_ble_eq_true rfl) dX4_addWord_49 ⟨Nat.le_of_ble_eq_true rfl, Nat.le_of_ble_eq_true rfl⟩ (fun r_49 w H locs h_49 hP hD hS => ?_)
      obtain ⟨rfl, h_49⟩ := h_49
      subst h_49
      have hP : va_P g.1 vwCl (FW g x (lN SL) q u k (nI np) mv lm ch (lN F) d v f9 (nI (cnt + 1)) (nI ll)) H := hP
      have hD : va_D A (FW g x (lN SL) q u k (nI np) mv lm ch (lN F) d v f9 (nI (cnt + 1)) (nI ll)) := hD
      exact hret (nI (cnt + 1)) (FW g x (lN SL) q u k (nI np) mv lm ch (lN F) d v f9 (nI (cnt + 1)) (nI ll)) _ _ _ _ dX4_addWord_52 (⟨by omega, h32, h33, rfl, f9, S9, t9, rfl, hS9, hI9⟩) hP hD hS
  · skip
    have n_8_1 : ¬ 2 ≤ rwL SL := fun q9 => c_8_1 ((nI_leI (a := 2) (b := rwL SL) (by omega) (by omega)).mpr q9)
    exact hthr "java/lang/IllegalArgumentException" "a word has at least 2 letters" ["java/lang/RuntimeException", "java/lang/Exception"] 33 66 37 H locs ls [] 11 (by decide +kernel) (by decide +kernel) (by decide +kernel) (by decide +kernel) (by decide +kernel) (fun w h => List.mem_cons_of_mem _ (List.mem_append_left _ (List.mem_append_right _ h))) (by decide +kernel) (by decide +kernel) hl.1 dX4_addWord_11 dX4_addWord_14 dX4_addWord_15 dX4_addWord_17 dX4_addWord_20 (Nat.le_of_ble_eq_true rfl) (Nat.le_of_ble_eq_true rfl) (Or.inl ⟨rfl, by omega⟩) hP hD hS

abbrev rm_X4_removeWord : Room := { frames := 6, cells := 1, slots := 6, locals := 90 }
set_option maxHeartbeats 4000000 in
set_option maxRecDepth 100000 in
theorem c_X4_removeWord (l : Launch) (hl0 : l.flags = flags0) (g : GG) (x q u d v : Nat) (SL : Nat) (k : Nat → Int32) (K : Nat → Nat) (np : Nat) (mv lm ch : Int32) (F : Nat) (f : Nat → Int64) (S : Nat → Nat) (cnt ll : Nat) (hSL : RV SL) (hF : RV F) (hk : GK k K) (hp : np ≤ 4) (hf : DR f S cnt) (hc : cnt ≤ 50) (hll : ll ≤ 10) : Xi l yX4_removeWord wsX4_removeWord rm_X4_removeWord g [.ref (x)] (FW g x (lN SL) q u k (nI np) mv lm ch (lN F) d v f (nI cnt) (nI ll)) (fun r w => r = nI (cnt - 1) ∧ ∃ (f9 : Nat → Int64) (S9 : Nat → Nat) (t : Nat), w = FW g x (lN SL) q u k (nI np) mv lm ch (lN F) d v f9 (nI (cnt - 1)) (nI ll) ∧ S t = SL ∧ DR f9 S9 (cnt - 1) ∧ RemAt S cnt t S9) (fun E => E = "java/lang/IllegalStateException" ∧ ¬ inS S cnt SL) := by
  refine Xi.of (cc := cX4_removeWord) (maxL := 1) hl0 rfl (by decide) rfl (Nat.le_of_ble_eq_true rfl) ⟨rfl, rfl⟩ ?_
  intro p e s m args below meth c A Z hx hb hml hts hown hK hA hret hthr H locs ls hP hD hS hl
  have f_10 := hts (.fieldLink RX4 10 "GhostGame" "dictionary" "LGhostGame$Dictionary;") (by decide +kernel)
  have f_25 := hts (.fieldLink RX4 25 "GhostGame" "slip" "J") (by decide +kernel)
  have hi_2 : ∀ w ∈ wsX40, w ∈ wsX4_removeWord := by decide +kernel
  have hl : lv_has ls 1 [(0, .ref (x))] := hl
  refine lv_aload_n hx hb dX4_removeWord_0 rfl (lv_at hl 0 rfl) ?_
  refine va_get (D := g.1) (ci := 2) (v := .ref (d)) (C := RX4) (T := TX4) (N := 3) hx hb hts hi_2 hown hK hP 0 rfl rfl 0 (by decide) f_10 (fun _ h9 => h9) rfl dX4_removeWord_1 ?_
  refine lv_aload_n hx hb dX4_removeWord_4 rfl (lv_at hl 0 rfl) ?_
  refine va_get (D := g.1) (ci := 2) (v := .long (lN (SL))) (C := RX4) (T := TX4) (N := 3) hx hb hts hi_2 hown hK hP 0 rfl rfl 2 (by decide) f_25 (fun _ h9 => h9) rfl dX4_removeWord_5 ?_
  refine call_iV (As := [.long (lN (SL))]) (rest := []) (wr := [(x, .inr (2, [.ref (d), .ref (q), .long (lN (SL))])), (q, .inr (1, [.ref (u), .int (nI (np)), .int (mv), .int (lm), .int (ch), .long (lN (F))])), (u, .inl (g.2.1, 4, .inl (k)))]) ⟨hx, hb, hml, hown, hts⟩ (c_X0_remove l g d v f S cnt ll hf hc SL hSL) (cwV 1 hts gX4_removeWord_X0_remove rfl rfl rfl (by decide +kernel) ⟨Nat.le_of_ble_eq_true rfl, Nat.le_of_ble_eq_true rfl⟩) hP hK hD hS hA [3, 4] [0, 1, 2] rfl rfl (by decide) (by decide) (by decide) 0 rfl rfl rfl rfl hl.1 rfl (Nat.le_of_ble_eq_true rfl) dX4_removeWord_8 ⟨Nat.le_of_ble_eq_true rfl, Nat.le_of_ble_eq_true rfl⟩ (fun r_8 w H locs h_8 hP hD hS => ?_)
  rcases h_8 with ⟨rfl, rfl, n11⟩ | ⟨rfl, f9, S9, t9, rfl, h32, hS9, hI9⟩
  · skip
    have hP : va_P g.1 vwCl (FW g x (lN SL) q u k (nI np) mv lm ch (lN F) d v f (nI cnt) (nI ll)) H := hP
    have hD : va_D A (FW g x (lN SL) q u k (nI np) mv lm ch (lN F) d v f (nI cnt) (nI ll)) := hD
    refine lv_if_ne (tgt := 24) hx hb dX4_removeWord_11 (by decide) (fun c_11_1 => absurd (by decide) c_11_1) (fun c_11_1 => ?_)
    exact hthr "java/lang/IllegalStateException" "the dictionary does not have this word" ["java/lang/RuntimeException", "java/lang/Exception"] 44 80 48 H locs ls [] 14 (by decide +kernel) (by decide +kernel) (by decide +kernel) (by decide +kernel) (by decide +kernel) (fun w h => List.mem_cons_of_mem _ (List.mem_append_right _ h)) (by decide +kernel) (by decide +kernel) hl.1 dX4_removeWord_14 dX4_removeWord_17 dX4_removeWord_18 dX4_removeWord_20 dX4_removeWord_23 (Nat.le_of_ble_eq_true rfl) (Nat.le_of_ble_eq_true rfl) (⟨rfl, fun ⟨i, a, b⟩ => n11 i a b⟩) hP hD hS
  · skip
    have hP : va_P g.1 vwCl (FW g x (lN SL) q u k (nI np) mv lm ch (lN F) d v f9 (nI (cnt - 1)) (nI ll)) H := hP
    have hD : va_D A (FW g x (lN SL) q u k (nI np) mv lm ch (lN F) d v f9 (nI (cnt - 1)) (nI ll)) := hD
    refine lv_if_ne (tgt := 24) hx hb dX4_removeWord_11 (by decide) (fun c_11_2 => ?_) (fun c_11_2 => absurd c_11_2 (by decide))
    refine lv_aload_n hx hb dX4_removeWord_24 rfl (lv_at hl 0 rfl) ?_
    refine va_get (D := g.1) (ci := 2) (v := .ref (d)) (C := RX4) (T := TX4) (N := 3) hx hb hts hi_2 hown hK hP 0 rfl rfl 0 (by decide) f_10 (fun _ h9 => h9) rfl dX4_removeWord_25 ?_
    refine call_iV (As := []) (rest := []) (wr := [(x, .inr (2, [.ref (d), .ref (q), .long (lN (SL))])), (q, .inr (1, [.ref (u), .int (nI (np)), .int (mv), .int (lm), .int (ch), .long (lN (F))])), (u, .inl (g.2.1, 4, .inl (k)))]) ⟨hx, hb, hml, hown, hts⟩ (c_X0_size l g d v f9 S9 (cnt - 1) ll hS9 (by omega)) (cwV 0 hts gX4_removeWord_X0_size rfl rfl rfl (by decide +kernel) ⟨Nat.le_of_ble_eq_true rfl, Nat.le_of_ble_eq_true rfl⟩) hP hK hD hS hA [3, 4] [0, 1, 2] rfl rfl (by decide) (by decide) (by decide) 0 rfl rfl rfl rfl hl.1 rfl (Nat.le_of_ble_eq_true rfl) dX4_removeWord_28 ⟨Nat.le_of_ble_eq_true rfl, Nat.le_of_ble_eq_true rfl⟩ (fun r_28 w H locs h_28 hP hD hS => ?_)
    obtain ⟨rfl, h_28⟩ := h_28
    subst h_28
    have hP : va_P g.1 vwCl (FW g x (lN SL) q u k (nI np) mv lm ch (lN F) d v f9 (nI (cnt - 1)) (nI ll)) H := hP
    have hD : va_D A (FW g x (lN SL) q u k (nI np) mv lm ch (lN F) d v f9 (nI (cnt - 1)) (nI ll)) := hD
    exact hret (nI (cnt - 1)) (FW g x (lN SL) q u k (nI np) mv lm ch (lN F) d v f9 (nI (cnt - 1)) (nI ll)) _ _ _ _ dX4_removeWord_31 (⟨rfl, f9, S9, t9, rfl, h32, hS9, hI9⟩) hP hD hS

abbrev rm_X4_copyWord : Room := { frames := 6, cells := 1, slots := 6, locals := 90 }
set_option maxHeartbeats 4000000 in
set_option maxRecDepth 100000 in
theorem c_X4_copyWord (l : Launch) (hl0 : l.flags = flags0) (g : GG) (x q u d v : Nat) (SL : Nat) (k : Nat → Int32) (K : Nat → Nat) (np : Nat) (mv lm ch : Int32) (F : Nat) (f : Nat → Int64) (S : Nat → Nat) (cnt ll : Nat) (hSL : RV SL) (hF : RV F) (hk : GK k K) (hp : np ≤ 4) (hf : DR f S cnt) (hc : cnt ≤ 50) (hll : ll ≤ 10) (h2l : ∀ i, i < cnt → 2 ≤ rwL (S i)) (x0 : Int32) : Xi l yX4_copyWord wsX4_copyWord rm_X4_copyWord g [.ref (x), .int (x0)] (FW g x (lN SL) q u k (nI np) mv lm ch (lN F) d v f (nI cnt) (nI ll)) (fun r w => ∃ j : Nat, j < cnt ∧ nI j = x0 ∧ r = nI (rwL (S j)) ∧ w = (FW g x (lN (S j)) q u k (nI np) mv lm ch (lN F) d v f (nI cnt) (nI ll))) (fun E => E = "java/lang/IndexOutOfBoundsException" ∧ ¬ ∃ j : Nat, j < cnt ∧ nI j = x0) := by
  refine Xi.of (cc := cX4_copyWord) (maxL := 4) hl0 rfl (by decide) rfl (Nat.le_of_ble_eq_true rfl) ⟨rfl, rfl⟩ ?_
  intro p e s m args below meth c A Z hx hb hml hts hown hK hA hret hthr H locs ls hP hD hS hl
  have f_10 := hts (.fieldLink RX4 10 "GhostGame" "dictionary" "LGhostGame$Dictionary;") (by decide +kernel)
  have f_25 := hts (.fieldLink RX4 25 "GhostGame" "slip" "J") (by decide +kernel)
  have hi_2 : ∀ w ∈ wsX40, w ∈ wsX4_copyWord := by decide +kernel
  have hl : lv_has ls 4 [(0, .ref (x)), (1, .int (x0))] := hl
  refine lv_aload_n hx hb dX4_copyWord_0 rfl (lv_at hl 0 rfl) ?_
  refine va_get (D := g.1) (ci := 2) (v := .ref (d)) (C := RX4) (T := TX4) (N := 3) hx hb hts hi_2 hown hK hP 0 rfl rfl 0 (by decide) f_10 (fun _ h9 => h9) rfl dX4_copyWord_1 ?_
  refine lv_iload_n hx hb dX4_copyWord_4 rfl (lv_at hl 1 rfl) ?_
  refine call_lV (As := [.int (x0)]) (rest := []) (wr := [(x, .inr (2, [.ref (d), .ref (q), .long (lN (SL))])), (q, .inr (1, [.ref (u), .int (nI (np)), .int (mv), .int (lm), .int (ch), .long (lN (F))])), (u, .inl (g.2.1, 4, .inl (k)))]) ⟨hx, hb, hml, hown, hts⟩ (c_X0_wordAt l g d v f S cnt ll hf hc x0) (cwV 1 hts gX4_copyWord_X0_wordAt rfl rfl rfl (by decide +kernel) ⟨Nat.le_of_ble_eq_true rfl, Nat.le_of_ble_eq_true rfl⟩) hP hK hD hS hA [3, 4] [0, 1, 2] rfl rfl (by decide) (by decide) (by decide) 0 rfl rfl rfl rfl hl.1 rfl (Nat.le_of_ble_eq_true rfl) dX4_copyWord_5 ⟨Nat.le_of_ble_eq_true rfl, Nat.le_of_ble_eq_true rfl⟩ (fun r_5 w H locs h_5 hP hD hS => ?_)
  rcases h_5 with ⟨rfl, ⟨j, hj, rfl, rfl⟩ | ⟨n9, rfl⟩⟩
  · skip
    have hSj := (hf j hj).2.lt
    have h2j := h2l j hj
    have hP : va_P g.1 vwCl (FW g x (lN SL) q u k (nI np) mv lm ch (lN F) d v f (nI cnt) (nI ll)) H := hP
    have hD : va_D A (FW g x (lN SL) q u k (nI np) mv lm ch (lN F) d v f (nI cnt) (nI ll)) := hD
    refine lv_lstore_n (lv' := [(2, .long (lN (S j))), (0, .ref (x)), (1, .int (nI (j)))]) hx hb dX4_copyWord_8 rfl hl (by decide) rfl (fun ls hl => ?_)
    refine lv_lload_n hx hb dX4_copyWord_9 rfl (lv_at hl 0 rfl) ?_
    refine lv_lconst (v := lN 0) hx hb dX4_copyWord_10 (by decide) ?_
    refine W.lcmp hx hb dX4_copyWord_11 ?_
    refine lv_if_ne (tgt := 25) hx hb dX4_copyWord_12 (by decide) (fun c_12_1 => ?_) (fun c_12_1 => ?_)
    · skip
      have n_12_1 : ¬ S j = 0 := fun q9 => c_12_1 ((lc_eq (a := S j) (b := 0) (by omega) (by omega)).mpr q9)
      refine lv_aload_n hx hb dX4_copyWord_25 rfl (lv_at hl 1 rfl) ?_
      refine lv_lload_n hx hb dX4_copyWord_26 rfl (lv_at hl 0 rfl) ?_
      refine va_put (D := g.1) (ci := 2) (v := .long (lN (S j))) (ty := .long) (C := RX4) (T := TX4) (N := 3) hx hb hts hi_2 tyX4 tyX4_ok nmX4 hown hK hP hD hS 0 rfl rfl 2 (by decide) f_25 (fun _ h9 => h9) rfl (by decide +kernel) rfl rfl (Nat.le_of_ble_eq_true rfl) dX4_copyWord_27 (fun H locs hP hD hS => ?_)
      have hP : va_P g.1 vwCl (FW g x (lN (S j)) q u k (nI np) mv lm ch (lN F) d v f (nI cnt) (nI ll)) H := hP
      have hD : va_D A (FW g x (lN (S j)) q u k (nI np) mv lm ch (lN F) d v f (nI cnt) (nI ll)) := hD
      refine lv_aload_n hx hb dX4_copyWord_30 rfl (lv_at hl 1 rfl) ?_
      refine va_get (D := g.1) (ci := 2) (v := .long (lN (S j))) (C := RX4) (T := TX4) (N := 3) hx hb hts hi_2 hown hK hP 0 rfl rfl 2 (by decide) f_25 (fun _ h9 => h9) rfl dX4_copyWord_31 ?_
      refine call_iP (As := [.long (lN (S j))]) (rest := []) ⟨hx, hb, hml, hown, hts⟩ (c_X2_lengthOf l (S j) ((hf j hj).2).lt) (va_cwS 1 hts gX4_copyWord_X2_lengthOf rfl rfl rfl (by decide +kernel) ⟨Nat.le_of_ble_eq_true rfl, Nat.le_of_ble_eq_true rfl⟩) hP hK hD hS hA rfl hl.1 rfl (Nat.le_of_ble_eq_true rfl) dX4_copyWord_34 ⟨Nat.le_of_ble_eq_true rfl, Nat.le_of_ble_eq_true rfl⟩ (fun r_34 H locs h_34 hP hD hS => ?_)
      subst h_34
      exact hret (nI (rwL (S j))) (FW g x (lN (S j)) q u k (nI np) mv lm ch (lN F) d v f (nI cnt) (nI ll)) _ _ _ _ dX4_copyWord_37 (⟨j, hj, rfl, rfl, rfl⟩) hP hD hS
    · skip
      have n_12_1 : S j = 0 := (lc_eq (a := S j) (b := 0) (by omega) (by omega)).mp c_12_1
      rw [n_12_1] at h2j
      exact absurd h2j (by decide)
  · skip
    have hP : va_P g.1 vwCl (FW g x (lN SL) q u k (nI np) mv lm ch (lN F) d v f (nI cnt) (nI ll)) H := hP
    have hD : va_D A (FW g x (lN SL) q u k (nI np) mv lm ch (lN F) d v f (nI cnt) (nI ll)) := hD
    refine lv_lstore_n (lv' := [(2, .long (lN (0))), (0, .ref (x)), (1, .int (x0))]) hx hb dX4_copyWord_8 rfl hl (by decide) rfl (fun ls hl => ?_)
    refine lv_lload_n hx hb dX4_copyWord_9 rfl (lv_at hl 0 rfl) ?_
    refine lv_lconst (v := lN 0) hx hb dX4_copyWord_10 (by decide) ?_
    refine W.lcmp hx hb dX4_copyWord_11 ?_
    refine lv_if_ne (tgt := 25) hx hb dX4_copyWord_12 (by decide) (fun c_12_2 => ?_) (fun c_12_2 => ?_)
    · skip
      have n_12_2 : ¬ 0 = 0 := fun q9 => c_12_2 ((lc_eq (a := 0) (b := 0) (by omega) (by omega)).mpr q9)
      exact absurd rfl n_12_2
    · skip
      have n_12_2 : 0 = 0 := (lc_eq (a := 0) (b := 0) (by omega) (by omega)).mp c_12_2
      exact hthr "java/lang/IndexOutOfBoundsException" "there is no such word" ["java/lang/RuntimeException", "java/lang/Exception"] 61 95 65 H locs ls [] 15 (by decide +kernel) (by decide +kernel) (by decide +kernel) (by decide +kernel) (by decide +kernel) (fun w h => List.mem_cons_of_mem _ (List.mem_append_right _ h)) (by decide +kernel) (by decide +kernel) hl.1 dX4_copyWord_15 dX4_copyWord_18 dX4_copyWord_19 dX4_copyWord_21 dX4_copyWord_24 (Nat.le_of_ble_eq_true rfl) (Nat.le_of_ble_eq_true rfl) (⟨rfl, n9⟩) hP hD hS

abbrev rm_X4_setLeastLength : Room := { frames := 6, cells := 1, slots := 6, locals := 90 }
set_option maxHeartbeats 4000000 in
set_option maxRecDepth 100000 in
theorem c_X4_setLeastLength (l : Launch) (hl0 : l.flags = flags0) (g : GG) (x q u d v : Nat) (SL : Nat) (k : Nat → Int32) (K : Nat → Nat) (np : Nat) (mv lm ch : Int32) (F : Nat) (f : Nat → Int64) (S : Nat → Nat) (cnt ll : Nat) (hSL : RV SL) (hF : RV F) (hk : GK k K) (hp : np ≤ 4) (hf : DR f S cnt) (hc : cnt ≤ 50) (hll : ll ≤ 10) (x0 : Int32) : Xi l yX4_setLeastLength wsX4_setLeastLength rm_X4_setLeastLength g [.ref (x), .int (x0)] (FW g x (lN SL) q u k (nI np) mv lm ch (lN F) d v f (nI cnt) (nI ll)) (fun r w => ∃ n0 : Nat, 2 ≤ n0 ∧ n0 ≤ 10 ∧ nI n0 = x0 ∧ r = nI ll ∧ w = (FW g x (lN SL) q u k (nI np) mv lm ch (lN F) d v f (nI cnt) (nI n0))) (fun E => E = "java/lang/IllegalArgumentException" ∧ ¬ (∃ n0 : Nat, 2 ≤ n0 ∧ n0 ≤ 10 ∧ nI n0 = x0)) := by
  refine Xi.of (cc := cX4_setLeastLength) (maxL := 2) hl0 rfl (by decide) rfl (Nat.le_of_ble_eq_true rfl) ⟨rfl, rfl⟩ ?_
  intro p e s m args below meth c A Z hx hb hml hts hown hK hA hret hthr H locs ls hP hD hS hl
  have f_10 := hts (.fieldLink RX4 10 "GhostGame" "dictionary" "LGhostGame$Dictionary;") (by decide +kernel)
  have hi_2 : ∀ w ∈ wsX40, w ∈ wsX4_setLeastLength := by decide +kernel
  have hl : lv_has ls 2 [(0, .ref (x)), (1, .int (x0))] := hl
  refine lv_iload_n hx hb dX4_setLeastLength_0 rfl (lv_at hl 1 rfl) ?_
  refine lv_iconst (v := nI 2) hx hb dX4_setLeastLength_1 (by decide) ?_
  refine lv_icmp_lt (tgt := 11) hx hb dX4_setLeastLength_2 (by decide) (fun c_2_1 => ?_) (fun c_2_1 => ?_)
  · skip
    have n9 : ¬ (∃ n0 : Nat, 2 ≤ n0 ∧ n0 ≤ 10 ∧ nI n0 = x0) := by
      rintro ⟨n0, h1, h2, rfl⟩
      have := (nI_ltI (by omega) (by omega)).mp c_2_1
      omega
    exact hthr "java/lang/IllegalArgumentException" "the least length is from 2 to 10" ["java/lang/RuntimeException", "java/lang/Exception"] 33 97 37 H locs ls [] 11 (by decide +kernel) (by decide +kernel) (by decide +kernel) (by decide +kernel) (by decide +kernel) (fun w h => List.mem_cons_of_mem _ (List.mem_append_right _ h)) (by decide +kernel) (by decide +kernel) hl.1 dX4_setLeastLength_11 dX4_setLeastLength_14 dX4_setLeastLength_15 dX4_setLeastLength_17 dX4_setLeastLength_20 (Nat.le_of_ble_eq_true rfl) (Nat.le_of_ble_eq_true rfl) (⟨rfl, n9⟩) hP hD hS
  · skip
    refine lv_iload_n hx hb dX4_setLeastLength_5 rfl (lv_at hl 1 rfl) ?_
    refine lv_bipush (v := nI 10) hx hb dX4_setLeastLength_6 (by decide) ?_
    refine lv_icmp_le (tgt := 21) hx hb dX4_setLeastLength_8 (by decide) (fun c_8_2 => ?_) (fun c_8_2 => ?_)
    · skip
      obtain ⟨n0, hn1, hn2, rfl⟩ : (∃ n0 : Nat, 2 ≤ n0 ∧ n0 ≤ 10 ∧ nI n0 = x0) := by
        rcases pk_ix x0 (n := 11) (by omega) with h | h | ⟨j, h1, h2⟩
        · exact absurd (fa_trans h (by decide : (0 : Int32) ≤ nI 2)) c_2_1
        · exact absurd (Int32.le_trans h c_8_2) (by decide)
        · refine ⟨j, ?_, by omega, h2.symm⟩
          rcases Nat.lt_or_ge j 2 with q | q
          · exact absurd (by rw [h2]; exact (nI_ltI (by omega) (by omega)).mpr q) c_2_1
          · exact q
      refine lv_aload_n hx hb dX4_setLeastLength_21 rfl (lv_at hl 0 rfl) ?_
      refine va_get (D := g.1) (ci := 2) (v := .ref (d)) (C := RX4) (T := TX4) (N := 3) hx hb hts hi_2 hown hK hP 0 rfl rfl 0 (by decide) f_10 (fun _ h9 => h9) rfl dX4_setLeastLength_22 ?_
      refine lv_iload_n hx hb dX4_setLeastLength_25 rfl (lv_at hl 1 rfl) ?_
      refine call_iV (As := [.int (nI (n0))]) (rest := []) (wr := [(x, .inr (2, [.ref (d), .ref (q), .long (lN (SL))])), (q, .inr (1, [.ref (u), .int (nI (np)), .int (mv), .int (lm), .int (ch), .long (lN (F))])), (u, .inl (g.2.1, 4, .inl (k)))]) ⟨hx, hb, hml, hown, hts⟩ (c_X0_changeLeastLength l g d v f S cnt ll hf hc n0) (cwV 1 hts gX4_setLeastLength_X0_changeLeastLength rfl rfl rfl (by decide +kernel) ⟨Nat.le_of_ble_eq_true rfl, Nat.le_of_ble_eq_true rfl⟩) hP hK hD hS hA [3, 4] [0, 1, 2] rfl rfl (by decide) (by decide) (by decide) 0 rfl rfl rfl rfl hl.1 rfl (Nat.le_of_ble_eq_true rfl) dX4_setLeastLength_26 ⟨Nat.le_of_ble_eq_true rfl, Nat.le_of_ble_eq_true rfl⟩ (fun r_26 w H locs h_26 hP hD hS => ?_)
      obtain ⟨rfl, h_26⟩ := h_26
      subst h_26
      have hP : va_P g.1 vwCl (FW g x (lN SL) q u k (nI np) mv lm ch (lN F) d v f (nI cnt) (nI n0)) H := hP
      have hD : va_D A (FW g x (lN SL) q u k (nI np) mv lm ch (lN F) d v f (nI cnt) (nI n0)) := hD
      exact hret (nI (ll)) (FW g x (lN SL) q u k (nI np) mv lm ch (lN F) d v f (nI cnt) (nI n0)) _ _ _ _ dX4_setLeastLength_29 (⟨n0, hn1, hn2, rfl, rfl, rfl⟩) hP hD hS
    · skip
      have n9 : ¬ (∃ n0 : Nat, 2 ≤ n0 ∧ n0 ≤ 10 ∧ nI n0 = x0) := by
        rintro ⟨n0, h1, h2, rfl⟩
        exact c_8_2 ((nI_leI (by omega) (by omega)).mpr h2)
      exact hthr "java/lang/IllegalArgumentException" "the least length is from 2 to 10" ["java/lang/RuntimeException", "java/lang/Exception"] 33 97 37 H locs ls [] 11 (by decide +kernel) (by decide +kernel) (by decide +kernel) (by decide +kernel) (by decide +kernel) (fun w h => List.mem_cons_of_mem _ (List.mem_append_right _ h)) (by decide +kernel) (by decide +kernel) hl.1 dX4_setLeastLength_11 dX4_setLeastLength_14 dX4_setLeastLength_15 dX4_setLeastLength_17 dX4_setLeastLength_20 (Nat.le_of_ble_eq_true rfl) (Nat.le_of_ble_eq_true rfl) (⟨rfl, n9⟩) hP hD hS

abbrev rm_X4_start : Room := { frames := 6, cells := 1, slots := 6, locals := 90 }
set_option maxHeartbeats 4000000 in
set_option maxRecDepth 100000 in
theorem c_X4_start (l : Launch) (hl0 : l.flags = flags0) (g : GG) (x q u d v : Nat) (SL : Nat) (k : Nat → Int32) (K : Nat → Nat) (np : Nat) (mv lm ch : Int32) (F : Nat) (f : Nat → Int64) (S : Nat → Nat) (cnt ll : Nat) (hSL : RV SL) (hF : RV F) (hk : GK k K) (hp : np ≤ 4) (hf : DR f S cnt) (hc : cnt ≤ 50) (hll : ll ≤ 10) (x0 : Int32) : Xv l yX4_start wsX4_start rm_X4_start g [.ref (x), .int (x0)] (FW g x (lN SL) q u k (nI np) mv lm ch (lN F) d v f (nI cnt) (nI ll)) (fun w => ∃ (n0 : Nat) (k9 : Nat → Int32), 2 ≤ n0 ∧ n0 ≤ 4 ∧ nI n0 = x0 ∧ GK k9 (fun _ => 0) ∧ w = (FW g x (lN SL) q u k9 (nI n0) (nI 0) (-1) (-1) (lN 0) d v f (nI cnt) (nI ll))) (fun E => E = "java/lang/IllegalArgumentException" ∧ ¬ (∃ n0 : Nat, 2 ≤ n0 ∧ n0 ≤ 4 ∧ nI n0 = x0)) := by
  refine Xv.of (cc := cX4_start) (maxL := 2) hl0 rfl (by decide) rfl (Nat.le_of_ble_eq_true rfl) ⟨rfl, rfl⟩ ?_
  intro p e s m args below meth c A Z hx hb hml hts hown hK hA hret hthr H locs ls hP hD hS hl
  have f_19 := hts (.fieldLink RX4 19 "GhostGame" "game" "LGhostGame$Game;") (by decide +kernel)
  have hi_2 : ∀ w ∈ wsX40, w ∈ wsX4_start := by decide +kernel
  have hl : lv_has ls 2 [(0, .ref (x)), (1, .int (x0))] := hl
  refine lv_iload_n hx hb dX4_start_0 rfl (lv_at hl 1 rfl) ?_
  refine lv_iconst (v := nI 2) hx hb dX4_start_1 (by decide) ?_
  refine lv_icmp_lt (tgt := 10) hx hb dX4_start_2 (by decide) (fun c_2_1 => ?_) (fun c_2_1 => ?_)
  · skip
    have n9 : ¬ (∃ n0 : Nat, 2 ≤ n0 ∧ n0 ≤ 4 ∧ nI n0 = x0) := by
      rintro ⟨n0, h1, h2, rfl⟩
      have := (nI_ltI (by omega) (by omega)).mp c_2_1
      omega
    exact hthr "java/lang/IllegalArgumentException" "a game has 2 to 4 players" ["java/lang/RuntimeException", "java/lang/Exception"] 33 103 37 H locs ls [] 10 (by decide +kernel) (by decide +kernel) (by decide +kernel) (by decide +kernel) (by decide +kernel) (fun w h => List.mem_cons_of_mem _ (List.mem_append_right _ h)) (by decide +kernel) (by decide +kernel) hl.1 dX4_start_10 dX4_start_13 dX4_start_14 dX4_start_16 dX4_start_19 (Nat.le_of_ble_eq_true rfl) (Nat.le_of_ble_eq_true rfl) (⟨rfl, n9⟩) hP hD hS
  · skip
    refine lv_iload_n hx hb dX4_start_5 rfl (lv_at hl 1 rfl) ?_
    refine lv_iconst (v := nI 4) hx hb dX4_start_6 (by decide) ?_
    refine lv_icmp_le (tgt := 20) hx hb dX4_start_7 (by decide) (fun c_7_2 => ?_) (fun c_7_2 => ?_)
    · skip
      obtain ⟨n0, hn1, hn2, rfl⟩ : (∃ n0 : Nat, 2 ≤ n0 ∧ n0 ≤ 4 ∧ nI n0 = x0) := by
        rcases pk_ix x0 (n := 5) (by omega) with h | h | ⟨j, h1, h2⟩
        · exact absurd (fa_trans h (by decide : (0 : Int32) ≤ nI 2)) c_2_1
        · exact absurd (Int32.le_trans h c_7_2) (by decide)
        · refine ⟨j, ?_, by omega, h2.symm⟩
          rcases Nat.lt_or_ge j 2 with q | q
          · exact absurd (by rw [h2]; exact (nI_ltI (by omega) (by omega)).mpr q) c_2_1
          · exact q
      refine lv_aload_n hx hb dX4_start_20 rfl (lv_at hl 0 rfl) ?_
      refine va_get (D := g.1) (ci := 2) (v := .ref (q)) (C := RX4) (T := TX4) (N := 3) hx hb hts hi_2 hown hK hP 0 rfl rfl 1 (by decide) f_19 (fun _ h9 => h9) rfl dX4_start_21 ?_
      refine lv_iload_n hx hb dX4_start_24 rfl (lv_at hl 1 rfl) ?_
      refine call_vV (As := [.int (nI (n0))]) (rest := []) (wr := [(x, .inr (2, [.ref (d), .ref (q), .long (lN (SL))])), (d, .inr (0, [.ref (v), .int (nI (cnt)), .int (nI (ll))])), (v, .inl (g.2.2.1, 50, .inr (.inl (f))))]) ⟨hx, hb, hml, hown, hts⟩ (c_X1_begin l g q u k (nI np) mv lm ch (lN F) n0) (cwV 1 hts gX4_start_X1_begin rfl rfl rfl (by decide +kernel) ⟨Nat.le_of_ble_eq_true rfl, Nat.le_of_ble_eq_true rfl⟩) hP hK hD hS hA [1, 2] [0, 3, 4] rfl rfl (by decide) (by decide) (by decide) 0 rfl rfl rfl rfl hl.1 rfl (Nat.le_of_ble_eq_true rfl) dX4_start_25 ⟨Nat.le_of_ble_eq_true rfl, Nat.le_of_ble_eq_true rfl⟩ (fun w H locs h_25 hP hD hS => ?_)
      obtain ⟨k9, hk9, rfl⟩ := h_25
      have hP := hP.sub [0, 3, 4, 1, 2] (ws' := (FW g x (lN SL) q u k9 (nI n0) (nI 0) (-1) (-1) (lN 0) d v f (nI cnt) (nI ll))) rfl
      have hD := hD.sub [0, 3, 4, 1, 2] (ws' := (FW g x (lN SL) q u k9 (nI n0) (nI 0) (-1) (-1) (lN 0) d v f (nI cnt) (nI ll))) (by decide) rfl
      have hP : va_P g.1 vwCl (FW g x (lN SL) q u k9 (nI n0) (nI 0) (-1) (-1) (lN 0) d v f (nI cnt) (nI ll)) H := hP
      have hD : va_D A (FW g x (lN SL) q u k9 (nI n0) (nI 0) (-1) (-1) (lN 0) d v f (nI cnt) (nI ll)) := hD
      exact hret (FW g x (lN SL) q u k9 (nI n0) (nI 0) (-1) (-1) (lN 0) d v f (nI cnt) (nI ll)) _ _ _ _ dX4_start_28 (⟨n0, k9, hn1, hn2, rfl, hk9, rfl⟩) hP hD hS
    · skip
      have n9 : ¬ (∃ n0 : Nat, 2 ≤ n0 ∧ n0 ≤ 4 ∧ nI n0 = x0) := by
        rintro ⟨n0, h1, h2, rfl⟩
        exact c_7_2 ((nI_leI (by omega) (by omega)).mpr h2)
      exact hthr "java/lang/IllegalArgumentException" "a game has 2 to 4 players" ["java/lang/RuntimeException", "java/lang/Exception"] 33 103 37 H locs ls [] 10 (by decide +kernel) (by decide +kernel) (by decide +kernel) (by decide +kernel) (by decide +kernel) (fun w h => List.mem_cons_of_mem _ (List.mem_append_right _ h)) (by decide +kernel) (by decide +kernel) hl.1 dX4_start_10 dX4_start_13 dX4_start_14 dX4_start_16 dX4_start_19 (Nat.le_of_ble_eq_true rfl) (Nat.le_of_ble_eq_true rfl) (⟨rfl, n9⟩) hP hD hS

abbrev rm_X4_play : Room := { frames := 6, cells := 1, slots := 6, locals := 129 }
set_option maxHeartbeats 4000000 in
set_option maxRecDepth 100000 in
theorem c_X4_play (l : Launch) (hl0 : l.flags = flags0) (g : GG) (x q u d v : Nat) (SL : Nat) (k : Nat → Int32) (K : Nat → Nat) (np : Nat) (mv lm ch : Int32) (F : Nat) (f : Nat → Int64) (S : Nat → Nat) (cnt ll : Nat) (hSL : RV SL) (hF : RV F) (hk : GK k K) (hp : np ≤ 4) (hf : DR f S cnt) (hc : cnt ≤ 50) (hll : ll ≤ 10) (hmv : mv = -1 ∨ ∃ j, mv = nI j ∧ j < np ∧ K j < 5) (x0 : Int32) : Xi l yX4_play wsX4_play rm_X4_play g [.ref (x), .int (x0)] (FW g x (lN SL) q u k (nI np) mv lm ch (lN F) d v f (nI cnt) (nI ll)) (fun r w => ∃ a j : Nat, a < 26 ∧ nI a = x0 ∧ mv = nI j ∧ j < np ∧ K j < 5 ∧ rwL F < 10 ∧ (((ll ≤ rwL (rwX F a) ∧ inS S cnt (rwX F a)) ∧ r = nI j ∧ w = (FW g x (lN SL) q u (upd k j (nI (K j + 1))) (nI np) (erM K np j) lm (erC K np j ch) (lN 0) d v f (nI cnt) (nI ll))) ∨ (¬ (ll ≤ rwL (rwX F a) ∧ inS S cnt (rwX F a)) ∧ r = -1 ∧ w = (FW g x (lN SL) q u k (nI np) (oI (nxF K np np j)) (nI j) ch (lN (rwX F a)) d v f (nI cnt) (nI ll))))) (fun E => (E = "java/lang/IllegalArgumentException" ∧ ¬ (∃ a : Nat, a < 26 ∧ nI a = x0)) ∨ (E = "java/lang/IllegalStateException" ∧ (∃ a : Nat, a < 26 ∧ nI a = x0) ∧ (mv = -1 ∨ 10 ≤ rwL F))) := by
  refine Xi.of (cc := cX4_play) (maxL := 2) hl0 rfl (by decide) rfl (Nat.le_of_ble_eq_true rfl) ⟨rfl, rfl⟩ ?_
  intro p e s m args below meth c A Z hx hb hml hts hown hK hA hret hthr H locs ls hP hD hS hl
  have f_10 := hts (.fieldLink RX4 10 "GhostGame" "dictionary" "LGhostGame$Dictionary;") (by decide +kernel)
  have f_19 := hts (.fieldLink RX4 19 "GhostGame" "game" "LGhostGame$Game;") (by decide +kernel)
  have hi_2 : ∀ w ∈ wsX40, w ∈ wsX4_play := by decide +kernel
  have hl : lv_has ls 2 [(0, .ref (x)), (1, .int (x0))] := hl
  refine lv_iload_n hx hb dX4_play_0 rfl (lv_at hl 1 rfl) ?_
  refine call_iP (As := [.int (x0)]) (rest := []) ⟨hx, hb, hml, hown, hts⟩ (c_X4_isLetter l (x0)) (va_cwS 1 hts gX4_play_X4_isLetter rfl rfl rfl (by decide +kernel) ⟨Nat.le_of_ble_eq_true rfl, Nat.le_of_ble_eq_true rfl⟩) hP hK hD hS hA rfl hl.1 rfl (Nat.le_of_ble_eq_true rfl) dX4_play_1 ⟨Nat.le_of_ble_eq_true rfl, Nat.le_of_ble_eq_true rfl⟩ (fun r_1 H locs h_1 hP hD hS => ?_)
  refine lv_if_ne (tgt := 17) hx hb dX4_play_4 (by decide) (fun c_4_1 => ?_) (fun c_4_1 => ?_)
  · skip
    have n_4_1 := Bv.t h_1 c_4_1
    obtain ⟨a, ha, rfl⟩ := n_4_1
    refine lv_aload_n hx hb dX4_play_17 rfl (lv_at hl 0 rfl) ?_
    refine va_get (D := g.1) (ci := 2) (v := .ref (q)) (C := RX4) (T := TX4) (N := 3) hx hb hts hi_2 hown hK hP 0 rfl rfl 1 (by decide) f_19 (fun _ h9 => h9) rfl dX4_play_18 ?_
    refine call_iV (As := []) (rest := []) (wr := [(x, .inr (2, [.ref (d), .ref (q), .long (lN (SL))])), (d, .inr (0, [.ref (v), .int (nI (cnt)), .int (nI (ll))])), (v, .inl (g.2.2.1, 50, .inr (.inl (f))))]) ⟨hx, hb, hml, hown, hts⟩ (c_X1_isOn l g q u k (nI np) mv lm ch (lN F)) (cwV 0 hts gX4_play_X1_isOn rfl rfl rfl (by decide +kernel) ⟨Nat.le_of_ble_eq_true rfl, Nat.le_of_ble_eq_true rfl⟩) hP hK hD hS hA [1, 2] [0, 3, 4] rfl rfl (by decide) (by decide) (by decide) 0 rfl rfl rfl rfl hl.1 rfl (Nat.le_of_ble_eq_true rfl) dX4_play_21 ⟨Nat.le_of_ble_eq_true rfl, Nat.le_of_ble_eq_true rfl⟩ (fun r_21 w H locs h_21 hP hD hS => ?_)
    obtain ⟨rfl, h_21⟩ := h_21
    have hP := hP.sub [0, 3, 4, 1, 2] (ws' := (FW g x (lN SL) q u k (nI np) mv lm ch (lN F) d v f (nI cnt) (nI ll))) rfl
    have hD := hD.sub [0, 3, 4, 1, 2] (ws' := (FW g x (lN SL) q u k (nI np) mv lm ch (lN F) d v f (nI cnt) (nI ll))) (by decide) rfl
    have hP : va_P g.1 vwCl (FW g x (lN SL) q u k (nI np) mv lm ch (lN F) d v f (nI cnt) (nI ll)) H := hP
    have hD : va_D A (FW g x (lN SL) q u k (nI np) mv lm ch (lN F) d v f (nI cnt) (nI ll)) := hD
    refine lv_if_eq (tgt := 40) hx hb dX4_play_24 (by decide) (fun c_24_2 => ?_) (fun c_24_2 => ?_)
    · skip
      have n_24_2 := Bv.f h_21 c_24_2
      exact hthr "java/lang/IllegalStateException" "no letter can be played" ["java/lang/RuntimeException", "java/lang/Exception"] 44 117 48 H locs ls [] 40 (by decide +kernel) (by decide +kernel) (by decide +kernel) (by decide +kernel) (by decide +kernel) (fun w h => List.mem_cons_of_mem _ (List.mem_append_right _ h)) (by decide +kernel) (by decide +kernel) hl.1 dX4_play_40 dX4_play_43 dX4_play_44 dX4_play_46 dX4_play_49 (Nat.le_of_ble_eq_true rfl) (Nat.le_of_ble_eq_true rfl) (Or.inr ⟨rfl, ⟨a, ha, rfl⟩, Or.inl (Classical.byContradiction n_24_2)⟩) hP hD hS
    · skip
      have n_24_2 := Bv.t h_21 c_24_2
      obtain ⟨j, rfl, hj, hKj⟩ : ∃ j, mv = nI j ∧ j < np ∧ K j < 5 := by
        rcases hmv with h | h
        · exact absurd h n_24_2
        · exact h
      refine lv_aload_n hx hb dX4_play_27 rfl (lv_at hl 0 rfl) ?_
      refine va_get (D := g.1) (ci := 2) (v := .ref (q)) (C := RX4) (T := TX4) (N := 3) hx hb hts hi_2 hown hK hP 0 rfl rfl 1 (by decide) f_19 (fun _ h9 => h9) rfl dX4_play_28 ?_
      refine call_lV (As := []) (rest := []) (wr := [(x, .inr (2, [.ref (d), .ref (q), .long (lN (SL))])), (d, .inr (0, [.ref (v), .int (nI (cnt)), .int (nI (ll))])), (v, .inl (g.2.2.1, 50, .inr (.inl (f))))]) ⟨hx, hb, hml, hown, hts⟩ (c_X1_fragment l g q u k (nI np) (nI j) lm ch (lN F)) (cwV 0 hts gX4_play_X1_fragment rfl rfl rfl (by decide +kernel) ⟨Nat.le_of_ble_eq_true rfl, Nat.le_of_ble_eq_true rfl⟩) hP hK hD hS hA [1, 2] [0, 3, 4] rfl rfl (by decide) (by decide) (by decide) 0 rfl rfl rfl rfl hl.1 rfl (Nat.le_of_ble_eq_true rfl) dX4_play_31 ⟨Nat.le_of_ble_eq_true rfl, Nat.le_of_ble_eq_true rfl⟩ (fun r_31 w H locs h_31 hP hD hS => ?_)
      obtain ⟨rfl, h_31⟩ := h_31
      subst h_31
      have hP := hP.sub [0, 3, 4, 1, 2] (ws' := (FW g x (lN SL) q u k (nI np) (nI j) lm ch (lN F) d v f (nI cnt) (nI ll))) rfl
      have hD := hD.sub [0, 3, 4, 1, 2] (ws' := (FW g x (lN SL) q u k (nI np) (nI j) lm ch (lN F) d v f (nI cnt) (nI ll))) (by decide) rfl
      have hP : va_P g.1 vwCl (FW g x (lN SL) q u k (nI np) (nI j) lm ch (lN F) d v f (nI cnt) (nI ll)) H := hP
      have hD : va_D A (FW g x (lN SL) q u k (nI np) (nI j) lm ch (lN F) d v f (nI cnt) (nI ll)) := hD
      refine call_iP (As := [.long (lN (F))]) (rest := []) ⟨hx, hb, hml, hown, hts⟩ (c_X2_isFull l F hF) (va_cwS 1 hts gX4_play_X2_isFull rfl rfl rfl (by decide +kernel) ⟨Nat.le_of_ble_eq_true rfl, Nat.le_of_ble_eq_true rfl⟩) hP hK hD hS hA rfl hl.1 rfl (Nat.le_of_ble_eq_true rfl) dX4_play_34 ⟨Nat.le_of_ble_eq_true rfl, Nat.le_of_ble_eq_true rfl⟩ (fun r_34 H locs h_34 hP hD hS => ?_)
      refine lv_if_eq (tgt := 50) hx hb dX4_play_37 (by decide) (fun c_37_3 => ?_) (fun c_37_3 => ?_)
      · skip
        have n_37_3 := Bv.f h_34 c_37_3
        refine lv_aload_n hx hb dX4_play_50 rfl (lv_at hl 0 rfl) ?_
        refine va_get (D := g.1) (ci := 2) (v := .ref (q)) (C := RX4) (T := TX4) (N := 3) hx hb hts hi_2 hown hK hP 0 rfl rfl 1 (by decide) f_19 (fun _ h9 => h9) rfl dX4_play_51 ?_
        refine lv_iload_n hx hb dX4_play_54 rfl (lv_at hl 1 rfl) ?_
        refine lv_aload_n hx hb dX4_play_55 rfl (lv_at hl 0 rfl) ?_
        refine va_get (D := g.1) (ci := 2) (v := .ref (d)) (C := RX4) (T := TX4) (N := 3) hx hb hts hi_2 hown hK hP 0 rfl rfl 0 (by decide) f_10 (fun _ h9 => h9) rfl dX4_play_56 ?_
        refine call_iV (As := [.int (nI (a)), .ref (d)]) (rest := []) (wr := [(x, .inr (2, [.ref (d), .ref (q), .long (lN (SL))]))]) ⟨hx, hb, hml, hown, hts⟩ (c_X1_addLetter l g q u k K np lm ch hk hp d v f S cnt ll hf hc hll F a j hF (by omega) ha hj hKj) (cwV 2 hts gX4_play_X1_addLetter rfl rfl rfl (by decide +kernel) ⟨Nat.le_of_ble_eq_true rfl, Nat.le_of_ble_eq_true rfl⟩) hP hK hD hS hA [1, 2, 3, 4] [0] rfl rfl (by decide) (by decide) (by decide) 0 rfl rfl rfl rfl hl.1 rfl (Nat.le_of_ble_eq_true rfl) dX4_play_59 ⟨Nat.le_of_ble_eq_true rfl, Nat.le_of_ble_eq_true rfl⟩ (fun r_59 w H locs h_59 hP hD hS => ?_)
        rcases h_59 with ⟨h59, rfl, rfl⟩ | ⟨h59, rfl, rfl⟩
        · skip
          have hP : va_P g.1 vwCl (FW g x (lN SL) q u (upd k j (nI (K j + 1))) (nI np) (erM K np j) lm (erC K np j ch) (lN 0) d v f (nI cnt) (nI ll)) H := hP
          have hD : va_D A (FW g x (lN SL) q u (upd k j (nI (K j + 1))) (nI np) (erM K np j) lm (erC K np j ch) (lN 0) d v f (nI cnt) (nI ll)) := hD
          exact hret (nI (j)) (FW g x (lN SL) q u (upd k j (nI (K j + 1))) (nI np) (erM K np j) lm (erC K np j ch) (lN 0) d v f (nI cnt) (nI ll)) _ _ _ _ dX4_play_62 (⟨a, j, ha, rfl, rfl, hj, hKj, by omega, Or.inl ⟨h59, rfl, rfl⟩⟩) hP hD hS
        · skip
          have hP : va_P g.1 vwCl (FW g x (lN SL) q u k (nI np) (oI (nxF K np np j)) (nI j) ch (lN (rwX F a)) d v f (nI cnt) (nI ll)) H := hP
          have hD : va_D A (FW g x (lN SL) q u k (nI np) (oI (nxF K np np j)) (nI j) ch (lN (rwX F a)) d v f (nI cnt) (nI ll)) := hD
          exact hret (-1) (FW g x (lN SL) q u k (nI np) (oI (nxF K np np j)) (nI j) ch (lN (rwX F a)) d v f (nI cnt) (nI ll)) _ _ _ _ dX4_play_62 (⟨a, j, ha, rfl, rfl, hj, hKj, by omega, Or.inr ⟨h59, rfl, rfl⟩⟩) hP hD hS
      · skip
        have n_37_3 := Bv.t h_34 c_37_3
        exact hthr "java/lang/IllegalStateException" "no letter can be played" ["java/lang/RuntimeException", "java/lang/Exception"] 44 117 48 H locs ls [] 40 (by decide +kernel) (by decide +kernel) (by decide +kernel) (by decide +kernel) (by decide +kernel) (fun w h => List.mem_cons_of_mem _ (List.mem_append_right _ h)) (by decide +kernel) (by decide +kernel) hl.1 dX4_play_40 dX4_play_43 dX4_play_44 dX4_play_46 dX4_play_49 (Nat.le_of_ble_eq_true rfl) (Nat.le_of_ble_eq_true rfl) (Or.inr ⟨rfl, ⟨a, ha, rfl⟩, Or.inr n_37_3⟩) hP hD hS
  · skip
    have n_4_1 := Bv.f h_1 c_4_1
    exact hthr "java/lang/IllegalArgumentException" "a letter is a number from 0 to 25" ["java/lang/RuntimeException", "java/lang/Exception"] 33 35 37 H locs ls [] 7 (by decide +kernel) (by decide +kernel) (by decide +kernel) (by decide +kernel) (by decide +kernel) (fun w h => List.mem_cons_of_mem _ (List.mem_append_left _ (List.mem_append_right _ h))) (by decide +kernel) (by decide +kernel) hl.1 dX4_play_7 dX4_play_10 dX4_play_11 dX4_play_13 dX4_play_16 (Nat.le_of_ble_eq_true rfl) (Nat.le_of_ble_eq_true rfl) (Or.inl ⟨rfl, n_4_1⟩) hP hD hS

abbrev rm_X4_challenge : Room := { frames := 6, cells := 1, slots := 6, locals := 128 }
set_option maxHeartbeats 4000000 in
set_option maxRecDepth 100000 in
theorem c_X4_challenge (l : Launch) (hl0 : l.flags = flags0) (g : GG) (x q u d v : Nat) (SL : Nat) (k : Nat → Int32) (K : Nat → Nat) (np : Nat) (mv lm ch : Int32) (F : Nat) (f : Nat → Int64) (S : Nat → Nat) (cnt ll : Nat) (hSL : RV SL) (hF : RV F) (hk : GK k K) (hp : np ≤ 4) (hf : DR f S cnt) (hc : cnt ≤ 50) (hll : ll ≤ 10) (hmv : mv = -1 ∨ ∃ j, mv = nI j ∧ j < np ∧ K j < 5) (hlm : 0 < rwL F → ∃ j, lm = nI j ∧ j < np ∧ K j < 5) : Xi l yX4_challenge wsX4_challenge rm_X4_challenge g [.ref (x)] (FW g x (lN SL) q u k (nI np) mv lm ch (lN F) d v f (nI cnt) (nI ll)) (fun r w => ∃ j j2 : Nat, mv = nI j ∧ lm = nI j2 ∧ j < np ∧ K j < 5 ∧ j2 < np ∧ K j2 < 5 ∧ 0 < rwL F ∧ (((∃ i, i < cnt ∧ ll ≤ rwL (S i) ∧ bgP (S i) F) ∧ r = nI j ∧ w = (FW g x (lN SL) q u (upd k j (nI (K j + 1))) (nI np) (erM K np j) (nI j2) (erC K np j ch) (lN 0) d v f (nI cnt) (nI ll))) ∨ (¬ (∃ i, i < cnt ∧ ll ≤ rwL (S i) ∧ bgP (S i) F) ∧ r = nI j2 ∧ w = (FW g x (lN SL) q u (upd k j2 (nI (K j2 + 1))) (nI np) (erM K np j2) (nI j2) (erC K np j2 ch) (lN 0) d v f (nI cnt) (nI ll))))) (fun E => E = "java/lang/IllegalStateException" ∧ (mv = -1 ∨ rwL F = 0)) := by
  refine Xi.of (cc := cX4_challenge) (maxL := 1) hl0 rfl (by decide) rfl (Nat.le_of_ble_eq_true rfl) ⟨rfl, rfl⟩ ?_
  intro p e s m args below meth c A Z hx hb hml hts hown hK hA hret hthr H locs ls hP hD hS hl
  have f_10 := hts (.fieldLink RX4 10 "GhostGame" "dictionary" "LGhostGame$Dictionary;") (by decide +kernel)
  have f_19 := hts (.fieldLink RX4 19 "GhostGame" "game" "LGhostGame$Game;") (by decide +kernel)
  have hi_2 : ∀ w ∈ wsX40, w ∈ wsX4_challenge := by decide +kernel
  have hl : lv_has ls 1 [(0, .ref (x))] := hl
  refine lv_aload_n hx hb dX4_challenge_0 rfl (lv_at hl 0 rfl) ?_
  refine va_get (D := g.1) (ci := 2) (v := .ref (q)) (C := RX4) (T := TX4) (N := 3) hx hb hts hi_2 hown hK hP 0 rfl rfl 1 (by decide) f_19 (fun _ h9 => h9) rfl dX4_challenge_1 ?_
  refine call_iV (As := []) (rest := []) (wr := [(x, .inr (2, [.ref (d), .ref (q), .long (lN (SL))])), (d, .inr (0, [.ref (v), .int (nI (cnt)), .int (nI (ll))])), (v, .inl (g.2.2.1, 50, .inr (.inl (f))))]) ⟨hx, hb, hml, hown, hts⟩ (c_X1_isOn l g q u k (nI np) mv lm ch (lN F)) (cwV 0 hts gX4_challenge_X1_isOn rfl rfl rfl (by decide +kernel) ⟨Nat.le_of_ble_eq_true rfl, Nat.le_of_ble_eq_true rfl⟩) hP hK hD hS hA [1, 2] [0, 3, 4] rfl rfl (by decide) (by decide) (by decide) 0 rfl rfl rfl rfl hl.1 rfl (Nat.le_of_ble_eq_true rfl) dX4_challenge_4 ⟨Nat.le_of_ble_eq_true rfl, Nat.le_of_ble_eq_true rfl⟩ (fun r_4 w H locs h_4 hP hD hS => ?_)
  obtain ⟨rfl, h_4⟩ := h_4
  have hP := hP.sub [0, 3, 4, 1, 2] (ws' := (FW g x (lN SL) q u k (nI np) mv lm ch (lN F) d v f (nI cnt) (nI ll))) rfl
  have hD := hD.sub [0, 3, 4, 1, 2] (ws' := (FW g x (lN SL) q u k (nI np) mv lm ch (lN F) d v f (nI cnt) (nI ll))) (by decide) rfl
  have hP : va_P g.1 vwCl (FW g x (lN SL) q u k (nI np) mv lm ch (lN F) d v f (nI cnt) (nI ll)) H := hP
  have hD : va_D A (FW g x (lN SL) q u k (nI np) mv lm ch (lN F) d v f (nI cnt) (nI ll)) := hD
  refine lv_if_eq (tgt := 22) hx hb dX4_challenge_7 (by decide) (fun c_7_1 => ?_) (fun c_7_1 => ?_)
  · skip
    have n_7_1 := Bv.f h_4 c_7_1
    exact hthr "java/lang/IllegalStateException" "there is nothing to challenge" ["java/lang/RuntimeException", "java/lang/Exception"] 44 123 48 H locs ls [] 22 (by decide +kernel) (by decide +kernel) (by decide +kernel) (by decide +kernel) (by decide +kernel) (fun w h => List.mem_cons_of_mem _ (List.mem_append_right _ h)) (by decide +kernel) (by decide +kernel) hl.1 dX4_challenge_22 dX4_challenge_25 dX4_challenge_26 dX4_challenge_28 dX4_challenge_31 (Nat.le_of_ble_eq_true rfl) (Nat.le_of_ble_eq_true rfl) (⟨rfl, Or.inl (Classical.byContradiction n_7_1)⟩) hP hD hS
  · skip
    have n_7_1 := Bv.t h_4 c_7_1
    obtain ⟨j, rfl, hj, hKj⟩ : ∃ j, mv = nI j ∧ j < np ∧ K j < 5 := by
      rcases hmv with h | h
      · exact absurd h n_7_1
      · exact h
    refine lv_aload_n hx hb dX4_challenge_10 rfl (lv_at hl 0 rfl) ?_
    refine va_get (D := g.1) (ci := 2) (v := .ref (q)) (C := RX4) (T := TX4) (N := 3) hx hb hts hi_2 hown hK hP 0 rfl rfl 1 (by decide) f_19 (fun _ h9 => h9) rfl dX4_challenge_11 ?_
    refine call_lV (As := []) (rest := []) (wr := [(x, .inr (2, [.ref (d), .ref (q), .long (lN (SL))])), (d, .inr (0, [.ref (v), .int (nI (cnt)), .int (nI (ll))])), (v, .inl (g.2.2.1, 50, .inr (.inl (f))))]) ⟨hx, hb, hml, hown, hts⟩ (c_X1_fragment l g q u k (nI np) (nI j) lm ch (lN F)) (cwV 0 hts gX4_challenge_X1_fragment rfl rfl rfl (by decide +kernel) ⟨Nat.le_of_ble_eq_true rfl, Nat.le_of_ble_eq_true rfl⟩) hP hK hD hS hA [1, 2] [0, 3, 4] rfl rfl (by decide) (by decide) (by decide) 0 rfl rfl rfl rfl hl.1 rfl (Nat.le_of_ble_eq_true rfl) dX4_challenge_14 ⟨Nat.le_of_ble_eq_true rfl, Nat.le_of_ble_eq_true rfl⟩ (fun r_14 w H locs h_14 hP hD hS => ?_)
    obtain ⟨rfl, h_14⟩ := h_14
    subst h_14
    have hF1 := hF.lt
    have hP := hP.sub [0, 3, 4, 1, 2] (ws' := (FW g x (lN SL) q u k (nI np) (nI j) lm ch (lN F) d v f (nI cnt) (nI ll))) rfl
    have hD := hD.sub [0, 3, 4, 1, 2] (ws' := (FW g x (lN SL) q u k (nI np) (nI j) lm ch (lN F) d v f (nI cnt) (nI ll))) (by decide) rfl
    have hP : va_P g.1 vwCl (FW g x (lN SL) q u k (nI np) (nI j) lm ch (lN F) d v f (nI cnt) (nI ll)) H := hP
    have hD : va_D A (FW g x (lN SL) q u k (nI np) (nI j) lm ch (lN F) d v f (nI cnt) (nI ll)) := hD
    refine lv_lconst (v := lN 0) hx hb dX4_challenge_17 (by decide) ?_
    refine W.lcmp hx hb dX4_challenge_18 ?_
    refine lv_if_ne (tgt := 32) hx hb dX4_challenge_19 (by decide) (fun c_19_2 => ?_) (fun c_19_2 => ?_)
    · skip
      have n_19_2 : ¬ F = 0 := fun q9 => c_19_2 ((lc_eq (a := F) (b := 0) (by omega) (by omega)).mpr q9)
      have hF0 : 0 < rwL F := rl_pos hF n_19_2
      obtain ⟨j2, rfl, hj2, hKj2⟩ := hlm hF0
      refine lv_aload_n hx hb dX4_challenge_32 rfl (lv_at hl 0 rfl) ?_
      refine va_get (D := g.1) (ci := 2) (v := .ref (q)) (C := RX4) (T := TX4) (N := 3) hx hb hts hi_2 hown hK hP 0 rfl rfl 1 (by decide) f_19 (fun _ h9 => h9) rfl dX4_challenge_33 ?_
      refine lv_aload_n hx hb dX4_challenge_36 rfl (lv_at hl 0 rfl) ?_
      refine va_get (D := g.1) (ci := 2) (v := .ref (d)) (C := RX4) (T := TX4) (N := 3) hx hb hts hi_2 hown hK hP 0 rfl rfl 0 (by decide) f_10 (fun _ h9 => h9) rfl dX4_challenge_37 ?_
      refine call_iV (As := [.ref (d)]) (rest := []) (wr := [(x, .inr (2, [.ref (d), .ref (q), .long (lN (SL))]))]) ⟨hx, hb, hml, hown, hts⟩ (c_X1_settleChallenge l g q u k K np ch hk hp d v f S cnt ll hf hc hll F j j2 hF hj hKj hj2 hKj2) (cwV 1 hts gX4_challenge_X1_settleChallenge rfl rfl rfl (by decide +kernel) ⟨Nat.le_of_ble_eq_true rfl, Nat.le_of_ble_eq_true rfl⟩) hP hK hD hS hA [1, 2, 3, 4] [0] rfl rfl (by decide) (by decide) (by decide) 0 rfl rfl rfl rfl hl.1 rfl (Nat.le_of_ble_eq_true rfl) dX4_challenge_40 ⟨Nat.le_of_ble_eq_true rfl, Nat.le_of_ble_eq_true rfl⟩ (fun r_40 w H locs h_40 hP hD hS => ?_)
      rcases h_40 with ⟨h59, rfl, rfl⟩ | ⟨h59, rfl, rfl⟩
      · skip
        have hP : va_P g.1 vwCl (FW g x (lN SL) q u (upd k j (nI (K j + 1))) (nI np) (erM K np j) (nI j2) (erC K np j ch) (lN 0) d v f (nI cnt) (nI ll)) H := hP
        have hD : va_D A (FW g x (lN SL) q u (upd k j (nI (K j + 1))) (nI np) (erM K np j) (nI j2) (erC K np j ch) (lN 0) d v f (nI cnt) (nI ll)) := hD
        exact hret (nI (j)) (FW g x (lN SL) q u (upd k j (nI (K j + 1))) (nI np) (erM K np j) (nI j2) (erC K np j ch) (lN 0) d v f (nI cnt) (nI ll)) _ _ _ _ dX4_challenge_43 (⟨j, j2, rfl, rfl, hj, hKj, hj2, hKj2, hF0, Or.inl ⟨h59, rfl, rfl⟩⟩) hP hD hS
      · skip
        have hP : va_P g.1 vwCl (FW g x (lN SL) q u (upd k j2 (nI (K j2 + 1))) (nI np) (erM K np j2) (nI j2) (erC K np j2 ch) (lN 0) d v f (nI cnt) (nI ll)) H := hP
        have hD : va_D A (FW g x (lN SL) q u (upd k j2 (nI (K j2 + 1))) (nI np) (erM K np j2) (nI j2) (erC K np j2 ch) (lN 0) d v f (nI cnt) (nI ll)) := hD
        exact hret (nI (j2)) (FW g x (lN SL) q u (upd k j2 (nI (K j2 + 1))) (nI np) (erM K np j2) (nI j2) (erC K np j2 ch) (lN 0) d v f (nI cnt) (nI ll)) _ _ _ _ dX4_challenge_43 (⟨j, j2, rfl, rfl, hj, hKj, hj2, hKj2, hF0, Or.inr ⟨h59, rfl, rfl⟩⟩) hP hD hS
    · skip
      have n_19_2 : F = 0 := (lc_eq (a := F) (b := 0) (by omega) (by omega)).mp c_19_2
      exact hthr "java/lang/IllegalStateException" "there is nothing to challenge" ["java/lang/RuntimeException", "java/lang/Exception"] 44 123 48 H locs ls [] 22 (by decide +kernel) (by decide +kernel) (by decide +kernel) (by decide +kernel) (by decide +kernel) (fun w h => List.mem_cons_of_mem _ (List.mem_append_right _ h)) (by decide +kernel) (by decide +kernel) hl.1 dX4_challenge_22 dX4_challenge_25 dX4_challenge_26 dX4_challenge_28 dX4_challenge_31 (Nat.le_of_ble_eq_true rfl) (Nat.le_of_ble_eq_true rfl) (⟨rfl, Or.inr (by rw [n_19_2]; decide)⟩) hP hD hS
end
section
section CTOR
/-- a constructor: it makes mc cells of ms slots -/
def Cn (l : Launch) (y : MethodName) (ws : List Cond) (rm : Room) (g : GG) (av : List Value) (wd : va_W) (mc ms : Nat) (post : va_W → Prop) : Prop := ∀ sz : Nat, Met l y ws rm (va_Pc av (Pw g wd sz)) (va_Qv post (fun w t => Bw g (va_A wd sz) w t) (va_A wd sz)) mc ms (va_A wd sz)
theorem Cn.of {l : Launch} {y : MethodName} {ws ws' : List Cond} {rm : Room} {g : GG} {av : List Value} {wd : va_W} {cc : ByteArray} {maxL mc ms : Nat} {post : va_W → Prop} (hy : plainName y.cls = true) (hyn : y.name = "<init>") (hw : ws = Cond.code y cc maxL none :: ws') (hn : (lg_sl av).length ≤ maxL)
    (body : ∀ (p : Program) (e : Env) (s : State) (m : MethodId) (args : Array Value) (below : List Frame) (meth : Method) (c : Code) (A : Nat → Prop) (Z : State → Prop),
      p.tables.exec = Jvm.exec → c.code = cc → c.maxLocals = maxL → (∀ w ∈ ws, w.before args s = true) → s.vm.findClass y.cls = some m.cls → va_K g.1 vwCl (tyG g) s → (∀ q, s.heap.size ≤ q → A q) → meth.name = "<init>" →
      (∀ (w : va_W) (H : Heap) (locs : List Loc) (ls : Array Slot) (pc : Nat), decode cc pc = .ok (.return_, 1) → post w → va_P g.1 vwCl w H → va_D A w → va_S A s.heap H locs → W p l e rm s m args below meth c H locs mc ms Z (F0 m pc ls [])) →
      ∀ (H : Heap) (locs : List Loc) (ls : Array Slot), va_P g.1 vwCl wd H → va_D A wd → va_S A s.heap H locs → lv_has ls maxL (lv_args 0 av) → W p l e rm s m args below meth c H locs 0 0 Z (F0 m 0 ls [])) : Cn l y ws rm g av wd mc ms post := by
  intro sz
  refine Met.ofW (cc := cc) (maxL := maxL) (ret := none) hy hw ?_
  intro p e s m args below meth c s₁ B hml hv
  obtain ⟨rfl, hsz, hP, hK, hD0⟩ := hv
  have hx := B.exec
  have hb := B.bytes
  have hr := B.returns
  have hts := atoms_spec (ws := ws) B.pre
  have hown : s.vm.findClass y.cls = some m.cls := findClass_of_methodNamed B.named
  have hin : meth.name = "<init>" := (name_of_methodNamed B.named B.method).1.trans hyn
  have hlocks := B.notSynchronized
  subst hsz
  have hD := hD0.self (sz := s.heap.size)
  generalize hAe : va_A wd s.heap.size = A at hD ⊢
  have hA : ∀ q : Nat, s.heap.size ≤ q → A q := fun q h => by rw [← hAe]; exact Or.inr h
  have hl := lv_entry av (n := maxL) hn
  rw [lg_entry_eq]
  exact body p e s m av.toArray below meth c A _ hx hb hml hts hown hK hA hin (fun w H locs ls pc hd hp hP hD hS =>
    W.vret hx hb hr (fun t ht hW => ⟨⟨w, rfl, hp, by rw [ht]; exact hP, va_K.moved hW.alike hK, hD⟩, hS.F ht⟩) hS.2.2 hd) _ _ _ hP hD va_S.rf hl
variable {p : Program} {l : Launch} {e : Env} {R : Room} {s : State} {m : MethodId} {args : Array Value} {below : List Frame} {meth : Method} {c : Code} {H : Heap} {locs : List Loc} {cells slots : Nat} {Q : State → Prop}
variable {cc : ByteArray} {nL maxL n index pc mc ms : Nat} {Ts ws : List Cond} {own : String} {y : MethodName} {bytes : ByteArray} {rm : Room} {g : GG} {As rest st0 : List Value} {b : Nat} {wd wc wr : va_W} {A : Nat → Prop} {H0 : Heap} {ls : Array Slot}
theorem call_nI {post : va_W → Prop} (S : CallFix p m c cc nL s args Ts own) (hC : Cn l y ws rm g (.ref b :: As) wc mc ms post) (cw : CallB R s args own index y bytes maxL none ws rm mc ms n ∧ y.name = "<init>" ∧ (Cond.instanceMethod y).before args s = true)
    (hP : va_P g.1 vwCl wd H) (hK : va_K g.1 vwCl (tyG g) s) (hD : va_D A wd) (hS : va_S A H0 H locs) (hA : ∀ q, H0.size ≤ q → A q) (isC isR : List Nat) (hc : isC.map (fun i => wd[i]?) = wc.map some) (hr : isR.map (fun i => wd[i]?) = wr.map some) (hnC : va_nd isC = true) (hnR : va_nd isR = true) (hdis : ∀ i ∈ isR, i ∉ isC)
    (hn : As.length = n) (hsz : ls.size = nL) (hst : st0 = As.reverse ++ .ref b :: rest) (hrm : (rest.map fun v => v.category).sum ≤ 8) (hdg : decode cc pc = .ok (.invokespecial index, 3)) (hf : cells + mc ≤ R.cells ∧ slots + ms ≤ R.slots)
    (kk : ∀ (w : va_W) (H1 : Heap) (locs1 : List Loc), post w → va_P g.1 vwCl (wr ++ w) H1 → va_D A (wr ++ w) → va_S A H0 H1 locs1 → W p l e R s m args below meth c H1 locs1 (cells + mc) (slots + ms) Q (F0 m (pc + 3) ls rest)) : W p l e R s m args below meth c H locs cells slots Q (F0 m pc ls st0) := by
  subst hst
  have hPc : va_P g.1 vwCl wc H := hP.sub isC (fm_of (wc := wc) hc)
  have hDc : va_D A wc := hD.sub isC hnC hc
  have hFc := va_free (wc := wc) hD hS hA isC hc
  refine va_callv (va_runI (As := As) (rest := rest) S (hC H.size) cw ⟨Pw.blind g (.ref b :: As) wc H.size, fun U hU hW => ⟨rfl, by rw [hU], by rw [hU]; exact hPc, va_K.moved hW.alike hK, hDc.weaken (fun _ _ _ _ => trivial)⟩⟩ rfl hn hsz rfl (lv_room hrm) hdg hf) hS (fun q _ h => hFc q h) hFc (fun w t H1 locs1 ht hvm hw hB hz1 hk1 hS1 => ?_)
  obtain ⟨hP1, hK1, hD1⟩ := hB
  rw [ht] at hP1
  obtain ⟨hP2, hD2⟩ := va_join (wr := wr) (w1 := w) hP hD isC isR hc hr hnR hdis hk1 hFc hP1 hD1
  exact kk w H1 locs1 hw hP2 hD2 hS1
theorem na_i (hexec : p.tables.exec = Jvm.exec) (hb : c.code = cc) (harr : (Cond.arrayClass .int).before args s = true) (hK : va_K g.1 vwCl (tyG g) s) (hP : va_P g.1 vwCl wd H) (hD : va_D A wd) (hS : va_S A H0 H locs) (hA : ∀ q, H0.size ≤ q → A q)
    {n0 : Int32} {N : Nat} (hn : ¬ n0 < 0) (hN : n0.toNatClampNeg = N) (hbytes : N * componentBytes .int ≤ 536870912) (hcells : cells + 1 ≤ R.cells) (hslots : slots + N ≤ R.slots) (hdg : decode cc pc = .ok (.newarray .int, 2))
    (kk : ∀ (q : Nat) (H1 : Heap), va_P g.1 vwCl (wd ++ [(q, .inl (g.2.1, N, .inl (fun _ => 0)))]) H1 → va_D A (wd ++ [(q, .inl (g.2.1, N, .inl (fun _ => 0)))]) → va_S A H0 H1 locs →
      W p l e R s m args below meth c H1 locs (cells + 1) (slots + N) Q (F0 m (pc + 2) ls (.ref q :: rest))) : W p l e R s m args below meth c H locs cells slots Q (F0 m pc ls (.int n0 :: rest)) := by
  refine va_newa (atype := .int) hexec hb harr (ty := .int) rfl hK hP hD hS hA (N' := N) (a0 := (N, .inl (fun _ => 0))) (fun cA => rfl) hn hN hbytes hcells hslots hdg (fun q cA H1 hK1 hP1 hD1 hS1 => ?_)
  have e1 := va_nm_int (hK1.2 2 (cA, .int) rfl).2
  have e2 := va_nm_int (hK.2 0 (g.2.1, .int) rfl).2
  have e : cA = g.2.1 := Option.some.inj (e1.symm.trans e2)
  subst e
  exact kk q H1 hP1 hD1 hS1
theorem na_j (hexec : p.tables.exec = Jvm.exec) (hb : c.code = cc) (harr : (Cond.arrayClass .long).before args s = true) (hK : va_K g.1 vwCl (tyG g) s) (hP : va_P g.1 vwCl wd H) (hD : va_D A wd) (hS : va_S A H0 H locs) (hA : ∀ q, H0.size ≤ q → A q)
    {n0 : Int32} {N : Nat} (hn : ¬ n0 < 0) (hN : n0.toNatClampNeg = N) (hbytes : N * componentBytes .long ≤ 536870912) (hcells : cells + 1 ≤ R.cells) (hslots : slots + N ≤ R.slots) (hdg : decode cc pc = .ok (.newarray .long, 2))
    (kk : ∀ (q : Nat) (H1 : Heap), va_P g.1 vwCl (wd ++ [(q, .inl (g.2.2.1, N, .inr (.inl (fun _ => 0))))]) H1 → va_D A (wd ++ [(q, .inl (g.2.2.1, N, .inr (.inl (fun _ => 0))))]) → va_S A H0 H1 locs →
      W p l e R s m args below meth c H1 locs (cells + 1) (slots + N) Q (F0 m (pc + 2) ls (.ref q :: rest))) : W p l e R s m args below meth c H locs cells slots Q (F0 m pc ls (.int n0 :: rest)) := by
  refine va_newa (atype := .long) hexec hb harr (ty := .long) rfl hK hP hD hS hA (N' := N) (a0 := (N, .inr (.inl (fun _ => 0)))) (fun cA => rfl) hn hN hbytes hcells hslots hdg (fun q cA H1 hK1 hP1 hD1 hS1 => ?_)
  have e1 := va_nm_long (hK1.2 2 (cA, .long) rfl).2
  have e2 := va_nm_long (hK.2 1 (g.2.2.1, .long) rfl).2
  have e : cA = g.2.2.1 := Option.some.inj (e1.symm.trans e2)
  subst e
  exact kk q H1 hP1 hD1 hS1
end CTOR

abbrev rm_X0_init : Room := { frames := 1, cells := 1, slots := 50, locals := 12 }
set_option maxHeartbeats 4000000 in
set_option maxRecDepth 100000 in
theorem c_X0_init (l : Launch) (g : GG) (d : Nat) : Cn l yX0_init wsX0_init rm_X0_init g [.ref d] [(d, .inr (0, [.null, .int 0, .int 0]))] 1 50 (fun w => ∃ v, w = DW g d v (fun _ => 0) (nI 0) (nI 3)) := by
  refine Cn.of (cc := cX0_init) (maxL := 1) (by decide) rfl rfl (Nat.le_of_ble_eq_true rfl) ?_
  intro p e s m args below meth c A Z hx hb hml hts hown hK hA hin hret H locs ls hP hD hS hl
  have hl : lv_has ls 1 [(0, .ref d)] := hl
  have hi_0 : ∀ w ∈ wsX00, w ∈ wsX0_init := by decide +kernel
  refine lv_aload_n hx hb dX0_init_0 rfl (lv_at hl 0 rfl) ?_
  refine W.objInit hx hb hown (hts (.methodLink RX0 3 objectInit) (by decide +kernel)) (hts (.instanceMethod objectInit) (by decide +kernel)) (hts _ (List.mem_cons_of_mem _ (List.mem_append_left _ (List.mem_of_getElem? (i := 2) rfl)))) rfl (by rw [hml]; exact hl.1) rfl dX0_init_1 (Nat.le_of_ble_eq_true rfl) (Nat.le_of_ble_eq_true rfl) ?_
  refine W.eq (g2 := F0 m 4 ls []) rfl ?_
  refine lv_aload_n hx hb dX0_init_4 rfl (lv_at hl 0 rfl) ?_
  refine lv_bipush (v := nI 50) hx hb dX0_init_5 (by decide +kernel) ?_
  refine na_j (N := 50) hx hb (hts (.arrayClass .long) (by decide +kernel)) hK hP hD hS hA (nI_pos (n := 50) (by omega)) (nI_clamp (n := 50) (by omega)) (Nat.le_of_ble_eq_true rfl) (Nat.le_of_ble_eq_true rfl) (Nat.le_of_ble_eq_true rfl) dX0_init_7 (fun q7 H hP hD hS => ?_)
  have hP : va_P g.1 vwCl [(d, .inr (0, [.null, .int 0, .int 0])), (q7, .inl (g.2.2.1, 50, .inr (.inl (fun _ => 0))))] H := hP
  have hD : va_D A [(d, .inr (0, [.null, .int 0, .int 0])), (q7, .inl (g.2.2.1, 50, .inr (.inl (fun _ => 0))))] := hD
  refine va_putF (D := g.1) (ci := 0) (v := .ref q7) (ty := .array .long) (C := RX0) (T := TX0) (N := 3) hx hb hts hi_0 tyX0 tyX0_ok nmX0 hown hK hP hD hS 0 rfl rfl 0 (by decide) (hts (.fieldLink RX0 9 "GhostGame$Dictionary" "words" "[J") (by decide +kernel)) (fun _ h9 => h9) rfl hin rfl (by decide +kernel) rfl rfl (Nat.le_of_ble_eq_true rfl) dX0_init_9 (fun H locs hP hD hS => ?_)
  have hP : va_P g.1 vwCl [(d, .inr (0, [.ref q7, .int 0, .int 0])), (q7, .inl (g.2.2.1, 50, .inr (.inl (fun _ => 0))))] H := hP
  have hD : va_D A [(d, .inr (0, [.ref q7, .int 0, .int 0])), (q7, .inl (g.2.2.1, 50, .inr (.inl (fun _ => 0))))] := hD
  refine lv_aload_n hx hb dX0_init_12 rfl (lv_at hl 0 rfl) ?_
  refine lv_iconst (v := nI 0) hx hb dX0_init_13 (by decide +kernel) ?_
  refine va_put (D := g.1) (ci := 0) (v := .int (nI 0)) (ty := .int) (C := RX0) (T := TX0) (N := 3) hx hb hts hi_0 tyX0 tyX0_ok nmX0 hown hK hP hD hS 0 rfl rfl 1 (by decide) (hts (.fieldLink RX0 15 "GhostGame$Dictionary" "count" "I") (by decide +kernel)) (fun _ h9 => h9) rfl (by decide +kernel) rfl rfl (Nat.le_of_ble_eq_true rfl) dX0_init_14 (fun H locs hP hD hS => ?_)
  have hP : va_P g.1 vwCl [(d, .inr (0, [.ref q7, .int (nI 0), .int 0])), (q7, .inl (g.2.2.1, 50, .inr (.inl (fun _ => 0))))] H := hP
  have hD : va_D A [(d, .inr (0, [.ref q7, .int (nI 0), .int 0])), (q7, .inl (g.2.2.1, 50, .inr (.inl (fun _ => 0))))] := hD
  refine lv_aload_n hx hb dX0_init_17 rfl (lv_at hl 0 rfl) ?_
  refine lv_iconst (v := nI 3) hx hb dX0_init_18 (by decide +kernel) ?_
  refine va_put (D := g.1) (ci := 0) (v := .int (nI 3)) (ty := .int) (C := RX0) (T := TX0) (N := 3) hx hb hts hi_0 tyX0 tyX0_ok nmX0 hown hK hP hD hS 0 rfl rfl 2 (by decide) (hts (.fieldLink RX0 19 "GhostGame$Dictionary" "leastLength" "I") (by decide +kernel)) (fun _ h9 => h9) rfl (by decide +kernel) rfl rfl (Nat.le_of_ble_eq_true rfl) dX0_init_19 (fun H locs hP hD hS => ?_)
  have hP : va_P g.1 vwCl [(d, .inr (0, [.ref q7, .int (nI 0), .int (nI 3)])), (q7, .inl (g.2.2.1, 50, .inr (.inl (fun _ => 0))))] H := hP
  have hD : va_D A [(d, .inr (0, [.ref q7, .int (nI 0), .int (nI 3)])), (q7, .inl (g.2.2.1, 50, .inr (.inl (fun _ => 0))))] := hD
  exact hret [(d, .inr (0, [.ref q7, .int (nI 0), .int (nI 3)])), (q7, .inl (g.2.2.1, 50, .inr (.inl (fun _ => 0))))] _ _ _ _ dX0_init_22 (⟨q7, rfl⟩) hP hD hS
abbrev rm_X1_init : Room := { frames := 1, cells := 1, slots := 4, locals := 12 }
set_option maxHeartbeats 4000000 in
set_option maxRecDepth 100000 in
theorem c_X1_init (l : Launch) (g : GG) (q : Nat) : Cn l yX1_init wsX1_init rm_X1_init g [.ref q] [(q, .inr (1, [.null, .int 0, .int 0, .int 0, .int 0, .long 0]))] 1 4 (fun w => ∃ u, w = QW g q u (fun _ => 0) (nI 0) (-1) (-1) (-1) (lN 0)) := by
  refine Cn.of (cc := cX1_init) (maxL := 1) (by decide) rfl rfl (Nat.le_of_ble_eq_true rfl) ?_
  intro p e s m args below meth c A Z hx hb hml hts hown hK hA hin hret H locs ls hP hD hS hl
  have hl : lv_has ls 1 [(0, .ref q)] := hl
  have hi_1 : ∀ w ∈ wsX10, w ∈ wsX1_init := by decide +kernel
  refine lv_aload_n hx hb dX1_init_0 rfl (lv_at hl 0 rfl) ?_
  refine W.objInit hx hb hown (hts (.methodLink RX1 3 objectInit) (by decide +kernel)) (hts (.instanceMethod objectInit) (by decide +kernel)) (hts _ (List.mem_cons_of_mem _ (List.mem_append_left _ (List.mem_of_getElem? (i := 2) rfl)))) rfl (by rw [hml]; exact hl.1) rfl dX1_init_1 (Nat.le_of_ble_eq_true rfl) (Nat.le_of_ble_eq_true rfl) ?_
  refine W.eq (g2 := F0 m 4 ls []) rfl ?_
  refine lv_aload_n hx hb dX1_init_4 rfl (lv_at hl 0 rfl) ?_
  refine lv_iconst (v := nI 4) hx hb dX1_init_5 (by decide +kernel) ?_
  refine na_i (N := 4) hx hb (hts (.arrayClass .int) (by decide +kernel)) hK hP hD hS hA (nI_pos (n := 4) (by omega)) (nI_clamp (n := 4) (by omega)) (Nat.le_of_ble_eq_true rfl) (Nat.le_of_ble_eq_true rfl) (Nat.le_of_ble_eq_true rfl) dX1_init_6 (fun q6 H hP hD hS => ?_)
  have hP : va_P g.1 vwCl [(q, .inr (1, [.null, .int 0, .int 0, .int 0, .int 0, .long 0])), (q6, .inl (g.2.1, 4, .inl (fun _ => 0)))] H := hP
  have hD : va_D A [(q, .inr (1, [.null, .int 0, .int 0, .int 0, .int 0, .long 0])), (q6, .inl (g.2.1, 4, .inl (fun _ => 0)))] := hD
  refine va_putF (D := g.1) (ci := 1) (v := .ref q6) (ty := .array .int) (C := RX1) (T := TX1) (N := 6) hx hb hts hi_1 tyX1 tyX1_ok nmX1 hown hK hP hD hS 0 rfl rfl 0 (by decide) (hts (.fieldLink RX1 9 "GhostGame$Game" "strikes" "[I") (by decide +kernel)) (fun _ h9 => h9) rfl hin rfl (by decide +kernel) rfl rfl (Nat.le_of_ble_eq_true rfl) dX1_init_8 (fun H locs hP hD hS => ?_)
  have hP : va_P g.1 vwCl [(q, .inr (1, [.ref q6, .int 0, .int 0, .int 0, .int 0, .long 0])), (q6, .inl (g.2.1, 4, .inl (fun _ => 0)))] H := hP
  have hD : va_D A [(q, .inr (1, [.ref q6, .int 0, .int 0, .int 0, .int 0, .long 0])), (q6, .inl (g.2.1, 4, .inl (fun _ => 0)))] := hD
  refine lv_aload_n hx hb dX1_init_11 rfl (lv_at hl 0 rfl) ?_
  refine lv_iconst (v := nI 0) hx hb dX1_init_12 (by decide +kernel) ?_
  refine va_put (D := g.1) (ci := 1) (v := .int (nI 0)) (ty := .int) (C := RX1) (T := TX1) (N := 6) hx hb hts hi_1 tyX1 tyX1_ok nmX1 hown hK hP hD hS 0 rfl rfl 1 (by decide) (hts (.fieldLink RX1 15 "GhostGame$Game" "playerCount" "I") (by decide +kernel)) (fun _ h9 => h9) rfl (by decide +kernel) rfl rfl (Nat.le_of_ble_eq_true rfl) dX1_init_13 (fun H locs hP hD hS => ?_)
  have hP : va_P g.1 vwCl [(q, .inr (1, [.ref q6, .int (nI 0), .int 0, .int 0, .int 0, .long 0])), (q6, .inl (g.2.1, 4, .inl (fun _ => 0)))] H := hP
  have hD : va_D A [(q, .inr (1, [.ref q6, .int (nI 0), .int 0, .int 0, .int 0, .long 0])), (q6, .inl (g.2.1, 4, .inl (fun _ => 0)))] := hD
  refine lv_aload_n hx hb dX1_init_16 rfl (lv_at hl 0 rfl) ?_
  refine lv_iconst (v := -1) hx hb dX1_init_17 (by decide +kernel) ?_
  refine va_put (D := g.1) (ci := 1) (v := .int (-1)) (ty := .int) (C := RX1) (T := TX1) (N := 6) hx hb hts hi_1 tyX1 tyX1_ok nmX1 hown hK hP hD hS 0 rfl rfl 2 (by decide) (hts (.fieldLink RX1 19 "GhostGame$Game" "mover" "I") (by decide +kernel)) (fun _ h9 => h9) rfl (by decide +kernel) rfl rfl (Nat.le_of_ble_eq_true rfl) dX1_init_18 (fun H locs hP hD hS => ?_)
  have hP : va_P g.1 vwCl [(q, .inr (1, [.ref q6, .int (nI 0), .int (-1), .int 0, .int 0, .long 0])), (q6, .inl (g.2.1, 4, .inl (fun _ => 0)))] H := hP
  have hD : va_D A [(q, .inr (1, [.ref q6, .int (nI 0), .int (-1), .int 0, .int 0, .long 0])), (q6, .inl (g.2.1, 4, .inl (fun _ => 0)))] := hD
  refine lv_aload_n hx hb dX1_init_21 rfl (lv_at hl 0 rfl) ?_
  refine lv_iconst (v := -1) hx hb dX1_init_22 (by decide +kernel) ?_
  refine va_put (D := g.1) (ci := 1) (v := .int (-1)) (ty := .int) (C := RX1) (T := TX1) (N := 6) hx hb hts hi_1 tyX1 tyX1_ok nmX1 hown hK hP hD hS 0 rfl rfl 3 (by decide) (hts (.fieldLink RX1 22 "GhostGame$Game" "lastMover" "I") (by decide +kernel)) (fun _ h9 => h9) rfl (by decide +kernel) rfl rfl (Nat.le_of_ble_eq_true rfl) dX1_init_23 (fun H locs hP hD hS => ?_)
  have hP : va_P g.1 vwCl [(q, .inr (1, [.ref q6, .int (nI 0), .int (-1), .int (-1), .int 0, .long 0])), (q6, .inl (g.2.1, 4, .inl (fun _ => 0)))] H := hP
  have hD : va_D A [(q, .inr (1, [.ref q6, .int (nI 0), .int (-1), .int (-1), .int 0, .long 0])), (q6, .inl (g.2.1, 4, .inl (fun _ => 0)))] := hD
  refine lv_aload_n hx hb dX1_init_26 rfl (lv_at hl 0 rfl) ?_
  refine lv_iconst (v := -1) hx hb dX1_init_27 (by decide +kernel) ?_
  refine va_put (D := g.1) (ci := 1) (v := .int (-1)) (ty := .int) (C := RX1) (T := TX1) (N := 6) hx hb hts hi_1 tyX1 tyX1_ok nmX1 hown hK hP hD hS 0 rfl rfl 4 (by decide) (hts (.fieldLink RX1 25 "GhostGame$Game" "champion" "I") (by decide +kernel)) (fun _ h9 => h9) rfl (by decide +kernel) rfl rfl (Nat.le_of_ble_eq_true rfl) dX1_init_28 (fun H locs hP hD hS => ?_)
  have hP : va_P g.1 vwCl [(q, .inr (1, [.ref q6, .int (nI 0), .int (-1), .int (-1), .int (-1), .long 0])), (q6, .inl (g.2.1, 4, .inl (fun _ => 0)))] H := hP
  have hD : va_D A [(q, .inr (1, [.ref q6, .int (nI 0), .int (-1), .int (-1), .int (-1), .long 0])), (q6, .inl (g.2.1, 4, .inl (fun _ => 0)))] := hD
  refine lv_aload_n hx hb dX1_init_31 rfl (lv_at hl 0 rfl) ?_
  refine lv_lconst (v := lN 0) hx hb dX1_init_32 (by decide +kernel) ?_
  refine va_put (D := g.1) (ci := 1) (v := .long (lN 0)) (ty := .long) (C := RX1) (T := TX1) (N := 6) hx hb hts hi_1 tyX1 tyX1_ok nmX1 hown hK hP hD hS 0 rfl rfl 5 (by decide) (hts (.fieldLink RX1 30 "GhostGame$Game" "fragment" "J") (by decide +kernel)) (fun _ h9 => h9) rfl (by decide +kernel) rfl rfl (Nat.le_of_ble_eq_true rfl) dX1_init_33 (fun H locs hP hD hS => ?_)
  have hP : va_P g.1 vwCl [(q, .inr (1, [.ref q6, .int (nI 0), .int (-1), .int (-1), .int (-1), .long (lN 0)])), (q6, .inl (g.2.1, 4, .inl (fun _ => 0)))] H := hP
  have hD : va_D A [(q, .inr (1, [.ref q6, .int (nI 0), .int (-1), .int (-1), .int (-1), .long (lN 0)])), (q6, .inl (g.2.1, 4, .inl (fun _ => 0)))] := hD
  exact hret [(q, .inr (1, [.ref q6, .int (nI 0), .int (-1), .int (-1), .int (-1), .long (lN 0)])), (q6, .inl (g.2.1, 4, .inl (fun _ => 0)))] _ _ _ _ dX1_init_36 (⟨q6, rfl⟩) hP hD hS
abbrev rm_X4_init : Room := { frames := 2, cells := 4, slots := 63, locals := 32 }
set_option maxHeartbeats 4000000 in
set_option maxRecDepth 100000 in
theorem c_X4_init (l : Launch) (g : GG) (x : Nat) : Cn l yX4_init wsX4_init rm_X4_init g [.ref x] [(x, .inr (2, [.null, .null, .long 0]))] 4 63 (fun w => ∃ q u d v : Nat, w = [(x, .inr (2, [.ref d, .ref q, .long (lN 0)])), (d, .inr (0, [.ref v, .int (nI 0), .int (nI 3)])), (v, .inl (g.2.2.1, 50, .inr (.inl (fun _ => 0)))), (q, .inr (1, [.ref u, .int (nI 0), .int (-1), .int (-1), .int (-1), .long (lN 0)])), (u, .inl (g.2.1, 4, .inl (fun _ => 0)))]) := by
  refine Cn.of (cc := cX4_init) (maxL := 1) (by decide) rfl rfl (Nat.le_of_ble_eq_true rfl) ?_
  intro p e s m args below meth c A Z hx hb hml hts hown hK hA hin hret H locs ls hP hD hS hl
  have hl : lv_has ls 1 [(0, .ref x)] := hl
  have hi_2 : ∀ w ∈ wsX40, w ∈ wsX4_init := by decide +kernel
  refine lv_aload_n hx hb dX4_init_0 rfl (lv_at hl 0 rfl) ?_
  refine W.objInit hx hb hown (hts (.methodLink RX4 1 objectInit) (by decide +kernel)) (hts (.instanceMethod objectInit) (by decide +kernel)) (hts _ (List.mem_cons_of_mem _ (List.mem_append_left _ (List.mem_append_left _ (List.mem_append_left _ (List.mem_append_left _ (List.mem_of_getElem? (i := 2) rfl))))))) rfl (by rw [hml]; exact hl.1) rfl dX4_init_1 (Nat.le_of_ble_eq_true rfl) (Nat.le_of_ble_eq_true rfl) ?_
  refine W.eq (g2 := F0 m 4 ls []) rfl ?_
  refine lv_aload_n hx hb dX4_init_4 rfl (lv_at hl 0 rfl) ?_
  have hi_0 : ∀ w ∈ wsX00, w ∈ wsX4_init := by decide +kernel
  refine va_new (ci := 0) (fs := [.null, .int 0, .int 0]) (C := RX0) (T := TX0) (N := 3) hx hb hts hi_0 tyX0 tyX0_ok hown (hts (.classLink RX4 7 RX0) (by decide +kernel)) (hts (.instantiable RX0 3) (by decide +kernel)) (hts (.initialized RX0) (by decide +kernel)) hK hP hD hS hA rfl (fun j hj => by rcases (show j = 0 ∨ j = 1 ∨ j = 2 by omega) with rfl | rfl | rfl <;> rfl) (Nat.le_of_ble_eq_true rfl) (Nat.le_of_ble_eq_true rfl) dX4_init_5 (fun q5 H hP hD hS => ?_)
  have hP : va_P g.1 vwCl [(x, .inr (2, [.null, .null, .long 0])), (q5, .inr (0, [.null, .int 0, .int 0]))] H := hP
  have hD : va_D A [(x, .inr (2, [.null, .null, .long 0])), (q5, .inr (0, [.null, .int 0, .int 0]))] := hD
  refine lv_dup hx hb dX4_init_8 rfl ?_
  refine call_nI (As := []) (rest := [.ref q5, .ref x]) (wr := [(x, .inr (2, [.null, .null, .long 0]))]) ⟨hx, hb, hml, hown, hts⟩ (c_X0_init l g q5) (cwI 0 hts gX4_init_X0_init rfl rfl rfl (hts (.initialized RX0) (by decide +kernel)) (hts (.methodLink RX4 9 yX0_init) (by decide +kernel)) (hts (.instanceMethod yX0_init) (by decide +kernel)) rfl (by decide +kernel) ⟨Nat.le_of_ble_eq_true rfl, Nat.le_of_ble_eq_true rfl⟩) hP hK hD hS hA [1] [0] rfl rfl (by decide) (by decide) (by decide) rfl hl.1 rfl (Nat.le_of_ble_eq_true rfl) dX4_init_9 ⟨Nat.le_of_ble_eq_true rfl, Nat.le_of_ble_eq_true rfl⟩ (fun w H locs hw hP hD hS => ?_)
  obtain ⟨v9, rfl⟩ := hw
  have hP : va_P g.1 vwCl [(x, .inr (2, [.null, .null, .long 0])), (q5, .inr (0, [.ref v9, .int (nI 0), .int (nI 3)])), (v9, .inl (g.2.2.1, 50, .inr (.inl (fun _ => 0))))] H := hP
  have hD : va_D A [(x, .inr (2, [.null, .null, .long 0])), (q5, .inr (0, [.ref v9, .int (nI 0), .int (nI 3)])), (v9, .inl (g.2.2.1, 50, .inr (.inl (fun _ => 0))))] := hD
  refine va_putF (D := g.1) (ci := 2) (v := .ref q5) (ty := .object "GhostGame$Dictionary") (C := RX4) (T := TX4) (N := 3) hx hb hts hi_2 tyX4 tyX4_ok nmX4 hown hK hP hD hS 0 rfl rfl 0 (by decide) (hts (.fieldLink RX4 10 "GhostGame" "dictionary" "LGhostGame$Dictionary;") (by decide +kernel)) (fun _ h9 => h9) rfl hin rfl (by decide +kernel) rfl rfl (Nat.le_of_ble_eq_true rfl) dX4_init_12 (fun H locs hP hD hS => ?_)
  have hP : va_P g.1 vwCl [(x, .inr (2, [.ref q5, .null, .long 0])), (q5, .inr (0, [.ref v9, .int (nI 0), .int (nI 3)])), (v9, .inl (g.2.2.1, 50, .inr (.inl (fun _ => 0))))] H := hP
  have hD : va_D A [(x, .inr (2, [.ref q5, .null, .long 0])), (q5, .inr (0, [.ref v9, .int (nI 0), .int (nI 3)])), (v9, .inl (g.2.2.1, 50, .inr (.inl (fun _ => 0))))] := hD
  refine lv_aload_n hx hb dX4_init_15 rfl (lv_at hl 0 rfl) ?_
  have hi_1 : ∀ w ∈ wsX10, w ∈ wsX4_init := by decide +kernel
  refine va_new (ci := 1) (fs := [.null, .int 0, .int 0, .int 0, .int 0, .long 0]) (C := RX1) (T := TX1) (N := 6) hx hb hts hi_1 tyX1 tyX1_ok hown (hts (.classLink RX4 16 RX1) (by decide +kernel)) (hts (.instantiable RX1 6) (by decide +kernel)) (hts (.initialized RX1) (by decide +kernel)) hK hP hD hS hA rfl (fun j hj => by rcases (show j = 0 ∨ j = 1 ∨ j = 2 ∨ j = 3 ∨ j = 4 ∨ j = 5 by omega) with rfl | rfl | rfl | rfl | rfl | rfl <;> rfl) (Nat.le_of_ble_eq_true rfl) (Nat.le_of_ble_eq_true rfl) dX4_init_16 (fun q16 H hP hD hS => ?_)
  have hP : va_P g.1 vwCl [(x, .inr (2, [.ref q5, .null, .long 0])), (q5, .inr (0, [.ref v9, .int (nI 0), .int (nI 3)])), (v9, .inl (g.2.2.1, 50, .inr (.inl (fun _ => 0)))), (q16, .inr (1, [.null, .int 0, .int 0, .int 0, .int 0, .long 0]))] H := hP
  have hD : va_D A [(x, .inr (2, [.ref q5, .null, .long 0])), (q5, .inr (0, [.ref v9, .int (nI 0), .int (nI 3)])), (v9, .inl (g.2.2.1, 50, .inr (.inl (fun _ => 0)))), (q16, .inr (1, [.null, .int 0, .int 0, .int 0, .int 0, .long 0]))] := hD
  refine lv_dup hx hb dX4_init_19 rfl ?_
  refine call_nI (As := []) (rest := [.ref q16, .ref x]) (wr := [(x, .inr (2, [.ref q5, .null, .long 0])), (q5, .inr (0, [.ref v9, .int (nI 0), .int (nI 3)])), (v9, .inl (g.2.2.1, 50, .inr (.inl (fun _ => 0))))]) ⟨hx, hb, hml, hown, hts⟩ (c_X1_init l g q16) (cwI 0 hts gX4_init_X1_init rfl rfl rfl (hts (.initialized RX1) (by decide +kernel)) (hts (.methodLink RX4 18 yX1_init) (by decide +kernel)) (hts (.instanceMethod yX1_init) (by decide +kernel)) rfl (by decide +kernel) ⟨Nat.le_of_ble_eq_true rfl, Nat.le_of_ble_eq_true rfl⟩) hP hK hD hS hA [3] [0, 1, 2] rfl rfl (by decide) (by decide) (by decide) rfl hl.1 rfl (Nat.le_of_ble_eq_true rfl) dX4_init_20 ⟨Nat.le_of_ble_eq_true rfl, Nat.le_of_ble_eq_true rfl⟩ (fun w H locs hw hP hD hS => ?_)
  obtain ⟨v20, rfl⟩ := hw
  have hP : va_P g.1 vwCl [(x, .inr (2, [.ref q5, .null, .long 0])), (q5, .inr (0, [.ref v9, .int (nI 0), .int (nI 3)])), (v9, .inl (g.2.2.1, 50, .inr (.inl (fun _ => 0)))), (q16, .inr (1, [.ref v20, .int (nI 0), .int (-1), .int (-1), .int (-1), .long (lN 0)])), (v20, .inl (g.2.1, 4, .inl (fun _ => 0)))] H := hP
  have hD : va_D A [(x, .inr (2, [.ref q5, .null, .long 0])), (q5, .inr (0, [.ref v9, .int (nI 0), .int (nI 3)])), (v9, .inl (g.2.2.1, 50, .inr (.inl (fun _ => 0)))), (q16, .inr (1, [.ref v20, .int (nI 0), .int (-1), .int (-1), .int (-1), .long (lN 0)])), (v20, .inl (g.2.1, 4, .inl (fun _ => 0)))] := hD
  refine va_putF (D := g.1) (ci := 2) (v := .ref q16) (ty := .object "GhostGame$Game") (C := RX4) (T := TX4) (N := 3) hx hb hts hi_2 tyX4 tyX4_ok nmX4 hown hK hP hD hS 0 rfl rfl 1 (by decide) (hts (.fieldLink RX4 19 "GhostGame" "game" "LGhostGame$Game;") (by decide +kernel)) (fun _ h9 => h9) rfl hin rfl (by decide +kernel) rfl rfl (Nat.le_of_ble_eq_true rfl) dX4_init_23 (fun H locs hP hD hS => ?_)
  have hP : va_P g.1 vwCl [(x, .inr (2, [.ref q5, .ref q16, .long 0])), (q5, .inr (0, [.ref v9, .int (nI 0), .int (nI 3)])), (v9, .inl (g.2.2.1, 50, .inr (.inl (fun _ => 0)))), (q16, .inr (1, [.ref v20, .int (nI 0), .int (-1), .int (-1), .int (-1), .long (lN 0)])), (v20, .inl (g.2.1, 4, .inl (fun _ => 0)))] H := hP
  have hD : va_D A [(x, .inr (2, [.ref q5, .ref q16, .long 0])), (q5, .inr (0, [.ref v9, .int (nI 0), .int (nI 3)])), (v9, .inl (g.2.2.1, 50, .inr (.inl (fun _ => 0)))), (q16, .inr (1, [.ref v20, .int (nI 0), .int (-1), .int (-1), .int (-1), .long (lN 0)])), (v20, .inl (g.2.1, 4, .inl (fun _ => 0)))] := hD
  refine lv_aload_n hx hb dX4_init_26 rfl (lv_at hl 0 rfl) ?_
  refine lv_lconst (v := lN 0) hx hb dX4_init_27 (by decide +kernel) ?_
  refine va_put (D := g.1) (ci := 2) (v := .long (lN 0)) (ty := .long) (C := RX4) (T := TX4) (N := 3) hx hb hts hi_2 tyX4 tyX4_ok nmX4 hown hK hP hD hS 0 rfl rfl 2 (by decide) (hts (.fieldLink RX4 25 "GhostGame" "slip" "J") (by decide +kernel)) (fun _ h9 => h9) rfl (by decide +kernel) rfl rfl (Nat.le_of_ble_eq_true rfl) dX4_init_28 (fun H locs hP hD hS => ?_)
  have hP : va_P g.1 vwCl [(x, .inr (2, [.ref q5, .ref q16, .long (lN 0)])), (q5, .inr (0, [.ref v9, .int (nI 0), .int (nI 3)])), (v9, .inl (g.2.2.1, 50, .inr (.inl (fun _ => 0)))), (q16, .inr (1, [.ref v20, .int (nI 0), .int (-1), .int (-1), .int (-1), .long (lN 0)])), (v20, .inl (g.2.1, 4, .inl (fun _ => 0)))] H := hP
  have hD : va_D A [(x, .inr (2, [.ref q5, .ref q16, .long (lN 0)])), (q5, .inr (0, [.ref v9, .int (nI 0), .int (nI 3)])), (v9, .inl (g.2.2.1, 50, .inr (.inl (fun _ => 0)))), (q16, .inr (1, [.ref v20, .int (nI 0), .int (-1), .int (-1), .int (-1), .long (lN 0)])), (v20, .inl (g.2.1, 4, .inl (fun _ => 0)))] := hD
  exact hret [(x, .inr (2, [.ref q5, .ref q16, .long (lN 0)])), (q5, .inr (0, [.ref v9, .int (nI 0), .int (nI 3)])), (v9, .inl (g.2.2.1, 50, .inr (.inl (fun _ => 0)))), (q16, .inr (1, [.ref v20, .int (nI 0), .int (-1), .int (-1), .int (-1), .long (lN 0)])), (v20, .inl (g.2.1, 4, .inl (fun _ => 0)))] _ _ _ _ dX4_init_31 (⟨q16, v20, q5, v9, rfl⟩) hP hD hS
end
section
/-! letters moved on by the same number -/
theorem rv_ext {P Q : Nat} (h : RV P) (h' : RV Q) (e : rwL P = rwL Q) (ha : ∀ i, i < rwL P → rwA P i = rwA Q i) : P = Q := by
  have q := RV.ext h h' (m := rwL P) (Nat.le_refl _) (by omega) ha
  rw [rb_all] at q
  rw [q, e, rb_all]
/-- Q is P with each letter moved on by m; P's letters are below 4 -/
def SR (m P Q : Nat) : Prop := RV P ∧ RV Q ∧ rwL Q = rwL P ∧ ∀ i, i < rwL P → rwA P i < 4 ∧ rwA Q i = rwA P i + m
theorem SR.zero (m : Nat) : SR m 0 0 := ⟨RV.zero, RV.zero, rfl, fun i hi => absurd hi (by simp [rwL])⟩
theorem SR.rx {m P Q a : Nat} (h : SR m P Q) (hl : rwL P < 10) (ha : a < 4) (hm : m ≤ 21) : SR m (rwX P a) (rwX Q (a + m)) := by
  obtain ⟨h1, h2, h3, h4⟩ := h
  have hl2 : rwL Q < 10 := by omega
  refine ⟨h1.rx hl (by omega), h2.rx hl2 (by omega), by rw [h1.rxl hl (by omega), h2.rxl hl2 (by omega), h3], fun i hi => ?_⟩
  rw [h1.rxl hl (by omega)] at hi
  by_cases e : i = rwL P
  · rw [e, h1.rxa hl (by omega), ← h3, h2.rxa hl2 (by omega)]
    exact ⟨ha, rfl⟩
  · rw [h1.rxi hl (by omega) (by omega), h2.rxi hl2 (by omega) (by omega)]
    exact h4 i (by omega)
theorem SR.rb {m P Q k : Nat} (h : SR m P Q) (hk : k ≤ rwL P) : SR m (rwB P k) (rwB Q k) := by
  obtain ⟨h1, h2, h3, h4⟩ := h
  have hk2 : k ≤ rwL Q := by omega
  refine ⟨h1.rb hk, h2.rb hk2, by rw [h1.rbl hk, h2.rbl hk2], fun i hi => ?_⟩
  rw [h1.rbl hk] at hi
  rw [h1.rbra hk hi, h2.rbra hk2 hi]
  exact h4 i (by omega)
theorem SR.rbe {m P Q P' Q' k : Nat} (h : SR m P Q) (h' : SR m P' Q') (hk : k ≤ rwL P) (hk' : k ≤ rwL P') : rwB P k = rwB P' k ↔ rwB Q k = rwB Q' k := by
  obtain ⟨h1, h2, h3, h4⟩ := h
  obtain ⟨g1, g2, g3, g4⟩ := h'
  constructor
  · intro e
    refine RV.ext h2 g2 (by omega) (by omega) (fun i hi => ?_)
    rw [(h4 i (by omega)).2, (g4 i (by omega)).2, RV.ext_a h1 g1 hk hk' e hi]
  · intro e
    refine RV.ext h1 g1 hk hk' (fun i hi => ?_)
    have a := RV.ext_a h2 g2 (by omega) (by omega) e hi
    rw [(h4 i (by omega)).2, (g4 i (by omega)).2] at a
    omega
theorem SR.eqi {m P Q P' Q' : Nat} (h : SR m P Q) (h' : SR m P' Q') : P = P' ↔ Q = Q' := by
  have hl := h.2.2.1
  have hl' := h'.2.2.1
  constructor
  · intro e
    subst e
    have q := (h.rbe h' (Nat.le_refl _) (Nat.le_refl _)).mp rfl
    rw [← hl, rb_all, hl, ← hl', rb_all] at q
    exact q
  · intro e
    subst e
    have q := (h.rbe h' (k := rwL Q) (by omega) (by omega)).mpr rfl
    rw [hl, rb_all, ← hl, hl', rb_all] at q
    exact q
theorem SR.bg {m P Q P' Q' : Nat} (h : SR m P Q) (h' : SR m P' Q') : bgP P P' ↔ bgP Q Q' := by
  have hl := h.2.2.1
  have hl' := h'.2.2.1
  unfold bgP
  by_cases q : rwL P' ≤ rwL P
  · have e := h.rbe h' q (Nat.le_refl _)
    rw [rb_all] at e
    rw [← hl', rb_all] at e
    rw [hl'] at e
    constructor
    · rintro ⟨a, b⟩
      exact ⟨by omega, by rw [hl']; exact e.mp b⟩
    · rintro ⟨a, b⟩
      rw [hl'] at b
      exact ⟨q, e.mpr b⟩
  · constructor
    · rintro ⟨a, b⟩; exact absurd a q
    · rintro ⟨a, b⟩; exact absurd (show rwL P' ≤ rwL P by omega) q
def rpN : Nat → Nat
  | 0 => 0
  | k + 1 => rpN k * 32 + 1
theorem SR.code {m P Q : Nat} (h : SR m P Q) (hm : m ≤ 21) : ∀ k, k ≤ rwL P → rwC (rwB Q k) = rwC (rwB P k) + m * rpN k
  | 0, _ => by
    rw [h.2.1.rb0, h.1.rb0]
    show _ = _ + m * 0
    rw [Nat.mul_zero, Nat.add_zero]
  | k + 1, hk => by
    have ih := SR.code h hm k (by omega)
    obtain ⟨h1, h2, h3, h4⟩ := h
    have a1 := h1.rbs (m := k) (by omega)
    have a2 := h2.rbs (m := k) (by omega)
    have l1 := h1.1
    have b1 := h1.rb (m := k) (by omega)
    have b2 := h2.rb (m := k) (by omega)
    have c1 := h1.rbl (m := k) (by omega)
    have c2 := h2.rbl (m := k) (by omega)
    have d := h4 k (by omega)
    rw [a1, a2, b1.rxc (by omega) (by omega), b2.rxc (by omega) (by omega), ih, d.2]
    show _ = _ + m * (rpN k * 32 + 1)
    rw [Nat.mul_add, Nat.mul_one, ← Nat.mul_assoc]
    omega
theorem SR.lt {m P Q P' Q' : Nat} (h : SR m P Q) (h' : SR m P' Q') (hm : m ≤ 21) : P < P' ↔ Q < Q' := by
  have a := h.code hm (rwL P) (Nat.le_refl _)
  have b := h'.code hm (rwL P') (Nat.le_refl _)
  have hl := h.2.2.1
  have hl' := h'.2.2.1
  rw [rb_all] at a b
  rw [← hl, rb_all] at a
  rw [← hl', rb_all] at b
  have e1 := rk_e P
  have e2 := rk_e P'
  have e3 := rk_e Q
  have e4 := rk_e Q'
  have c1 := rc_lt P
  have c2 := rc_lt P'
  have c3 := rc_lt Q
  have c4 := rc_lt Q'
  unfold rwK at e1 e2 e3 e4
  rw [hl] at e3 a
  rw [hl'] at e4 b
  by_cases q : rwL P = rwL P'
  · rw [q] at a e1 e3
    generalize m * rpN (rwL P') = z at a b
    omega
  · generalize m * rpN (rwL P') = z at b
    generalize m * rpN (rwL P) = y at a
    omega
theorem SR.le {m P Q P' Q' : Nat} (h : SR m P Q) (h' : SR m P' Q') (hm : m ≤ 21) : P ≤ P' ↔ Q ≤ Q' := by
  have := h'.lt h hm
  omega
/-- word by word -/
def WS (m : Nat) (S T : Nat → Nat) (cnt : Nat) : Prop := ∀ i, i < cnt → SR m (S i) (T i)
theorem WS.ins {m : Nat} {S T : Nat → Nat} {cnt P Q : Nat} (h : WS m S T cnt) (h' : SR m P Q) : inS S cnt P ↔ inS T cnt Q := by
  constructor
  · rintro ⟨i, a, b⟩
    exact ⟨i, a, ((h i a).eqi h').mp b⟩
  · rintro ⟨i, a, b⟩
    exact ⟨i, a, ((h i a).eqi h').mpr b⟩
def SI (S : Nat → Nat) (n : Nat) : Prop := ∀ i j, i < j → j < n → S i < S j
theorem InsAt.SI {S S' : Nat → Nat} {n t Q : Nat} (h : InsAt S n t Q S') (hs : SI S n) (hn : ¬ inS S n Q) : SI S' (n + 1) := by
  obtain ⟨ht, h1, h2, h3, h4, h5⟩ := h
  have hlt : ∀ i, i < t → S i < Q := fun i hi => by
    rcases h4 with q | q
    · omega
    · have a : S (t - 1) ≠ Q := fun z => hn ⟨t - 1, by omega, z⟩
      by_cases e : i = t - 1
      · rw [e]; omega
      · have := hs i (t - 1) (by omega) (by omega); omega
  intro i j hij hj
  by_cases a : j < t
  · rw [h1 i (by omega), h1 j a]; exact hs i j hij (by omega)
  · by_cases b : j = t
    · rw [b, h2, h1 i (by omega)]; exact hlt i (by omega)
    · have ej := h3 (j - 1) (by omega) (by omega)
      rw [Nat.sub_add_cancel (by omega)] at ej
      rw [ej]
      by_cases c : i < t
      · rw [h1 i c]; exact hs i (j - 1) (by omega) (by omega)
      · by_cases d : i = t
        · rw [d, h2]; exact h5 (j - 1) (by omega) (by omega)
        · have ei := h3 (i - 1) (by omega) (by omega)
          rw [Nat.sub_add_cancel (by omega)] at ei
          rw [ei]; exact hs (i - 1) (j - 1) (by omega) (by omega)
theorem RemAt.SI {S S' : Nat → Nat} {n t : Nat} (h : RemAt S n t S') (hs : SI S n) : SI S' (n - 1) := by
  obtain ⟨ht, h1, h2⟩ := h
  intro i j hij hj
  by_cases a : j < t
  · rw [h1 i (by omega), h1 j a]; exact hs i j hij (by omega)
  · rw [h2 j (by omega) (by omega)]
    by_cases b : i < t
    · rw [h1 i b]; exact hs i (j + 1) (by omega) (by omega)
    · rw [h2 i (by omega) (by omega)]; exact hs (i + 1) (j + 1) (by omega) (by omega)
theorem InsAt.by {S S' : Nat → Nat} {n t Q : Nat} (h : InsAt S n t Q S') (R : Nat → Prop) (h0 : ∀ i, i < n → R (S i)) (hQ : R Q) : ∀ i, i < n + 1 → R (S' i) := by
  obtain ⟨ht, h1, h2, h3, -, -⟩ := h
  intro i hi
  by_cases a : i < t
  · rw [h1 i a]; exact h0 i (by omega)
  · by_cases b : i = t
    · rw [b, h2]; exact hQ
    · have ei := h3 (i - 1) (by omega) (by omega)
      rw [Nat.sub_add_cancel (by omega)] at ei
      rw [ei]; exact h0 (i - 1) (by omega)
theorem RemAt.by {S S' : Nat → Nat} {n t : Nat} (h : RemAt S n t S') (R : Nat → Prop) (h0 : ∀ i, i < n → R (S i)) : ∀ i, i < n - 1 → R (S' i) := by
  obtain ⟨ht, h1, h2⟩ := h
  intro i hi
  by_cases a : i < t
  · rw [h1 i a]; exact h0 i (by omega)
  · rw [h2 i (by omega) (by omega)]; exact h0 (i + 1) (by omega)
theorem WS.add {m : Nat} {S T S' T' : Nat → Nat} {n t t' P Q : Nat} (h : WS m S T n) (h' : SR m P Q) (hm : m ≤ 21) (h1 : InsAt S n t P S') (h2 : InsAt T n t' Q T') : WS m S' T' (n + 1) := by
  obtain ⟨ht, a1, a2, a3, a4, a5⟩ := h1
  obtain ⟨ht', b1, b2, b3, b4, b5⟩ := h2
  have e : t = t' := by
    rcases Nat.lt_trichotomy t t' with q | q | q
    · rcases b4 with z | z
      · omega
      · have y := a5 (t' - 1) (by omega) (by omega)
        have x := (h'.lt (h (t' - 1) (by omega)) hm).mp y
        omega
    · exact q
    · rcases a4 with z | z
      · omega
      · have y := b5 (t - 1) (by omega) (by omega)
        have x := (h'.lt (h (t - 1) (by omega)) hm).mpr y
        omega
  subst e
  intro i hi
  by_cases a : i < t
  · rw [a1 i a, b1 i a]; exact h i (by omega)
  · by_cases b : i = t
    · rw [b, a2, b2]; exact h'
    · have ei := a3 (i - 1) (by omega) (by omega)
      have ej := b3 (i - 1) (by omega) (by omega)
      rw [Nat.sub_add_cancel (by omega)] at ei ej
      rw [ei, ej]; exact h (i - 1) (by omega)
theorem WS.rem {m : Nat} {S T S' T' : Nat → Nat} {n t t' P Q : Nat} (h : WS m S T n) (h' : SR m P Q) (hs : SI S n) (e1 : S t = P) (e2 : T t' = Q) (h1 : RemAt S n t S') (h2 : RemAt T n t' T') : WS m S' T' (n - 1) := by
  obtain ⟨ht, a1, a2⟩ := h1
  obtain ⟨ht', b1, b2⟩ := h2
  have e : t = t' := by
    have z := ((h t' ht').eqi h').mpr e2
    rcases Nat.lt_trichotomy t t' with q | q | q
    · have := hs t t' q ht'; omega
    · exact q
    · have := hs t' t q ht; omega
  subst e
  intro i hi
  by_cases a : i < t
  · rw [a1 i a, b1 i a]; exact h i (by omega)
  · rw [a2 i (by omega) (by omega), b2 i (by omega) (by omega)]; exact h (i + 1) (by omega)
/-! what is counted -/
theorem WS.fromSlip {m : Nat} {S T : Nat → Nat} {cnt P Q : Nat} (h : WS m S T cnt) (h' : SR m P Q) : fb_ct (fun i => bgB (S i) P) cnt = fb_ct (fun i => bgB (T i) Q) cnt :=
  fb_ct_cong (fun i hi => by
    apply Bool.eq_iff_iff.mpr
    rw [bgB_t, bgB_t]
    exact (h i hi).bg h')
theorem SR.shd {m P Q P' Q' : Nat} (h : SR m P Q) (h' : SR m P' Q') : ∀ k, k ≤ rwL P → k ≤ rwL P' → shD P P' k = shD Q Q' k
  | 0, _, _ => rfl
  | k + 1, a, b => by
    have ih := SR.shd h h' k (by omega) (by omega)
    have e := h.rbe h' a b
    unfold shD
    by_cases q : rwB P (k + 1) = rwB P' (k + 1)
    · rw [if_pos q, if_pos (e.mp q)]
    · rw [if_neg q, if_neg (fun z => q (e.mpr z)), ih]
theorem SR.shR {m P Q P' Q' : Nat} (h : SR m P Q) (h' : SR m P' Q') : shr P P' = shr Q Q' := by
  unfold shr
  rw [h.2.2.1, h'.2.2.1]
  exact h.shd h' _ (Nat.min_le_left _ _) (Nat.min_le_right _ _)
theorem WS.lsf {m : Nat} {S T : Nat → Nat} {cnt P Q : Nat} (h : WS m S T cnt) (h' : SR m P Q) : ∀ j, j ≤ cnt → lsF S P j = lsF T Q j
  | 0, _ => rfl
  | j + 1, hj => by
    have ih := WS.lsf h h' j (by omega)
    unfold lsF
    rw [ih, (h j (by omega)).shR h']
theorem WS.bgn {m : Nat} {S T : Nat → Nat} {cnt : Nat} (h : WS m S T cnt) : bgnN S cnt = bgnN T cnt := by
  unfold bgnN
  congr 1
  refine fb_sm_cong (fun i hi => ?_)
  rw [h.lsf (h i hi) i (by omega), (h i hi).2.2.1]
/-! the solver -/
theorem SR.ld {m P Q P' Q' ll : Nat} (h : SR m P Q) (h' : SR m P' Q') : ldP ll P P' ↔ ldP ll Q Q' := by
  unfold ldP
  rw [h'.2.2.1, h'.bg h]
  constructor
  · rintro ⟨a, b, c⟩; exact ⟨a, fun z => b ((h'.eqi h).mpr z), c⟩
  · rintro ⟨a, b, c⟩; exact ⟨a, fun z => b ((h'.eqi h).mp z), c⟩
theorem WS.opb {m : Nat} {S T : Nat → Nat} {cnt ll P Q : Nat} (h : WS m S T cnt) (h' : SR m P Q) {a : Nat} (ha : (opM S ll P cnt).testBit a = true) : a < 4 ∧ rwL P < 10 := by
  obtain ⟨j, h1, h2, h3⟩ := opM_bit.mp ha
  have hj := h j h1
  have := h2.lt
  have h4 := hj.2.2.2 (rwL P) this
  have := hj.1.1
  omega
theorem WS.op {m : Nat} {S T : Nat → Nat} {cnt ll P Q : Nat} (h : WS m S T cnt) (h' : SR m P Q) : opM T ll Q cnt = opM S ll P cnt * 2 ^ m := by
  apply Nat.eq_of_testBit_eq
  intro b
  rw [Nat.testBit_mul_two_pow]
  apply Bool.eq_iff_iff.mpr
  rw [Bool.and_eq_true, opM_bit, opM_bit, decide_eq_true_iff]
  constructor
  · rintro ⟨j, h1, h2, h3⟩
    have hj := h j h1
    have h4 := (h'.ld hj).mpr h2
    have h5 := (hj.2.2.2 (rwL P) h4.lt).2
    rw [h'.2.2.1] at h3
    exact ⟨by omega, j, h1, h4, by omega⟩
  · rintro ⟨h0, j, h1, h2, h3⟩
    have hj := h j h1
    have h5 := (hj.2.2.2 (rwL P) h2.lt).2
    exact ⟨j, h1, (h'.ld hj).mp h2, by rw [h'.2.2.1]; omega⟩
theorem lt16 {n : Nat} (h : ∀ a, n.testBit a = true → a < 4) : n < 16 :=
  Nat.lt_pow_two_of_testBit (n := 4) n (fun i hi => by
    cases q : n.testBit i
    · rfl
    · have := h i q; omega)
theorem WS.hw {m : Nat} {S T : Nat → Nat} {cnt ll P Q : Nat} (h : WS m S T cnt) (h' : SR m P Q) : hwB T cnt ll Q = hwB S cnt ll P := by
  unfold hwB
  exact bB_cong (by rw [h'.2.2.1, h.ins h'])
theorem scM_skip {mk : Nat} {fn : Nat → Int} {i : Nat} : ∀ j, (∀ a, i ≤ a → a < i + j → ¬ mk.testBit a = true) → scM mk fn (i + j) = scM mk fn i
  | 0, _ => rfl
  | j + 1, h => by
    have ih := scM_skip (mk := mk) (fn := fn) (i := i) j (fun a h1 h2 => h a h1 (by omega))
    rw [← ih]
    exact (scM_f rfl (h (i + j) (by omega) (by omega))).symm
theorem scM_move {mk m : Nat} {fn fn' : Nat → Int} (hf : ∀ a, a < 4 → mk.testBit a = true → fn' (a + m) = fn a) : ∀ j, j ≤ 4 → scM (mk * 2 ^ m) fn' (m + j) = scM mk fn j
  | 0, _ => by
    have := scM_skip (mk := mk * 2 ^ m) (fn := fn') (i := 0) m (fun a _ h2 => by
      rw [Nat.testBit_mul_two_pow, show decide (m ≤ a) = false from decide_eq_false (by omega), Bool.false_and]
      exact Bool.false_ne_true)
    rw [Nat.zero_add] at this
    exact this
  | j + 1, hj => by
    have ih := scM_move hf j (by omega)
    have tb : (mk * 2 ^ m).testBit (m + j) = mk.testBit j := by
      rw [Nat.testBit_mul_two_pow, show decide (m ≤ m + j) = true from decide_eq_true (by omega), Bool.true_and, Nat.add_sub_cancel_left]
    by_cases q : mk.testBit j = true
    · have e1 := scM_t (fn := fn) (rfl : scM mk fn j = _) q
      have e2 := scM_t (fn := fn') (rfl : scM (mk * 2 ^ m) fn' (m + j) = _) (tb.trans q)
      rw [← e1]
      show scM (mk * 2 ^ m) fn' (m + j + 1) = _
      rw [← e2, ih, Nat.add_comm m j, hf j (by omega) q]
    · have e1 := scM_f (fn := fn) (rfl : scM mk fn j = _) q
      have e2 := scM_f (fn := fn') (rfl : scM (mk * 2 ^ m) fn' (m + j) = _) (fun z => q (tb.symm.trans z))
      rw [← e1]
      show scM (mk * 2 ^ m) fn' (m + j + 1) = _
      rw [← e2, ih]
theorem scM_26 {mk m : Nat} {fn fn' : Nat → Int} (hm : m ≤ 22) (hb : ∀ a, mk.testBit a = true → a < 4) (hf : ∀ a, a < 4 → mk.testBit a = true → fn' (a + m) = fn a) : scM (mk * 2 ^ m) fn' 26 = scM mk fn 26 := by
  have e1 := scM_skip (mk := mk) (fn := fn) (i := 4) 22 (fun a h1 _ z => by have := hb a z; omega)
  have e2 := scM_skip (mk := mk * 2 ^ m) (fn := fn') (i := m + 4) (22 - m) (fun a h1 _ z => by
    rw [Nat.testBit_mul_two_pow, Bool.and_eq_true] at z
    have := hb _ z.2
    omega)
  rw [show m + 4 + (22 - m) = 26 by omega] at e2
  rw [e2, scM_move hf 4 (Nat.le_refl _)]
  exact e1.symm
section SOLVE
variable {m : Nat} {S T : Nat → Nat} {cnt ll : Nat}
theorem WS.scc (h : WS m S T cnt) (hm : m ≤ 21) : ∀ (k : Nat) {P Q : Nat}, SR m P Q → rwL P + k ≤ 10 → sc (fun F => opM T ll F cnt) (hwB T cnt ll) k Q = sc (fun F => opM S ll F cnt) (hwB S cnt ll) k P
  | 0, _, _, _, _ => rfl
  | k + 1, P, Q, h', hl => by
    have ih := fun (P Q : Nat) (h9 : SR m P Q) (hl9 : rwL P + k ≤ 10) => WS.scc h hm k h9 hl9
    have e := h.op (ll := ll) h'
    unfold sc
    show (if opM T ll Q cnt = 0 then (100 : Int) else scM (opM T ll Q cnt) _ 26) = if opM S ll P cnt = 0 then (100 : Int) else scM (opM S ll P cnt) _ 26
    have hz : opM T ll Q cnt = 0 ↔ opM S ll P cnt = 0 := by
      rw [e]
      have := Nat.two_pow_pos m
      rw [Nat.mul_eq_zero]
      omega
    by_cases q : opM S ll P cnt = 0
    · rw [if_pos q, if_pos (hz.mpr q)]
    · rw [if_neg q, if_neg (fun z => q (hz.mp z)), e]
      refine scM_26 (by omega) (fun a ha => (h.opb h' ha).1) (fun a ha _ => ?_)
      have hx := h'.rx (by omega) ha hm
      rw [h.hw hx, ih _ _ hx (by rw [h'.1.rxl (by omega) (by omega)]; omega)]
theorem WS.scl (h : WS m S T cnt) (hm : m ≤ 21) {k P Q a : Nat} (h' : SR m P Q) (hl : rwL P + k ≤ 9) (ha : a < 4) : scL (fun F => opM T ll F cnt) (hwB T cnt ll) k Q (a + m) = scL (fun F => opM S ll F cnt) (hwB S cnt ll) k P a := by
  have hx := h'.rx (by omega) ha hm
  unfold scL
  rw [h.hw hx, h.scc hm k hx (by rw [h'.1.rxl (by omega) (by omega)]; omega)]
theorem scW_bit {om : Nat → Nat} {hw : Nat → Bool} {k F a : Nat} : ∀ {n : Nat}, (scW om hw k F n).testBit a = true ↔ a < n ∧ (om F).testBit a = true ∧ 0 < scL om hw k F a
  | 0 => ⟨fun h => absurd h (by rw [show scW om hw k F 0 = 0 from rfl, Nat.zero_testBit]; exact Bool.false_ne_true), fun h => absurd h.1 (Nat.not_lt_zero _)⟩
  | n + 1 => by
    have ih := scW_bit (om := om) (hw := hw) (k := k) (F := F) (a := a) (n := n)
    by_cases q : (om F).testBit n = true ∧ 0 < scL om hw k F n
    · rw [← scW_t rfl q, mk_tb2, Bool.or_eq_true, ih, decide_eq_true_iff]
      constructor
      · rintro (⟨h1, h2⟩ | h)
        · exact ⟨by omega, h2⟩
        · subst h; exact ⟨by omega, q⟩
      · rintro ⟨h1, h2⟩
        by_cases e : a = n
        · exact Or.inr e
        · exact Or.inl ⟨by omega, h2⟩
    · rw [← scW_f rfl q, ih]
      constructor
      · rintro ⟨h1, h2⟩; exact ⟨by omega, h2⟩
      · rintro ⟨h1, h2⟩
        by_cases e : a = n
        · subst e; exact absurd h2 q
        · exact ⟨by omega, h2⟩
theorem WS.tb (h : WS m S T cnt) {P Q b : Nat} (h' : SR m P Q) : (opM T ll Q cnt).testBit b = true ↔ ∃ a, a < 4 ∧ b = a + m ∧ (opM S ll P cnt).testBit a = true := by
  rw [h.op h', Nat.testBit_mul_two_pow, Bool.and_eq_true, decide_eq_true_iff]
  constructor
  · rintro ⟨a, c⟩
    exact ⟨b - m, (h.opb h' c).1, by omega, c⟩
  · rintro ⟨a, b1, rfl, c⟩
    exact ⟨by omega, by rw [Nat.add_sub_cancel]; exact c⟩
theorem WS.win (h : WS m S T cnt) (hm : m ≤ 21) {P Q : Nat} (h' : SR m P Q) : scW (fun F => opM T ll F cnt) (hwB T cnt ll) (9 - rwL Q) Q 26 = scW (fun F => opM S ll F cnt) (hwB S cnt ll) (9 - rwL P) P 26 * 2 ^ m := by
  apply Nat.eq_of_testBit_eq
  intro b
  rw [Nat.testBit_mul_two_pow]
  apply Bool.eq_iff_iff.mpr
  rw [Bool.and_eq_true, scW_bit, scW_bit, decide_eq_true_iff, h'.2.2.1]
  constructor
  · rintro ⟨h1, h2, h3⟩
    obtain ⟨a, ha, e, h4⟩ := (h.tb h').mp h2
    have hl := (h.opb h' h4).2
    rw [e, h.scl hm h' (by omega) ha] at h3
    rw [show b - m = a by omega]
    exact ⟨by omega, by omega, h4, h3⟩
  · rintro ⟨h0, h1, h2, h3⟩
    have hl := h.opb h' h2
    have e : b = (b - m) + m := by omega
    refine ⟨by omega, (h.tb h').mpr ⟨b - m, hl.1, e, h2⟩, ?_⟩
    rw [e, h.scl hm h' (by omega) hl.1]
    exact h3
theorem WS.win16 (h : WS m S T cnt) {P Q : Nat} (h' : SR m P Q) : scW (fun F => opM S ll F cnt) (hwB S cnt ll) (9 - rwL P) P 26 < 16 :=
  lt16 (fun a ha => (h.opb h' (scW_bit.mp ha).2.1).1)
theorem WS.op16 (h : WS m S T cnt) {P Q : Nat} (h' : SR m P Q) : opM S ll P cnt < 16 := lt16 (fun a ha => (h.opb h' ha).1)
/-- the letter chosen -/
def chB (S : Nat → Nat) (cnt ll F a : Nat) : Prop := (opM S ll F cnt).testBit a = true ∧ scL (fun F => opM S ll F cnt) (hwB S cnt ll) (9 - rwL F) F a = sc (fun F => opM S ll F cnt) (hwB S cnt ll) (10 - rwL F) F
theorem WS.ch (h : WS m S T cnt) (hm : m ≤ 21) {P Q b : Nat} (h' : SR m P Q) : chB T cnt ll Q b ↔ ∃ a, a < 4 ∧ b = a + m ∧ chB S cnt ll P a := by
  unfold chB
  rw [h'.2.2.1]
  constructor
  · rintro ⟨h1, h2⟩
    obtain ⟨a, ha, e, h4⟩ := (h.tb h').mp h1
    have hl := (h.opb h' h4).2
    rw [e, h.scl hm h' (by omega) ha, h.scc hm _ h' (by omega)] at h2
    exact ⟨a, ha, e, h4, h2⟩
  · rintro ⟨a, ha, rfl, h4, h2⟩
    have hl := (h.opb h' h4).2
    refine ⟨(h.tb h').mpr ⟨a, ha, rfl, h4⟩, ?_⟩
    rw [h.scl hm h' (by omega) ha, h.scc hm _ h' (by omega)]
    exact h2
def chP (S : Nat → Nat) (cnt ll F : Nat) (r : Int32) : Prop := (∃ a, a < 26 ∧ chB S cnt ll F a ∧ (∀ b, b < a → ¬ chB S cnt ll F b) ∧ r = nI a) ∨ ((∀ b, b < 26 → ¬ chB S cnt ll F b) ∧ r = -1)
theorem WS.chs (h : WS m S T cnt) (hm : m ≤ 21) {P Q : Nat} (h' : SR m P Q) {r r' : Int32} (h1 : chP S cnt ll P r) (h2 : chP T cnt ll Q r') : (r = -1 ∧ r' = -1) ∨ ∃ a, a < 4 ∧ r = nI a ∧ r' = nI (a + m) := by
  rcases h1 with ⟨a, a1, a2, a3, rfl⟩ | ⟨a1, rfl⟩
  · have ha := (h.opb h' a2.1).1
    rcases h2 with ⟨b, b1, b2, b3, rfl⟩ | ⟨b1, rfl⟩
    · obtain ⟨c, c1, rfl, c2⟩ := (h.ch hm h').mp b2
      refine Or.inr ⟨a, ha, rfl, ?_⟩
      rcases Nat.lt_trichotomy a c with q | q | q
      · exact absurd ((h.ch hm h').mpr ⟨a, ha, rfl, a2⟩) (b3 (a + m) (by omega))
      · rw [q]
      · exact absurd c2 (a3 c q)
    · exact absurd ((h.ch hm h').mpr ⟨a, ha, rfl, a2⟩) (b1 (a + m) (by omega))
  · rcases h2 with ⟨b, b1, b2, b3, rfl⟩ | ⟨b1, rfl⟩
    · obtain ⟨c, c1, rfl, c2⟩ := (h.ch hm h').mp b2
      exact absurd c2 (a1 c (by omega))
    · exact Or.inl ⟨rfl, rfl⟩
theorem WS.way (h : WS m S T cnt) {P Q V W : Nat} (h' : SR m P Q) (h2 : SR m V W) : wyP S cnt ll P V ↔ wyP T cnt ll Q W := by
  unfold wyP
  rw [h'.ld h2, h'.2.2.1, h2.2.2.1]
  constructor
  · rintro ⟨a, b⟩
    exact ⟨a, fun k h3 h4 z => b k h3 h4 ⟨z.1, (h.ins (h2.rb (by omega))).mpr z.2⟩⟩
  · rintro ⟨a, b⟩
    exact ⟨a, fun k h3 h4 z => b k h3 h4 ⟨z.1, (h.ins (h2.rb (by omega))).mp z.2⟩⟩
theorem WS.ways (h : WS m S T cnt) {P Q : Nat} (h' : SR m P Q) : fb_ct (fun i => bB (wyP S cnt ll P (S i))) cnt = fb_ct (fun i => bB (wyP T cnt ll Q (T i))) cnt :=
  fb_ct_cong (fun i hi => bB_cong (h.way h' (h i hi)))
theorem WS.wways (h : WS m S T cnt) {P Q : Nat} (h' : SR m P Q) : fb_ct (fun i => bB (wyP S cnt ll P (S i) ∧ (rwL (S i) - rwL P) % 2 = 0)) cnt = fb_ct (fun i => bB (wyP T cnt ll Q (T i) ∧ (rwL (T i) - rwL Q) % 2 = 0)) cnt :=
  fb_ct_cong (fun i hi => bB_cong (by rw [h.way h' (h i hi), (h i hi).2.2.1, h'.2.2.1]))
theorem WS.whole (h : WS m S T cnt) {P Q : Nat} (h' : SR m P Q) : (ll ≤ rwL P ∧ inS S cnt P) ↔ (ll ≤ rwL Q ∧ inS T cnt Q) := by
  rw [h'.2.2.1, h.ins h']
theorem WS.from (h : WS m S T cnt) {P Q : Nat} (h' : SR m P Q) : (∃ i, i < cnt ∧ ll ≤ rwL (S i) ∧ bgP (S i) P) ↔ (∃ i, i < cnt ∧ ll ≤ rwL (T i) ∧ bgP (T i) Q) := by
  constructor
  · rintro ⟨i, a, b, c⟩
    exact ⟨i, a, by rw [(h i a).2.2.1]; exact b, ((h i a).bg h').mp c⟩
  · rintro ⟨i, a, b, c⟩
    rw [(h i a).2.2.1] at b
    exact ⟨i, a, b, ((h i a).bg h').mpr c⟩
end SOLVE
/-! the round's end -/
theorem nxF_in {K : Nat → Nat} {np : Nat} : ∀ {s c t : Nat}, c < np → nxF K np s c = some t → t < np ∧ K t < 5
  | 0, _, _, _, h => by cases h
  | s + 1, c, t, hc, h => by
    have h1 : nx1 np c < np := by unfold nx1; by_cases q : c + 1 < np; (rw [if_pos q]; exact q); (rw [if_neg q]; omega)
    have e : nxF K np (s + 1) c = if K (nx1 np c) < 5 then some (nx1 np c) else nxF K np s (nx1 np c) := rfl
    rw [e] at h
    by_cases q : K (nx1 np c) < 5
    · rw [if_pos q] at h
      cases h
      exact ⟨h1, q⟩
    · rw [if_neg q] at h
      exact nxF_in h1 h
theorem nxF_none {K : Nat → Nat} {np : Nat} : ∀ {s c : Nat}, c < np → nxF K np s c = none → ∀ r, 1 ≤ r → r ≤ s → 5 ≤ K ((c + r) % np)
  | 0, _, _, _, r, h1, h2 => by omega
  | s + 1, c, hc, h, r, h1, h2 => by
    have e1 : nx1 np c = (c + 1) % np := by
      unfold nx1
      by_cases q : c + 1 < np
      · rw [if_pos q, Nat.mod_eq_of_lt q]
      · rw [if_neg q, show c + 1 = np by omega, Nat.mod_self]
    have hlt : nx1 np c < np := by rw [e1]; exact Nat.mod_lt _ (by omega)
    have e : nxF K np (s + 1) c = if K (nx1 np c) < 5 then some (nx1 np c) else nxF K np s (nx1 np c) := rfl
    rw [e] at h
    by_cases q : K (nx1 np c) < 5
    · rw [if_pos q] at h; cases h
    · rw [if_neg q] at h
      by_cases z : r = 1
      · subst z; rw [← e1]; omega
      · have := nxF_none hlt h (r - 1) (by omega) (by omega)
        rw [e1, Nat.mod_add_mod, show c + 1 + (r - 1) = c + r by omega] at this
        exact this
theorem nxF_some {K : Nat → Nat} {np c i : Nat} (hc : c < np) (hi : i < np) (hK : K i < 5) : ∃ t, nxF K np np c = some t := by
  cases h : nxF K np np c with
  | some t => exact ⟨t, rfl⟩
  | none =>
    have := nxF_none hc h
    by_cases q : c < i
    · have := this (i - c) (by omega) (by omega)
      rw [show c + (i - c) = i by omega, Nat.mod_eq_of_lt hi] at this
      omega
    · have := this (i + np - c) (by omega) (by omega)
      rw [show c + (i + np - c) = i + np by omega, Nat.add_mod_right, Nat.mod_eq_of_lt hi] at this
      omega
theorem left_er {K : Nat → Nat} {np j : Nat} (hj : j < np) (hK : K j < 5) : leftN (erK K j) np + (if erK K j j < 5 then 0 else 1) = leftN K np := by
  have e : (fun i => decide (erK K j i < 5)) = fun k => if k = j then decide (erK K j j < 5) else decide (K k < 5) := by
    funext k
    by_cases q : k = j
    · subst q; rw [if_pos rfl]
    · rw [if_neg q]; unfold erK; rw [if_neg q]
  have h := fb_ct_upd (fun i => decide (K i < 5)) (decide (erK K j j < 5)) (i := j) (n := np) hj
  have e2 : (if decide (K j < 5) = true then 1 else 0) = 1 := by rw [if_pos (decide_eq_true hK)]
  unfold leftN
  rw [e]
  by_cases q : erK K j j < 5
  · rw [if_pos q]
    have e3 : (if decide (erK K j j < 5) = true then 1 else 0) = 1 := by rw [if_pos (decide_eq_true q)]
    omega
  · rw [if_neg q]
    have e3 : (if decide (erK K j j < 5) = true then 1 else 0) = 0 := by rw [if_neg (by rw [decide_eq_false q]; exact Bool.false_ne_true)]
    omega
theorem left_ex {K : Nat → Nat} {np : Nat} (h : 0 < leftN K np) : ∃ i, i < np ∧ K i < 5 := by
  obtain ⟨i, h1, h2⟩ := fb_ct_pos.mp h
  exact ⟨i, h1, of_decide_eq_true h2⟩
theorem left_0 : ∀ n, leftN (fun _ => 0) n = n
  | 0 => rfl
  | n + 1 => by
    show fb_ct _ (n + 1) = n + 1
    rw [fb_ct_succ]
    have := left_0 n
    unfold leftN at this
    rw [this]
    rfl
/-- the game: off, or on with a player whose turn it is -/
def GS (K : Nat → Nat) (np F : Nat) (mv lm : Int32) : Prop := (mv = -1 ∧ F = 0) ∨ (2 ≤ leftN K np ∧ (∃ j, mv = nI j ∧ j < np ∧ K j < 5) ∧ (0 < rwL F → ∃ i, lm = nI i ∧ i < np ∧ K i < 5))
theorem GS.hmv {K : Nat → Nat} {np F : Nat} {mv lm : Int32} (h : GS K np F mv lm) : mv = -1 ∨ ∃ j, mv = nI j ∧ j < np ∧ K j < 5 := by
  rcases h with ⟨a, -⟩ | ⟨-, a, -⟩
  · exact Or.inl a
  · exact Or.inr a
theorem GS.hlm {K : Nat → Nat} {np F : Nat} {mv lm : Int32} (h : GS K np F mv lm) : 0 < rwL F → ∃ i, lm = nI i ∧ i < np ∧ K i < 5 := by
  rcases h with ⟨-, a⟩ | ⟨-, -, a⟩
  · intro z; subst a; exact absurd z (by simp [rwL])
  · exact a
theorem GS.on {K : Nat → Nat} {np F : Nat} {mv lm : Int32} {j : Nat} (h : GS K np F mv lm) (e : mv = nI j) (hj : j < 1000) : 2 ≤ leftN K np := by
  rcases h with ⟨a, -⟩ | ⟨a, -⟩
  · exact absurd (e.symm.trans a) (nI_nem1 (by omega))
  · exact a
theorem GS.lost {K : Nat → Nat} {np j : Nat} {lm : Int32} (h2 : 2 ≤ leftN K np) (hj : j < np) (hK : K j < 5) : GS (erK K j) np 0 (erM K np j) lm := by
  have h3 := left_er hj hK
  have z0 : 0 < rwL 0 → ∃ i, lm = nI i ∧ i < np ∧ erK K j i < 5 := fun z => absurd z (by simp [rwL])
  unfold erM
  by_cases q : leftN (erK K j) np = 1
  · rw [if_pos q]; exact Or.inl ⟨rfl, rfl⟩
  · rw [if_neg q]
    by_cases h5 : erK K j j < 5
    · rw [if_pos h5] at h3
      rw [if_neg (by omega)]
      exact Or.inr ⟨by omega, ⟨j, rfl, hj, h5⟩, z0⟩
    · rw [if_neg h5] at h3
      obtain ⟨i, h4, h6⟩ := left_ex (K := erK K j) (np := np) (by omega)
      obtain ⟨t, ht⟩ := nxF_some hj h4 h6
      have hin := nxF_in hj ht
      rw [if_pos (by omega), ht]
      exact Or.inr ⟨by omega, ⟨t, rfl, hin.1, hin.2⟩, z0⟩
theorem GS.played {K : Nat → Nat} {np j F : Nat} (h2 : 2 ≤ leftN K np) (hj : j < np) (hK : K j < 5) : GS K np F (oI (nxF K np np j)) (nI j) := by
  obtain ⟨t, ht⟩ := nxF_some hj hj hK
  have hin := nxF_in hj ht
  rw [ht]
  exact Or.inr ⟨h2, ⟨t, rfl, hin.1, hin.2⟩, fun _ => ⟨j, rfl, hj, hK⟩⟩
theorem GS.begun {n : Nat} {lm : Int32} (h : 2 ≤ n) : GS (fun _ => 0) n 0 (nI 0) lm :=
  Or.inr ⟨by rw [left_0]; exact h, ⟨0, rfl, by omega, by decide⟩, fun z => absurd z (by simp [rwL])⟩
theorem GS.none {K : Nat → Nat} {np : Nat} {lm : Int32} : GS K np 0 (-1) lm := Or.inl ⟨rfl, rfl⟩
theorem GS.len {K : Nat → Nat} {np F F' : Nat} {mv lm : Int32} (h : GS K np F mv lm) (e : rwL F' = rwL F) (e0 : F = 0 → F' = 0) : GS K np F' mv lm := by
  rcases h with ⟨a, b⟩ | ⟨a, b, c⟩
  · exact Or.inl ⟨a, e0 b⟩
  · exact Or.inr ⟨a, b, by rw [e]; exact c⟩
end
