section
-- ===== PART A: goes FIRST, ahead of the names: the tables' words, and 'selects' of the private methods out of them =====
/-- a private method of a class that the tables say can be made, by its rows of tables_1 -/
def lw_okq (q : MethodName × Nat) : Prop := (q.1.cls ≠ "java/lang/invoke/MethodHandle" ∧ q.1.cls ≠ "java/lang/invoke/VarHandle") ∧ Cond.instantiable q.1.cls q.2 ∈ tables_1 ∧ Cond.privateMethod q.1 ∈ tables_1 ∧ Cond.instanceMethod q.1 ∈ tables_1
theorem lw_p0 : lw_okq (⟨"GhostGame$Dictionary", "placeOf", "(J)I"⟩, 3) := ⟨⟨by decide +kernel, by decide +kernel⟩, List.mem_of_getElem? (i := 23) (by decide +kernel), List.mem_of_getElem? (i := 95) (by decide +kernel), List.mem_of_getElem? (i := 96) (by decide +kernel)⟩
theorem lw_p1 : lw_okq (⟨"GhostGame$Dictionary", "lengthSharedBefore", "(I)I"⟩, 3) := ⟨⟨by decide +kernel, by decide +kernel⟩, List.mem_of_getElem? (i := 23) (by decide +kernel), List.mem_of_getElem? (i := 135) (by decide +kernel), List.mem_of_getElem? (i := 136) (by decide +kernel)⟩
theorem lw_p2 : lw_okq (⟨"java/lang/Throwable", "fillInStackTrace", "(I)Ljava/lang/Throwable;"⟩, 6) := ⟨⟨by decide +kernel, by decide +kernel⟩, List.mem_of_getElem? (i := 332) (by decide +kernel), List.mem_of_getElem? (i := 330) (by decide +kernel), List.mem_of_getElem? (i := 331) (by decide +kernel)⟩
theorem lw_p3 : lw_okq (⟨"GhostGame$Game", "endRound", "(I)I"⟩, 6) := ⟨⟨by decide +kernel, by decide +kernel⟩, List.mem_of_getElem? (i := 40) (by decide +kernel), List.mem_of_getElem? (i := 481) (by decide +kernel), List.mem_of_getElem? (i := 482) (by decide +kernel)⟩
theorem lw_p4 : lw_okq (⟨"GhostGame$Game", "hasPlayer", "(I)Z"⟩, 6) := ⟨⟨by decide +kernel, by decide +kernel⟩, List.mem_of_getElem? (i := 40) (by decide +kernel), List.mem_of_getElem? (i := 485) (by decide +kernel), List.mem_of_getElem? (i := 486) (by decide +kernel)⟩
theorem lw_p5 : lw_okq (⟨"GhostGame$Game", "playersLeft", "()I"⟩, 6) := ⟨⟨by decide +kernel, by decide +kernel⟩, List.mem_of_getElem? (i := 40) (by decide +kernel), List.mem_of_getElem? (i := 489) (by decide +kernel), List.mem_of_getElem? (i := 490) (by decide +kernel)⟩
theorem lw_p6 : lw_okq (⟨"GhostGame$Game", "isOut", "(I)Z"⟩, 6) := ⟨⟨by decide +kernel, by decide +kernel⟩, List.mem_of_getElem? (i := 40) (by decide +kernel), List.mem_of_getElem? (i := 493) (by decide +kernel), List.mem_of_getElem? (i := 494) (by decide +kernel)⟩
theorem lw_p7 : lw_okq (⟨"GhostGame$Game", "nextBehind", "(I)I"⟩, 6) := ⟨⟨by decide +kernel, by decide +kernel⟩, List.mem_of_getElem? (i := 40) (by decide +kernel), List.mem_of_getElem? (i := 501) (by decide +kernel), List.mem_of_getElem? (i := 502) (by decide +kernel)⟩
theorem lw_p8 : lw_okq (⟨"GhostGameModel", "asked", "(ZZ)Z"⟩, 19) := ⟨⟨by decide +kernel, by decide +kernel⟩, List.mem_of_getElem? (i := 538) (by decide +kernel), List.mem_of_getElem? (i := 614) (by decide +kernel), List.mem_of_getElem? (i := 615) (by decide +kernel)⟩
theorem lw_p9 : lw_okq (⟨"GhostGameModel", "told", "(I)I"⟩, 19) := ⟨⟨by decide +kernel, by decide +kernel⟩, List.mem_of_getElem? (i := 538) (by decide +kernel), List.mem_of_getElem? (i := 622) (by decide +kernel), List.mem_of_getElem? (i := 623) (by decide +kernel)⟩
theorem lw_p10 : lw_okq (⟨"GhostGameModel", "asked", "(Z)Z"⟩, 19) := ⟨⟨by decide +kernel, by decide +kernel⟩, List.mem_of_getElem? (i := 538) (by decide +kernel), List.mem_of_getElem? (i := 634) (by decide +kernel), List.mem_of_getElem? (i := 635) (by decide +kernel)⟩
theorem lw_p11 : lw_okq (⟨"GhostGameModel", "found", "()I"⟩, 19) := ⟨⟨by decide +kernel, by decide +kernel⟩, List.mem_of_getElem? (i := 538) (by decide +kernel), List.mem_of_getElem? (i := 642) (by decide +kernel), List.mem_of_getElem? (i := 643) (by decide +kernel)⟩
theorem lw_p12 : lw_okq (⟨"GhostGameModel", "begins", "(I[II)Z"⟩, 19) := ⟨⟨by decide +kernel, by decide +kernel⟩, List.mem_of_getElem? (i := 538) (by decide +kernel), List.mem_of_getElem? (i := 646) (by decide +kernel), List.mem_of_getElem? (i := 647) (by decide +kernel)⟩
theorem lw_p13 : lw_okq (⟨"GhostGameModel", "areAlike", "(III)Z"⟩, 19) := ⟨⟨by decide +kernel, by decide +kernel⟩, List.mem_of_getElem? (i := 538) (by decide +kernel), List.mem_of_getElem? (i := 670) (by decide +kernel), List.mem_of_getElem? (i := 671) (by decide +kernel)⟩
theorem lw_p14 : lw_okq (⟨"GhostGameModel", "isBefore", "(II)Z"⟩, 19) := ⟨⟨by decide +kernel, by decide +kernel⟩, List.mem_of_getElem? (i := 538) (by decide +kernel), List.mem_of_getElem? (i := 678) (by decide +kernel), List.mem_of_getElem? (i := 679) (by decide +kernel)⟩
theorem lw_p15 : lw_okq (⟨"GhostGameModel", "goesOn", "()Z"⟩, 19) := ⟨⟨by decide +kernel, by decide +kernel⟩, List.mem_of_getElem? (i := 538) (by decide +kernel), List.mem_of_getElem? (i := 694) (by decide +kernel), List.mem_of_getElem? (i := 695) (by decide +kernel)⟩
def lw_privs_1 : List (MethodName × Nat) := [(⟨"GhostGame$Dictionary", "placeOf", "(J)I"⟩, 3), (⟨"GhostGame$Dictionary", "lengthSharedBefore", "(I)I"⟩, 3), (⟨"java/lang/Throwable", "fillInStackTrace", "(I)Ljava/lang/Throwable;"⟩, 6), (⟨"GhostGame$Game", "endRound", "(I)I"⟩, 6), (⟨"GhostGame$Game", "hasPlayer", "(I)Z"⟩, 6), (⟨"GhostGame$Game", "playersLeft", "()I"⟩, 6), (⟨"GhostGame$Game", "isOut", "(I)Z"⟩, 6), (⟨"GhostGame$Game", "nextBehind", "(I)I"⟩, 6), (⟨"GhostGameModel", "asked", "(ZZ)Z"⟩, 19), (⟨"GhostGameModel", "told", "(I)I"⟩, 19), (⟨"GhostGameModel", "asked", "(Z)Z"⟩, 19), (⟨"GhostGameModel", "found", "()I"⟩, 19), (⟨"GhostGameModel", "begins", "(I[II)Z"⟩, 19), (⟨"GhostGameModel", "areAlike", "(III)Z"⟩, 19), (⟨"GhostGameModel", "isBefore", "(II)Z"⟩, 19), (⟨"GhostGameModel", "goesOn", "()Z"⟩, 19)]
theorem lw_r1 : ∀ q ∈ lw_privs_1, lw_okq q := List.forall_mem_cons.mpr ⟨lw_p0, List.forall_mem_cons.mpr ⟨lw_p1, List.forall_mem_cons.mpr ⟨lw_p2, List.forall_mem_cons.mpr ⟨lw_p3, List.forall_mem_cons.mpr ⟨lw_p4, List.forall_mem_cons.mpr ⟨lw_p5, List.forall_mem_cons.mpr ⟨lw_p6, List.forall_mem_cons.mpr ⟨lw_p7, List.forall_mem_cons.mpr ⟨lw_p8, List.forall_mem_cons.mpr ⟨lw_p9, List.forall_mem_cons.mpr ⟨lw_p10, List.forall_mem_cons.mpr ⟨lw_p11, List.forall_mem_cons.mpr ⟨lw_p12, List.forall_mem_cons.mpr ⟨lw_p13, List.forall_mem_cons.mpr ⟨lw_p14, List.forall_mem_cons.mpr ⟨lw_p15, fun _ h => absurd h List.not_mem_nil⟩⟩⟩⟩⟩⟩⟩⟩⟩⟩⟩⟩⟩⟩⟩⟩
theorem lw_p16 : lw_okq (⟨"GhostGameModel", "hasWord", "(Z)Z"⟩, 19) := ⟨⟨by decide +kernel, by decide +kernel⟩, List.mem_of_getElem? (i := 538) (by decide +kernel), List.mem_of_getElem? (i := 698) (by decide +kernel), List.mem_of_getElem? (i := 699) (by decide +kernel)⟩
theorem lw_p17 : lw_okq (⟨"GhostGameModel", "counts", "(I)Z"⟩, 19) := ⟨⟨by decide +kernel, by decide +kernel⟩, List.mem_of_getElem? (i := 538) (by decide +kernel), List.mem_of_getElem? (i := 702) (by decide +kernel), List.mem_of_getElem? (i := 703) (by decide +kernel)⟩
theorem lw_p18 : lw_okq (⟨"GhostGameModel", "loses", "(I)I"⟩, 19) := ⟨⟨by decide +kernel, by decide +kernel⟩, List.mem_of_getElem? (i := 538) (by decide +kernel), List.mem_of_getElem? (i := 706) (by decide +kernel), List.mem_of_getElem? (i := 707) (by decide +kernel)⟩
theorem lw_p19 : lw_okq (⟨"GhostGameModel", "behind", "(I)I"⟩, 19) := ⟨⟨by decide +kernel, by decide +kernel⟩, List.mem_of_getElem? (i := 538) (by decide +kernel), List.mem_of_getElem? (i := 710) (by decide +kernel), List.mem_of_getElem? (i := 711) (by decide +kernel)⟩
theorem lw_p20 : lw_okq (⟨"GhostGameModel", "looks", "()I"⟩, 19) := ⟨⟨by decide +kernel, by decide +kernel⟩, List.mem_of_getElem? (i := 538) (by decide +kernel), List.mem_of_getElem? (i := 746) (by decide +kernel), List.mem_of_getElem? (i := 747) (by decide +kernel)⟩
theorem lw_p21 : lw_okq (⟨"GhostGameModel", "solves", "(II)V"⟩, 19) := ⟨⟨by decide +kernel, by decide +kernel⟩, List.mem_of_getElem? (i := 538) (by decide +kernel), List.mem_of_getElem? (i := 750) (by decide +kernel), List.mem_of_getElem? (i := 751) (by decide +kernel)⟩
theorem lw_p22 : lw_okq (⟨"GhostGameModel", "isWhole", "(II)Z"⟩, 19) := ⟨⟨by decide +kernel, by decide +kernel⟩, List.mem_of_getElem? (i := 538) (by decide +kernel), List.mem_of_getElem? (i := 754) (by decide +kernel), List.mem_of_getElem? (i := 755) (by decide +kernel)⟩
theorem lw_p23 : lw_okq (⟨"GhostGameModel", "endBehind", "(III)I"⟩, 19) := ⟨⟨by decide +kernel, by decide +kernel⟩, List.mem_of_getElem? (i := 538) (by decide +kernel), List.mem_of_getElem? (i := 758) (by decide +kernel), List.mem_of_getElem? (i := 759) (by decide +kernel)⟩
theorem lw_p24 : lw_okq (⟨"GhostGameModel", "isWay", "(I)Z"⟩, 19) := ⟨⟨by decide +kernel, by decide +kernel⟩, List.mem_of_getElem? (i := 538) (by decide +kernel), List.mem_of_getElem? (i := 782) (by decide +kernel), List.mem_of_getElem? (i := 783) (by decide +kernel)⟩
def lw_privs_2 : List (MethodName × Nat) := [(⟨"GhostGameModel", "hasWord", "(Z)Z"⟩, 19), (⟨"GhostGameModel", "counts", "(I)Z"⟩, 19), (⟨"GhostGameModel", "loses", "(I)I"⟩, 19), (⟨"GhostGameModel", "behind", "(I)I"⟩, 19), (⟨"GhostGameModel", "looks", "()I"⟩, 19), (⟨"GhostGameModel", "solves", "(II)V"⟩, 19), (⟨"GhostGameModel", "isWhole", "(II)Z"⟩, 19), (⟨"GhostGameModel", "endBehind", "(III)I"⟩, 19), (⟨"GhostGameModel", "isWay", "(I)Z"⟩, 19)]
theorem lw_r2 : ∀ q ∈ lw_privs_2, lw_okq q := List.forall_mem_cons.mpr ⟨lw_p16, List.forall_mem_cons.mpr ⟨lw_p17, List.forall_mem_cons.mpr ⟨lw_p18, List.forall_mem_cons.mpr ⟨lw_p19, List.forall_mem_cons.mpr ⟨lw_p20, List.forall_mem_cons.mpr ⟨lw_p21, List.forall_mem_cons.mpr ⟨lw_p22, List.forall_mem_cons.mpr ⟨lw_p23, List.forall_mem_cons.mpr ⟨lw_p24, fun _ h => absurd h List.not_mem_nil⟩⟩⟩⟩⟩⟩⟩⟩⟩
def lw_privs : List (MethodName × Nat) := lw_privs_1 ++ (lw_privs_2)
def lw_tbl : List Cond := k2_sels lw_privs ++ tables_1
theorem lw_privs_ok : ∀ q ∈ lw_privs, lw_okq q := by
  show ∀ q ∈ lw_privs_1 ++ (lw_privs_2), lw_okq q
  exact List.forall_mem_append.mpr ⟨lw_r1, lw_r2⟩
end
section
/-! ===== BEGIN words of one list among another's, by their places ===== -/
theorem goodIn_r {big : List Cond} (ws : List Cond) (ps : List Nat) (hp : ws = ps.filterMap (fun i => big[i]?)) (h : ws.all goodWord = true) : GoodIn big ws := by
  intro w hw
  have h1 := List.all_eq_true.mp h w hw
  rw [hp] at hw
  obtain ⟨i, -, hi⟩ := List.mem_filterMap.mp hw
  have hm : w ∈ big := by first | exact List.mem_of_getElem? hi | exact List.getElem?_mem hi
  exact ⟨hm, good_of_word h1⟩
theorem goodIn_app {big a b : List Cond} (ha : GoodIn big a) (hb : GoodIn big b) : GoodIn big (a ++ b) := fun w h => (List.mem_append.mp h).elim (ha w) (hb w)
theorem goodIn_ca {big a b : List Cond} {c : Cond} (ha : GoodIn big (c :: a)) (hb : GoodIn big b) : GoodIn big (c :: (a ++ b)) := fun w h => (List.mem_cons.mp h).elim (fun e => ha w (List.mem_cons.mpr (Or.inl e))) (fun h => (List.mem_append.mp h).elim (fun h => ha w (List.mem_cons.mpr (Or.inr h))) (hb w))
theorem goodIn_sub {big ws : List Cond} (hm : ∀ w ∈ ws, w ∈ big) (h : ws.all goodWord = true) : GoodIn big ws := fun w hw => ⟨hm w hw, good_of_word (List.all_eq_true.mp h w hw)⟩
/-! ===== END ===== -/

/-! ===== BEGIN exceptions that leave a method, and their catching by the caller (launches without stack traces) ===== -/
section VXA
/-! The laws vx_back, vx_callV, vx_callS, vx_callSW, vx_throw0, vx_throwS follow proofs of the library, with one case more: JvmDerived/Free/Laws.lean (Back.of_free), Shelf42/LK1.lean (callV, callS), Shelf/KitTraced.lean (throwNew0V, throwNewS). -/
/-- where a method has thrown q: the class by its name, the cell, what was written, the world -/
def vx_T (XC : String → State → State → Prop) (st : State) (q : Addr) (t : State) (mc ms : Nat) (free : Addr → Prop) : Prop :=
  ∃ (E : String) (ce : Cell) (L : List Loc), XC E st t ∧ t.heap[q]? = some ce ∧ ce.vm = .none ∧ st.vm.findClass E = some ce.cls ∧ st.WarmedH t.vm ∧ st.sameButNew ({ t with vm := st.vm } : State) L mc ms ∧ ∀ z ∈ L, free z.base
def vx_Q (Qc : Array Value → State → Outcome → State → Prop) (XC : String → State → State → Prop) (mc ms : Nat) (free : Addr → Prop) : Array Value → State → Outcome → State → Prop := fun a st o t =>
  (Qc a st o t ∧ ∃ L, FrameEnd st o t L mc ms ∧ ∀ q ∈ L, free q.base) ∨ ∃ q, o = .threw q ∧ vx_T XC st q t mc ms free
/-- a callee that returns or throws -/
def vx_Met (l : Launch) (y : MethodName) (ws : List Cond) (rm : Room) (Pc : Array Value → State → Prop) (Qc : Array Value → State → Outcome → State → Prop) (XC : String → State → State → Prop) (mc ms : Nat) (free : Addr → Prop) : Prop :=
  MetFree l y (headSpec ws rm) Pc (fun _ _ _ _ _ => True) (vx_Q Qc XC mc ms free)
def vx_Post (XC : String → State → State → Prop) (mc ms : Nat) (free : Addr → Prop) : Pt → Array Value → Addr → Pt → Prop := fun A a q B =>
  ∃ (g : JFrame) (mk : MethodId) (t : State) (L : List Loc) (E : String) (ce : Cell), B.U.heap = t.heap ∧ B.U.vm = t.vm ∧ XC E (A.U.calling g mk a) t ∧ t.heap[q]? = some ce ∧ ce.vm = .none ∧ A.U.vm.findClass E = some ce.cls ∧ B.locs = A.locs ++ L ∧ (∀ z ∈ L, free z.base) ∧ B.cells = A.cells + mc ∧ B.slots = A.slots + ms
def vx_Back (l : Launch) (R : Room) (p : Program) (e : Env) (below : List Frame) (s : State) (sargs : Array Value) (y : MethodName) (len W9 : Nat)
    (Pre : Pt → Array Value → Prop) (Post : Pt → Array Value → Option Value → Pt → Prop) (PostX : Pt → Array Value → Addr → Pt → Prop) : Prop :=
  ∀ (m : MethodId) (meth : Method) (c : Code) (A : Pt) (g : JFrame) (ig : Instr) (mk : MethodId) (a : Array Value),
    Stand p l e R s m sargs below meth c A.U A.locs A.cells A.slots → g.method = m → g.locals.size = c.maxLocals → decode c.code g.pc = .ok (ig, len) →
    2 * g.monitorRoom + (g.stack.map fun v => v.category).sum ≤ W9 → A.U.methodNamed? y = some mk → Pre A a →
    (∃ (v : Option Value) (B : Pt), Stand p l e R s m sargs below meth c B.U B.locs B.cells B.slots ∧ Post A a v B ∧
      Steps p.tables e below (doInvoke e (A.U.setTop g) [] mk a).1 (B.U.setTop { g with pc := g.pc + len, stack := v.toList ++ g.stack })) ∨
    (∃ (q : Addr) (B : Pt), Stand p l e R s m sargs below meth c B.U B.locs B.cells B.slots ∧ PostX A a q B ∧
      Steps p.tables e below (doInvoke e (A.U.setTop g) [] mk a).1 ((B.U.setTop g).pushFrame (.throwing q)))
section Payer
variable {l : Launch} {R : Room} {p : Program} {e : Env} {below : List Frame} {s : State} {sargs : Array Value} {y : MethodName} {len W9 : Nat}
theorem vx_back {ws : List Cond} {rm : Room} {Pc : Array Value → State → Prop} {Qc : Array Value → State → Outcome → State → Prop} {XC : String → State → State → Prop} {mc ms : Nat} {free : Addr → Prop} {bytes : ByteArray} {maxL : Nat} {ret : Option FieldType}
    (hM : vx_Met l y ws rm Pc Qc XC mc ms free) (hblind : FrameBlind Pc) (hrc : rm.cells = mc) (hrs : rm.slots = ms)
    (hframes : rm.frames + 1 ≤ R.frames) (hlocals : W9 + (maxL + 11) + rm.locals ≤ R.locals)
    (hws : ∀ w ∈ ws, ∀ a' U, s.WarmedH U.vm → w.before a' U = true) (hcode : Cond.code y bytes maxL ret ∈ ws) (hinit : ∀ a' U, s.WarmedH U.vm → (Cond.initialized y.cls).before a' U = true) :
    vx_Back l R p e below s sargs y len W9 (PreOf R mc ms Pc) (PostOf Qc mc ms free) (vx_Post XC mc ms free) := by
  intro m meth c A g ig mk a X hg hsize hdg hW hn hp
  have h1 : (headSpec ws rm).pre.before a A.U = true := atoms_intro fun w hw => hws w hw _ _ X.warmed
  have h2 : (Cond.code y bytes maxL ret).before a A.U = true := hws _ hcode _ _ X.warmed
  have h3 : (Cond.initialized y.cls).before a A.U = true := hinit _ _ X.warmed
  have h4 : A.cells + (headSpec ws rm).room.cells ≤ R.cells := by rw [show (headSpec ws rm).room.cells = mc from hrc]; exact hp.1
  have h5 : A.slots + (headSpec ws rm).room.slots ≤ R.slots := by rw [show (headSpec ws rm).room.slots = ms from hrs]; exact hp.2.1
  have hPc : Pc a (A.U.calling g mk a) := hblind _ _ _ _ hp.2.2
  obtain ⟨U, Ls, c0, s0⟩ := A
  dsimp only [Pt.U, Pt.locs, Pt.cells, Pt.slots] at h1 h2 h3 h4 h5 X hn hPc ⊢
  obtain ⟨methY, cY, hmY, hcY, -, hlY, -, -, -, -⟩ := Cond.code_spec hn h2
  obtain ⟨kY, hkY, -⟩ := className_of_methodNamed hn
  have hinitY : kY.init = .initialized := Cond.initialized_spec (findClass_of_methodNamed hn) hkY h3
  have h : At U g.method c below := by rw [hg]; exact X.here
  have hlocals9 : W9 + (maxL + 11) + (headSpec ws rm).room.locals ≤ R.locals := hlocals
  have happ : (headSpec ws rm).appliesLoose y e.platform (U.calling g mk a) = true :=
    Spec.appliesLoose_calling (g := g) h hdg hn hkY hinitY
      (X.room_calling (g := g) (R' := (headSpec ws rm).room) hsize hmY hcY hframes (by rw [hlY]; omega) h4 h5) h1
  obtain ⟨mid, hmid⟩ := h.above
  have hfr : (U.setTop g).frames = (.java g :: mid) ++ below := by rw [State.frames_setTop' g h.top, hmid]; rfl
  obtain ⟨o, s₂, hsteps, -, hend, hq⟩ := Steps.callFree hM p X.admits X.cas X.clock (acts := []) hfr happ hPc trivial
  have hq' : vx_Q Qc XC mc ms free a (U.calling g mk a) o s₂ := hq
  rw [State.frames_setTop' g h.top] at hend
  obtain ⟨g₀, hg0⟩ := Option.isSome_iff_exists.mp h.top
  obtain ⟨r, hr⟩ := State.topJava?_eq_some.mp hg0
  have hr' : (({ U with heap := s₂.heap, slotsUsed := s₂.slotsUsed } : State).setVm s₂.vm).frames = .java g₀ :: r := hr
  rcases hq' with ⟨hqc, L, hfe, hL⟩ | ⟨q, rfl, E, ce, L, hx, hce, hcv, hcl, hW₂, hsm, hL⟩
  · obtain ⟨⟨v, rfl⟩, hW₂, e2, q2, q3, q4, q5, q6⟩ := id hfe
    have e3 : s₂ = ({ (U.calling g mk a).setFrames s₂.frames with heap := s₂.heap, slotsUsed := s₂.slotsUsed } : State).setVm s₂.vm := by
      have : s₂ = ({ s₂ with vm := (U.calling g mk a).vm } : State).setVm s₂.vm := rfl
      rw [e2] at this
      exact this
    obtain ⟨c₂, i₂, len₂, hc₂, hd₂, hf₂⟩ := hend
    have hW' : U.WarmedH s₂.vm := hW₂
    have hcc : c₂ = c := by
      have h1 : s₂.code? g.method = U.code? g.method := by
        rw [State.code?_eq, State.code?_eq, hW'.alike.method?]
      exact Option.some.inj (hc₂.symm.trans (h1.trans h.code))
    subst hcc
    have hlen : len₂ = len := by rw [hdg] at hd₂; cases hd₂; rfl
    subst hlen
    have hs₂ : s₂ = (({ U with heap := s₂.heap, slotsUsed := s₂.slotsUsed } : State).setVm s₂.vm).setTop { g with pc := g.pc + len₂, stack := v.toList ++ g.stack } := by
      refine e3.trans ?_
      rw [hf₂, State.calling_eq h.top, State.setFrames_setFrames, State.setTop_of_frames _ hr', hr]
      rfl
    have hsame : U.sameButNew ({ U with heap := s₂.heap, slotsUsed := s₂.slotsUsed } : State) L mc ms := by
      refine ⟨?_, q2, q3, q4, q5, q6⟩
      obtain ⟨t, ht, -⟩ := State.frames_cons hr
      show ({ U with heap := s₂.heap, slotsUsed := s₂.slotsUsed } : State) = { U.setFrames U.frames with heap := s₂.heap, slotsUsed := s₂.slotsUsed }
      rw [State.setFrames_self ht]
    subst hg
    refine Or.inl ⟨v, ⟨(({ U with heap := s₂.heap, slotsUsed := s₂.slotsUsed } : State).setVm s₂.vm), Ls ++ L, c0 + mc, s0 + ms⟩,
      ⟨X.admits, X.cas, X.clock, X.frames, X.room, X.hears, X.method, X.code, (X.here.setHeapUsed s₂.heap s₂.slotsUsed).setVm hW'.alike, X.tail, State.WarmedH.trans X.warmed hW', X.limits, X.bytes, X.same.trans (hsame.setVm s.vm)⟩,
      ⟨g, mk, s₂, L, rfl, rfl, hqc, rfl, hL, rfl, rfl⟩, ?_⟩
    show Steps p.tables e below _ ((({ U with heap := s₂.heap, slotsUsed := s₂.slotsUsed } : State).setVm s₂.vm).setTop { g with pc := g.pc + len₂, stack := v.toList ++ g.stack })
    rw [← hs₂]
    exact hsteps
  · obtain ⟨e2, q2, q3, q4, q5, q6⟩ := id hsm
    have e3 : s₂ = ({ (U.calling g mk a).setFrames s₂.frames with heap := s₂.heap, slotsUsed := s₂.slotsUsed } : State).setVm s₂.vm := by
      have : s₂ = ({ s₂ with vm := (U.calling g mk a).vm } : State).setVm s₂.vm := rfl
      rw [e2] at this
      exact this
    have hf₂ : s₂.frames = .throwing q :: .java g :: U.frames.tail := hend
    have hW' : U.WarmedH s₂.vm := hW₂
    have hs₂ : s₂ = ((({ U with heap := s₂.heap, slotsUsed := s₂.slotsUsed } : State).setVm s₂.vm).setTop g).pushFrame (.throwing q) := by
      refine e3.trans ?_
      rw [hf₂, State.calling_eq h.top, State.setFrames_setFrames, State.pushFrame, State.frames_setTop _ hr', State.setTop_of_frames _ hr', State.setFrames_setFrames, hr]
      rfl
    have hsame : U.sameButNew ({ U with heap := s₂.heap, slotsUsed := s₂.slotsUsed } : State) L mc ms := by
      refine ⟨?_, q2, q3, q4, q5, q6⟩
      obtain ⟨t, ht, -⟩ := State.frames_cons hr
      show ({ U with heap := s₂.heap, slotsUsed := s₂.slotsUsed } : State) = { U.setFrames U.frames with heap := s₂.heap, slotsUsed := s₂.slotsUsed }
      rw [State.setFrames_self ht]
    subst hg
    refine Or.inr ⟨q, ⟨(({ U with heap := s₂.heap, slotsUsed := s₂.slotsUsed } : State).setVm s₂.vm), Ls ++ L, c0 + mc, s0 + ms⟩,
      ⟨X.admits, X.cas, X.clock, X.frames, X.room, X.hears, X.method, X.code, (X.here.setHeapUsed s₂.heap s₂.slotsUsed).setVm hW'.alike, X.tail, State.WarmedH.trans X.warmed hW', X.limits, X.bytes, X.same.trans (hsame.setVm s.vm)⟩,
      ⟨g, mk, s₂, L, E, ce, rfl, rfl, hx, hce, hcv, hcl, rfl, hL, rfl, rfl⟩, ?_⟩
    show Steps p.tables e below _ (((({ U with heap := s₂.heap, slotsUsed := s₂.slotsUsed } : State).setVm s₂.vm).setTop g).pushFrame (.throwing q))
    rw [← hs₂]
    exact hsteps
end Payer
section Calls
variable {p : Program} {l : Launch} {e : Env} {R : Room} {s : State} {m : MethodId} {args : Array Value} {below : List Frame} {meth : Method} {c : Code} {T : State} {locs : List Loc} {cells slots : Nat}
theorem vx_callV (X : Stand p l e R s m args below meth c T locs cells slots) (hexec : p.tables.exec = Jvm.exec) {own C : String} {index : Nat} {y : MethodName} {bytes : ByteArray} {maxL : Nat} {ret : Option FieldType}
    (hown : s.vm.findClass own = some m.cls) (hlink : (Cond.methodLink own index y).before args s = true) (hinst : (Cond.instanceMethod y).before args s = true) (hsel : (Cond.selects C y y).before args s = true)
    (hcode : (Cond.code y bytes maxL ret).before args s = true) (hy : y.cls ≠ "java/lang/invoke/MethodHandle" ∧ y.cls ≠ "java/lang/invoke/VarHandle")
    {W9 : Nat} {Pre : Pt → Array Value → Prop} {Post : Pt → Array Value → Option Value → Pt → Prop} {PostX : Pt → Array Value → Addr → Pt → Prop} (hK : vx_Back l R p e below s args y 3 W9 Pre Post PostX)
    {b : Addr} {cellB : Cell} (hcell : T.heap[b]? = some cellB) (hobj : cellB.vm.isStatics = false) (hcls : s.vm.findClass C = some cellB.cls)
    {g : JFrame} (hg : g.method = m) (hsize : g.locals.size = c.maxLocals) {argsL rest : List Value} (hlen : ∀ sig, parseMethodDescriptor y.desc = some sig → argsL.length = sig.parameters.length)
    (hstack : g.stack = argsL.reverse ++ .ref b :: rest) (hW : 2 * g.monitorRoom + (rest.map fun v => v.category).sum ≤ W9) (hdg : decode c.code g.pc = .ok (.invokevirtual index, 3))
    (hpre : ∀ vm₁, s.WarmedH vm₁ → Pre ⟨T.setVm vm₁, locs, cells, slots⟩ (Value.ref b :: argsL).toArray) :
    (∃ (v : Option Value) (vm₁ : Vm) (B : Pt), s.WarmedH vm₁ ∧ Stand p l e R s m args below meth c B.U B.locs B.cells B.slots ∧ Post ⟨T.setVm vm₁, locs, cells, slots⟩ (Value.ref b :: argsL).toArray v B ∧
      ∀ target, Steps p.tables e below (B.U.setTop { g with pc := g.pc + 3, stack := v.toList ++ rest }) target → Steps p.tables e below (T.setTop g) target) ∨
    (∃ (q : Addr) (vm₁ : Vm) (B : Pt), s.WarmedH vm₁ ∧ Stand p l e R s m args below meth c B.U B.locs B.cells B.slots ∧ PostX ⟨T.setVm vm₁, locs, cells, slots⟩ (Value.ref b :: argsL).toArray q B ∧
      Steps p.tables e below (T.setTop g) ((B.U.setTop { g with stack := rest }).pushFrame (.throwing q))) := by
  obtain ⟨mk, methM, hnamed, hmethM, hstM, habM⟩ := Cond.instanceMethod_spec hinst
  obtain ⟨methM', cM, hmethM', -, -, -, -, -, -, hsigM⟩ := Cond.code_spec hnamed hcode
  cases hmethM.symm.trans hmethM'
  obtain ⟨c2, r2, m2, q1, q2, q3, q4, kP, hkP, hkPi⟩ := Cond.selects_spec hsel
  cases hcls.symm.trans q1
  cases (State.methodFound?_of_named hnamed hy).symm.trans q2
  cases hnamed.symm.trans q3
  have hselP : selectMethod e.platform s.vm cellB.cls mk = .method mk := by rw [Launch.admits_selectMethod X.admits]; exact q4
  obtain ⟨vm₁, X₁, hstep₁⟩ := X.invokevirtual hexec hown hlink hnamed hmethM hstM hkP hkPi hy (a := b) (cell := cellB) hcell
    (fun z h => by rw [h] at hobj; cases hobj) hselP hmethM habM hkP hkPi (g := g) hg (argsL := argsL) (rest := rest) (hlen _ hsigM) hstack hdg
  rcases hK m meth c ⟨T.setVm vm₁, locs, cells, slots⟩ { g with stack := rest } (.invokevirtual index) mk (Value.ref b :: argsL).toArray X₁ hg hsize hdg hW (X₁.named hnamed) (hpre vm₁ X₁.warmed) with ⟨v, B, X', hpost, hsteps⟩ | ⟨q, B, X', hpost, hsteps⟩
  · exact Or.inl ⟨v, vm₁, B, X₁.warmed, X', hpost, fun target h => hstep₁ _ fun acts => by rw [doInvoke_state]; exact hsteps.trans h⟩
  · exact Or.inr ⟨q, vm₁, B, X₁.warmed, X', hpost, hstep₁ _ fun acts => by rw [doInvoke_state]; exact hsteps⟩
theorem vx_callS (X : Stand p l e R s m args below meth c T locs cells slots) (hexec : p.tables.exec = Jvm.exec) {own : String} {index : Nat} {y : MethodName} {bytes : ByteArray} {maxL : Nat} {ret : Option FieldType}
    (hown : s.vm.findClass own = some m.cls) (hlink : (Cond.methodLink own index y).before args s = true) (hstat : (Cond.static y).before args s = true) (hinit : (Cond.initialized y.cls).before args s = true)
    (hcode : (Cond.code y bytes maxL ret).before args s = true) (hy : y.cls ≠ "java/lang/invoke/MethodHandle" ∧ y.cls ≠ "java/lang/invoke/VarHandle")
    {W9 : Nat} {Pre : Pt → Array Value → Prop} {Post : Pt → Array Value → Option Value → Pt → Prop} {PostX : Pt → Array Value → Addr → Pt → Prop} (hK : vx_Back l R p e below s args y 3 W9 Pre Post PostX)
    {g : JFrame} (hg : g.method = m) (hsize : g.locals.size = c.maxLocals) {argsL rest : List Value} (hlen : ∀ sig, parseMethodDescriptor y.desc = some sig → argsL.length = sig.parameters.length)
    (hstack : g.stack = argsL.reverse ++ rest) (hW : 2 * g.monitorRoom + (rest.map fun v => v.category).sum ≤ W9) (hdg : decode c.code g.pc = .ok (.invokestatic index, 3))
    (hpre : ∀ vm₁, s.WarmedH vm₁ → Pre ⟨T.setVm vm₁, locs, cells, slots⟩ argsL.toArray) :
    (∃ (v : Option Value) (vm₁ : Vm) (B : Pt), s.WarmedH vm₁ ∧ Stand p l e R s m args below meth c B.U B.locs B.cells B.slots ∧ Post ⟨T.setVm vm₁, locs, cells, slots⟩ argsL.toArray v B ∧
      ∀ target, Steps p.tables e below (B.U.setTop { g with pc := g.pc + 3, stack := v.toList ++ rest }) target → Steps p.tables e below (T.setTop g) target) ∨
    (∃ (q : Addr) (vm₁ : Vm) (B : Pt), s.WarmedH vm₁ ∧ Stand p l e R s m args below meth c B.U B.locs B.cells B.slots ∧ PostX ⟨T.setVm vm₁, locs, cells, slots⟩ argsL.toArray q B ∧
      Steps p.tables e below (T.setTop g) ((B.U.setTop { g with stack := rest }).pushFrame (.throwing q))) := by
  obtain ⟨mk, hnamed⟩ := Cond.code_named hcode
  obtain ⟨methM, cM, hmethM, -, -, -, -, -, -, hsigM⟩ := Cond.code_spec hnamed hcode
  have hstatic : methM.isStatic = true := Cond.static_spec hnamed hmethM hstat
  obtain ⟨kP, hkP, -⟩ := className_of_methodNamed hnamed
  have hinitP : kP.init = .initialized := Cond.initialized_spec (findClass_of_methodNamed hnamed) hkP hinit
  obtain ⟨vm₁, X₁, hstep₁⟩ := X.invokestatic hexec hown hlink hnamed hmethM hstatic hkP hinitP hy (g := g) hg (argsL := argsL) (rest := rest) (hlen _ hsigM) hstack hdg
  rcases hK m meth c ⟨T.setVm vm₁, locs, cells, slots⟩ { g with stack := rest } (.invokestatic index) mk argsL.toArray X₁ hg hsize hdg hW (X₁.named hnamed) (hpre vm₁ X₁.warmed) with ⟨v, B, X', hpost, hsteps⟩ | ⟨q, B, X', hpost, hsteps⟩
  · exact Or.inl ⟨v, vm₁, B, X₁.warmed, X', hpost, fun target h => hstep₁ _ fun acts => by rw [doInvoke_state]; exact hsteps.trans h⟩
  · exact Or.inr ⟨q, vm₁, B, X₁.warmed, X', hpost, hstep₁ _ fun acts => by rw [doInvoke_state]; exact hsteps⟩
end Calls
theorem vx_cls {s : State} {T : State} {vm₁ : Vm} {E : String} {k : ClassId} (hW : s.WarmedH vm₁) (h : (T.setVm vm₁).vm.findClass E = some k) : s.vm.findClass E = some k := by
  have h1 : vm₁.findClass E = some k := h
  rw [hW.alike.findClass] at h1
  exact h1
/-- the method's frame g, with q thrown over it -/
def vx_W (p : Program) (l : Launch) (e : Env) (R : Room) (s : State) (m : MethodId) (args : Array Value) (below : List Frame) (meth : Method) (c : Code) (H : Heap) (locs : List Loc) (cells slots : Nat) (Q : State → Prop) (g : JFrame) (q : Addr) : Prop :=
  ∀ T : State, T.heap = H → Stand p l e R s m args below meth c T locs cells slots → ∃ t, Steps p.tables e below ((T.setTop g).pushFrame (.throwing q)) t ∧ Q t
def vx_Run (p : Program) (l : Launch) (e : Env) (R : Room) (s : State) (m : MethodId) (args : Array Value) (below : List Frame) (meth : Method) (c : Code) (H : Heap) (locs : List Loc) (cells slots mc ms : Nat) (g : JFrame) (rest : List Value) (Qa : State → Outcome → State → Prop) (XC : String → State → State → Prop) (free : Addr → Prop) : Prop :=
  ∀ T : State, T.heap = H → Stand p l e R s m args below meth c T locs cells slots →
    (∃ (v : Option Value) (st₀ t T' : State) (L : List Loc), st₀.heap = H ∧ Stand p l e R s m args below meth c T' (locs ++ L) (cells + mc) (slots + ms) ∧ (∀ q ∈ L, free q.base) ∧ T'.heap = t.heap ∧ T'.vm = t.vm ∧ Qa st₀ (.returned v) t ∧
      Goes p e below T g T' { g with pc := g.pc + 3, stack := v.toList ++ rest }) ∨
    (∃ (q : Addr) (st₀ t T' : State) (L : List Loc) (E : String) (ce : Cell), st₀.heap = H ∧ Stand p l e R s m args below meth c T' (locs ++ L) (cells + mc) (slots + ms) ∧ (∀ z ∈ L, free z.base) ∧ T'.heap = t.heap ∧ T'.vm = t.vm ∧ XC E st₀ t ∧ t.heap[q]? = some ce ∧ ce.vm = .none ∧ s.vm.findClass E = some ce.cls ∧
      Steps p.tables e below (T.setTop g) ((T'.setTop { g with stack := rest }).pushFrame (.throwing q)))
def vx_X {S : Type} (px : S → Prop) (B : String → S → State → Prop) (A : Nat → Prop) : String → State → State → Prop := fun E st t => ∃ u : S, px u ∧ B E u t ∧ va_F A st t
section Runs
variable {p : Program} {l : Launch} {e : Env} {R : Room} {s : State} {m : MethodId} {args : Array Value} {below : List Frame} {meth : Method} {c : Code} {H : Heap} {locs : List Loc} {cells slots : Nat}
variable {y : MethodName} {bytes cc : ByteArray} {maxL nL mc ms n index : Nat} {ret : Option FieldType} {ws : List Cond} {rm : Room} {Pc : Array Value → State → Prop} {Qc : Array Value → State → Outcome → State → Prop} {XC : String → State → State → Prop} {free : Addr → Prop} {Ts : List Cond} {own C : String} {b : Addr} {As rest : List Value} {g : JFrame}
theorem vx_callBack (cb : CallB R s args own index y bytes maxL ret ws rm mc ms n) (hM : vx_Met l y ws rm Pc Qc XC mc ms free) (hbl : FrameBlind Pc) : vx_Back l R p e below s args y 3 8 (PreOf R mc ms Pc) (PostOf Qc mc ms free) (vx_Post XC mc ms free) := by
  obtain ⟨hrc, hrs, hfr, hlo, hws, hcw, -, hini, -⟩ := cb
  exact vx_back (bytes := bytes) (maxL := maxL) (ret := ret) hM hbl hrc hrs hfr hlo hws hcw (fun a' U hW => word_at hW (Or.inl (by first | rfl | simp [Cond.onTables, Cond.keeps, Cond.steady])) hini)
theorem vx_runV (S : CallFix p m c cc nL s args Ts own) (hM : vx_Met l y ws rm Pc Qc XC mc ms free) (cw : CallW R s args own C index y bytes maxL ret ws rm mc ms n) (hp : PreV s H C b Pc As)
    (hg : g.method = m) (hn : As.length = n) (hsize : g.locals.size = nL) (hstack : g.stack = As.reverse ++ .ref b :: rest) (hW : 2 * g.monitorRoom + (rest.map fun v => v.category).sum ≤ 8) (hdg : decode cc g.pc = .ok (.invokevirtual index, 3)) (hf : cells + mc ≤ R.cells ∧ slots + ms ≤ R.slots) :
    vx_Run p l e R s m args below meth c H locs cells slots mc ms g rest (Qc (Value.ref b :: As).toArray) XC free := by
  have hK : vx_Back l R p e below s args y 3 8 (PreOf R mc ms Pc) (PostOf Qc mc ms free) (vx_Post XC mc ms free) := vx_callBack cw.1 hM hp.1
  obtain ⟨⟨-, -, -, -, -, -, hcode, -, hy, hlen, hl⟩, hin, hse⟩ := cw
  obtain ⟨hx, hb, hml, ho, -⟩ := S
  obtain ⟨-, ⟨cellB, hcB, hoB, hclB⟩, hPc⟩ := hp
  intro T hT X
  rcases vx_callV X hx (C := C) (bytes := bytes) (maxL := maxL) (ret := ret) ho hl hin hse hcode hy hK (by rw [hT]; exact hcB) hoB hclB hg (hsize.trans hml.symm) (argsL := As) (rest := rest) (fun sig h => hn.trans (hlen sig h)) hstack hW (by rw [hb]; exact hdg)
    (fun vm₁ hW₁ => ⟨hf.1, hf.2, hPc (T.setVm vm₁) hT hW₁⟩) with ⟨v, vm₁, ⟨U', l2, c2, s2⟩, hW₁, X', ⟨g', mk, t, L, e1, e2, hq, h1, hL, h2, h3⟩, st⟩ | ⟨q, vm₁, ⟨U', l2, c2, s2⟩, hW₁, X', ⟨g', mk, t, L, E, ce, e1, e2, hq, hce, hcv, hcl, h1, hL, h2, h3⟩, st⟩
  · dsimp only [Pt.U, Pt.locs, Pt.cells, Pt.slots] at X' e1 e2 h1 h2 h3 st
    subst h1; subst h2; subst h3
    exact Or.inl ⟨v, (T.setVm vm₁).calling g' mk (Value.ref b :: As).toArray, t, U', L, hT, X', hL, e1, e2, hq, st⟩
  · dsimp only [Pt.U, Pt.locs, Pt.cells, Pt.slots] at X' e1 e2 h1 h2 h3 st hcl
    subst h1; subst h2; subst h3
    exact Or.inr ⟨q, (T.setVm vm₁).calling g' mk (Value.ref b :: As).toArray, t, U', L, E, ce, hT, X', hL, e1, e2, hq, hce, hcv, vx_cls hW₁ hcl, st⟩
theorem vx_runS (S : CallFix p m c cc nL s args Ts own) (hM : vx_Met l y ws rm Pc Qc XC mc ms free) (cw : CallB R s args own index y bytes maxL ret ws rm mc ms n ∧ (Cond.static y).before args s = true) (hp : PreS s H Pc As)
    (hg : g.method = m) (hn : As.length = n) (hsize : g.locals.size = nL) (hstack : g.stack = As.reverse ++ rest) (hW : 2 * g.monitorRoom + (rest.map fun v => v.category).sum ≤ 8) (hdg : decode cc g.pc = .ok (.invokestatic index, 3)) (hf : cells + mc ≤ R.cells ∧ slots + ms ≤ R.slots) :
    vx_Run p l e R s m args below meth c H locs cells slots mc ms g rest (Qc As.toArray) XC free := by
  have hK : vx_Back l R p e below s args y 3 8 (PreOf R mc ms Pc) (PostOf Qc mc ms free) (vx_Post XC mc ms free) := vx_callBack cw.1 hM hp.1
  obtain ⟨⟨-, -, -, -, -, -, hcode, hini, hy, hlen, hl⟩, hstt⟩ := cw
  obtain ⟨hx, hb, hml, ho, -⟩ := S
  intro T hT X
  rcases vx_callS X hx (bytes := bytes) (maxL := maxL) (ret := ret) ho hl hstt hini hcode hy hK hg (hsize.trans hml.symm) (argsL := As) (rest := rest) (fun sig h => hn.trans (hlen sig h)) hstack hW (by rw [hb]; exact hdg)
    (fun vm₁ hW₁ => ⟨hf.1, hf.2, hp.2 (T.setVm vm₁) hT hW₁⟩) with ⟨v, vm₁, ⟨U', l2, c2, s2⟩, hW₁, X', ⟨g', mk, t, L, e1, e2, hq, h1, hL, h2, h3⟩, st⟩ | ⟨q, vm₁, ⟨U', l2, c2, s2⟩, hW₁, X', ⟨g', mk, t, L, E, ce, e1, e2, hq, hce, hcv, hcl, h1, hL, h2, h3⟩, st⟩
  · dsimp only [Pt.U, Pt.locs, Pt.cells, Pt.slots] at X' e1 e2 h1 h2 h3 st
    subst h1; subst h2; subst h3
    exact Or.inl ⟨v, (T.setVm vm₁).calling g' mk As.toArray, t, U', L, hT, X', hL, e1, e2, hq, st⟩
  · dsimp only [Pt.U, Pt.locs, Pt.cells, Pt.slots] at X' e1 e2 h1 h2 h3 st hcl
    subst h1; subst h2; subst h3
    exact Or.inr ⟨q, (T.setVm vm₁).calling g' mk As.toArray, t, U', L, E, ce, hT, X', hL, e1, e2, hq, hce, hcv, vx_cls hW₁ hcl, st⟩
end Runs
section Rows
variable {p : Program} {l : Launch} {e : Env} {R : Room} {s : State} {m : MethodId} {args : Array Value} {below : List Frame} {meth : Method} {c : Code} {H : Heap} {locs : List Loc} {cells slots : Nat} {Q : State → Prop}
variable {mc ms : Nat} {free : Addr → Prop} {A0 A1 : Nat → Prop} {H0 : Heap} {a : Array Value} {pc : Nat} {ls : Array Slot} {st0 rest : List Value}
theorem vx_keep {st₀ t T' : State} {L : List Loc} (h0 : st₀.heap = H) (e1 : T'.heap = t.heap) (hS : va_S A0 H0 H locs) (hA : ∀ q, q < H.size → A1 q → A0 q) (hf : ∀ q, free q → A0 q) (hL : ∀ q ∈ L, free q.base) (hF : va_F A1 st₀ t) :
    H.size ≤ T'.heap.size ∧ (∀ q : Nat, q < H.size → ¬ A1 q → T'.heap[q]? = H[q]?) ∧ va_S A0 H0 T'.heap (locs ++ L) := by
  obtain ⟨hz, hk⟩ := hF
  rw [h0] at hz hk
  exact ⟨by rw [e1]; exact hz, fun q h1 h2 => by rw [e1]; exact hk q h1 h2,
    ⟨Nat.le_trans hS.1 (by rw [e1]; exact hz), fun q h1 h2 => by rw [e1, hk q (Nat.lt_of_lt_of_le h1 hS.1) (fun z => h2 (hA q (Nat.lt_of_lt_of_le h1 hS.1) z))]; exact hS.2.1 q h1 h2, fun q hq => by
      rcases List.mem_append.mp hq with h | h
      · exact hS.2.2 q h
      · exact hf _ (hL q h)⟩⟩
theorem vx_calli {S SX : Type} {post : Int32 → S → Prop} {px : SX → Prop} {B : S → State → Prop} {BX : String → SX → State → Prop} {AX : Nat → Prop} (hr : vx_Run p l e R s m args below meth c H locs cells slots mc ms (F0 m pc ls st0) rest (va_Qi post B A1 a) (vx_X px BX AX) free) (hS : va_S A0 H0 H locs) (hA : ∀ q, q < H.size → A1 q → A0 q) (hf : ∀ q, free q → A0 q) (hAX : ∀ q, q < H.size → AX q → A0 q)
    (kx : ∀ (E : String) (ce : Cell) (q9 : Addr) (u : SX) (t : State) (H1 : Heap) (locs1 : List Loc), t.heap = H1 → s.vm.Alike t.vm → px u → BX E u t → H.size ≤ H1.size → (∀ q : Nat, q < H.size → ¬ AX q → H1[q]? = H[q]?) → va_S A0 H0 H1 locs1 → H1[q9]? = some ce → ce.vm = .none → s.vm.findClass E = some ce.cls → vx_W p l e R s m args below meth c H1 locs1 (cells + mc) (slots + ms) Q (F0 m pc ls rest) q9)
    (kk : ∀ (r : Int32) (u : S) (t : State) (H1 : Heap) (locs1 : List Loc), t.heap = H1 → s.vm.Alike t.vm → post r u → B u t → H.size ≤ H1.size → (∀ q : Nat, q < H.size → ¬ A1 q → H1[q]? = H[q]?) → va_S A0 H0 H1 locs1 → W p l e R s m args below meth c H1 locs1 (cells + mc) (slots + ms) Q (F0 m (pc + 3) ls (.int r :: rest))) : W p l e R s m args below meth c H locs cells slots Q (F0 m pc ls st0) := by
  intro T hT X
  rcases hr T hT X with ⟨v, st₀, t, T', L, h0, X', hL, e1, e2, ⟨⟨r, u, hv, hp, hb⟩, hF⟩, st⟩ | ⟨q, st₀, t, T', L, E, ce, h0, X', hL, e1, e2, ⟨u, hp, hb, hF⟩, hce, hcv, hcl, st⟩
  · cases hv
    obtain ⟨k1, k2, k3⟩ := vx_keep h0 e1 hS hA hf hL hF
    obtain ⟨t2, a1, b1⟩ := kk r u t T'.heap (locs ++ L) e1.symm (by rw [← e2]; exact X'.warmed.alike) hp hb k1 k2 k3 T' rfl X'
    exact ⟨t2, st t2 a1, b1⟩
  · obtain ⟨k1, k2, k3⟩ := vx_keep h0 e1 hS hAX hf hL hF
    obtain ⟨t2, a1, b1⟩ := kx E ce q u t T'.heap (locs ++ L) e1.symm (by rw [← e2]; exact X'.warmed.alike) hp hb k1 k2 k3 (by rw [e1]; exact hce) hcv hcl T' rfl X'
    exact ⟨t2, st.trans a1, b1⟩
theorem vx_calll {S SX : Type} {post : Int64 → S → Prop} {px : SX → Prop} {B : S → State → Prop} {BX : String → SX → State → Prop} {AX : Nat → Prop} (hr : vx_Run p l e R s m args below meth c H locs cells slots mc ms (F0 m pc ls st0) rest (va_Ql post B A1 a) (vx_X px BX AX) free) (hS : va_S A0 H0 H locs) (hA : ∀ q, q < H.size → A1 q → A0 q) (hf : ∀ q, free q → A0 q) (hAX : ∀ q, q < H.size → AX q → A0 q)
    (kx : ∀ (E : String) (ce : Cell) (q9 : Addr) (u : SX) (t : State) (H1 : Heap) (locs1 : List Loc), t.heap = H1 → s.vm.Alike t.vm → px u → BX E u t → H.size ≤ H1.size → (∀ q : Nat, q < H.size → ¬ AX q → H1[q]? = H[q]?) → va_S A0 H0 H1 locs1 → H1[q9]? = some ce → ce.vm = .none → s.vm.findClass E = some ce.cls → vx_W p l e R s m args below meth c H1 locs1 (cells + mc) (slots + ms) Q (F0 m pc ls rest) q9)
    (kk : ∀ (r : Int64) (u : S) (t : State) (H1 : Heap) (locs1 : List Loc), t.heap = H1 → s.vm.Alike t.vm → post r u → B u t → H.size ≤ H1.size → (∀ q : Nat, q < H.size → ¬ A1 q → H1[q]? = H[q]?) → va_S A0 H0 H1 locs1 → W p l e R s m args below meth c H1 locs1 (cells + mc) (slots + ms) Q (F0 m (pc + 3) ls (.long r :: rest))) : W p l e R s m args below meth c H locs cells slots Q (F0 m pc ls st0) := by
  intro T hT X
  rcases hr T hT X with ⟨v, st₀, t, T', L, h0, X', hL, e1, e2, ⟨⟨r, u, hv, hp, hb⟩, hF⟩, st⟩ | ⟨q, st₀, t, T', L, E, ce, h0, X', hL, e1, e2, ⟨u, hp, hb, hF⟩, hce, hcv, hcl, st⟩
  · cases hv
    obtain ⟨k1, k2, k3⟩ := vx_keep h0 e1 hS hA hf hL hF
    obtain ⟨t2, a1, b1⟩ := kk r u t T'.heap (locs ++ L) e1.symm (by rw [← e2]; exact X'.warmed.alike) hp hb k1 k2 k3 T' rfl X'
    exact ⟨t2, st t2 a1, b1⟩
  · obtain ⟨k1, k2, k3⟩ := vx_keep h0 e1 hS hAX hf hL hF
    obtain ⟨t2, a1, b1⟩ := kx E ce q u t T'.heap (locs ++ L) e1.symm (by rw [← e2]; exact X'.warmed.alike) hp hb k1 k2 k3 (by rw [e1]; exact hce) hcv hcl T' rfl X'
    exact ⟨t2, st.trans a1, b1⟩
theorem vx_callf {S SX : Type} {post : UInt32 → S → Prop} {px : SX → Prop} {B : S → State → Prop} {BX : String → SX → State → Prop} {AX : Nat → Prop} (hr : vx_Run p l e R s m args below meth c H locs cells slots mc ms (F0 m pc ls st0) rest (va_Qf post B A1 a) (vx_X px BX AX) free) (hS : va_S A0 H0 H locs) (hA : ∀ q, q < H.size → A1 q → A0 q) (hf : ∀ q, free q → A0 q) (hAX : ∀ q, q < H.size → AX q → A0 q)
    (kx : ∀ (E : String) (ce : Cell) (q9 : Addr) (u : SX) (t : State) (H1 : Heap) (locs1 : List Loc), t.heap = H1 → s.vm.Alike t.vm → px u → BX E u t → H.size ≤ H1.size → (∀ q : Nat, q < H.size → ¬ AX q → H1[q]? = H[q]?) → va_S A0 H0 H1 locs1 → H1[q9]? = some ce → ce.vm = .none → s.vm.findClass E = some ce.cls → vx_W p l e R s m args below meth c H1 locs1 (cells + mc) (slots + ms) Q (F0 m pc ls rest) q9)
    (kk : ∀ (r : UInt32) (u : S) (t : State) (H1 : Heap) (locs1 : List Loc), t.heap = H1 → s.vm.Alike t.vm → post r u → B u t → H.size ≤ H1.size → (∀ q : Nat, q < H.size → ¬ A1 q → H1[q]? = H[q]?) → va_S A0 H0 H1 locs1 → W p l e R s m args below meth c H1 locs1 (cells + mc) (slots + ms) Q (F0 m (pc + 3) ls (.float r :: rest))) : W p l e R s m args below meth c H locs cells slots Q (F0 m pc ls st0) := by
  intro T hT X
  rcases hr T hT X with ⟨v, st₀, t, T', L, h0, X', hL, e1, e2, ⟨⟨r, u, hv, hp, hb⟩, hF⟩, st⟩ | ⟨q, st₀, t, T', L, E, ce, h0, X', hL, e1, e2, ⟨u, hp, hb, hF⟩, hce, hcv, hcl, st⟩
  · cases hv
    obtain ⟨k1, k2, k3⟩ := vx_keep h0 e1 hS hA hf hL hF
    obtain ⟨t2, a1, b1⟩ := kk r u t T'.heap (locs ++ L) e1.symm (by rw [← e2]; exact X'.warmed.alike) hp hb k1 k2 k3 T' rfl X'
    exact ⟨t2, st t2 a1, b1⟩
  · obtain ⟨k1, k2, k3⟩ := vx_keep h0 e1 hS hAX hf hL hF
    obtain ⟨t2, a1, b1⟩ := kx E ce q u t T'.heap (locs ++ L) e1.symm (by rw [← e2]; exact X'.warmed.alike) hp hb k1 k2 k3 (by rw [e1]; exact hce) hcv hcl T' rfl X'
    exact ⟨t2, st.trans a1, b1⟩
theorem vx_calld {S SX : Type} {post : UInt64 → S → Prop} {px : SX → Prop} {B : S → State → Prop} {BX : String → SX → State → Prop} {AX : Nat → Prop} (hr : vx_Run p l e R s m args below meth c H locs cells slots mc ms (F0 m pc ls st0) rest (va_Qd post B A1 a) (vx_X px BX AX) free) (hS : va_S A0 H0 H locs) (hA : ∀ q, q < H.size → A1 q → A0 q) (hf : ∀ q, free q → A0 q) (hAX : ∀ q, q < H.size → AX q → A0 q)
    (kx : ∀ (E : String) (ce : Cell) (q9 : Addr) (u : SX) (t : State) (H1 : Heap) (locs1 : List Loc), t.heap = H1 → s.vm.Alike t.vm → px u → BX E u t → H.size ≤ H1.size → (∀ q : Nat, q < H.size → ¬ AX q → H1[q]? = H[q]?) → va_S A0 H0 H1 locs1 → H1[q9]? = some ce → ce.vm = .none → s.vm.findClass E = some ce.cls → vx_W p l e R s m args below meth c H1 locs1 (cells + mc) (slots + ms) Q (F0 m pc ls rest) q9)
    (kk : ∀ (r : UInt64) (u : S) (t : State) (H1 : Heap) (locs1 : List Loc), t.heap = H1 → s.vm.Alike t.vm → post r u → B u t → H.size ≤ H1.size → (∀ q : Nat, q < H.size → ¬ A1 q → H1[q]? = H[q]?) → va_S A0 H0 H1 locs1 → W p l e R s m args below meth c H1 locs1 (cells + mc) (slots + ms) Q (F0 m (pc + 3) ls (.double r :: rest))) : W p l e R s m args below meth c H locs cells slots Q (F0 m pc ls st0) := by
  intro T hT X
  rcases hr T hT X with ⟨v, st₀, t, T', L, h0, X', hL, e1, e2, ⟨⟨r, u, hv, hp, hb⟩, hF⟩, st⟩ | ⟨q, st₀, t, T', L, E, ce, h0, X', hL, e1, e2, ⟨u, hp, hb, hF⟩, hce, hcv, hcl, st⟩
  · cases hv
    obtain ⟨k1, k2, k3⟩ := vx_keep h0 e1 hS hA hf hL hF
    obtain ⟨t2, a1, b1⟩ := kk r u t T'.heap (locs ++ L) e1.symm (by rw [← e2]; exact X'.warmed.alike) hp hb k1 k2 k3 T' rfl X'
    exact ⟨t2, st t2 a1, b1⟩
  · obtain ⟨k1, k2, k3⟩ := vx_keep h0 e1 hS hAX hf hL hF
    obtain ⟨t2, a1, b1⟩ := kx E ce q u t T'.heap (locs ++ L) e1.symm (by rw [← e2]; exact X'.warmed.alike) hp hb k1 k2 k3 (by rw [e1]; exact hce) hcv hcl T' rfl X'
    exact ⟨t2, st.trans a1, b1⟩
theorem vx_callv {S SX : Type} {post : S → Prop} {px : SX → Prop} {B : S → State → Prop} {BX : String → SX → State → Prop} {AX : Nat → Prop} (hr : vx_Run p l e R s m args below meth c H locs cells slots mc ms (F0 m pc ls st0) rest (va_Qv post B A1 a) (vx_X px BX AX) free) (hS : va_S A0 H0 H locs) (hA : ∀ q, q < H.size → A1 q → A0 q) (hf : ∀ q, free q → A0 q) (hAX : ∀ q, q < H.size → AX q → A0 q)
    (kx : ∀ (E : String) (ce : Cell) (q9 : Addr) (u : SX) (t : State) (H1 : Heap) (locs1 : List Loc), t.heap = H1 → s.vm.Alike t.vm → px u → BX E u t → H.size ≤ H1.size → (∀ q : Nat, q < H.size → ¬ AX q → H1[q]? = H[q]?) → va_S A0 H0 H1 locs1 → H1[q9]? = some ce → ce.vm = .none → s.vm.findClass E = some ce.cls → vx_W p l e R s m args below meth c H1 locs1 (cells + mc) (slots + ms) Q (F0 m pc ls rest) q9)
    (kk : ∀ (u : S) (t : State) (H1 : Heap) (locs1 : List Loc), t.heap = H1 → s.vm.Alike t.vm → post u → B u t → H.size ≤ H1.size → (∀ q : Nat, q < H.size → ¬ A1 q → H1[q]? = H[q]?) → va_S A0 H0 H1 locs1 → W p l e R s m args below meth c H1 locs1 (cells + mc) (slots + ms) Q (F0 m (pc + 3) ls (rest))) : W p l e R s m args below meth c H locs cells slots Q (F0 m pc ls st0) := by
  intro T hT X
  rcases hr T hT X with ⟨v, st₀, t, T', L, h0, X', hL, e1, e2, ⟨⟨u, hv, hp, hb⟩, hF⟩, st⟩ | ⟨q, st₀, t, T', L, E, ce, h0, X', hL, e1, e2, ⟨u, hp, hb, hF⟩, hce, hcv, hcl, st⟩
  · cases hv
    obtain ⟨k1, k2, k3⟩ := vx_keep h0 e1 hS hA hf hL hF
    obtain ⟨t2, a1, b1⟩ := kk u t T'.heap (locs ++ L) e1.symm (by rw [← e2]; exact X'.warmed.alike) hp hb k1 k2 k3 T' rfl X'
    exact ⟨t2, st t2 a1, b1⟩
  · obtain ⟨k1, k2, k3⟩ := vx_keep h0 e1 hS hAX hf hL hF
    obtain ⟨t2, a1, b1⟩ := kx E ce q u t T'.heap (locs ++ L) e1.symm (by rw [← e2]; exact X'.warmed.alike) hp hb k1 k2 k3 (by rw [e1]; exact hce) hcv hcl T' rfl X'
    exact ⟨t2, st.trans a1, b1⟩
/-- caught by the row x of this method's table; the rows ahead don't take it -/
theorem vx_catch {own name : String} {E : String} {ce : Cell} {q : Addr} (hown : s.vm.findClass own = some m.cls) (pre : List ExceptionTableEntry) (x : ExceptionTableEntry) (suf : List ExceptionTableEntry) (hsplit : c.exceptionTable.toList = pre ++ x :: suf)
    (hpass : ∀ z ∈ pre, covers z pc = false ∨ (z.catchType ≠ 0 ∧ ∃ nm : String, (Cond.classLink own z.catchType nm).before args s = true ∧ va_Nc E nm s)) (hx : covers x pc = true) (h0 : x.catchType ≠ 0)
    (hlink : (Cond.classLink own x.catchType name).before args s = true) (hcast : (Cond.castable E name).before args s = true) (hcell : H[q]? = some ce) (hv : ce.vm = .none) (hcl : s.vm.findClass E = some ce.cls)
    (kk : W p l e R s m args below meth c H locs cells slots Q (F0 m x.handlerPc ls [.ref q])) : vx_W p l e R s m args below meth c H locs cells slots Q (F0 m pc ls rest) q := by
  intro T hT X
  have hpl : e.platform.magicAccessors = ({} : Platform).magicAccessors := by rw [X.admits.platform]
  obtain ⟨c3, c4, hc3, hc4, hasg⟩ := Cond.castable_spec hcast
  cases Option.some.inj (hc3.symm.trans hcl)
  obtain ⟨c5, hc5, hcl5⟩ := Cond.classLink_spec hown hlink e.platform hpl
  cases Option.some.inj (hc4.symm.trans hc5)
  obtain ⟨vm', X', st⟩ := X.thenCaughtThrough q (g := F0 m pc ls rest) rfl (Steps.refl _) (by rw [hT]; exact hcell) (by rw [hv]; rfl) (by obtain ⟨k9, h9, -⟩ := Vm.findClass_spec hcl; exact ⟨k9, h9⟩) pre x suf hsplit
    (fun z hz => by
      rcases hpass z hz with h | ⟨hz0, nm, hl1, hn1⟩
      · exact Or.inl h
      · obtain ⟨c6, hc6, hcl6⟩ := Cond.classLink_spec hown hl1 e.platform hpl
        obtain ⟨a8, b8, h1, h2, h3⟩ := hn1
        cases Option.some.inj (h1.symm.trans hcl)
        cases Option.some.inj (h2.symm.trans hc6)
        exact Or.inr ⟨hz0, _, hcl6, h3⟩) hx (Or.inr ⟨h0, c4, hcl5, hasg⟩)
  obtain ⟨t, a1, b1⟩ := kk (T.setVm vm') hT X'
  exact ⟨t, st.trans a1, b1⟩
end Rows
section Ends
variable {p : Program} {l : Launch} {e : Env} {R : Room} {s : State} {m : MethodId} {args : Array Value} {below : List Frame} {meth : Method} {c : Code} {H : Heap} {locs : List Loc} {cells slots : Nat} {Q : State → Prop}
variable {mc ms : Nat} {free : Addr → Prop} {A0 A1 : Nat → Prop} {H0 : Heap} {a : Array Value} {ls : Array Slot} {st0 rest : List Value}
variable {Qc : Array Value → State → Outcome → State → Prop} {XC : String → State → State → Prop}
/-- what a body that may throw owes at its end -/
def vx_MQ (below : List Frame) (Qc : Array Value → State → Outcome → State → Prop) (XC : String → State → State → Prop) (a : Array Value) (s : State) (mc ms : Nat) (free : Addr → Prop) : State → Prop := fun t =>
  ∃ o, t.status = .running ∧ Ended t below o ∧ vx_Q Qc XC mc ms free a s o t
theorem vx_ret {g : JFrame} {mc ms : Nat} (k : W p l e R s m args below meth c H locs cells slots (MQ below Qc args s mc ms free) g) : W p l e R s m args below meth c H locs cells slots (vx_MQ below Qc XC args s mc ms free) g := by
  intro T hT X
  obtain ⟨t, a1, o, b1, b2, b3, b4⟩ := k T hT X
  exact ⟨t, a1, o, b1, b2, Or.inl ⟨b3, b4⟩⟩
/-- not caught here: it goes on to the caller -/
theorem vx_widen {g : JFrame} {q : Addr} {k n : Nat} (h1 : cells ≤ k) (h2 : slots ≤ n) (kk : vx_W p l e R s m args below meth c H locs k n Q g q) : vx_W p l e R s m args below meth c H locs cells slots Q g q := fun T hT X => kk T hT (stand_widen X h1 h2)
theorem vx_out {pc : Nat} {E : String} {ce : Cell} {q : Addr} {mc ms : Nat} (hout : ∀ x ∈ c.exceptionTable.toList, covers x pc = false) (hlocks : meth.locks = false) (hcell : H[q]? = some ce) (hv : ce.vm = .none) (hcl : s.vm.findClass E = some ce.cls)
    (hx : ∀ t : State, t.heap = H → s.vm.Alike t.vm → XC E s t) (hf : ∀ z ∈ locs, free z.base) (hc : cells ≤ mc) (hs : slots ≤ ms) :
    vx_W p l e R s m args below meth c H locs cells slots (vx_MQ below Qc XC args s mc ms free) (F0 m pc ls rest) q := by
  intro T hT X
  obtain ⟨st1, hrun, hend, hW, hsm⟩ := X.leaveThrown q (g := F0 m pc ls rest) rfl rfl rfl hout hlocks
  have hcell9 : (T.setFrames (.throwing q :: below)).heap[q]? = some ce := by
    show T.heap[q]? = some ce
    rw [hT]; exact hcell
  exact ⟨_, st1, .threw q, hrun, hend, Or.inr ⟨q, rfl, E, ce, locs, hx _ hT hW.alike, hcell9, hv, hcl, hW, hsm.mono hc hs, hf⟩⟩
theorem vx_frame {U : State} {k n : Nat} (h : s.sameButNew ({ U with vm := s.vm } : State) locs k n) : s.heap.size ≤ U.heap.size ∧ ∀ q : Nat, q < s.heap.size → (∀ z ∈ locs, z.base ≠ q) → U.heap[q]? = s.heap[q]? := by
  obtain ⟨-, h2, -, -, -, h6⟩ := h
  refine ⟨h2, fun q hq hz => ?_⟩
  obtain ⟨c9, e1, e2, e3, e4⟩ := h6 q _ (Array.getElem?_eq_getElem hq)
  have hs : c9.slots = (s.heap[q]).slots := Array.ext_getElem? fun i => e4 i fun hm => hz _ hm rfl
  have h9 : c9 = s.heap[q] := by
    rw [hs] at e2
    exact e2
  have e5 : U.heap[q]? = some c9 := e1
  rw [e5, h9, Array.getElem?_eq_getElem hq]
/-- the words of a throw but the four that speak of the heap -/
def vx_no (w : Cond) : Bool := decide (w ≠ .isRef (.static Bundle.tN "UNASSIGNED_STACK" Bundle.steD)) && decide (w ≠ .isRef (.static Bundle.tN "SUPPRESSED_SENTINEL" Bundle.listD)) && decide (w ≠ .laysStatic Bundle.tN "UNASSIGNED_STACK" Bundle.steD) && decide (w ≠ .laysStatic Bundle.tN "SUPPRESSED_SENTINEL" Bundle.listD)
def vx_at0 (own : String) (ic : Nat) (X : String) (names : List String) : List Cond := (Bundle.ownAtoms0 own ic X names).filter vx_no
def vx_atS (own : String) (ic : Nat) (X : String) (names : List String) : List Cond := (Bundle.ownAtoms own ic X names).filter vx_no
/-- a word that the tables alone decide, or a good one -/
def vx_ot (w : Cond) : Bool := w.onTables || goodWord w
theorem vx_ot_at {args a' : Array Value} {s U : State} {w : Cond} (hW : s.WarmedH U.vm) (hvm : s.vm = U.vm) (hg : vx_ot w = true) (h : w.before args s = true) : w.before a' U = true := by
  simp only [vx_ot, Bool.or_eq_true] at hg
  rcases hg with hg | hg
  · exact va_tabs hg hvm h
  · exact word_at hW (good_of_word hg) h
/-- a list's words: the good ones out of the method's own list, the others by premises of their own -/
theorem vx_hat {args : Array Value} {s : State} {L B : List Cond} (h1 : ∀ w ∈ L.filter goodWord, w.before args s = true) (h2 : ∀ w ∈ L.filter (fun w => !goodWord w), w ∈ B) (h3 : ∀ w ∈ B, w.before args s = true) : ∀ w ∈ L, w.before args s = true := by
  intro w hw
  by_cases g : goodWord w = true
  · exact h1 w (List.mem_filter.mpr ⟨hw, g⟩)
  · refine h3 w (h2 w (List.mem_filter.mpr ⟨hw, ?_⟩))
    show (!goodWord w) = true
    cases hgw : goodWord w
    · rfl
    · exact absurd hgw g
theorem vx_c {args : Array Value} {s : State} {w : Cond} {B : List Cond} (h : w.before args s = true) (t : ∀ w ∈ B, w.before args s = true) : ∀ w' ∈ w :: B, w'.before args s = true := fun w' h' => (List.mem_cons.mp h').elim (fun e => by rw [e]; exact h) (t w')
theorem vx_n {args : Array Value} {s : State} : ∀ w ∈ ([] : List Cond), w.before args s = true := fun _ h => nomatch h
theorem vx_own {args : Array Value} {s : State} {L : List Cond} (h1 : ∀ w ∈ L.filter vx_no, w.before args s = true)
    (hU : (Cond.isRef (.static Bundle.tN "UNASSIGNED_STACK" Bundle.steD)).before args s = true) (hN : (Cond.isRef (.static Bundle.tN "SUPPRESSED_SENTINEL" Bundle.listD)).before args s = true)
    (lU : (Cond.laysStatic Bundle.tN "UNASSIGNED_STACK" Bundle.steD).before args s = true) (lN : (Cond.laysStatic Bundle.tN "SUPPRESSED_SENTINEL" Bundle.listD).before args s = true) : ∀ w ∈ L, w.before args s = true := by
  intro w hw
  by_cases e1 : w = .isRef (.static Bundle.tN "UNASSIGNED_STACK" Bundle.steD)
  · rw [e1]; exact hU
  · by_cases e2 : w = .isRef (.static Bundle.tN "SUPPRESSED_SENTINEL" Bundle.listD)
    · rw [e2]; exact hN
    · by_cases e3 : w = .laysStatic Bundle.tN "UNASSIGNED_STACK" Bundle.steD
      · rw [e3]; exact lU
      · by_cases e4 : w = .laysStatic Bundle.tN "SUPPRESSED_SENTINEL" Bundle.listD
        · rw [e4]; exact lN
        · exact h1 w (List.mem_filter.mpr ⟨hw, by unfold vx_no; rw [decide_eq_true e1, decide_eq_true e2, decide_eq_true e3, decide_eq_true e4]; rfl⟩)
/-- where a static field lies, its class's statics cell in H -/
def vx_L (C n d : String) (A : Nat → Prop) (U : State) (H : Heap) : Prop := ∃ (c : ClassId) (k : Class) (i : Nat) (f : Field) (a : Nat) (cell : Cell), U.vm.findClass C = some c ∧ U.fieldFound? C n d = some (c, k, i, f) ∧ f.isStatic = true ∧ k.statics = some a ∧ H[a]? = some cell ∧ cell.vm.isStatics = true ∧ cell.cls = c ∧ f.slot < cell.slots.size ∧ k.staticTypes[f.slot]? = some f.type ∧ ¬ A a
theorem vx_L.moved {C n d : String} {A : Nat → Prop} {u U : State} {H : Heap} (hvm : u.vm.Alike U.vm) (h : vx_L C n d A u H) : vx_L C n d A U H := by
  obtain ⟨c, k, i, f, a, cell, h1, h2, h3, h4, h5, h6, h7, h8, h9, h10⟩ := h
  obtain ⟨k', hi', he⟩ := State.fieldFound?_setVm hvm h2
  exact ⟨c, k', i, f, a, cell, by rw [hvm.findClass]; exact h1, hi', h3, by rw [he]; exact h4, h5, h6, h7, h8, by rw [he]; exact h9, h10⟩
theorem vx_L.kept {C n d : String} {A : Nat → Prop} {U : State} {H H1 : Heap} (h : vx_L C n d A U H) (hq : ∀ a : Nat, a < H.size → ¬ A a → H1[a]? = H[a]?) : vx_L C n d A U H1 := by
  obtain ⟨c, k, i, f, a, cell, h1, h2, h3, h4, h5, h6, h7, h8, h9, h10⟩ := h
  exact ⟨c, k, i, f, a, cell, h1, h2, h3, h4, by rw [hq a (Array.getElem?_eq_some_iff.mp h5).1 h10]; exact h5, h6, h7, h8, h9, h10⟩
theorem vx_L.narrow {C n d : String} {A B : Nat → Prop} {U : State} {H : Heap} (h : vx_L C n d A U H) (hAB : ∀ q, B q → A q) : vx_L C n d B U H := by
  obtain ⟨c, k, i, f, a, cell, h1, h2, h3, h4, h5, h6, h7, h8, h9, h10⟩ := h
  exact ⟨c, k, i, f, a, cell, h1, h2, h3, h4, h5, h6, h7, h8, h9, fun z => h10 (hAB _ z)⟩
theorem vx_L.word {C n d : String} {A : Nat → Prop} {s : State} {args : Array Value} (h : vx_L C n d A s s.heap) : (Cond.laysStatic C n d).before args s = true := by
  obtain ⟨c, k, i, f, a, cell, h1, h2, h3, h4, h5, h6, h7, h8, h9, -⟩ := h
  show (Cond.laysStatic C n d).holds args s none s [] = true
  exact Cond.laysStatic_of h1 h2 h3 h4 h5 h6 h7 h8 h9
/-- .. and what it holds: null or some reference -/
def vx_Zq (C n d : String) (A : Nat → Prop) (U : State) (H : Heap) : Prop := va_Zq C n d A U H ∧ vx_L C n d A U H
theorem vx_Zq.moved {C n d : String} {A : Nat → Prop} {u U : State} {H : Heap} (hvm : u.vm.Alike U.vm) (h : vx_Zq C n d A u H) : vx_Zq C n d A U H := ⟨va_Zq.moved hvm h.1, vx_L.moved hvm h.2⟩
theorem vx_Zq.kept {C n d : String} {A : Nat → Prop} {U : State} {H H1 : Heap} (h : vx_Zq C n d A U H) (hq : ∀ a : Nat, a < H.size → ¬ A a → H1[a]? = H[a]?) : vx_Zq C n d A U H1 := ⟨va_Zq.kept h.1 hq, vx_L.kept h.2 hq⟩
theorem vx_Zq.narrow {C n d : String} {A B : Nat → Prop} {U : State} {H : Heap} (h : vx_Zq C n d A U H) (hAB : ∀ q, B q → A q) : vx_Zq C n d B U H := ⟨va_Zq.narrow h.1 hAB, vx_L.narrow h.2 hAB⟩
theorem vx_Zqof {args : Array Value} {s : State} {C n d : String} {A : Nat → Prop} (hl : (Cond.laysStatic C n d).before args s = true) (hini : (Cond.initialized C).before args s = true) (h : (Cond.isRef (.static C n d)).before args s = true) (hA : ∀ a : Nat, a < s.heap.size → ¬ A a) : vx_Zq C n d A s s.heap := by
  refine ⟨va_Zqof hl hini h hA, ?_⟩
  obtain ⟨c, k, i, f, a, cell, h1, h2, h3, h4, h5, h6, h7, h8, h9⟩ := Cond.laysStatic_spec hl
  exact ⟨c, k, i, f, a, cell, h1, h2, h3, h4, h5, h6, h7, h8, h9, hA a (Array.getElem?_eq_some_iff.mp h5).1⟩
theorem vx_isRef {C n d : String} {v : Value} {A : Nat → Prop} {s : State} {args : Array Value} (h : va_Z C n d v A s s.heap) (hv : v.isRef = true) : (Cond.isRef (.static C n d)).before args s = true := by
  obtain ⟨cf, kf, fi, f, a, cell, h1, h2, h3, h4, h5, h6, h7, -⟩ := h
  have he : (Term.static C n d).eval args s none [] s = some v := by
    simp [Term.eval, State.fieldNamed?, h1, h2, h4, h5, h6, h7]
  simp only [Cond.before, Cond.holds, Cond.value, he]
  cases v <;> simp_all [Value.isRef]
theorem vx_isRefq {C n d : String} {A : Nat → Prop} {s : State} {args : Array Value} (h : va_Zq C n d A s s.heap) : (Cond.isRef (.static C n d)).before args s = true := by
  rcases h with h | ⟨t, h⟩
  · exact vx_isRef h rfl
  · exact vx_isRef h rfl
/-- the same frame, seen from here: as if the method were called anew in this heap -/
theorem vx_rebase {T : State} (X : Stand p l e R s m args below meth c T locs cells slots) {R' : Room} (hf : R'.frames ≤ R.frames) (hl : R'.locals ≤ R.locals) (hc : cells + R'.cells ≤ R.cells) (hs : slots + R'.slots ≤ R.slots) :
    Stand p l e R' ((T.setVm s.vm).setFrames (.invoking m args :: below)) m args below meth c T [] 0 0 := by
  have htop : (T.setVm s.vm).topJava?.isSome := X.here.top
  have hF : ((T.setVm s.vm).setFrames (.invoking m args :: below)).frames = .invoking m args :: below := State.frames_setFrames _ (State.cur_lt_of_top htop)
  obtain ⟨g₀, hg0⟩ := Option.isSome_iff_exists.mp htop
  obtain ⟨r, hr⟩ := State.topJava?_eq_some.mp hg0
  have hl9 : e.platform.stackLimits (T.setVm s.vm).me = e.platform.stackLimits s.me := X.limits
  have hb9 : (T.setVm s.vm).me.stackBytes = s.me.stackBytes := X.bytes
  refine ⟨X.admits, X.cas, X.clock, hF, ?_, X.hears, X.method, X.code, X.here, X.tail, X.warmed, ?_, ?_, ?_⟩
  · have h := X.room
    have hU : ((T.setVm s.vm).setFrames (.invoking m args :: below)).localsInUse = s.localsInUse := by
      rw [State.localsInUse_invoking hF (meth := meth) (c := c) X.method X.code, State.localsInUse_invoking X.frames X.method X.code]
    simp only [State.hasRoom, Bool.and_eq_true, decide_eq_true_eq] at h ⊢
    obtain ⟨⟨⟨⟨h1, h2, h3, h4, h5, h6⟩, h7⟩, h8⟩, h9⟩ := h
    rw [X.frames, List.length_cons] at h2 h3
    have q1 := X.heapSize
    have q2 := X.used
    simp only [hF, hU, List.length_cons, State.stackLimits_setFrames, State.stackBytes_setFrames, hl9, hb9]
    refine ⟨⟨⟨⟨by omega, by omega, by omega, by omega, by omega, h6⟩, ?_⟩, ?_⟩, X.book⟩
    · show T.heap.size + R'.cells ≤ e.platform.maxCells
      omega
    · show T.slotsUsed + R'.slots ≤ e.platform.maxSlots
      omega
  · rw [State.stackLimits_setFrames]; rfl
  · rw [State.stackBytes_setFrames]; rfl
  · refine ⟨?_, Nat.le_refl _, Nat.le_refl _, ?_, ?_, fun a c9 h9 => ⟨c9, h9, rfl, rfl, fun _ _ => rfl⟩⟩
    · obtain ⟨t, ht, -⟩ := State.frames_cons hr
      show T.setVm s.vm = { ((T.setVm s.vm).setFrames (.invoking m args :: below)).setFrames (T.setVm s.vm).frames with heap := T.heap, slotsUsed := T.slotsUsed }
      rw [State.setFrames_setFrames, State.setFrames_self ht]
      rfl
    · show T.slotsUsed = T.slotsUsed + ((T.heap.toList.drop T.heap.size).map (·.slots.size)).sum
      rw [List.drop_eq_nil_of_le (Nat.le_of_eq Array.length_toList)]
      rfl
    · show ((T.heap.toList.drop T.heap.size).map (·.slots.size)).sum ≤ 0
      rw [List.drop_eq_nil_of_le (Nat.le_of_eq Array.length_toList)]
      exact Nat.le_refl _
/-- 'throw new E()': new; dup; invokespecial; athrow -/
theorem vx_throw0 {cc : ByteArray} {pc : Nat} (hexec : p.tables.exec = Jvm.exec) (hb : c.code = cc) (hl : l.stackTraces = false) {own cls : String} {names : List String} {ik ic mc ms : Nat} {A : Nat → Prop}
    (hown : s.vm.findClass own = some m.cls) (hcls : Bundle.fit cls = true) (hnames : ∀ n ∈ names, Bundle.fit n = true)
    (hk : (Cond.classLink own ik cls).before args s = true) (hini : (Cond.initialized cls).before args s = true) (hat : ∀ w ∈ vx_at0 own ic cls names, w.before args s = true)
    (hgood : ∀ w ∈ Cond.classLink own ik cls :: Cond.initialized cls :: vx_at0 own ic cls names, vx_ot w = true)
    (hU : vx_Zq Bundle.tN "UNASSIGNED_STACK" Bundle.steD A s s.heap) (hN : vx_Zq Bundle.tN "SUPPRESSED_SENTINEL" Bundle.listD A s s.heap) (hS : va_S A s.heap H locs) (hsize : ls.size = c.maxLocals)
    (d0 : decode cc pc = .ok (.new ik, 3)) (d3 : decode cc (pc + 3) = .ok (.dup, 1)) (d4 : decode cc (pc + 4) = .ok (.invokespecial ic, 3)) (d7 : decode cc (pc + 7) = .ok (.athrow, 1))
    (hout : ∀ x ∈ c.exceptionTable.toList, covers x (pc + 7) = false)
    (hRframes : names.length + 3 < R.frames) (hRlocals : (rest.map fun v => v.category).sum + (13 * (names.length + 1) + 42) ≤ R.locals) (hRcells : cells + 1 ≤ R.cells) (hRslots : slots + 6 ≤ R.slots) (hlocks : meth.locks = false)
    (hx : ∀ t : State, s.vm.Alike t.vm → H.size ≤ t.heap.size → (∀ q : Nat, q < H.size → t.heap[q]? = H[q]?) → XC cls s t)
    (hf : ∀ z ∈ locs, free z.base) (hc : cells + 1 ≤ mc) (hs : slots + 6 ≤ ms) :
    W p l e R s m args below meth c H locs cells slots (vx_MQ below Qc XC args s mc ms free) (F0 m pc ls rest) := by
  intro T hT X
  have htr : e.platform.stackTraces = false := (show e.platform.stackTraces = l.stackTraces by rw [X.admits.platform]).trans hl
  have Y := vx_rebase X (R' := { frames := R.frames, locals := R.locals, cells := 1, slots := 6 }) (Nat.le_refl _) (Nat.le_refl _) hRcells hRslots
  obtain ⟨s', hA⟩ : ∃ z, z = (T.setVm s.vm).setFrames (.invoking m args :: below) := ⟨_, rfl⟩
  rw [← hA] at Y
  have hvm : s'.vm = s.vm := by rw [hA]; rfl
  have hhp : s'.heap = H := by rw [hA]; exact hT
  have hW0 : s.WarmedH s'.vm := by rw [hvm]; exact State.WarmedH.refl s
  have hat' : ∀ w ∈ vx_at0 own ic cls names, w.before args s' = true := fun w hw => vx_ot_at hW0 hvm.symm (hgood w (List.mem_cons_of_mem _ (List.mem_cons_of_mem _ hw))) (hat w hw)
  have hk' : (Cond.classLink own ik cls).before args s' = true := vx_ot_at hW0 hvm.symm (hgood _ List.mem_cons_self) hk
  have hini' : (Cond.initialized cls).before args s' = true := vx_ot_at hW0 hvm.symm (hgood _ (List.mem_cons_of_mem _ List.mem_cons_self)) hini
  have hU' : vx_Zq Bundle.tN "UNASSIGNED_STACK" Bundle.steD A s' s'.heap := by rw [hhp]; exact vx_Zq.moved hW0.alike (hU.kept hS.2.1)
  have hN' : vx_Zq Bundle.tN "SUPPRESSED_SENTINEL" Bundle.listD A s' s'.heap := by rw [hhp]; exact vx_Zq.moved hW0.alike (hN.kept hS.2.1)
  have h : ∀ w ∈ Bundle.ownAtoms0 own ic cls names, w.before args s' = true := vx_own hat' (vx_isRefq hU'.1) (vx_isRefq hN'.1) hU'.2.word hN'.2.word
  have hown' : s'.vm.findClass own = some m.cls := by rw [hvm]; exact hown
  have hins : (Cond.instantiable cls 6).before args s' = true := h _ (by simp [Bundle.ownAtoms0])
  obtain ⟨vm₁, cX, kX, hfX, hkX, -, -, X₁, st1⟩ := Y.newCold hexec (own := own) (C := cls) (index := ik) (n := 6) hown' hk' hins hini'
    (g := F0 m pc ls rest) rfl (by rw [hb]; exact d0) (Nat.le_refl _) (Nat.le_refl _)
  generalize hT1 : (T.setVm vm₁).pushCell { cls := cX, slots := kX.instanceTypes.map defaultValue, vm := .none } = T1 at X₁ st1
  have hcat : (Value.ref T.heap.size).category = 1 := rfl
  have hcellA : T1.heap[T.heap.size]? = some (freshCell cX kX) := by rw [← hT1]; exact State.heap_pushCell_size _ _
  have d3' : decode c.code (pc + 3) = .ok (.dup, 1) := by rw [hb]; exact d3
  obtain ⟨U, hsteps, hrun, hend, hW, hsame, ce, hce, hO⟩ := X₁.ctorThrow0 hexec htr (own := own) (cls := cls) (names := names) (ic := ic) hown' hcls hnames h (fun x hx => nomatch hx) hfX hkX hcellA (by rw [hhp, hT]; exact Nat.le_refl _)
    (g := { method := m, pc := pc + 4, locals := ls, stack := .ref T.heap.size :: .ref T.heap.size :: rest, locked := none }) rfl hsize rfl rfl (rest := rest) rfl
    (by rw [hb]; exact d4) (by rw [hb]; exact d7) hout hRframes (by simp only [List.map_cons, List.sum_cons, hcat]; omega) hlocks
  obtain ⟨f1, f2⟩ := vx_frame hsame
  rw [hhp] at f1 f2
  have hWs : s.WarmedH U.vm := State.WarmedH.trans hW0 hW
  have hcl : s.vm.findClass cls = some ce.cls := by
    have h9 := hO.cls
    rw [hvm] at h9
    exact h9
  have hall : s.sameButNew ({ U with vm := s.vm } : State) locs mc ms := by
    subst hA
    obtain ⟨e1, e2⟩ := hsame
    rw [State.setFrames_setFrames] at e1
    have h2 : (T.setVm s.vm).sameButNew ({ U with vm := s.vm } : State) [] (0 + 1) (0 + 6) := ⟨e1, e2⟩
    have h3 := X.same.trans h2
    rw [List.append_nil] at h3
    exact h3.mono hc hs
  refine ⟨U, ?_, .threw T.heap.size, hrun, hend, Or.inr ⟨T.heap.size, rfl, cls, ce, locs, hx U hWs.alike f1 (fun q hq => f2 q hq (fun z hz => nomatch hz)), hce, hO.vm, hcl, hWs, hall, hf⟩⟩
  refine st1 _ ?_
  show Steps p.tables e below (T1.setTop { method := m, pc := pc + 3, locals := ls, stack := .ref T.heap.size :: rest, locked := none }) _
  jvm_step X₁.here [X₁.here.top, hexec, d3', Value.category]
  exact hsteps
/-- 'throw new E("text")': new; dup; ldc; invokespecial; athrow -/
theorem vx_throwS {cc : ByteArray} {pc : Nat} (hexec : p.tables.exec = Jvm.exec) (hb : c.code = cc) (hl : l.stackTraces = false) {own cls text : String} {names : List String} {ik is ic mc ms sa : Nat} {A : Nat → Prop}
    (hown : s.vm.findClass own = some m.cls) (hcls : Bundle.fit cls = true) (hnames : ∀ n ∈ names, Bundle.fit n = true)
    (hk : (Cond.classLink own ik cls).before args s = true) (hini : (Cond.initialized cls).before args s = true) (hstr : vk_R own is text sa s) (hat : ∀ w ∈ vx_atS own ic cls names, w.before args s = true)
    (hgood : ∀ w ∈ Cond.classLink own ik cls :: Cond.initialized cls :: vx_atS own ic cls names, vx_ot w = true)
    (hU : vx_Zq Bundle.tN "UNASSIGNED_STACK" Bundle.steD A s s.heap) (hN : vx_Zq Bundle.tN "SUPPRESSED_SENTINEL" Bundle.listD A s s.heap) (hS : va_S A s.heap H locs) (hsize : ls.size = c.maxLocals)
    (d0 : decode cc pc = .ok (.new ik, 3)) (d3 : decode cc (pc + 3) = .ok (.dup, 1)) (d4 : decode cc (pc + 4) = .ok (.ldc is, 2)) (d6 : decode cc (pc + 6) = .ok (.invokespecial ic, 3)) (d9 : decode cc (pc + 9) = .ok (.athrow, 1))
    (hout : ∀ x ∈ c.exceptionTable.toList, covers x (pc + 9) = false)
    (hRframes : names.length + 3 < R.frames) (hRlocals : (rest.map fun v => v.category).sum + (13 * (names.length + 1) + 43) ≤ R.locals) (hRcells : cells + 1 ≤ R.cells) (hRslots : slots + 6 ≤ R.slots) (hlocks : meth.locks = false)
    (hx : ∀ t : State, s.vm.Alike t.vm → H.size ≤ t.heap.size → (∀ q : Nat, q < H.size → t.heap[q]? = H[q]?) → XC cls s t)
    (hf : ∀ z ∈ locs, free z.base) (hc : cells + 1 ≤ mc) (hs : slots + 6 ≤ ms) :
    W p l e R s m args below meth c H locs cells slots (vx_MQ below Qc XC args s mc ms free) (F0 m pc ls rest) := by
  intro T hT X
  have htr : e.platform.stackTraces = false := (show e.platform.stackTraces = l.stackTraces by rw [X.admits.platform]).trans hl
  have Y := vx_rebase X (R' := { frames := R.frames, locals := R.locals, cells := 1, slots := 6 }) (Nat.le_refl _) (Nat.le_refl _) hRcells hRslots
  obtain ⟨s', hA⟩ : ∃ z, z = (T.setVm s.vm).setFrames (.invoking m args :: below) := ⟨_, rfl⟩
  rw [← hA] at Y
  have hvm : s'.vm = s.vm := by rw [hA]; rfl
  have hhp : s'.heap = H := by rw [hA]; exact hT
  have hW0 : s.WarmedH s'.vm := by rw [hvm]; exact State.WarmedH.refl s
  have hat' : ∀ w ∈ vx_atS own ic cls names, w.before args s' = true := fun w hw => vx_ot_at hW0 hvm.symm (hgood w (List.mem_cons_of_mem _ (List.mem_cons_of_mem _ hw))) (hat w hw)
  have hk' : (Cond.classLink own ik cls).before args s' = true := vx_ot_at hW0 hvm.symm (hgood _ List.mem_cons_self) hk
  have hini' : (Cond.initialized cls).before args s' = true := vx_ot_at hW0 hvm.symm (hgood _ (List.mem_cons_of_mem _ List.mem_cons_self)) hini
  have hU' : vx_Zq Bundle.tN "UNASSIGNED_STACK" Bundle.steD A s' s'.heap := by rw [hhp]; exact vx_Zq.moved hW0.alike (hU.kept hS.2.1)
  have hN' : vx_Zq Bundle.tN "SUPPRESSED_SENTINEL" Bundle.listD A s' s'.heap := by rw [hhp]; exact vx_Zq.moved hW0.alike (hN.kept hS.2.1)
  have h : ∀ w ∈ Bundle.ownAtoms own ic cls names, w.before args s' = true := vx_own hat' (vx_isRefq hU'.1) (vx_isRefq hN'.1) hU'.2.word hN'.2.word
  have hown' : s'.vm.findClass own = some m.cls := by rw [hvm]; exact hown
  have hins : (Cond.instantiable cls 6).before args s' = true := h _ (by simp [Bundle.ownAtoms])
  obtain ⟨vm₁, cX, kX, hfX, hkX, -, -, X₁, st1⟩ := Y.newCold hexec (own := own) (C := cls) (index := ik) (n := 6) hown' hk' hins hini'
    (g := F0 m pc ls rest) rfl (by rw [hb]; exact d0) (Nat.le_refl _) (Nat.le_refl _)
  generalize hT1 : (T.setVm vm₁).pushCell { cls := cX, slots := kX.instanceTypes.map defaultValue, vm := .none } = T1 at X₁ st1
  have hcat : (Value.ref T.heap.size).category = 1 := rfl
  have hcellA : T1.heap[T.heap.size]? = some (freshCell cX kX) := by rw [← hT1]; exact State.heap_pushCell_size _ _
  have d3' : decode c.code (pc + 3) = .ok (.dup, 1) := by rw [hb]; exact d3
  have d4' : decode c.code (pc + 4) = .ok (.ldc is, 2) := by rw [hb]; exact d4
  have hstr' : vk_R own is text sa s' := vk_R.warm hW0 hstr
  obtain ⟨U, hsteps, hrun, hend, hW, hsame, ce, hce, hO⟩ := X₁.ctorThrowS hexec htr (own := own) (cls := cls) (names := names) (ic := ic) hown' hcls hnames h (fun x hx => nomatch hx) hfX hkX hcellA (by rw [hhp, hT]; exact Nat.le_refl _) (msg := .ref sa) rfl
    (g := { method := m, pc := pc + 6, locals := ls, stack := .ref sa :: .ref T.heap.size :: .ref T.heap.size :: rest, locked := none }) rfl hsize rfl rfl (rest := rest) rfl
    (by rw [hb]; exact d6) (by rw [hb]; exact d9) hout hRframes (by simp only [List.map_cons, List.sum_cons, hcat]; omega) hlocks
  obtain ⟨f1, f2⟩ := vx_frame hsame
  rw [hhp] at f1 f2
  have hWs : s.WarmedH U.vm := State.WarmedH.trans hW0 hW
  have hcl : s.vm.findClass cls = some ce.cls := by
    have h9 := hO.cls
    rw [hvm] at h9
    exact h9
  have hall : s.sameButNew ({ U with vm := s.vm } : State) locs mc ms := by
    subst hA
    obtain ⟨e1, e2⟩ := hsame
    rw [State.setFrames_setFrames] at e1
    have h2 : (T.setVm s.vm).sameButNew ({ U with vm := s.vm } : State) [] (0 + 1) (0 + 6) := ⟨e1, e2⟩
    have h3 := X.same.trans h2
    rw [List.append_nil] at h3
    exact h3.mono hc hs
  refine ⟨U, ?_, .threw T.heap.size, hrun, hend, Or.inr ⟨T.heap.size, rfl, cls, ce, locs, hx U hWs.alike f1 (fun q hq => f2 q hq (fun z hz => nomatch hz)), hce, hO.vm, hcl, hWs, hall, hf⟩⟩
  refine st1 _ ?_
  show Steps p.tables e below (T1.setTop { method := m, pc := pc + 3, locals := ls, stack := .ref T.heap.size :: rest, locked := none }) _
  jvm_step X₁.here [X₁.here.top, hexec, d3', Value.category]
  exact X₁.ldcString hexec (own := own) (text := text) (index := is) (a := sa) hown' hstr'.1 hstr'.2
    (g := { method := m, pc := pc + 4, locals := ls, stack := .ref T.heap.size :: .ref T.heap.size :: rest, locked := none }) rfl d4' _ hsteps
/-- 'throw new E("text")', the text by a wide index -/
theorem vx_throwSW {cc : ByteArray} {pc : Nat} (hexec : p.tables.exec = Jvm.exec) (hb : c.code = cc) (hl : l.stackTraces = false) {own cls text : String} {names : List String} {ik is ic mc ms sa : Nat} {A : Nat → Prop}
    (hown : s.vm.findClass own = some m.cls) (hcls : Bundle.fit cls = true) (hnames : ∀ n ∈ names, Bundle.fit n = true)
    (hk : (Cond.classLink own ik cls).before args s = true) (hini : (Cond.initialized cls).before args s = true) (hstr : vk_R own is text sa s) (hat : ∀ w ∈ vx_atS own ic cls names, w.before args s = true)
    (hgood : ∀ w ∈ Cond.classLink own ik cls :: Cond.initialized cls :: vx_atS own ic cls names, vx_ot w = true)
    (hU : vx_Zq Bundle.tN "UNASSIGNED_STACK" Bundle.steD A s s.heap) (hN : vx_Zq Bundle.tN "SUPPRESSED_SENTINEL" Bundle.listD A s s.heap) (hS : va_S A s.heap H locs) (hsize : ls.size = c.maxLocals)
    (d0 : decode cc pc = .ok (.new ik, 3)) (d3 : decode cc (pc + 3) = .ok (.dup, 1)) (d4 : decode cc (pc + 4) = .ok (.ldc_w is, 3)) (d7 : decode cc (pc + 7) = .ok (.invokespecial ic, 3)) (d10 : decode cc (pc + 10) = .ok (.athrow, 1))
    (hout : ∀ x ∈ c.exceptionTable.toList, covers x (pc + 10) = false)
    (hRframes : names.length + 3 < R.frames) (hRlocals : (rest.map fun v => v.category).sum + (13 * (names.length + 1) + 43) ≤ R.locals) (hRcells : cells + 1 ≤ R.cells) (hRslots : slots + 6 ≤ R.slots) (hlocks : meth.locks = false)
    (hx : ∀ t : State, s.vm.Alike t.vm → H.size ≤ t.heap.size → (∀ q : Nat, q < H.size → t.heap[q]? = H[q]?) → XC cls s t)
    (hf : ∀ z ∈ locs, free z.base) (hc : cells + 1 ≤ mc) (hs : slots + 6 ≤ ms) :
    W p l e R s m args below meth c H locs cells slots (vx_MQ below Qc XC args s mc ms free) (F0 m pc ls rest) := by
  intro T hT X
  have htr : e.platform.stackTraces = false := (show e.platform.stackTraces = l.stackTraces by rw [X.admits.platform]).trans hl
  have Y := vx_rebase X (R' := { frames := R.frames, locals := R.locals, cells := 1, slots := 6 }) (Nat.le_refl _) (Nat.le_refl _) hRcells hRslots
  obtain ⟨s', hA⟩ : ∃ z, z = (T.setVm s.vm).setFrames (.invoking m args :: below) := ⟨_, rfl⟩
  rw [← hA] at Y
  have hvm : s'.vm = s.vm := by rw [hA]; rfl
  have hhp : s'.heap = H := by rw [hA]; exact hT
  have hW0 : s.WarmedH s'.vm := by rw [hvm]; exact State.WarmedH.refl s
  have hat' : ∀ w ∈ vx_atS own ic cls names, w.before args s' = true := fun w hw => vx_ot_at hW0 hvm.symm (hgood w (List.mem_cons_of_mem _ (List.mem_cons_of_mem _ hw))) (hat w hw)
  have hk' : (Cond.classLink own ik cls).before args s' = true := vx_ot_at hW0 hvm.symm (hgood _ List.mem_cons_self) hk
  have hini' : (Cond.initialized cls).before args s' = true := vx_ot_at hW0 hvm.symm (hgood _ (List.mem_cons_of_mem _ List.mem_cons_self)) hini
  have hU' : vx_Zq Bundle.tN "UNASSIGNED_STACK" Bundle.steD A s' s'.heap := by rw [hhp]; exact vx_Zq.moved hW0.alike (hU.kept hS.2.1)
  have hN' : vx_Zq Bundle.tN "SUPPRESSED_SENTINEL" Bundle.listD A s' s'.heap := by rw [hhp]; exact vx_Zq.moved hW0.alike (hN.kept hS.2.1)
  have h : ∀ w ∈ Bundle.ownAtoms own ic cls names, w.before args s' = true := vx_own hat' (vx_isRefq hU'.1) (vx_isRefq hN'.1) hU'.2.word hN'.2.word
  have hown' : s'.vm.findClass own = some m.cls := by rw [hvm]; exact hown
  have hins : (Cond.instantiable cls 6).before args s' = true := h _ (by simp [Bundle.ownAtoms])
  obtain ⟨vm₁, cX, kX, hfX, hkX, -, -, X₁, st1⟩ := Y.newCold hexec (own := own) (C := cls) (index := ik) (n := 6) hown' hk' hins hini'
    (g := F0 m pc ls rest) rfl (by rw [hb]; exact d0) (Nat.le_refl _) (Nat.le_refl _)
  generalize hT1 : (T.setVm vm₁).pushCell { cls := cX, slots := kX.instanceTypes.map defaultValue, vm := .none } = T1 at X₁ st1
  have hcat : (Value.ref T.heap.size).category = 1 := rfl
  have hcellA : T1.heap[T.heap.size]? = some (freshCell cX kX) := by rw [← hT1]; exact State.heap_pushCell_size _ _
  have d3' : decode c.code (pc + 3) = .ok (.dup, 1) := by rw [hb]; exact d3
  have d4' : decode c.code (pc + 4) = .ok (.ldc_w is, 3) := by rw [hb]; exact d4
  have hstr' : vk_R own is text sa s' := vk_R.warm hW0 hstr
  obtain ⟨U, hsteps, hrun, hend, hW, hsame, ce, hce, hO⟩ := X₁.ctorThrowS hexec htr (own := own) (cls := cls) (names := names) (ic := ic) hown' hcls hnames h (fun x hx => nomatch hx) hfX hkX hcellA (by rw [hhp, hT]; exact Nat.le_refl _) (msg := .ref sa) rfl
    (g := { method := m, pc := pc + 7, locals := ls, stack := .ref sa :: .ref T.heap.size :: .ref T.heap.size :: rest, locked := none }) rfl hsize rfl rfl (rest := rest) rfl
    (by rw [hb]; exact d7) (by rw [hb]; exact d10) hout hRframes (by simp only [List.map_cons, List.sum_cons, hcat]; omega) hlocks
  obtain ⟨f1, f2⟩ := vx_frame hsame
  rw [hhp] at f1 f2
  have hWs : s.WarmedH U.vm := State.WarmedH.trans hW0 hW
  have hcl : s.vm.findClass cls = some ce.cls := by
    have h9 := hO.cls
    rw [hvm] at h9
    exact h9
  have hall : s.sameButNew ({ U with vm := s.vm } : State) locs mc ms := by
    subst hA
    obtain ⟨e1, e2⟩ := hsame
    rw [State.setFrames_setFrames] at e1
    have h2 : (T.setVm s.vm).sameButNew ({ U with vm := s.vm } : State) [] (0 + 1) (0 + 6) := ⟨e1, e2⟩
    have h3 := X.same.trans h2
    rw [List.append_nil] at h3
    exact h3.mono hc hs
  refine ⟨U, ?_, .threw T.heap.size, hrun, hend, Or.inr ⟨T.heap.size, rfl, cls, ce, locs, hx U hWs.alike f1 (fun q hq => f2 q hq (fun z hz => nomatch hz)), hce, hO.vm, hcl, hWs, hall, hf⟩⟩
  refine st1 _ ?_
  show Steps p.tables e below (T1.setTop { method := m, pc := pc + 3, locals := ls, stack := .ref T.heap.size :: rest, locked := none }) _
  jvm_step X₁.here [X₁.here.top, hexec, d3', Value.category]
  exact X₁.ldcStringW hexec (own := own) (text := text) (index := is) (a := sa) hown' hstr'.1 hstr'.2
    (g := { method := m, pc := pc + 4, locals := ls, stack := .ref T.heap.size :: .ref T.heap.size :: rest, locked := none }) rfl d4' _ hsteps
end Ends
section Bodies
variable {l : Launch}
theorem vx_ofW {y : MethodName} {ws ws' : List Cond} {rm : Room} {Pc : Array Value → State → Prop} {Qc : Array Value → State → Outcome → State → Prop} {XC : String → State → State → Prop} {mc ms : Nat} {free : Addr → Prop} {cc : ByteArray} {maxL : Nat} {ret : Option FieldType}
    (hy : plainName y.cls = true) (hw : ws = Cond.code y cc maxL ret :: ws')
    (body : ∀ p e s m args below meth c s₁, BodyLoose p l y (headSpec ws rm) cc maxL ret e s m args below meth c s₁ → c.maxLocals = maxL → (∀ x ∈ c.exceptionTable.toList, False) → Pc args s →
      W p l e (headSpec ws rm).room s m args below meth c s.heap [] 0 0 (vx_MQ below Qc XC args s mc ms free) (entryFrame m args maxL)) : vx_Met l y ws rm Pc Qc XC mc ms free := by
  refine MetFree.of_bodyS (code := cc) (maxLocals := maxL) (ret := ret) hy ?_ ?_
  · intro args s m h hn
    obtain ⟨meth, c, h1, h2, h3, h4, h5, h6, -, -⟩ := Cond.code_spec hn (atoms_spec (ws := ws) h _ (by rw [hw]; exact List.mem_cons_self))
    exact ⟨meth, c, h1, h2, h3, h4, h5, h6⟩
  · intro p e s m args below meth c s₁ B hml hP _
    have hh0 : s₁.heap = s.heap := by rw [B.state]; rfl
    have ht : ∀ x ∈ c.exceptionTable.toList, False := by
      obtain ⟨meth9, c9, h1, h2, -, -, -, -, h7, -⟩ := Cond.code_spec B.named (atoms_spec (ws := ws) B.pre _ (by rw [hw]; exact List.mem_cons_self))
      cases Option.some.inj (h1.symm.trans B.method)
      cases Option.some.inj (h2.symm.trans (Stand.of_body B).code)
      intro x hx
      rw [Array.isEmpty_iff.mp h7] at hx
      cases hx
    obtain ⟨t, a1, o, b1, b2, b3⟩ := body p e s m args below meth c s₁ B hml ht hP s₁ hh0 (Stand.of_body B)
    exact ⟨t, o, a1, b1, b2, b3⟩
/-- the table of a body with handlers -/
theorem vx_table {p : Program} {x y : MethodName} {S : Spec} {cc bytes : ByteArray} {maxL maxL' : Nat} {ret ret' : Option FieldType} {e : Env} {s s₁ : State} {m : MethodId} {args : Array Value} {below : List Frame} {meth : Method} {c : Code} {hh : List (Nat × Nat × Nat × Nat)}
    (B : BodyLoose p l y S cc maxL ret e s m args below meth c s₁) (h : (Cond.codeWith y bytes maxL' ret' hh).before args s = true) : c.exceptionTable.toList = tableOf hh := by
  obtain ⟨m9, meth9, c9, hn9, h1, h2, -, -, h6, -⟩ := Cond.codeWith_spec h
  cases Option.some.inj (hn9.symm.trans B.named)
  cases Option.some.inj (h1.symm.trans B.method)
  cases Option.some.inj (h2.symm.trans (Stand.of_body B).code)
  rw [← h6, table_eq]
end Bodies
end VXA
/-! ===== END ===== -/
/-! ===== BEGIN a static call of a method with an exception table ===== -/
section VXS
variable {p : Program} {l : Launch} {e : Env} {R : Room} {s : State} {m : MethodId} {args : Array Value} {below : List Frame} {meth : Method} {c : Code} {T : State} {H : Heap} {locs : List Loc} {cells slots : Nat}
abbrev vx_CSW (R : Room) (s : State) (args : Array Value) (own : String) (index : Nat) (y : MethodName) (bytes : ByteArray) (maxL : Nat) (ret : Option FieldType) (hh : List (Nat × Nat × Nat × Nat)) (ws : List Cond) (rm : Room) (mc ms n : Nat) : Prop :=
  (rm.cells = mc ∧ rm.slots = ms ∧ rm.frames + 1 ≤ R.frames ∧ 8 + (maxL + 11) + rm.locals ≤ R.locals ∧ (∀ w ∈ ws, ∀ (a' : Array Value) (U : State), s.WarmedH U.vm → w.before a' U = true) ∧ Cond.codeWith y bytes maxL ret hh ∈ ws) ∧
  (Cond.codeWith y bytes maxL ret hh).before args s = true ∧ (Cond.initialized y.cls).before args s = true ∧ (y.cls ≠ "java/lang/invoke/MethodHandle" ∧ y.cls ≠ "java/lang/invoke/VarHandle") ∧
  (∀ sig, parseMethodDescriptor y.desc = some sig → n = sig.parameters.length) ∧ (Cond.methodLink own index y).before args s = true ∧ (Cond.static y).before args s = true
theorem vx_cwSW {own : String} {index maxL mc ms : Nat} {y : MethodName} {bytes : ByteArray} {ret : Option FieldType} {hh : List (Nat × Nat × Nat × Nat)} {Ts ws ws' : List Cond} {rm : Room} (n : Nat) (ht : ∀ w ∈ Ts, w.before args s = true) (hT : GoodIn Ts (va_wsS own index y ws)) (hw : ws = Cond.codeWith y bytes maxL ret hh :: ws') (hrc : rm.cells = mc) (hrs : rm.slots = ms)
    (hd : y.cls ≠ "java/lang/invoke/MethodHandle" ∧ y.cls ≠ "java/lang/invoke/VarHandle" ∧ (parseMethodDescriptor y.desc).map (fun d => d.parameters.length) = some n) (hR : rm.frames + 1 ≤ R.frames ∧ 8 + (maxL + 11) + rm.locals ≤ R.locals) :
    vx_CSW R s args own index y bytes maxL ret hh ws rm mc ms n := by
  have ok : ∀ w ∈ va_wsS own index y ws, w.before args s = true := fun w h => ht w (hT w h).1
  have hG : GoodIn Ts ws := fun w h => hT w (by unfold va_wsS; exact List.mem_append_right _ h)
  have hc : Cond.codeWith y bytes maxL ret hh ∈ ws := by rw [hw]; exact List.mem_cons_self
  refine ⟨⟨hrc, hrs, hR.1, hR.2, pay_in ht hG, hc⟩, ht _ (hG _ hc).1, ok _ (by simp [va_wsS]), ⟨hd.1, hd.2.1⟩, fun sig h => ?_, ok _ (by simp [va_wsS]), ok _ (by simp [va_wsS])⟩
  have h2 := hd.2.2
  rw [h] at h2
  exact (Option.some.inj h2).symm
theorem vx_callSW (X : Stand p l e R s m args below meth c T locs cells slots) (hexec : p.tables.exec = Jvm.exec) {own : String} {index : Nat} {y : MethodName} {bytes : ByteArray} {maxL : Nat} {ret : Option FieldType} {hh : List (Nat × Nat × Nat × Nat)}
    (hown : s.vm.findClass own = some m.cls) (hlink : (Cond.methodLink own index y).before args s = true) (hstat : (Cond.static y).before args s = true) (hinit : (Cond.initialized y.cls).before args s = true)
    (hcode : (Cond.codeWith y bytes maxL ret hh).before args s = true) (hy : y.cls ≠ "java/lang/invoke/MethodHandle" ∧ y.cls ≠ "java/lang/invoke/VarHandle")
    {W9 : Nat} {Pre : Pt → Array Value → Prop} {Post : Pt → Array Value → Option Value → Pt → Prop} (hK : Back l R p e below s args y 3 W9 Pre Post)
    {g : JFrame} (hg : g.method = m) (hsize : g.locals.size = c.maxLocals) {argsL rest : List Value} (hlen : ∀ sig, parseMethodDescriptor y.desc = some sig → argsL.length = sig.parameters.length)
    (hstack : g.stack = argsL.reverse ++ rest) (hW : 2 * g.monitorRoom + (rest.map fun v => v.category).sum ≤ W9) (hdg : decode c.code g.pc = .ok (.invokestatic index, 3))
    (hpre : ∀ vm₁, s.WarmedH vm₁ → Pre ⟨T.setVm vm₁, locs, cells, slots⟩ argsL.toArray) :
    ∃ (v : Option Value) (vm₁ : Vm) (B : Pt), s.WarmedH vm₁ ∧ Stand p l e R s m args below meth c B.U B.locs B.cells B.slots ∧ Post ⟨T.setVm vm₁, locs, cells, slots⟩ argsL.toArray v B ∧
      ∀ target, Steps p.tables e below (B.U.setTop { g with pc := g.pc + 3, stack := v.toList ++ rest }) target → Steps p.tables e below (T.setTop g) target := by
  obtain ⟨mk, methM, cM, hnamed, hmethM, -, -, -, -, -, -, hsigM⟩ := Cond.codeWith_spec hcode
  have hstatic : methM.isStatic = true := Cond.static_spec hnamed hmethM hstat
  obtain ⟨kP, hkP, -⟩ := className_of_methodNamed hnamed
  have hinitP : kP.init = .initialized := Cond.initialized_spec (findClass_of_methodNamed hnamed) hkP hinit
  obtain ⟨vm₁, X₁, hstep₁⟩ := X.invokestatic hexec hown hlink hnamed hmethM hstatic hkP hinitP hy (g := g) hg (argsL := argsL) (rest := rest) (hlen _ hsigM) hstack hdg
  obtain ⟨v, B, X', hpost, hsteps⟩ := hK m meth c ⟨T.setVm vm₁, locs, cells, slots⟩ { g with stack := rest } (.invokestatic index) mk argsL.toArray X₁ hg hsize hdg hW (X₁.named hnamed) (hpre vm₁ X₁.warmed)
  exact ⟨v, vm₁, B, X₁.warmed, X', hpost, fun target h => hstep₁ _ fun acts => by rw [doInvoke_state]; exact hsteps.trans h⟩
theorem vx_runSW {y : MethodName} {bytes cc : ByteArray} {maxL nL mc ms n index : Nat} {ret : Option FieldType} {hh : List (Nat × Nat × Nat × Nat)} {ws : List Cond} {rm : Room} {Pc : Array Value → State → Prop} {Qc : Array Value → State → Outcome → State → Prop} {free : Addr → Prop} {Ts : List Cond} {own : String} {As rest : List Value} {g : JFrame}
    (S : CallFix p m c cc nL s args Ts own) (hM : Met l y ws rm Pc Qc mc ms free) (cw : vx_CSW R s args own index y bytes maxL ret hh ws rm mc ms n) (hp : PreS s H Pc As)
    (hg : g.method = m) (hn : As.length = n) (hsize : g.locals.size = nL) (hstack : g.stack = As.reverse ++ rest) (hW : 2 * g.monitorRoom + (rest.map fun v => v.category).sum ≤ 8) (hdg : decode cc g.pc = .ok (.invokestatic index, 3)) (hf : cells + mc ≤ R.cells ∧ slots + ms ≤ R.slots) :
    va_Run p l e R s m args below meth c H locs cells slots mc ms g rest (Qc As.toArray) (free) := by
  obtain ⟨⟨hrc, hrs, hfr, hlo, hws, hcw⟩, hcode, hini, hy, hlen, hl, hstt⟩ := cw
  have hK : Back l R p e below s args y 3 8 (PreOf R mc ms Pc) (PostOf Qc mc ms free) := va_backW (hh := hh) (bytes := bytes) (maxL := maxL) (ret := ret) hM hp.1 hrc hrs hfr hlo hws hcw (fun a' U hW => word_at hW (Or.inl (by first | rfl | simp [Cond.onTables, Cond.keeps, Cond.steady])) hini)
  obtain ⟨hx, hb, hml, ho, -⟩ := S
  intro T hT X
  obtain ⟨v, vm₁, ⟨U', l2, c2, s2⟩, hW₁, X', ⟨g', mk, t, L, e1, e2, hq, h1, hL, h2, h3⟩, st⟩ := vx_callSW X hx (hh := hh) (bytes := bytes) (maxL := maxL) (ret := ret) ho hl hstt hini hcode hy hK hg (hsize.trans hml.symm) (argsL := As) (rest := rest) (fun sig h => hn.trans (hlen sig h)) hstack hW (by rw [hb]; exact hdg)
    (fun vm₁ hW₁ => ⟨hf.1, hf.2, hp.2 (T.setVm vm₁) hT hW₁⟩)
  dsimp only [Pt.U, Pt.locs, Pt.cells, Pt.slots] at X' e1 e2 h1 h2 h3 st
  subst h1; subst h2; subst h3
  exact ⟨v, (T.setVm vm₁).calling g' mk As.toArray, t, U', L, hT, X', hL, e1, e2, hq, st⟩
/-- not caught here, past rows that name other classes: it goes on to the caller -/
theorem vx_outP {p : Program} {l : Launch} {e : Env} {R : Room} {s : State} {m : MethodId} {args : Array Value} {below : List Frame} {meth : Method} {c : Code} {H : Heap} {locs : List Loc} {cells slots : Nat} {free : Addr → Prop} {ls : Array Slot} {rest : List Value} {Qc : Array Value → State → Outcome → State → Prop} {XC : String → State → State → Prop}
    {pc : Nat} {own E : String} {ce : Cell} {q : Addr} {mc ms : Nat} (hown : s.vm.findClass own = some m.cls) (hlocks : meth.locks = false)
    (hpass : ∀ z ∈ c.exceptionTable.toList, covers z pc = false ∨ (z.catchType ≠ 0 ∧ ∃ nm : String, (Cond.classLink own z.catchType nm).before args s = true ∧ va_Nc E nm s)) (hcell : H[q]? = some ce) (hv : ce.vm = .none) (hcl : s.vm.findClass E = some ce.cls)
    (hx : ∀ t : State, t.heap = H → s.vm.Alike t.vm → XC E s t) (hf : ∀ z ∈ locs, free z.base) (hc : cells ≤ mc) (hs : slots ≤ ms) :
    vx_W p l e R s m args below meth c H locs cells slots (vx_MQ below Qc XC args s mc ms free) (F0 m pc ls rest) q := by
  intro T hT X
  have hpl : e.platform.magicAccessors = ({} : Platform).magicAccessors := by rw [X.admits.platform]
  obtain ⟨vm', hW', X', st⟩ := X.outThrough hlocks q (g := F0 m pc ls rest) rfl rfl rfl (cell := ce) (by rw [hT]; exact hcell) (by rw [hv]; rfl)
    (by obtain ⟨k9, h9, -⟩ := Vm.findClass_spec hcl; exact ⟨k9, h9⟩) (fun z hz => by
      rcases hpass z hz with h | ⟨hz0, nm, hl1, hn1⟩
      · exact Or.inl h
      · obtain ⟨c6, hc6, hcl6⟩ := Cond.classLink_spec hown hl1 e.platform hpl
        obtain ⟨a8, b8, h1, h2, h3⟩ := hn1
        cases Option.some.inj (h1.symm.trans hcl)
        cases Option.some.inj (h2.symm.trans hc6)
        exact Or.inr ⟨hz0, _, hcl6, h3⟩)
  obtain ⟨g₀, hfr⟩ := X'.frames_eq
  have hcell9 : ((T.setVm vm').setFrames (.throwing q :: below)).heap[q]? = some ce := by
    show T.heap[q]? = some ce
    rw [hT]; exact hcell
  have hend : Ended ((T.setVm vm').setFrames (.throwing q :: below)) below (.threw q) := State.frames_setFrames _ (State.cur_lt_of_frames hfr)
  refine ⟨(T.setVm vm').setFrames (.throwing q :: below), ?_, .threw q, X'.here.running, hend, Or.inr ⟨q, rfl, E, ce, locs, hx _ hT (X'.ends _).1.alike, hcell9, hv, hcl, (X'.ends _).1, (X'.ends _).2.mono hc hs, hf⟩⟩
  rw [X.pushThrowing_eq]
  exact st
/-- a thing of a world lies in the heap -/
theorem vx_lt {D : va_G} {cl : List vw_C} {ws : va_W} {H1 : Heap} (h : va_P D cl ws H1) {k : Nat} {q : Nat × va_E} (hk : ws[k]? = some q) : q.1 < H1.size := (h k q hk).lt
end VXS
/-! ===== END ===== -/
/-! ===== BEGIN methods with a table of their own: called by a name, returning or throwing ===== -/
section VXH
/-! vx_backW, vx_callVX, vx_callSX, vx_callVW, vx_runVW, vx_runVX, vx_runSX, vx_ofWH follow the same proofs as their sisters above (Free/Laws.lean, Shelf42/LK1.lean); vx_outP calls Shelf42/NT130.lean (outThrough). -/
section
variable {l : Launch} {R : Room} {p : Program} {e : Env} {below : List Frame} {s : State} {sargs : Array Value} {y : MethodName} {len W9 : Nat}
theorem vx_backW {ws : List Cond} {rm : Room} {Pc : Array Value → State → Prop} {Qc : Array Value → State → Outcome → State → Prop} {XC : String → State → State → Prop} {mc ms : Nat} {free : Addr → Prop} {bytes : ByteArray} {maxL : Nat} {ret : Option FieldType} {hh : List (Nat × Nat × Nat × Nat)}
    (hM : vx_Met l y ws rm Pc Qc XC mc ms free) (hblind : FrameBlind Pc) (hrc : rm.cells = mc) (hrs : rm.slots = ms)
    (hframes : rm.frames + 1 ≤ R.frames) (hlocals : W9 + (maxL + 11) + rm.locals ≤ R.locals)
    (hws : ∀ w ∈ ws, ∀ a' U, s.WarmedH U.vm → w.before a' U = true) (hcode : Cond.codeWith y bytes maxL ret hh ∈ ws) (hinit : ∀ a' U, s.WarmedH U.vm → (Cond.initialized y.cls).before a' U = true) :
    vx_Back l R p e below s sargs y len W9 (PreOf R mc ms Pc) (PostOf Qc mc ms free) (vx_Post XC mc ms free) := by
  intro m meth c A g ig mk a X hg hsize hdg hW hn hp
  have h1 : (headSpec ws rm).pre.before a A.U = true := atoms_intro fun w hw => hws w hw _ _ X.warmed
  have h2 : (Cond.codeWith y bytes maxL ret hh).before a A.U = true := hws _ hcode _ _ X.warmed
  have h3 : (Cond.initialized y.cls).before a A.U = true := hinit _ _ X.warmed
  have h4 : A.cells + (headSpec ws rm).room.cells ≤ R.cells := by rw [show (headSpec ws rm).room.cells = mc from hrc]; exact hp.1
  have h5 : A.slots + (headSpec ws rm).room.slots ≤ R.slots := by rw [show (headSpec ws rm).room.slots = ms from hrs]; exact hp.2.1
  have hPc : Pc a (A.U.calling g mk a) := hblind _ _ _ _ hp.2.2
  obtain ⟨U, Ls, c0, s0⟩ := A
  dsimp only [Pt.U, Pt.locs, Pt.cells, Pt.slots] at h1 h2 h3 h4 h5 X hn hPc ⊢
  obtain ⟨m9, methY, cY, hn9, hmY, hcY, -, hlY, -⟩ := Cond.codeWith_spec h2
  cases Option.some.inj (hn9.symm.trans hn)
  obtain ⟨kY, hkY, -⟩ := className_of_methodNamed hn
  have hinitY : kY.init = .initialized := Cond.initialized_spec (findClass_of_methodNamed hn) hkY h3
  have h : At U g.method c below := by rw [hg]; exact X.here
  have hlocals9 : W9 + (maxL + 11) + (headSpec ws rm).room.locals ≤ R.locals := hlocals
  have happ : (headSpec ws rm).appliesLoose y e.platform (U.calling g mk a) = true :=
    Spec.appliesLoose_calling (g := g) h hdg hn hkY hinitY
      (X.room_calling (g := g) (R' := (headSpec ws rm).room) hsize hmY hcY hframes (by rw [hlY]; omega) h4 h5) h1
  obtain ⟨mid, hmid⟩ := h.above
  have hfr : (U.setTop g).frames = (.java g :: mid) ++ below := by rw [State.frames_setTop' g h.top, hmid]; rfl
  obtain ⟨o, s₂, hsteps, -, hend, hq⟩ := Steps.callFree hM p X.admits X.cas X.clock (acts := []) hfr happ hPc trivial
  have hq' : vx_Q Qc XC mc ms free a (U.calling g mk a) o s₂ := hq
  rw [State.frames_setTop' g h.top] at hend
  obtain ⟨g₀, hg0⟩ := Option.isSome_iff_exists.mp h.top
  obtain ⟨r, hr⟩ := State.topJava?_eq_some.mp hg0
  have hr' : (({ U with heap := s₂.heap, slotsUsed := s₂.slotsUsed } : State).setVm s₂.vm).frames = .java g₀ :: r := hr
  rcases hq' with ⟨hqc, L, hfe, hL⟩ | ⟨q, rfl, E, ce, L, hx, hce, hcv, hcl, hW₂, hsm, hL⟩
  · obtain ⟨⟨v, rfl⟩, hW₂, e2, q2, q3, q4, q5, q6⟩ := id hfe
    have e3 : s₂ = ({ (U.calling g mk a).setFrames s₂.frames with heap := s₂.heap, slotsUsed := s₂.slotsUsed } : State).setVm s₂.vm := by
      have : s₂ = ({ s₂ with vm := (U.calling g mk a).vm } : State).setVm s₂.vm := rfl
      rw [e2] at this
      exact this
    obtain ⟨c₂, i₂, len₂, hc₂, hd₂, hf₂⟩ := hend
    have hW' : U.WarmedH s₂.vm := hW₂
    have hcc : c₂ = c := by
      have h1 : s₂.code? g.method = U.code? g.method := by
        rw [State.code?_eq, State.code?_eq, hW'.alike.method?]
      exact Option.some.inj (hc₂.symm.trans (h1.trans h.code))
    subst hcc
    have hlen : len₂ = len := by rw [hdg] at hd₂; cases hd₂; rfl
    subst hlen
    have hs₂ : s₂ = (({ U with heap := s₂.heap, slotsUsed := s₂.slotsUsed } : State).setVm s₂.vm).setTop { g with pc := g.pc + len₂, stack := v.toList ++ g.stack } := by
      refine e3.trans ?_
      rw [hf₂, State.calling_eq h.top, State.setFrames_setFrames, State.setTop_of_frames _ hr', hr]
      rfl
    have hsame : U.sameButNew ({ U with heap := s₂.heap, slotsUsed := s₂.slotsUsed } : State) L mc ms := by
      refine ⟨?_, q2, q3, q4, q5, q6⟩
      obtain ⟨t, ht, -⟩ := State.frames_cons hr
      show ({ U with heap := s₂.heap, slotsUsed := s₂.slotsUsed } : State) = { U.setFrames U.frames with heap := s₂.heap, slotsUsed := s₂.slotsUsed }
      rw [State.setFrames_self ht]
    subst hg
    refine Or.inl ⟨v, ⟨(({ U with heap := s₂.heap, slotsUsed := s₂.slotsUsed } : State).setVm s₂.vm), Ls ++ L, c0 + mc, s0 + ms⟩,
      ⟨X.admits, X.cas, X.clock, X.frames, X.room, X.hears, X.method, X.code, (X.here.setHeapUsed s₂.heap s₂.slotsUsed).setVm hW'.alike, X.tail, State.WarmedH.trans X.warmed hW', X.limits, X.bytes, X.same.trans (hsame.setVm s.vm)⟩,
      ⟨g, mk, s₂, L, rfl, rfl, hqc, rfl, hL, rfl, rfl⟩, ?_⟩
    show Steps p.tables e below _ ((({ U with heap := s₂.heap, slotsUsed := s₂.slotsUsed } : State).setVm s₂.vm).setTop { g with pc := g.pc + len₂, stack := v.toList ++ g.stack })
    rw [← hs₂]
    exact hsteps
  · obtain ⟨e2, q2, q3, q4, q5, q6⟩ := id hsm
    have e3 : s₂ = ({ (U.calling g mk a).setFrames s₂.frames with heap := s₂.heap, slotsUsed := s₂.slotsUsed } : State).setVm s₂.vm := by
      have : s₂ = ({ s₂ with vm := (U.calling g mk a).vm } : State).setVm s₂.vm := rfl
      rw [e2] at this
      exact this
    have hf₂ : s₂.frames = .throwing q :: .java g :: U.frames.tail := hend
    have hW' : U.WarmedH s₂.vm := hW₂
    have hs₂ : s₂ = ((({ U with heap := s₂.heap, slotsUsed := s₂.slotsUsed } : State).setVm s₂.vm).setTop g).pushFrame (.throwing q) := by
      refine e3.trans ?_
      rw [hf₂, State.calling_eq h.top, State.setFrames_setFrames, State.pushFrame, State.frames_setTop _ hr', State.setTop_of_frames _ hr', State.setFrames_setFrames, hr]
      rfl
    have hsame : U.sameButNew ({ U with heap := s₂.heap, slotsUsed := s₂.slotsUsed } : State) L mc ms := by
      refine ⟨?_, q2, q3, q4, q5, q6⟩
      obtain ⟨t, ht, -⟩ := State.frames_cons hr
      show ({ U with heap := s₂.heap, slotsUsed := s₂.slotsUsed } : State) = { U.setFrames U.frames with heap := s₂.heap, slotsUsed := s₂.slotsUsed }
      rw [State.setFrames_self ht]
    subst hg
    refine Or.inr ⟨q, ⟨(({ U with heap := s₂.heap, slotsUsed := s₂.slotsUsed } : State).setVm s₂.vm), Ls ++ L, c0 + mc, s0 + ms⟩,
      ⟨X.admits, X.cas, X.clock, X.frames, X.room, X.hears, X.method, X.code, (X.here.setHeapUsed s₂.heap s₂.slotsUsed).setVm hW'.alike, X.tail, State.WarmedH.trans X.warmed hW', X.limits, X.bytes, X.same.trans (hsame.setVm s.vm)⟩,
      ⟨g, mk, s₂, L, E, ce, rfl, rfl, hx, hce, hcv, hcl, rfl, hL, rfl, rfl⟩, ?_⟩
    show Steps p.tables e below _ (((({ U with heap := s₂.heap, slotsUsed := s₂.slotsUsed } : State).setVm s₂.vm).setTop g).pushFrame (.throwing q))
    rw [← hs₂]
    exact hsteps
end
variable {p : Program} {l : Launch} {e : Env} {R : Room} {s : State} {m : MethodId} {args : Array Value} {below : List Frame} {meth : Method} {c : Code} {T : State} {H : Heap} {locs : List Loc} {cells slots : Nat}
theorem vx_callVX (X : Stand p l e R s m args below meth c T locs cells slots) (hexec : p.tables.exec = Jvm.exec) {own C : String} {index : Nat} {y : MethodName} {bytes : ByteArray} {maxL : Nat} {ret : Option FieldType} {hh : List (Nat × Nat × Nat × Nat)}
    (hown : s.vm.findClass own = some m.cls) (hlink : (Cond.methodLink own index y).before args s = true) (hinst : (Cond.instanceMethod y).before args s = true) (hsel : (Cond.selects C y y).before args s = true)
    (hcode : (Cond.codeWith y bytes maxL ret hh).before args s = true) (hy : y.cls ≠ "java/lang/invoke/MethodHandle" ∧ y.cls ≠ "java/lang/invoke/VarHandle")
    {W9 : Nat} {Pre : Pt → Array Value → Prop} {Post : Pt → Array Value → Option Value → Pt → Prop} {PostX : Pt → Array Value → Addr → Pt → Prop} (hK : vx_Back l R p e below s args y 3 W9 Pre Post PostX)
    {b : Addr} {cellB : Cell} (hcell : T.heap[b]? = some cellB) (hobj : cellB.vm.isStatics = false) (hcls : s.vm.findClass C = some cellB.cls)
    {g : JFrame} (hg : g.method = m) (hsize : g.locals.size = c.maxLocals) {argsL rest : List Value} (hlen : ∀ sig, parseMethodDescriptor y.desc = some sig → argsL.length = sig.parameters.length)
    (hstack : g.stack = argsL.reverse ++ .ref b :: rest) (hW : 2 * g.monitorRoom + (rest.map fun v => v.category).sum ≤ W9) (hdg : decode c.code g.pc = .ok (.invokevirtual index, 3))
    (hpre : ∀ vm₁, s.WarmedH vm₁ → Pre ⟨T.setVm vm₁, locs, cells, slots⟩ (Value.ref b :: argsL).toArray) :
    (∃ (v : Option Value) (vm₁ : Vm) (B : Pt), s.WarmedH vm₁ ∧ Stand p l e R s m args below meth c B.U B.locs B.cells B.slots ∧ Post ⟨T.setVm vm₁, locs, cells, slots⟩ (Value.ref b :: argsL).toArray v B ∧
      ∀ target, Steps p.tables e below (B.U.setTop { g with pc := g.pc + 3, stack := v.toList ++ rest }) target → Steps p.tables e below (T.setTop g) target) ∨
    (∃ (q : Addr) (vm₁ : Vm) (B : Pt), s.WarmedH vm₁ ∧ Stand p l e R s m args below meth c B.U B.locs B.cells B.slots ∧ PostX ⟨T.setVm vm₁, locs, cells, slots⟩ (Value.ref b :: argsL).toArray q B ∧
      Steps p.tables e below (T.setTop g) ((B.U.setTop { g with stack := rest }).pushFrame (.throwing q))) := by
  obtain ⟨mk, methM, hnamed, hmethM, hstM, habM⟩ := Cond.instanceMethod_spec hinst
  obtain ⟨m8, methM', cM, hn8, hmethM', -, -, -, -, -, -, hsigM⟩ := Cond.codeWith_spec hcode
  cases Option.some.inj (hn8.symm.trans hnamed)
  cases hmethM.symm.trans hmethM'
  obtain ⟨c2, r2, m2, q1, q2, q3, q4, kP, hkP, hkPi⟩ := Cond.selects_spec hsel
  cases hcls.symm.trans q1
  cases (State.methodFound?_of_named hnamed hy).symm.trans q2
  cases hnamed.symm.trans q3
  have hselP : selectMethod e.platform s.vm cellB.cls mk = .method mk := by rw [Launch.admits_selectMethod X.admits]; exact q4
  obtain ⟨vm₁, X₁, hstep₁⟩ := X.invokevirtual hexec hown hlink hnamed hmethM hstM hkP hkPi hy (a := b) (cell := cellB) hcell
    (fun z h => by rw [h] at hobj; cases hobj) hselP hmethM habM hkP hkPi (g := g) hg (argsL := argsL) (rest := rest) (hlen _ hsigM) hstack hdg
  rcases hK m meth c ⟨T.setVm vm₁, locs, cells, slots⟩ { g with stack := rest } (.invokevirtual index) mk (Value.ref b :: argsL).toArray X₁ hg hsize hdg hW (X₁.named hnamed) (hpre vm₁ X₁.warmed) with ⟨v, B, X', hpost, hsteps⟩ | ⟨q, B, X', hpost, hsteps⟩
  · exact Or.inl ⟨v, vm₁, B, X₁.warmed, X', hpost, fun target h => hstep₁ _ fun acts => by rw [doInvoke_state]; exact hsteps.trans h⟩
  · exact Or.inr ⟨q, vm₁, B, X₁.warmed, X', hpost, hstep₁ _ fun acts => by rw [doInvoke_state]; exact hsteps⟩
theorem vx_callSX (X : Stand p l e R s m args below meth c T locs cells slots) (hexec : p.tables.exec = Jvm.exec) {own : String} {index : Nat} {y : MethodName} {bytes : ByteArray} {maxL : Nat} {ret : Option FieldType} {hh : List (Nat × Nat × Nat × Nat)}
    (hown : s.vm.findClass own = some m.cls) (hlink : (Cond.methodLink own index y).before args s = true) (hstat : (Cond.static y).before args s = true) (hinit : (Cond.initialized y.cls).before args s = true)
    (hcode : (Cond.codeWith y bytes maxL ret hh).before args s = true) (hy : y.cls ≠ "java/lang/invoke/MethodHandle" ∧ y.cls ≠ "java/lang/invoke/VarHandle")
    {W9 : Nat} {Pre : Pt → Array Value → Prop} {Post : Pt → Array Value → Option Value → Pt → Prop} {PostX : Pt → Array Value → Addr → Pt → Prop} (hK : vx_Back l R p e below s args y 3 W9 Pre Post PostX)
    {g : JFrame} (hg : g.method = m) (hsize : g.locals.size = c.maxLocals) {argsL rest : List Value} (hlen : ∀ sig, parseMethodDescriptor y.desc = some sig → argsL.length = sig.parameters.length)
    (hstack : g.stack = argsL.reverse ++ rest) (hW : 2 * g.monitorRoom + (rest.map fun v => v.category).sum ≤ W9) (hdg : decode c.code g.pc = .ok (.invokestatic index, 3))
    (hpre : ∀ vm₁, s.WarmedH vm₁ → Pre ⟨T.setVm vm₁, locs, cells, slots⟩ argsL.toArray) :
    (∃ (v : Option Value) (vm₁ : Vm) (B : Pt), s.WarmedH vm₁ ∧ Stand p l e R s m args below meth c B.U B.locs B.cells B.slots ∧ Post ⟨T.setVm vm₁, locs, cells, slots⟩ argsL.toArray v B ∧
      ∀ target, Steps p.tables e below (B.U.setTop { g with pc := g.pc + 3, stack := v.toList ++ rest }) target → Steps p.tables e below (T.setTop g) target) ∨
    (∃ (q : Addr) (vm₁ : Vm) (B : Pt), s.WarmedH vm₁ ∧ Stand p l e R s m args below meth c B.U B.locs B.cells B.slots ∧ PostX ⟨T.setVm vm₁, locs, cells, slots⟩ argsL.toArray q B ∧
      Steps p.tables e below (T.setTop g) ((B.U.setTop { g with stack := rest }).pushFrame (.throwing q))) := by
  obtain ⟨mk, methM, cM, hnamed, hmethM, -, -, -, -, -, -, hsigM⟩ := Cond.codeWith_spec hcode
  have hstatic : methM.isStatic = true := Cond.static_spec hnamed hmethM hstat
  obtain ⟨kP, hkP, -⟩ := className_of_methodNamed hnamed
  have hinitP : kP.init = .initialized := Cond.initialized_spec (findClass_of_methodNamed hnamed) hkP hinit
  obtain ⟨vm₁, X₁, hstep₁⟩ := X.invokestatic hexec hown hlink hnamed hmethM hstatic hkP hinitP hy (g := g) hg (argsL := argsL) (rest := rest) (hlen _ hsigM) hstack hdg
  rcases hK m meth c ⟨T.setVm vm₁, locs, cells, slots⟩ { g with stack := rest } (.invokestatic index) mk argsL.toArray X₁ hg hsize hdg hW (X₁.named hnamed) (hpre vm₁ X₁.warmed) with ⟨v, B, X', hpost, hsteps⟩ | ⟨q, B, X', hpost, hsteps⟩
  · exact Or.inl ⟨v, vm₁, B, X₁.warmed, X', hpost, fun target h => hstep₁ _ fun acts => by rw [doInvoke_state]; exact hsteps.trans h⟩
  · exact Or.inr ⟨q, vm₁, B, X₁.warmed, X', hpost, hstep₁ _ fun acts => by rw [doInvoke_state]; exact hsteps⟩
theorem vx_callVW (X : Stand p l e R s m args below meth c T locs cells slots) (hexec : p.tables.exec = Jvm.exec) {own C : String} {index : Nat} {y : MethodName} {bytes : ByteArray} {maxL : Nat} {ret : Option FieldType} {hh : List (Nat × Nat × Nat × Nat)}
    (hown : s.vm.findClass own = some m.cls) (hlink : (Cond.methodLink own index y).before args s = true) (hinst : (Cond.instanceMethod y).before args s = true) (hsel : (Cond.selects C y y).before args s = true)
    (hcode : (Cond.codeWith y bytes maxL ret hh).before args s = true) (hy : y.cls ≠ "java/lang/invoke/MethodHandle" ∧ y.cls ≠ "java/lang/invoke/VarHandle")
    {W9 : Nat} {Pre : Pt → Array Value → Prop} {Post : Pt → Array Value → Option Value → Pt → Prop} (hK : Back l R p e below s args y 3 W9 Pre Post)
    {b : Addr} {cellB : Cell} (hcell : T.heap[b]? = some cellB) (hobj : cellB.vm.isStatics = false) (hcls : s.vm.findClass C = some cellB.cls)
    {g : JFrame} (hg : g.method = m) (hsize : g.locals.size = c.maxLocals) {argsL rest : List Value} (hlen : ∀ sig, parseMethodDescriptor y.desc = some sig → argsL.length = sig.parameters.length)
    (hstack : g.stack = argsL.reverse ++ .ref b :: rest) (hW : 2 * g.monitorRoom + (rest.map fun v => v.category).sum ≤ W9) (hdg : decode c.code g.pc = .ok (.invokevirtual index, 3))
    (hpre : ∀ vm₁, s.WarmedH vm₁ → Pre ⟨T.setVm vm₁, locs, cells, slots⟩ (Value.ref b :: argsL).toArray) :
    ∃ (v : Option Value) (vm₁ : Vm) (B : Pt), s.WarmedH vm₁ ∧ Stand p l e R s m args below meth c B.U B.locs B.cells B.slots ∧ Post ⟨T.setVm vm₁, locs, cells, slots⟩ (Value.ref b :: argsL).toArray v B ∧
      ∀ target, Steps p.tables e below (B.U.setTop { g with pc := g.pc + 3, stack := v.toList ++ rest }) target → Steps p.tables e below (T.setTop g) target := by
  obtain ⟨mk, methM, hnamed, hmethM, hstM, habM⟩ := Cond.instanceMethod_spec hinst
  obtain ⟨m8, methM', cM, hn8, hmethM', -, -, -, -, -, -, hsigM⟩ := Cond.codeWith_spec hcode
  cases Option.some.inj (hn8.symm.trans hnamed)
  cases hmethM.symm.trans hmethM'
  obtain ⟨c2, r2, m2, q1, q2, q3, q4, kP, hkP, hkPi⟩ := Cond.selects_spec hsel
  cases hcls.symm.trans q1
  cases (State.methodFound?_of_named hnamed hy).symm.trans q2
  cases hnamed.symm.trans q3
  have hselP : selectMethod e.platform s.vm cellB.cls mk = .method mk := by rw [Launch.admits_selectMethod X.admits]; exact q4
  obtain ⟨vm₁, X₁, hstep₁⟩ := X.invokevirtual hexec hown hlink hnamed hmethM hstM hkP hkPi hy (a := b) (cell := cellB) hcell
    (fun z h => by rw [h] at hobj; cases hobj) hselP hmethM habM hkP hkPi (g := g) hg (argsL := argsL) (rest := rest) (hlen _ hsigM) hstack hdg
  obtain ⟨v, B, X', hpost, hsteps⟩ := hK m meth c ⟨T.setVm vm₁, locs, cells, slots⟩ { g with stack := rest } (.invokevirtual index) mk (Value.ref b :: argsL).toArray X₁ hg hsize hdg hW (X₁.named hnamed) (hpre vm₁ X₁.warmed)
  exact ⟨v, vm₁, B, X₁.warmed, X', hpost, fun target h => hstep₁ _ fun acts => by rw [doInvoke_state]; exact hsteps.trans h⟩
abbrev vx_CVW (R : Room) (s : State) (args : Array Value) (own C : String) (index : Nat) (y : MethodName) (bytes : ByteArray) (maxL : Nat) (ret : Option FieldType) (hh : List (Nat × Nat × Nat × Nat)) (ws : List Cond) (rm : Room) (mc ms n : Nat) : Prop :=
  (rm.cells = mc ∧ rm.slots = ms ∧ rm.frames + 1 ≤ R.frames ∧ 8 + (maxL + 11) + rm.locals ≤ R.locals ∧ (∀ w ∈ ws, ∀ (a' : Array Value) (U : State), s.WarmedH U.vm → w.before a' U = true) ∧ Cond.codeWith y bytes maxL ret hh ∈ ws) ∧
  (Cond.codeWith y bytes maxL ret hh).before args s = true ∧ (Cond.initialized y.cls).before args s = true ∧ (y.cls ≠ "java/lang/invoke/MethodHandle" ∧ y.cls ≠ "java/lang/invoke/VarHandle") ∧
  (∀ sig, parseMethodDescriptor y.desc = some sig → n = sig.parameters.length) ∧ (Cond.methodLink own index y).before args s = true ∧ (Cond.instanceMethod y).before args s = true ∧ (Cond.selects C y y).before args s = true
theorem vx_cwVW {own C : String} {index maxL mc ms : Nat} {y : MethodName} {bytes : ByteArray} {ret : Option FieldType} {hh : List (Nat × Nat × Nat × Nat)} {Ts ws ws' : List Cond} {rm : Room} (n : Nat) (ht : ∀ w ∈ Ts, w.before args s = true) (hT : GoodIn Ts (wsV own index C y ws)) (hw : ws = Cond.codeWith y bytes maxL ret hh :: ws') (hrc : rm.cells = mc) (hrs : rm.slots = ms)
    (hd : y.cls = C ∧ y.cls ≠ "java/lang/invoke/MethodHandle" ∧ y.cls ≠ "java/lang/invoke/VarHandle" ∧ (parseMethodDescriptor y.desc).map (fun d => d.parameters.length) = some n) (hR : rm.frames + 1 ≤ R.frames ∧ 8 + (maxL + 11) + rm.locals ≤ R.locals) :
    vx_CVW R s args own C index y bytes maxL ret hh ws rm mc ms n := by
  obtain ⟨hC, hd⟩ := hd
  subst hC
  have ok : ∀ w ∈ wsV own index y.cls y ws, w.before args s = true := fun w h => ht w (hT w h).1
  have hG : GoodIn Ts ws := fun w h => hT w (by unfold wsV; exact List.mem_append_right _ h)
  have hc : Cond.codeWith y bytes maxL ret hh ∈ ws := by rw [hw]; exact List.mem_cons_self
  refine ⟨⟨hrc, hrs, hR.1, hR.2, pay_in ht hG, hc⟩, ht _ (hG _ hc).1, ok _ (by simp [wsV]), ⟨hd.1, hd.2.1⟩, fun sig h => ?_, ok _ (by simp [wsV]), ok _ (by simp [wsV]), ok _ (by simp [wsV])⟩
  have h2 := hd.2.2
  rw [h] at h2
  exact (Option.some.inj h2).symm
theorem vx_runVW {y : MethodName} {bytes cc : ByteArray} {maxL nL mc ms n index : Nat} {ret : Option FieldType} {hh : List (Nat × Nat × Nat × Nat)} {ws : List Cond} {rm : Room} {Pc : Array Value → State → Prop} {Qc : Array Value → State → Outcome → State → Prop} {free : Addr → Prop} {Ts : List Cond} {own C : String} {b : Addr} {As rest : List Value} {g : JFrame}
    (S : CallFix p m c cc nL s args Ts own) (hM : Met l y ws rm Pc Qc mc ms free) (cw : vx_CVW R s args own C index y bytes maxL ret hh ws rm mc ms n) (hp : PreV s H C b Pc As)
    (hg : g.method = m) (hn : As.length = n) (hsize : g.locals.size = nL) (hstack : g.stack = As.reverse ++ .ref b :: rest) (hW : 2 * g.monitorRoom + (rest.map fun v => v.category).sum ≤ 8) (hdg : decode cc g.pc = .ok (.invokevirtual index, 3)) (hf : cells + mc ≤ R.cells ∧ slots + ms ≤ R.slots) :
    va_Run p l e R s m args below meth c H locs cells slots mc ms g rest (Qc (Value.ref b :: As).toArray) free := by
  obtain ⟨⟨hrc, hrs, hfr, hlo, hws, hcw⟩, hcode, hini, hy, hlen, hl, hin, hse⟩ := cw
  have hK : Back l R p e below s args y 3 8 (PreOf R mc ms Pc) (PostOf Qc mc ms free) := va_backW (hh := hh) (bytes := bytes) (maxL := maxL) (ret := ret) hM hp.1 hrc hrs hfr hlo hws hcw (fun a' U hW => word_at hW (Or.inl (by first | rfl | simp [Cond.onTables, Cond.keeps, Cond.steady])) hini)
  obtain ⟨hx, hb, hml, ho, -⟩ := S
  obtain ⟨-, ⟨cellB, hcB, hoB, hclB⟩, hPc⟩ := hp
  intro T hT X
  obtain ⟨v, vm₁, ⟨U', l2, c2, s2⟩, hW₁, X', ⟨g', mk, t, L, e1, e2, hq, h1, hL, h2, h3⟩, st⟩ := vx_callVW X hx (C := C) (hh := hh) (bytes := bytes) (maxL := maxL) (ret := ret) ho hl hin hse hcode hy hK (by rw [hT]; exact hcB) hoB hclB hg (hsize.trans hml.symm) (argsL := As) (rest := rest) (fun sig h => hn.trans (hlen sig h)) hstack hW (by rw [hb]; exact hdg)
    (fun vm₁ hW₁ => ⟨hf.1, hf.2, hPc (T.setVm vm₁) hT hW₁⟩)
  dsimp only [Pt.U, Pt.locs, Pt.cells, Pt.slots] at X' e1 e2 h1 h2 h3 st
  subst h1; subst h2; subst h3
  exact ⟨v, (T.setVm vm₁).calling g' mk (Value.ref b :: As).toArray, t, U', L, hT, X', hL, e1, e2, hq, st⟩
section
variable {y : MethodName} {bytes cc : ByteArray} {maxL nL mc ms n index : Nat} {ret : Option FieldType} {ws : List Cond} {rm : Room} {Pc : Array Value → State → Prop} {Qc : Array Value → State → Outcome → State → Prop} {XC : String → State → State → Prop} {free : Addr → Prop} {Ts : List Cond} {own C : String} {b : Addr} {As rest : List Value} {g : JFrame}
theorem vx_runVX {hh : List (Nat × Nat × Nat × Nat)} (S : CallFix p m c cc nL s args Ts own) (hM : vx_Met l y ws rm Pc Qc XC mc ms free) (cw : vx_CVW R s args own C index y bytes maxL ret hh ws rm mc ms n) (hp : PreV s H C b Pc As)
    (hg : g.method = m) (hn : As.length = n) (hsize : g.locals.size = nL) (hstack : g.stack = As.reverse ++ .ref b :: rest) (hW : 2 * g.monitorRoom + (rest.map fun v => v.category).sum ≤ 8) (hdg : decode cc g.pc = .ok (.invokevirtual index, 3)) (hf : cells + mc ≤ R.cells ∧ slots + ms ≤ R.slots) :
    vx_Run p l e R s m args below meth c H locs cells slots mc ms g rest (Qc (Value.ref b :: As).toArray) XC free := by
  obtain ⟨⟨hrc, hrs, hfr, hlo, hws, hcw⟩, hcode, hini, hy, hlen, hl, hin, hse⟩ := cw
  have hK : vx_Back l R p e below s args y 3 8 (PreOf R mc ms Pc) (PostOf Qc mc ms free) (vx_Post XC mc ms free) := vx_backW (hh := hh) (bytes := bytes) (maxL := maxL) (ret := ret) hM hp.1 hrc hrs hfr hlo hws hcw (fun a' U hW => word_at hW (Or.inl (by first | rfl | simp [Cond.onTables, Cond.keeps, Cond.steady])) hini)
  obtain ⟨hx, hb, hml, ho, -⟩ := S
  obtain ⟨-, ⟨cellB, hcB, hoB, hclB⟩, hPc⟩ := hp
  intro T hT X
  rcases vx_callVX X hx (C := C) (hh := hh) (bytes := bytes) (maxL := maxL) (ret := ret) ho hl hin hse hcode hy hK (by rw [hT]; exact hcB) hoB hclB hg (hsize.trans hml.symm) (argsL := As) (rest := rest) (fun sig h => hn.trans (hlen sig h)) hstack hW (by rw [hb]; exact hdg)
    (fun vm₁ hW₁ => ⟨hf.1, hf.2, hPc (T.setVm vm₁) hT hW₁⟩) with ⟨v, vm₁, ⟨U', l2, c2, s2⟩, hW₁, X', ⟨g', mk, t, L, e1, e2, hq, h1, hL, h2, h3⟩, st⟩ | ⟨q, vm₁, ⟨U', l2, c2, s2⟩, hW₁, X', ⟨g', mk, t, L, E, ce, e1, e2, hq, hce, hcv, hcl, h1, hL, h2, h3⟩, st⟩
  · dsimp only [Pt.U, Pt.locs, Pt.cells, Pt.slots] at X' e1 e2 h1 h2 h3 st
    subst h1; subst h2; subst h3
    exact Or.inl ⟨v, (T.setVm vm₁).calling g' mk (Value.ref b :: As).toArray, t, U', L, hT, X', hL, e1, e2, hq, st⟩
  · dsimp only [Pt.U, Pt.locs, Pt.cells, Pt.slots] at X' e1 e2 h1 h2 h3 st hcl
    subst h1; subst h2; subst h3
    exact Or.inr ⟨q, (T.setVm vm₁).calling g' mk (Value.ref b :: As).toArray, t, U', L, E, ce, hT, X', hL, e1, e2, hq, hce, hcv, vx_cls hW₁ hcl, st⟩
theorem vx_runSX {hh : List (Nat × Nat × Nat × Nat)} (S : CallFix p m c cc nL s args Ts own) (hM : vx_Met l y ws rm Pc Qc XC mc ms free) (cw : vx_CSW R s args own index y bytes maxL ret hh ws rm mc ms n) (hp : PreS s H Pc As)
    (hg : g.method = m) (hn : As.length = n) (hsize : g.locals.size = nL) (hstack : g.stack = As.reverse ++ rest) (hW : 2 * g.monitorRoom + (rest.map fun v => v.category).sum ≤ 8) (hdg : decode cc g.pc = .ok (.invokestatic index, 3)) (hf : cells + mc ≤ R.cells ∧ slots + ms ≤ R.slots) :
    vx_Run p l e R s m args below meth c H locs cells slots mc ms g rest (Qc As.toArray) XC free := by
  obtain ⟨⟨hrc, hrs, hfr, hlo, hws, hcw⟩, hcode, hini, hy, hlen, hl, hstt⟩ := cw
  have hK : vx_Back l R p e below s args y 3 8 (PreOf R mc ms Pc) (PostOf Qc mc ms free) (vx_Post XC mc ms free) := vx_backW (hh := hh) (bytes := bytes) (maxL := maxL) (ret := ret) hM hp.1 hrc hrs hfr hlo hws hcw (fun a' U hW => word_at hW (Or.inl (by first | rfl | simp [Cond.onTables, Cond.keeps, Cond.steady])) hini)
  obtain ⟨hx, hb, hml, ho, -⟩ := S
  intro T hT X
  rcases vx_callSX X hx (hh := hh) (bytes := bytes) (maxL := maxL) (ret := ret) ho hl hstt hini hcode hy hK hg (hsize.trans hml.symm) (argsL := As) (rest := rest) (fun sig h => hn.trans (hlen sig h)) hstack hW (by rw [hb]; exact hdg)
    (fun vm₁ hW₁ => ⟨hf.1, hf.2, hp.2 (T.setVm vm₁) hT hW₁⟩) with ⟨v, vm₁, ⟨U', l2, c2, s2⟩, hW₁, X', ⟨g', mk, t, L, e1, e2, hq, h1, hL, h2, h3⟩, st⟩ | ⟨q, vm₁, ⟨U', l2, c2, s2⟩, hW₁, X', ⟨g', mk, t, L, E, ce, e1, e2, hq, hce, hcv, hcl, h1, hL, h2, h3⟩, st⟩
  · dsimp only [Pt.U, Pt.locs, Pt.cells, Pt.slots] at X' e1 e2 h1 h2 h3 st
    subst h1; subst h2; subst h3
    exact Or.inl ⟨v, (T.setVm vm₁).calling g' mk As.toArray, t, U', L, hT, X', hL, e1, e2, hq, st⟩
  · dsimp only [Pt.U, Pt.locs, Pt.cells, Pt.slots] at X' e1 e2 h1 h2 h3 st hcl
    subst h1; subst h2; subst h3
    exact Or.inr ⟨q, (T.setVm vm₁).calling g' mk As.toArray, t, U', L, E, ce, hT, X', hL, e1, e2, hq, hce, hcv, vx_cls hW₁ hcl, st⟩
end
end VXH
theorem vx_ofWH {l : Launch} {y : MethodName} {ws ws' : List Cond} {rm : Room} {Pc : Array Value → State → Prop} {Qc : Array Value → State → Outcome → State → Prop} {XC : String → State → State → Prop} {mc ms : Nat} {free : Addr → Prop} {cc : ByteArray} {maxL : Nat} {ret : Option FieldType} {hh : List (Nat × Nat × Nat × Nat)}
    (hy : plainName y.cls = true) (hw : ws = Cond.codeWith y cc maxL ret hh :: ws')
    (body : ∀ p e s m args below meth c s₁, BodyLoose p l y (headSpec ws rm) cc maxL ret e s m args below meth c s₁ → c.maxLocals = maxL → Pc args s →
      W p l e (headSpec ws rm).room s m args below meth c s.heap [] 0 0 (vx_MQ below Qc XC args s mc ms free) (entryFrame m args maxL)) : vx_Met l y ws rm Pc Qc XC mc ms free := by
  refine MetFree.of_bodyS (code := cc) (maxLocals := maxL) (ret := ret) hy ?_ ?_
  · intro args s m h hn
    obtain ⟨m9, meth, c, hn9, h1, h2, h3, h4, -, h5, h6, -⟩ := Cond.codeWith_spec (atoms_spec (ws := ws) h _ (by rw [hw]; exact List.mem_cons_self))
    cases hn.symm.trans hn9
    exact ⟨meth, c, h1, h2, h3, h4, h5, h6⟩
  · intro p e s m args below meth c s₁ B hml hP _
    have hh0 : s₁.heap = s.heap := by rw [B.state]; rfl
    obtain ⟨t, a1, o, b1, b2, b3⟩ := body p e s m args below meth c s₁ B hml hP s₁ hh0 (Stand.of_body B)
    exact ⟨t, o, a1, b1, b2, b3⟩
/-! ===== END ===== -/
end
section
/-! ===== BEGIN printed: names, fields, word lists, decode rows ===== -/
def RX0 : String := "GhostGame$Dictionary"
def TX0 : u_T := fun k => match k with
  | 0 => ("GhostGame$Dictionary", "words", "[J", true)
  | 1 => ("GhostGame$Dictionary", "count", "I", false)
  | _ => ("GhostGame$Dictionary", "leastLength", "I", false)
def tyX0 : Nat → FieldType := fun k => match k with
  | 0 => .array .long
  | 1 => .int
  | _ => .int
abbrev wsX00 : List Cond := u_ws RX0 TX0 3
theorem nmX0 : ∀ a, a < 3 → ∀ b, b < 3 → a ≠ b → (TX0 a).2.1 ≠ (TX0 b).2.1 := by decide +kernel
theorem tyX0_ok : ∀ k, k < 3 → parseFieldDescriptor (TX0 k).2.2.1 = some (tyX0 k) := by decide +kernel
abbrev cX0_init : ByteArray := prog_2_method_1_code
def yX0_init : MethodName := ⟨RX0, "<init>", "()V"⟩
abbrev cX0_size : ByteArray := prog_2_method_2_code
def yX0_size : MethodName := ⟨RX0, "size", "()I"⟩
abbrev cX0_has : ByteArray := prog_2_method_3_code
def yX0_has : MethodName := ⟨RX0, "has", "(J)Z"⟩
abbrev cX0_wordAt : ByteArray := prog_2_method_4_code
def yX0_wordAt : MethodName := ⟨RX0, "wordAt", "(I)J"⟩
abbrev cX0_add : ByteArray := prog_2_method_5_code
def yX0_add : MethodName := ⟨RX0, "add", "(J)Z"⟩
abbrev cX0_remove : ByteArray := prog_2_method_6_code
def yX0_remove : MethodName := ⟨RX0, "remove", "(J)Z"⟩
abbrev cX0_countFrom : ByteArray := prog_2_method_7_code
def yX0_countFrom : MethodName := ⟨RX0, "countFrom", "(J)I"⟩
abbrev cX0_countBeginnings : ByteArray := prog_2_method_8_code
def yX0_countBeginnings : MethodName := ⟨RX0, "countBeginnings", "()I"⟩
abbrev cX0_changeLeastLength : ByteArray := prog_2_method_9_code
def yX0_changeLeastLength : MethodName := ⟨RX0, "changeLeastLength", "(I)I"⟩
abbrev cX0_isLongEnough : ByteArray := prog_2_method_10_code
def yX0_isLongEnough : MethodName := ⟨RX0, "isLongEnough", "(J)Z"⟩
abbrev cX0_hasCounting : ByteArray := prog_2_method_11_code
def yX0_hasCounting : MethodName := ⟨RX0, "hasCounting", "(J)Z"⟩
abbrev cX0_hasCountingFrom : ByteArray := prog_2_method_12_code
def yX0_hasCountingFrom : MethodName := ⟨RX0, "hasCountingFrom", "(J)Z"⟩
abbrev cX0_placeOf : ByteArray := prog_2_method_13_code
def yX0_placeOf : MethodName := ⟨RX0, "placeOf", "(J)I"⟩
abbrev cX0_lengthSharedBefore : ByteArray := prog_2_method_14_code
def yX0_lengthSharedBefore : MethodName := ⟨RX0, "lengthSharedBefore", "(I)I"⟩
def RX1 : String := "GhostGame$Game"
def TX1 : u_T := fun k => match k with
  | 0 => ("GhostGame$Game", "strikes", "[I", true)
  | 1 => ("GhostGame$Game", "playerCount", "I", false)
  | 2 => ("GhostGame$Game", "mover", "I", false)
  | 3 => ("GhostGame$Game", "lastMover", "I", false)
  | 4 => ("GhostGame$Game", "champion", "I", false)
  | _ => ("GhostGame$Game", "fragment", "J", false)
def tyX1 : Nat → FieldType := fun k => match k with
  | 0 => .array .int
  | 1 => .int
  | 2 => .int
  | 3 => .int
  | 4 => .int
  | _ => .long
abbrev wsX10 : List Cond := u_ws RX1 TX1 6
theorem nmX1 : ∀ a, a < 6 → ∀ b, b < 6 → a ≠ b → (TX1 a).2.1 ≠ (TX1 b).2.1 := by decide +kernel
theorem tyX1_ok : ∀ k, k < 6 → parseFieldDescriptor (TX1 k).2.2.1 = some (tyX1 k) := by decide +kernel
abbrev cX1_init : ByteArray := prog_3_method_1_code
def yX1_init : MethodName := ⟨RX1, "<init>", "()V"⟩
abbrev cX1_begin : ByteArray := prog_3_method_2_code
def yX1_begin : MethodName := ⟨RX1, "begin", "(I)V"⟩
abbrev cX1_isOn : ByteArray := prog_3_method_3_code
def yX1_isOn : MethodName := ⟨RX1, "isOn", "()Z"⟩
abbrev cX1_mover : ByteArray := prog_3_method_4_code
def yX1_mover : MethodName := ⟨RX1, "mover", "()I"⟩
abbrev cX1_champion : ByteArray := prog_3_method_5_code
def yX1_champion : MethodName := ⟨RX1, "champion", "()I"⟩
abbrev cX1_playerCount : ByteArray := prog_3_method_6_code
def yX1_playerCount : MethodName := ⟨RX1, "playerCount", "()I"⟩
abbrev cX1_fragment : ByteArray := prog_3_method_7_code
def yX1_fragment : MethodName := ⟨RX1, "fragment", "()J"⟩
abbrev cX1_strikesOf : ByteArray := prog_3_method_8_code
def yX1_strikesOf : MethodName := ⟨RX1, "strikesOf", "(I)I"⟩
abbrev cX1_addLetter : ByteArray := prog_3_method_9_code
def yX1_addLetter : MethodName := ⟨RX1, "addLetter", "(ILGhostGame$Dictionary;)I"⟩
abbrev cX1_settleChallenge : ByteArray := prog_3_method_10_code
def yX1_settleChallenge : MethodName := ⟨RX1, "settleChallenge", "(LGhostGame$Dictionary;)I"⟩
abbrev cX1_endRound : ByteArray := prog_3_method_11_code
def yX1_endRound : MethodName := ⟨RX1, "endRound", "(I)I"⟩
abbrev cX1_hasPlayer : ByteArray := prog_3_method_12_code
def yX1_hasPlayer : MethodName := ⟨RX1, "hasPlayer", "(I)Z"⟩
abbrev cX1_isOut : ByteArray := prog_3_method_13_code
def yX1_isOut : MethodName := ⟨RX1, "isOut", "(I)Z"⟩
abbrev cX1_playersLeft : ByteArray := prog_3_method_14_code
def yX1_playersLeft : MethodName := ⟨RX1, "playersLeft", "()I"⟩
abbrev cX1_nextBehind : ByteArray := prog_3_method_15_code
def yX1_nextBehind : MethodName := ⟨RX1, "nextBehind", "(I)I"⟩
def RX2 : String := "GhostGame$Row"
def TX2 : u_T := fun k => match k with
  | _ => ("", "", "", false)
def tyX2 : Nat → FieldType := fun k => match k with
  | _ => .int
abbrev wsX20 : List Cond := u_ws RX2 TX2 0
theorem nmX2 : ∀ a, a < 0 → ∀ b, b < 0 → a ≠ b → (TX2 a).2.1 ≠ (TX2 b).2.1 := by decide +kernel
theorem tyX2_ok : ∀ k, k < 0 → parseFieldDescriptor (TX2 k).2.2.1 = some (tyX2 k) := by decide +kernel
abbrev cX2_lengthOf : ByteArray := prog_4_method_2_code
def yX2_lengthOf : MethodName := ⟨RX2, "lengthOf", "(J)I"⟩
abbrev cX2_isFull : ByteArray := prog_4_method_3_code
def yX2_isFull : MethodName := ⟨RX2, "isFull", "(J)Z"⟩
abbrev cX2_letterAt : ByteArray := prog_4_method_4_code
def yX2_letterAt : MethodName := ⟨RX2, "letterAt", "(JI)I"⟩
abbrev cX2_with : ByteArray := prog_4_method_5_code
def yX2_with : MethodName := ⟨RX2, "with", "(JI)J"⟩
abbrev cX2_beginning : ByteArray := prog_4_method_6_code
def yX2_beginning : MethodName := ⟨RX2, "beginning", "(JI)J"⟩
abbrev cX2_beginsWith : ByteArray := prog_4_method_7_code
def yX2_beginsWith : MethodName := ⟨RX2, "beginsWith", "(JJ)Z"⟩
abbrev cX2_goesOnBehind : ByteArray := prog_4_method_8_code
def yX2_goesOnBehind : MethodName := ⟨RX2, "goesOnBehind", "(JJ)Z"⟩
abbrev cX2_lengthShared : ByteArray := prog_4_method_9_code
def yX2_lengthShared : MethodName := ⟨RX2, "lengthShared", "(JJ)I"⟩
abbrev cX2_pack : ByteArray := prog_4_method_10_code
def yX2_pack : MethodName := ⟨RX2, "pack", "(IJ)J"⟩
def RX3 : String := "GhostGame$Solver"
def TX3 : u_T := fun k => match k with
  | _ => ("", "", "", false)
def tyX3 : Nat → FieldType := fun k => match k with
  | _ => .int
abbrev wsX30 : List Cond := u_ws RX3 TX3 0
theorem nmX3 : ∀ a, a < 0 → ∀ b, b < 0 → a ≠ b → (TX3 a).2.1 ≠ (TX3 b).2.1 := by decide +kernel
theorem tyX3_ok : ∀ k, k < 0 → parseFieldDescriptor (TX3 k).2.2.1 = some (tyX3 k) := by decide +kernel
abbrev cX3_lettersOpenBehind : ByteArray := prog_5_method_2_code
def yX3_lettersOpenBehind : MethodName := ⟨RX3, "lettersOpenBehind", "(LGhostGame$Dictionary;J)I"⟩
abbrev cX3_lettersWinningBehind : ByteArray := prog_5_method_3_code
def yX3_lettersWinningBehind : MethodName := ⟨RX3, "lettersWinningBehind", "(LGhostGame$Dictionary;J)I"⟩
abbrev cX3_moverWins : ByteArray := prog_5_method_4_code
def yX3_moverWins : MethodName := ⟨RX3, "moverWins", "(LGhostGame$Dictionary;J)Z"⟩
abbrev cX3_endBehind : ByteArray := prog_5_method_5_code
def yX3_endBehind : MethodName := ⟨RX3, "endBehind", "(LGhostGame$Dictionary;J)I"⟩
abbrev cX3_letterChosenBehind : ByteArray := prog_5_method_6_code
def yX3_letterChosenBehind : MethodName := ⟨RX3, "letterChosenBehind", "(LGhostGame$Dictionary;J)I"⟩
abbrev cX3_countWays : ByteArray := prog_5_method_7_code
def yX3_countWays : MethodName := ⟨RX3, "countWays", "(LGhostGame$Dictionary;J)I"⟩
abbrev cX3_countWonWays : ByteArray := prog_5_method_8_code
def yX3_countWonWays : MethodName := ⟨RX3, "countWonWays", "(LGhostGame$Dictionary;J)I"⟩
abbrev cX3_score : ByteArray := prog_5_method_9_code
def yX3_score : MethodName := ⟨RX3, "score", "(LGhostGame$Dictionary;J)I"⟩
abbrev cX3_scoreOfLetter : ByteArray := prog_5_method_10_code
def yX3_scoreOfLetter : MethodName := ⟨RX3, "scoreOfLetter", "(LGhostGame$Dictionary;JI)I"⟩
abbrev cX3_leadsOn : ByteArray := prog_5_method_11_code
def yX3_leadsOn : MethodName := ⟨RX3, "leadsOn", "(LGhostGame$Dictionary;JJ)Z"⟩
abbrev cX3_isWay : ByteArray := prog_5_method_12_code
def yX3_isWay : MethodName := ⟨RX3, "isWay", "(LGhostGame$Dictionary;JJ)Z"⟩
abbrev cX3_otherSideCompletes : ByteArray := prog_5_method_13_code
def yX3_otherSideCompletes : MethodName := ⟨RX3, "otherSideCompletes", "(JJ)Z"⟩
abbrev cX3_isIn : ByteArray := prog_5_method_14_code
def yX3_isIn : MethodName := ⟨RX3, "isIn", "(II)Z"⟩
def RX4 : String := "GhostGame"
def TX4 : u_T := fun k => match k with
  | 0 => ("GhostGame", "dictionary", "LGhostGame$Dictionary;", true)
  | 1 => ("GhostGame", "game", "LGhostGame$Game;", true)
  | _ => ("GhostGame", "slip", "J", false)
def tyX4 : Nat → FieldType := fun k => match k with
  | 0 => .object "GhostGame$Dictionary"
  | 1 => .object "GhostGame$Game"
  | _ => .long
abbrev wsX40 : List Cond := u_ws RX4 TX4 3
theorem nmX4 : ∀ a, a < 3 → ∀ b, b < 3 → a ≠ b → (TX4 a).2.1 ≠ (TX4 b).2.1 := by decide +kernel
theorem tyX4_ok : ∀ k, k < 3 → parseFieldDescriptor (TX4 k).2.2.1 = some (tyX4 k) := by decide +kernel
abbrev cX4_init : ByteArray := prog_1_method_1_code
def yX4_init : MethodName := ⟨RX4, "<init>", "()V"⟩
abbrev cX4_write : ByteArray := prog_1_method_2_code
def yX4_write : MethodName := ⟨RX4, "write", "(I)I"⟩
abbrev cX4_wipe : ByteArray := prog_1_method_3_code
def yX4_wipe : MethodName := ⟨RX4, "wipe", "()I"⟩
abbrev cX4_slipLength : ByteArray := prog_1_method_4_code
def yX4_slipLength : MethodName := ⟨RX4, "slipLength", "()I"⟩
abbrev cX4_slipAt : ByteArray := prog_1_method_5_code
def yX4_slipAt : MethodName := ⟨RX4, "slipAt", "(I)I"⟩
abbrev cX4_addWord : ByteArray := prog_1_method_6_code
def yX4_addWord : MethodName := ⟨RX4, "addWord", "()I"⟩
abbrev cX4_removeWord : ByteArray := prog_1_method_7_code
def yX4_removeWord : MethodName := ⟨RX4, "removeWord", "()I"⟩
abbrev cX4_isWord : ByteArray := prog_1_method_8_code
def yX4_isWord : MethodName := ⟨RX4, "isWord", "()Z"⟩
abbrev cX4_words : ByteArray := prog_1_method_9_code
def yX4_words : MethodName := ⟨RX4, "words", "()I"⟩
abbrev cX4_wordsFromSlip : ByteArray := prog_1_method_10_code
def yX4_wordsFromSlip : MethodName := ⟨RX4, "wordsFromSlip", "()I"⟩
abbrev cX4_beginnings : ByteArray := prog_1_method_11_code
def yX4_beginnings : MethodName := ⟨RX4, "beginnings", "()I"⟩
abbrev cX4_copyWord : ByteArray := prog_1_method_12_code
def yX4_copyWord : MethodName := ⟨RX4, "copyWord", "(I)I"⟩
abbrev cX4_setLeastLength : ByteArray := prog_1_method_13_code
def yX4_setLeastLength : MethodName := ⟨RX4, "setLeastLength", "(I)I"⟩
abbrev cX4_start : ByteArray := prog_1_method_14_code
def yX4_start : MethodName := ⟨RX4, "start", "(I)V"⟩
abbrev cX4_play : ByteArray := prog_1_method_15_code
def yX4_play : MethodName := ⟨RX4, "play", "(I)I"⟩
abbrev cX4_challenge : ByteArray := prog_1_method_16_code
def yX4_challenge : MethodName := ⟨RX4, "challenge", "()I"⟩
abbrev cX4_turn : ByteArray := prog_1_method_17_code
def yX4_turn : MethodName := ⟨RX4, "turn", "()I"⟩
abbrev cX4_winner : ByteArray := prog_1_method_18_code
def yX4_winner : MethodName := ⟨RX4, "winner", "()I"⟩
abbrev cX4_players : ByteArray := prog_1_method_19_code
def yX4_players : MethodName := ⟨RX4, "players", "()I"⟩
abbrev cX4_strikes : ByteArray := prog_1_method_20_code
def yX4_strikes : MethodName := ⟨RX4, "strikes", "(I)I"⟩
abbrev cX4_fragmentLength : ByteArray := prog_1_method_21_code
def yX4_fragmentLength : MethodName := ⟨RX4, "fragmentLength", "()I"⟩
abbrev cX4_fragmentAt : ByteArray := prog_1_method_22_code
def yX4_fragmentAt : MethodName := ⟨RX4, "fragmentAt", "(I)I"⟩
abbrev cX4_openLetters : ByteArray := prog_1_method_23_code
def yX4_openLetters : MethodName := ⟨RX4, "openLetters", "()I"⟩
abbrev cX4_winningLetters : ByteArray := prog_1_method_24_code
def yX4_winningLetters : MethodName := ⟨RX4, "winningLetters", "()I"⟩
abbrev cX4_canWin : ByteArray := prog_1_method_25_code
def yX4_canWin : MethodName := ⟨RX4, "canWin", "()Z"⟩
abbrev cX4_end : ByteArray := prog_1_method_26_code
def yX4_end : MethodName := ⟨RX4, "end", "()I"⟩
abbrev cX4_bestLetter : ByteArray := prog_1_method_27_code
def yX4_bestLetter : MethodName := ⟨RX4, "bestLetter", "()I"⟩
abbrev cX4_waysToPlay : ByteArray := prog_1_method_28_code
def yX4_waysToPlay : MethodName := ⟨RX4, "waysToPlay", "()I"⟩
abbrev cX4_waysToWin : ByteArray := prog_1_method_29_code
def yX4_waysToWin : MethodName := ⟨RX4, "waysToWin", "()I"⟩
abbrev cX4_isLetter : ByteArray := prog_1_method_30_code
def yX4_isLetter : MethodName := ⟨RX4, "isLetter", "(I)Z"⟩
def RX5 : String := "GhostGameModel"
def TX5 : u_T := fun k => match k with
  | 0 => ("GhostGameModel", "slip", "[I", true)
  | 1 => ("GhostGameModel", "slipLength", "I", false)
  | 2 => ("GhostGameModel", "letters", "[I", true)
  | 3 => ("GhostGameModel", "length", "[I", true)
  | 4 => ("GhostGameModel", "words", "I", false)
  | 5 => ("GhostGameModel", "least", "I", false)
  | 6 => ("GhostGameModel", "players", "I", false)
  | 7 => ("GhostGameModel", "strikes", "[I", true)
  | 8 => ("GhostGameModel", "turn", "I", false)
  | 9 => ("GhostGameModel", "latest", "I", false)
  | 10 => ("GhostGameModel", "winner", "I", false)
  | 11 => ("GhostGameModel", "fragment", "[I", true)
  | 12 => ("GhostGameModel", "fragmentLength", "I", false)
  | 13 => ("GhostGameModel", "wins", "[Z", true)
  | 14 => ("GhostGameModel", "ends", "[I", true)
  | 15 => ("GhostGameModel", "chosen", "[I", true)
  | 16 => ("GhostGameModel", "good", "[I", true)
  | 17 => ("GhostGameModel", "open", "[I", true)
  | _ => ("GhostGameModel", "thrown", "I", false)
def tyX5 : Nat → FieldType := fun k => match k with
  | 0 => .array .int
  | 1 => .int
  | 2 => .array .int
  | 3 => .array .int
  | 4 => .int
  | 5 => .int
  | 6 => .int
  | 7 => .array .int
  | 8 => .int
  | 9 => .int
  | 10 => .int
  | 11 => .array .int
  | 12 => .int
  | 13 => .array .boolean
  | 14 => .array .int
  | 15 => .array .int
  | 16 => .array .int
  | 17 => .array .int
  | _ => .int
abbrev wsX50 : List Cond := u_ws RX5 TX5 19
theorem nmX5 : ∀ a, a < 19 → ∀ b, b < 19 → a ≠ b → (TX5 a).2.1 ≠ (TX5 b).2.1 := by decide +kernel
theorem tyX5_ok : ∀ k, k < 19 → parseFieldDescriptor (TX5 k).2.2.1 = some (tyX5 k) := by decide +kernel
abbrev cX5_init : ByteArray := prog_7_method_1_code
def yX5_init : MethodName := ⟨RX5, "<init>", "()V"⟩
abbrev cX5_thrown : ByteArray := prog_7_method_2_code
def yX5_thrown : MethodName := ⟨RX5, "thrown", "()I"⟩
abbrev cX5_asked : ByteArray := prog_7_method_3_code
def yX5_asked : MethodName := ⟨RX5, "asked", "(Z)Z"⟩
abbrev cX5_asked_ : ByteArray := prog_7_method_4_code
def yX5_asked_ : MethodName := ⟨RX5, "asked", "(ZZ)Z"⟩
abbrev cX5_told : ByteArray := prog_7_method_5_code
def yX5_told : MethodName := ⟨RX5, "told", "(I)I"⟩
abbrev cX5_isLetter : ByteArray := prog_7_method_6_code
def yX5_isLetter : MethodName := ⟨RX5, "isLetter", "(I)Z"⟩
abbrev cX5_begins : ByteArray := prog_7_method_7_code
def yX5_begins : MethodName := ⟨RX5, "begins", "(I[II)Z"⟩
abbrev cX5_areAlike : ByteArray := prog_7_method_8_code
def yX5_areAlike : MethodName := ⟨RX5, "areAlike", "(III)Z"⟩
abbrev cX5_counts : ByteArray := prog_7_method_9_code
def yX5_counts : MethodName := ⟨RX5, "counts", "(I)Z"⟩
abbrev cX5_found : ByteArray := prog_7_method_10_code
def yX5_found : MethodName := ⟨RX5, "found", "()I"⟩
abbrev cX5_isBefore : ByteArray := prog_7_method_11_code
def yX5_isBefore : MethodName := ⟨RX5, "isBefore", "(II)Z"⟩
abbrev cX5_write : ByteArray := prog_7_method_12_code
def yX5_write : MethodName := ⟨RX5, "write", "(I)I"⟩
abbrev cX5_wipe : ByteArray := prog_7_method_13_code
def yX5_wipe : MethodName := ⟨RX5, "wipe", "()I"⟩
abbrev cX5_slipLength : ByteArray := prog_7_method_14_code
def yX5_slipLength : MethodName := ⟨RX5, "slipLength", "()I"⟩
abbrev cX5_slipAt : ByteArray := prog_7_method_15_code
def yX5_slipAt : MethodName := ⟨RX5, "slipAt", "(I)I"⟩
abbrev cX5_addWord : ByteArray := prog_7_method_16_code
def yX5_addWord : MethodName := ⟨RX5, "addWord", "()I"⟩
abbrev cX5_removeWord : ByteArray := prog_7_method_17_code
def yX5_removeWord : MethodName := ⟨RX5, "removeWord", "()I"⟩
abbrev cX5_isWord : ByteArray := prog_7_method_18_code
def yX5_isWord : MethodName := ⟨RX5, "isWord", "()Z"⟩
abbrev cX5_words : ByteArray := prog_7_method_19_code
def yX5_words : MethodName := ⟨RX5, "words", "()I"⟩
abbrev cX5_wordsFromSlip : ByteArray := prog_7_method_20_code
def yX5_wordsFromSlip : MethodName := ⟨RX5, "wordsFromSlip", "()I"⟩
abbrev cX5_beginnings : ByteArray := prog_7_method_21_code
def yX5_beginnings : MethodName := ⟨RX5, "beginnings", "()I"⟩
abbrev cX5_copyWord : ByteArray := prog_7_method_22_code
def yX5_copyWord : MethodName := ⟨RX5, "copyWord", "(I)I"⟩
abbrev cX5_setLeastLength : ByteArray := prog_7_method_23_code
def yX5_setLeastLength : MethodName := ⟨RX5, "setLeastLength", "(I)I"⟩
abbrev cX5_goesOn : ByteArray := prog_7_method_24_code
def yX5_goesOn : MethodName := ⟨RX5, "goesOn", "()Z"⟩
abbrev cX5_start : ByteArray := prog_7_method_25_code
def yX5_start : MethodName := ⟨RX5, "start", "(I)V"⟩
abbrev cX5_behind : ByteArray := prog_7_method_26_code
def yX5_behind : MethodName := ⟨RX5, "behind", "(I)I"⟩
abbrev cX5_loses : ByteArray := prog_7_method_27_code
def yX5_loses : MethodName := ⟨RX5, "loses", "(I)I"⟩
abbrev cX5_hasWord : ByteArray := prog_7_method_28_code
def yX5_hasWord : MethodName := ⟨RX5, "hasWord", "(Z)Z"⟩
abbrev cX5_play : ByteArray := prog_7_method_29_code
def yX5_play : MethodName := ⟨RX5, "play", "(I)I"⟩
abbrev cX5_challenge : ByteArray := prog_7_method_30_code
def yX5_challenge : MethodName := ⟨RX5, "challenge", "()I"⟩
abbrev cX5_turn : ByteArray := prog_7_method_31_code
def yX5_turn : MethodName := ⟨RX5, "turn", "()I"⟩
abbrev cX5_winner : ByteArray := prog_7_method_32_code
def yX5_winner : MethodName := ⟨RX5, "winner", "()I"⟩
abbrev cX5_players : ByteArray := prog_7_method_33_code
def yX5_players : MethodName := ⟨RX5, "players", "()I"⟩
abbrev cX5_strikes : ByteArray := prog_7_method_34_code
def yX5_strikes : MethodName := ⟨RX5, "strikes", "(I)I"⟩
abbrev cX5_fragmentLength : ByteArray := prog_7_method_35_code
def yX5_fragmentLength : MethodName := ⟨RX5, "fragmentLength", "()I"⟩
abbrev cX5_fragmentAt : ByteArray := prog_7_method_36_code
def yX5_fragmentAt : MethodName := ⟨RX5, "fragmentAt", "(I)I"⟩
abbrev cX5_isWhole : ByteArray := prog_7_method_37_code
def yX5_isWhole : MethodName := ⟨RX5, "isWhole", "(II)Z"⟩
abbrev cX5_solves : ByteArray := prog_7_method_38_code
def yX5_solves : MethodName := ⟨RX5, "solves", "(II)V"⟩
abbrev cX5_endBehind : ByteArray := prog_7_method_39_code
def yX5_endBehind : MethodName := ⟨RX5, "endBehind", "(III)I"⟩
abbrev cX5_looks : ByteArray := prog_7_method_40_code
def yX5_looks : MethodName := ⟨RX5, "looks", "()I"⟩
abbrev cX5_openLetters : ByteArray := prog_7_method_41_code
def yX5_openLetters : MethodName := ⟨RX5, "openLetters", "()I"⟩
abbrev cX5_winningLetters : ByteArray := prog_7_method_42_code
def yX5_winningLetters : MethodName := ⟨RX5, "winningLetters", "()I"⟩
abbrev cX5_canWin : ByteArray := prog_7_method_43_code
def yX5_canWin : MethodName := ⟨RX5, "canWin", "()Z"⟩
abbrev cX5_end : ByteArray := prog_7_method_44_code
def yX5_end : MethodName := ⟨RX5, "end", "()I"⟩
abbrev cX5_bestLetter : ByteArray := prog_7_method_45_code
def yX5_bestLetter : MethodName := ⟨RX5, "bestLetter", "()I"⟩
abbrev cX5_isWay : ByteArray := prog_7_method_46_code
def yX5_isWay : MethodName := ⟨RX5, "isWay", "(I)Z"⟩
abbrev cX5_waysToPlay : ByteArray := prog_7_method_47_code
def yX5_waysToPlay : MethodName := ⟨RX5, "waysToPlay", "()I"⟩
abbrev cX5_waysToWin : ByteArray := prog_7_method_48_code
def yX5_waysToWin : MethodName := ⟨RX5, "waysToWin", "()I"⟩
def RJ9 : String := "java/lang/Math"
def TJ9 : u_T := fun k => match k with
  | _ => ("", "", "", false)
def tyJ9 : Nat → FieldType := fun k => match k with
  | _ => .int
abbrev wsJ90 : List Cond := u_ws RJ9 TJ9 0
theorem nmJ9 : ∀ a, a < 0 → ∀ b, b < 0 → a ≠ b → (TJ9 a).2.1 ≠ (TJ9 b).2.1 := by decide +kernel
theorem tyJ9_ok : ∀ k, k < 0 → parseFieldDescriptor (TJ9 k).2.2.1 = some (tyJ9 k) := by decide +kernel
abbrev cJ9_abs_0f7a4 : ByteArray := prog_12_method_59_code
def yJ9_abs_0f7a4 : MethodName := ⟨RJ9, "abs", "(I)I"⟩
abbrev cJ9_max_7cf53 : ByteArray := prog_12_method_65_code
def yJ9_max_7cf53 : MethodName := ⟨RJ9, "max", "(II)I"⟩
abbrev cJ9_min_7cf53 : ByteArray := prog_12_method_69_code
def yJ9_min_7cf53 : MethodName := ⟨RJ9, "min", "(II)I"⟩
def RJ0 : String := "java/lang/String"
def TJ0 : u_T := fun k => match k with
  | _ => ("", "", "", false)
def tyJ0 : Nat → FieldType := fun k => match k with
  | _ => .int
abbrev wsJ00 : List Cond := u_ws RJ0 TJ0 0
theorem nmJ0 : ∀ a, a < 0 → ∀ b, b < 0 → a ≠ b → (TJ0 a).2.1 ≠ (TJ0 b).2.1 := by decide +kernel
theorem tyJ0_ok : ∀ k, k < 0 → parseFieldDescriptor (TJ0 k).2.2.1 = some (tyJ0 k) := by decide +kernel
def RL : String := "GhostGameLaw"
abbrev cL_write : ByteArray := method_3_code
def yL_write : MethodName := ⟨RL, "write", "(LGhostGame;I[J)I"⟩
abbrev cL_slipAt : ByteArray := method_4_code
def yL_slipAt : MethodName := ⟨RL, "slipAt", "(LGhostGame;I[J)I"⟩
abbrev cL_addWord : ByteArray := method_5_code
def yL_addWord : MethodName := ⟨RL, "addWord", "(LGhostGame;[J)I"⟩
abbrev cL_removeWord : ByteArray := method_6_code
def yL_removeWord : MethodName := ⟨RL, "removeWord", "(LGhostGame;[J)I"⟩
abbrev cL_copyWord : ByteArray := method_7_code
def yL_copyWord : MethodName := ⟨RL, "copyWord", "(LGhostGame;I[J)I"⟩
abbrev cL_setLeastLength : ByteArray := method_8_code
def yL_setLeastLength : MethodName := ⟨RL, "setLeastLength", "(LGhostGame;I[J)I"⟩
abbrev cL_start : ByteArray := method_9_code
def yL_start : MethodName := ⟨RL, "start", "(LGhostGame;I)I"⟩
abbrev cL_play : ByteArray := method_10_code
def yL_play : MethodName := ⟨RL, "play", "(LGhostGame;I[J)I"⟩
abbrev cL_challenge : ByteArray := method_11_code
def yL_challenge : MethodName := ⟨RL, "challenge", "(LGhostGame;[J)I"⟩
abbrev cL_strikes : ByteArray := method_12_code
def yL_strikes : MethodName := ⟨RL, "strikes", "(LGhostGame;I[J)I"⟩
abbrev cL_fragmentAt : ByteArray := method_13_code
def yL_fragmentAt : MethodName := ⟨RL, "fragmentAt", "(LGhostGame;I[J)I"⟩
abbrev cL_law : ByteArray := code
def yL_law : MethodName := ⟨RL, "law", "([I)Z"⟩
def wsX0_init : List Cond := .code yX0_init cX0_init 1 none :: ([.methodLink RX0 3 objectInit, .instanceMethod objectInit, .code objectInit ⟨#[0xb1]⟩ 1 none, .arrayClass .long, .fieldLink RX0 9 "GhostGame$Dictionary" "words" "[J", .fieldLink RX0 15 "GhostGame$Dictionary" "count" "I", .fieldLink RX0 19 "GhostGame$Dictionary" "leastLength" "I"] ++ wsX00)
def wsX0_size : List Cond := .code yX0_size cX0_size 1 (some .int) :: ([.fieldLink RX0 15 "GhostGame$Dictionary" "count" "I"] ++ wsX00)
def wsX0_placeOf : List Cond := .code yX0_placeOf cX0_placeOf 4 (some .int) :: ([.fieldLink RX0 15 "GhostGame$Dictionary" "count" "I", .fieldLink RX0 9 "GhostGame$Dictionary" "words" "[J"] ++ wsX00)
def wsX0_has : List Cond := .code yX0_has cX0_has 3 (some .boolean) :: ([.methodLink RX0 22 yX0_placeOf, .instanceMethod yX0_placeOf, .selects RX0 yX0_placeOf yX0_placeOf, .initialized RX0, .code yX0_placeOf cX0_placeOf 4 (some .int), .fieldLink RX0 15 "GhostGame$Dictionary" "count" "I", .fieldLink RX0 9 "GhostGame$Dictionary" "words" "[J"] ++ wsX00)
def wsX0_wordAt : List Cond := .code yX0_wordAt cX0_wordAt 2 (some .long) :: ([.fieldLink RX0 15 "GhostGame$Dictionary" "count" "I", .fieldLink RX0 9 "GhostGame$Dictionary" "words" "[J"] ++ wsX00)
def wsX0_add : List Cond := .code yX0_add cX0_add 4 (some .boolean) :: ([.fieldLink RX0 15 "GhostGame$Dictionary" "count" "I", .fieldLink RX0 9 "GhostGame$Dictionary" "words" "[J", .methodLink RX0 28 yX0_has, .instanceMethod yX0_has, .selects RX0 yX0_has yX0_has, .initialized RX0, .code yX0_has cX0_has 3 (some .boolean), .methodLink RX0 22 yX0_placeOf, .instanceMethod yX0_placeOf, .selects RX0 yX0_placeOf yX0_placeOf, .code yX0_placeOf cX0_placeOf 4 (some .int)] ++ wsX00)
def wsX0_remove : List Cond := .code yX0_remove cX0_remove 5 (some .boolean) :: ([.fieldLink RX0 15 "GhostGame$Dictionary" "count" "I", .fieldLink RX0 9 "GhostGame$Dictionary" "words" "[J", .methodLink RX0 22 yX0_placeOf, .instanceMethod yX0_placeOf, .selects RX0 yX0_placeOf yX0_placeOf, .initialized RX0, .code yX0_placeOf cX0_placeOf 4 (some .int)] ++ wsX00)
def wsX2_lengthOf : List Cond := .code yX2_lengthOf cX2_lengthOf 2 (some .int) :: ([])
def wsX2_pack : List Cond := .code yX2_pack cX2_pack 3 (some .long) :: ([])
def wsX2_beginning : List Cond := .code yX2_beginning cX2_beginning 4 (some .long) :: ([.constantLong RX2 15 (1125899906842623), .methodLink RX2 11 yX2_lengthOf, .static yX2_lengthOf, .initialized RX2, .code yX2_lengthOf cX2_lengthOf 2 (some .int), .methodLink RX2 17 yX2_pack, .static yX2_pack, .code yX2_pack cX2_pack 3 (some .long)])
def wsX2_beginsWith : List Cond := .code yX2_beginsWith cX2_beginsWith 5 (some .boolean) :: ([.methodLink RX2 11 yX2_lengthOf, .static yX2_lengthOf, .initialized RX2, .code yX2_lengthOf cX2_lengthOf 2 (some .int), .methodLink RX2 21 yX2_beginning, .static yX2_beginning, .code yX2_beginning cX2_beginning 4 (some .long), .constantLong RX2 15 (1125899906842623), .methodLink RX2 17 yX2_pack, .static yX2_pack, .code yX2_pack cX2_pack 3 (some .long)])
def wsX0_countFrom : List Cond := .code yX0_countFrom cX0_countFrom 5 (some .int) :: ([.fieldLink RX0 15 "GhostGame$Dictionary" "count" "I", .fieldLink RX0 9 "GhostGame$Dictionary" "words" "[J", .methodLink RX0 32 yX2_beginsWith, .static yX2_beginsWith, .initialized RX2, .code yX2_beginsWith cX2_beginsWith 5 (some .boolean), .methodLink RX2 11 yX2_lengthOf, .static yX2_lengthOf, .code yX2_lengthOf cX2_lengthOf 2 (some .int), .methodLink RX2 21 yX2_beginning, .static yX2_beginning, .code yX2_beginning cX2_beginning 4 (some .long), .constantLong RX2 15 (1125899906842623), .methodLink RX2 17 yX2_pack, .static yX2_pack, .code yX2_pack cX2_pack 3 (some .long)] ++ wsX00)
def wsX2_lengthShared : List Cond := .code yX2_lengthShared cX2_lengthShared 5 (some .int) :: ([.methodLink RX2 29 Lib.Math.min.name, .static Lib.Math.min.name, .initialized "java/lang/Math", .code Lib.Math.min.name Lib.Math.min.code 2 (some .int), .methodLink RX2 11 yX2_lengthOf, .static yX2_lengthOf, .initialized RX2, .code yX2_lengthOf cX2_lengthOf 2 (some .int), .methodLink RX2 21 yX2_beginning, .static yX2_beginning, .code yX2_beginning cX2_beginning 4 (some .long), .constantLong RX2 15 (1125899906842623), .methodLink RX2 17 yX2_pack, .static yX2_pack, .code yX2_pack cX2_pack 3 (some .long)])
def wsX0_lengthSharedBefore : List Cond := .code yX0_lengthSharedBefore cX0_lengthSharedBefore 4 (some .int) :: ([.fieldLink RX0 9 "GhostGame$Dictionary" "words" "[J", .methodLink RX0 50 Lib.Math.max.name, .static Lib.Math.max.name, .initialized "java/lang/Math", .code Lib.Math.max.name Lib.Math.max.code 2 (some .int), .methodLink RX0 46 yX2_lengthShared, .static yX2_lengthShared, .initialized RX2, .code yX2_lengthShared cX2_lengthShared 5 (some .int), .methodLink RX2 29 Lib.Math.min.name, .static Lib.Math.min.name, .code Lib.Math.min.name Lib.Math.min.code 2 (some .int), .methodLink RX2 11 yX2_lengthOf, .static yX2_lengthOf, .code yX2_lengthOf cX2_lengthOf 2 (some .int), .methodLink RX2 21 yX2_beginning, .static yX2_beginning, .code yX2_beginning cX2_beginning 4 (some .long), .constantLong RX2 15 (1125899906842623), .methodLink RX2 17 yX2_pack, .static yX2_pack, .code yX2_pack cX2_pack 3 (some .long)] ++ wsX00)
def wsX0_countBeginnings_r1 : List Cond := [Cond.fieldLink RX0 15 "GhostGame$Dictionary" "count" "I", Cond.fieldLink RX0 9 "GhostGame$Dictionary" "words" "[J", Cond.methodLink RX0 36 yX2_lengthOf, Cond.static yX2_lengthOf, Cond.initialized RX2, Cond.code yX2_lengthOf cX2_lengthOf 2 (some .int), Cond.methodLink RX0 39 yX0_lengthSharedBefore, Cond.instanceMethod yX0_lengthSharedBefore, Cond.selects RX0 yX0_lengthSharedBefore yX0_lengthSharedBefore, Cond.initialized RX0, Cond.code yX0_lengthSharedBefore cX0_lengthSharedBefore 4 (some .int), Cond.methodLink RX0 50 Lib.Math.max.name, Cond.static Lib.Math.max.name, Cond.initialized "java/lang/Math", Cond.code Lib.Math.max.name Lib.Math.max.code 2 (some .int), Cond.methodLink RX0 46 yX2_lengthShared, Cond.static yX2_lengthShared, Cond.code yX2_lengthShared cX2_lengthShared 5 (some .int), Cond.methodLink RX2 29 Lib.Math.min.name, Cond.static Lib.Math.min.name, Cond.code Lib.Math.min.name Lib.Math.min.code 2 (some .int), Cond.methodLink RX2 11 yX2_lengthOf, Cond.methodLink RX2 21 yX2_beginning, Cond.static yX2_beginning]
def wsX0_countBeginnings_r2 : List Cond := [Cond.code yX2_beginning cX2_beginning 4 (some .long), Cond.constantLong RX2 15 (1125899906842623), Cond.methodLink RX2 17 yX2_pack, Cond.static yX2_pack, Cond.code yX2_pack cX2_pack 3 (some .long)]
def wsX0_countBeginnings : List Cond := .code yX0_countBeginnings cX0_countBeginnings 3 (some .int) :: ((wsX0_countBeginnings_r1 ++ wsX0_countBeginnings_r2) ++ wsX00)
def wsX0_changeLeastLength : List Cond := .code yX0_changeLeastLength cX0_changeLeastLength 3 (some .int) :: ([.fieldLink RX0 19 "GhostGame$Dictionary" "leastLength" "I"] ++ wsX00)
def wsX0_isLongEnough : List Cond := .code yX0_isLongEnough cX0_isLongEnough 3 (some .boolean) :: ([.fieldLink RX0 19 "GhostGame$Dictionary" "leastLength" "I", .methodLink RX0 36 yX2_lengthOf, .static yX2_lengthOf, .initialized RX2, .code yX2_lengthOf cX2_lengthOf 2 (some .int)] ++ wsX00)
def wsX0_hasCounting : List Cond := .code yX0_hasCounting cX0_hasCounting 3 (some .boolean) :: ([.methodLink RX0 43 yX0_isLongEnough, .instanceMethod yX0_isLongEnough, .selects RX0 yX0_isLongEnough yX0_isLongEnough, .initialized RX0, .code yX0_isLongEnough cX0_isLongEnough 3 (some .boolean), .fieldLink RX0 19 "GhostGame$Dictionary" "leastLength" "I", .methodLink RX0 36 yX2_lengthOf, .static yX2_lengthOf, .initialized RX2, .code yX2_lengthOf cX2_lengthOf 2 (some .int), .methodLink RX0 28 yX0_has, .instanceMethod yX0_has, .selects RX0 yX0_has yX0_has, .code yX0_has cX0_has 3 (some .boolean), .methodLink RX0 22 yX0_placeOf, .instanceMethod yX0_placeOf, .selects RX0 yX0_placeOf yX0_placeOf, .code yX0_placeOf cX0_placeOf 4 (some .int), .fieldLink RX0 15 "GhostGame$Dictionary" "count" "I", .fieldLink RX0 9 "GhostGame$Dictionary" "words" "[J"] ++ wsX00)
def wsX0_hasCountingFrom : List Cond := .code yX0_hasCountingFrom cX0_hasCountingFrom 4 (some .boolean) :: ([.fieldLink RX0 15 "GhostGame$Dictionary" "count" "I", .fieldLink RX0 9 "GhostGame$Dictionary" "words" "[J", .methodLink RX0 43 yX0_isLongEnough, .instanceMethod yX0_isLongEnough, .selects RX0 yX0_isLongEnough yX0_isLongEnough, .initialized RX0, .code yX0_isLongEnough cX0_isLongEnough 3 (some .boolean), .fieldLink RX0 19 "GhostGame$Dictionary" "leastLength" "I", .methodLink RX0 36 yX2_lengthOf, .static yX2_lengthOf, .initialized RX2, .code yX2_lengthOf cX2_lengthOf 2 (some .int), .methodLink RX0 32 yX2_beginsWith, .static yX2_beginsWith, .code yX2_beginsWith cX2_beginsWith 5 (some .boolean), .methodLink RX2 11 yX2_lengthOf, .methodLink RX2 21 yX2_beginning, .static yX2_beginning, .code yX2_beginning cX2_beginning 4 (some .long), .constantLong RX2 15 (1125899906842623), .methodLink RX2 17 yX2_pack, .static yX2_pack, .code yX2_pack cX2_pack 3 (some .long)] ++ wsX00)
def wsX1_init : List Cond := .code yX1_init cX1_init 1 none :: ([.methodLink RX1 3 objectInit, .instanceMethod objectInit, .code objectInit ⟨#[0xb1]⟩ 1 none, .arrayClass .int, .fieldLink RX1 9 "GhostGame$Game" "strikes" "[I", .fieldLink RX1 15 "GhostGame$Game" "playerCount" "I", .fieldLink RX1 19 "GhostGame$Game" "mover" "I", .fieldLink RX1 22 "GhostGame$Game" "lastMover" "I", .fieldLink RX1 25 "GhostGame$Game" "champion" "I", .fieldLink RX1 30 "GhostGame$Game" "fragment" "J"] ++ wsX10)
def wsX1_begin : List Cond := .code yX1_begin cX1_begin 3 none :: ([.fieldLink RX1 9 "GhostGame$Game" "strikes" "[I", .fieldLink RX1 15 "GhostGame$Game" "playerCount" "I", .fieldLink RX1 19 "GhostGame$Game" "mover" "I", .fieldLink RX1 22 "GhostGame$Game" "lastMover" "I", .fieldLink RX1 25 "GhostGame$Game" "champion" "I", .fieldLink RX1 30 "GhostGame$Game" "fragment" "J"] ++ wsX10)
def wsX1_isOn : List Cond := .code yX1_isOn cX1_isOn 1 (some .boolean) :: ([.fieldLink RX1 19 "GhostGame$Game" "mover" "I"] ++ wsX10)
def wsX1_mover : List Cond := .code yX1_mover cX1_mover 1 (some .int) :: ([.fieldLink RX1 19 "GhostGame$Game" "mover" "I"] ++ wsX10)
def wsX1_champion : List Cond := .code yX1_champion cX1_champion 1 (some .int) :: ([.fieldLink RX1 25 "GhostGame$Game" "champion" "I"] ++ wsX10)
def wsX1_playerCount : List Cond := .code yX1_playerCount cX1_playerCount 1 (some .int) :: ([.fieldLink RX1 15 "GhostGame$Game" "playerCount" "I"] ++ wsX10)
def wsX1_fragment : List Cond := .code yX1_fragment cX1_fragment 1 (some .long) :: ([.fieldLink RX1 30 "GhostGame$Game" "fragment" "J"] ++ wsX10)
def wsX1_hasPlayer : List Cond := .code yX1_hasPlayer cX1_hasPlayer 2 (some .boolean) :: ([.fieldLink RX1 15 "GhostGame$Game" "playerCount" "I", .fieldLink RX1 9 "GhostGame$Game" "strikes" "[I"] ++ wsX10)
def wsX1_strikesOf : List Cond := .code yX1_strikesOf cX1_strikesOf 2 (some .int) :: ([.fieldLink RX1 9 "GhostGame$Game" "strikes" "[I", .methodLink RX1 34 yX1_hasPlayer, .instanceMethod yX1_hasPlayer, .selects RX1 yX1_hasPlayer yX1_hasPlayer, .initialized RX1, .code yX1_hasPlayer cX1_hasPlayer 2 (some .boolean), .fieldLink RX1 15 "GhostGame$Game" "playerCount" "I"] ++ wsX10)
def wsX2_with : List Cond := .code yX2_with cX2_with 3 (some .long) :: ([.constantLong RX2 15 (1125899906842623), .methodLink RX2 11 yX2_lengthOf, .static yX2_lengthOf, .initialized RX2, .code yX2_lengthOf cX2_lengthOf 2 (some .int), .methodLink RX2 17 yX2_pack, .static yX2_pack, .code yX2_pack cX2_pack 3 (some .long)])
def wsX1_isOut : List Cond := .code yX1_isOut cX1_isOut 2 (some .boolean) :: ([.methodLink RX1 65 yX1_strikesOf, .instanceMethod yX1_strikesOf, .selects RX1 yX1_strikesOf yX1_strikesOf, .initialized RX1, .code yX1_strikesOf cX1_strikesOf 2 (some .int), .fieldLink RX1 9 "GhostGame$Game" "strikes" "[I", .methodLink RX1 34 yX1_hasPlayer, .instanceMethod yX1_hasPlayer, .selects RX1 yX1_hasPlayer yX1_hasPlayer, .code yX1_hasPlayer cX1_hasPlayer 2 (some .boolean), .fieldLink RX1 15 "GhostGame$Game" "playerCount" "I"] ++ wsX10)
def wsX1_playersLeft : List Cond := .code yX1_playersLeft cX1_playersLeft 3 (some .int) :: ([.fieldLink RX1 15 "GhostGame$Game" "playerCount" "I", .methodLink RX1 62 yX1_isOut, .instanceMethod yX1_isOut, .selects RX1 yX1_isOut yX1_isOut, .initialized RX1, .code yX1_isOut cX1_isOut 2 (some .boolean), .methodLink RX1 65 yX1_strikesOf, .instanceMethod yX1_strikesOf, .selects RX1 yX1_strikesOf yX1_strikesOf, .code yX1_strikesOf cX1_strikesOf 2 (some .int), .fieldLink RX1 9 "GhostGame$Game" "strikes" "[I", .methodLink RX1 34 yX1_hasPlayer, .instanceMethod yX1_hasPlayer, .selects RX1 yX1_hasPlayer yX1_hasPlayer, .code yX1_hasPlayer cX1_hasPlayer 2 (some .boolean)] ++ wsX10)
def wsX1_nextBehind : List Cond := .code yX1_nextBehind cX1_nextBehind 4 (some .int) :: ([.fieldLink RX1 15 "GhostGame$Game" "playerCount" "I", .methodLink RX1 62 yX1_isOut, .instanceMethod yX1_isOut, .selects RX1 yX1_isOut yX1_isOut, .initialized RX1, .code yX1_isOut cX1_isOut 2 (some .boolean), .methodLink RX1 65 yX1_strikesOf, .instanceMethod yX1_strikesOf, .selects RX1 yX1_strikesOf yX1_strikesOf, .code yX1_strikesOf cX1_strikesOf 2 (some .int), .fieldLink RX1 9 "GhostGame$Game" "strikes" "[I", .methodLink RX1 34 yX1_hasPlayer, .instanceMethod yX1_hasPlayer, .selects RX1 yX1_hasPlayer yX1_hasPlayer, .code yX1_hasPlayer cX1_hasPlayer 2 (some .boolean)] ++ wsX10)
def wsX1_endRound_r1 : List Cond := [Cond.fieldLink RX1 9 "GhostGame$Game" "strikes" "[I", Cond.fieldLink RX1 30 "GhostGame$Game" "fragment" "J", Cond.fieldLink RX1 25 "GhostGame$Game" "champion" "I", Cond.fieldLink RX1 19 "GhostGame$Game" "mover" "I", Cond.methodLink RX1 34 yX1_hasPlayer, Cond.instanceMethod yX1_hasPlayer, Cond.selects RX1 yX1_hasPlayer yX1_hasPlayer, Cond.initialized RX1, Cond.code yX1_hasPlayer cX1_hasPlayer 2 (some .boolean), Cond.fieldLink RX1 15 "GhostGame$Game" "playerCount" "I", Cond.methodLink RX1 58 yX1_playersLeft, Cond.instanceMethod yX1_playersLeft, Cond.selects RX1 yX1_playersLeft yX1_playersLeft, Cond.code yX1_playersLeft cX1_playersLeft 3 (some .int), Cond.methodLink RX1 62 yX1_isOut, Cond.instanceMethod yX1_isOut, Cond.selects RX1 yX1_isOut yX1_isOut, Cond.code yX1_isOut cX1_isOut 2 (some .boolean), Cond.methodLink RX1 65 yX1_strikesOf, Cond.instanceMethod yX1_strikesOf, Cond.selects RX1 yX1_strikesOf yX1_strikesOf, Cond.code yX1_strikesOf cX1_strikesOf 2 (some .int), Cond.methodLink RX1 52 yX1_nextBehind, Cond.instanceMethod yX1_nextBehind]
def wsX1_endRound_r2 : List Cond := [Cond.selects RX1 yX1_nextBehind yX1_nextBehind, Cond.code yX1_nextBehind cX1_nextBehind 4 (some .int)]
def wsX1_endRound : List Cond := .code yX1_endRound cX1_endRound 2 (some .int) :: ((wsX1_endRound_r1 ++ wsX1_endRound_r2) ++ wsX10)
def wsX1_addLetter_r1 : List Cond := [Cond.fieldLink RX1 30 "GhostGame$Game" "fragment" "J", Cond.fieldLink RX1 19 "GhostGame$Game" "mover" "I", Cond.fieldLink RX1 22 "GhostGame$Game" "lastMover" "I", Cond.methodLink RX1 38 yX2_with, Cond.static yX2_with, Cond.initialized RX2, Cond.code yX2_with cX2_with 3 (some .long), Cond.constantLong RX2 15 (1125899906842623), Cond.methodLink RX2 11 yX2_lengthOf, Cond.static yX2_lengthOf, Cond.code yX2_lengthOf cX2_lengthOf 2 (some .int), Cond.methodLink RX2 17 yX2_pack, Cond.static yX2_pack, Cond.code yX2_pack cX2_pack 3 (some .long), Cond.methodLink RX1 42 yX0_hasCounting, Cond.instanceMethod yX0_hasCounting, Cond.selects RX0 yX0_hasCounting yX0_hasCounting, Cond.initialized RX0, Cond.code yX0_hasCounting cX0_hasCounting 3 (some .boolean), Cond.methodLink RX0 43 yX0_isLongEnough, Cond.instanceMethod yX0_isLongEnough, Cond.selects RX0 yX0_isLongEnough yX0_isLongEnough, Cond.code yX0_isLongEnough cX0_isLongEnough 3 (some .boolean), Cond.fieldLink RX0 19 "GhostGame$Dictionary" "leastLength" "I"]
def wsX1_addLetter_r2 : List Cond := [Cond.methodLink RX0 36 yX2_lengthOf, Cond.methodLink RX0 28 yX0_has, Cond.instanceMethod yX0_has, Cond.selects RX0 yX0_has yX0_has, Cond.code yX0_has cX0_has 3 (some .boolean), Cond.methodLink RX0 22 yX0_placeOf, Cond.instanceMethod yX0_placeOf, Cond.selects RX0 yX0_placeOf yX0_placeOf, Cond.code yX0_placeOf cX0_placeOf 4 (some .int), Cond.fieldLink RX0 15 "GhostGame$Dictionary" "count" "I", Cond.fieldLink RX0 9 "GhostGame$Dictionary" "words" "[J", Cond.methodLink RX1 48 yX1_endRound, Cond.instanceMethod yX1_endRound, Cond.selects RX1 yX1_endRound yX1_endRound, Cond.initialized RX1, Cond.code yX1_endRound cX1_endRound 2 (some .int), Cond.fieldLink RX1 9 "GhostGame$Game" "strikes" "[I", Cond.fieldLink RX1 25 "GhostGame$Game" "champion" "I", Cond.methodLink RX1 34 yX1_hasPlayer, Cond.instanceMethod yX1_hasPlayer, Cond.selects RX1 yX1_hasPlayer yX1_hasPlayer, Cond.code yX1_hasPlayer cX1_hasPlayer 2 (some .boolean), Cond.fieldLink RX1 15 "GhostGame$Game" "playerCount" "I", Cond.methodLink RX1 58 yX1_playersLeft]
def wsX1_addLetter_r3 : List Cond := [Cond.instanceMethod yX1_playersLeft, Cond.selects RX1 yX1_playersLeft yX1_playersLeft, Cond.code yX1_playersLeft cX1_playersLeft 3 (some .int), Cond.methodLink RX1 62 yX1_isOut, Cond.instanceMethod yX1_isOut, Cond.selects RX1 yX1_isOut yX1_isOut, Cond.code yX1_isOut cX1_isOut 2 (some .boolean), Cond.methodLink RX1 65 yX1_strikesOf, Cond.instanceMethod yX1_strikesOf, Cond.selects RX1 yX1_strikesOf yX1_strikesOf, Cond.code yX1_strikesOf cX1_strikesOf 2 (some .int), Cond.methodLink RX1 52 yX1_nextBehind, Cond.instanceMethod yX1_nextBehind, Cond.selects RX1 yX1_nextBehind yX1_nextBehind, Cond.code yX1_nextBehind cX1_nextBehind 4 (some .int)]
def wsX1_addLetter : List Cond := .code yX1_addLetter cX1_addLetter 3 (some .int) :: ((wsX1_addLetter_r1 ++ (wsX1_addLetter_r2 ++ wsX1_addLetter_r3)) ++ wsX10 ++ wsX00)
def wsX1_settleChallenge_r1 : List Cond := [Cond.fieldLink RX1 30 "GhostGame$Game" "fragment" "J", Cond.fieldLink RX1 19 "GhostGame$Game" "mover" "I", Cond.fieldLink RX1 22 "GhostGame$Game" "lastMover" "I", Cond.methodLink RX1 55 yX0_hasCountingFrom, Cond.instanceMethod yX0_hasCountingFrom, Cond.selects RX0 yX0_hasCountingFrom yX0_hasCountingFrom, Cond.initialized RX0, Cond.code yX0_hasCountingFrom cX0_hasCountingFrom 4 (some .boolean), Cond.fieldLink RX0 15 "GhostGame$Dictionary" "count" "I", Cond.fieldLink RX0 9 "GhostGame$Dictionary" "words" "[J", Cond.methodLink RX0 43 yX0_isLongEnough, Cond.instanceMethod yX0_isLongEnough, Cond.selects RX0 yX0_isLongEnough yX0_isLongEnough, Cond.code yX0_isLongEnough cX0_isLongEnough 3 (some .boolean), Cond.fieldLink RX0 19 "GhostGame$Dictionary" "leastLength" "I", Cond.methodLink RX0 36 yX2_lengthOf, Cond.static yX2_lengthOf, Cond.initialized RX2, Cond.code yX2_lengthOf cX2_lengthOf 2 (some .int), Cond.methodLink RX0 32 yX2_beginsWith, Cond.static yX2_beginsWith, Cond.code yX2_beginsWith cX2_beginsWith 5 (some .boolean), Cond.methodLink RX2 11 yX2_lengthOf, Cond.methodLink RX2 21 yX2_beginning]
def wsX1_settleChallenge_r2 : List Cond := [Cond.static yX2_beginning, Cond.code yX2_beginning cX2_beginning 4 (some .long), Cond.constantLong RX2 15 (1125899906842623), Cond.methodLink RX2 17 yX2_pack, Cond.static yX2_pack, Cond.code yX2_pack cX2_pack 3 (some .long), Cond.methodLink RX1 48 yX1_endRound, Cond.instanceMethod yX1_endRound, Cond.selects RX1 yX1_endRound yX1_endRound, Cond.initialized RX1, Cond.code yX1_endRound cX1_endRound 2 (some .int), Cond.fieldLink RX1 9 "GhostGame$Game" "strikes" "[I", Cond.fieldLink RX1 25 "GhostGame$Game" "champion" "I", Cond.methodLink RX1 34 yX1_hasPlayer, Cond.instanceMethod yX1_hasPlayer, Cond.selects RX1 yX1_hasPlayer yX1_hasPlayer, Cond.code yX1_hasPlayer cX1_hasPlayer 2 (some .boolean), Cond.fieldLink RX1 15 "GhostGame$Game" "playerCount" "I", Cond.methodLink RX1 58 yX1_playersLeft, Cond.instanceMethod yX1_playersLeft, Cond.selects RX1 yX1_playersLeft yX1_playersLeft, Cond.code yX1_playersLeft cX1_playersLeft 3 (some .int), Cond.methodLink RX1 62 yX1_isOut, Cond.instanceMethod yX1_isOut]
def wsX1_settleChallenge_r3 : List Cond := [Cond.selects RX1 yX1_isOut yX1_isOut, Cond.code yX1_isOut cX1_isOut 2 (some .boolean), Cond.methodLink RX1 65 yX1_strikesOf, Cond.instanceMethod yX1_strikesOf, Cond.selects RX1 yX1_strikesOf yX1_strikesOf, Cond.code yX1_strikesOf cX1_strikesOf 2 (some .int), Cond.methodLink RX1 52 yX1_nextBehind, Cond.instanceMethod yX1_nextBehind, Cond.selects RX1 yX1_nextBehind yX1_nextBehind, Cond.code yX1_nextBehind cX1_nextBehind 4 (some .int)]
def wsX1_settleChallenge : List Cond := .code yX1_settleChallenge cX1_settleChallenge 2 (some .int) :: ((wsX1_settleChallenge_r1 ++ (wsX1_settleChallenge_r2 ++ wsX1_settleChallenge_r3)) ++ wsX10 ++ wsX00)
def wsX2_isFull : List Cond := .code yX2_isFull cX2_isFull 2 (some .boolean) :: ([.methodLink RX2 11 yX2_lengthOf, .static yX2_lengthOf, .initialized RX2, .code yX2_lengthOf cX2_lengthOf 2 (some .int)])
def wsX2_letterAt : List Cond := .code yX2_letterAt cX2_letterAt 4 (some .int) :: ([.methodLink RX2 11 yX2_lengthOf, .static yX2_lengthOf, .initialized RX2, .code yX2_lengthOf cX2_lengthOf 2 (some .int)])
def wsX2_goesOnBehind : List Cond := .code yX2_goesOnBehind cX2_goesOnBehind 4 (some .boolean) :: ([.methodLink RX2 25 yX2_beginsWith, .static yX2_beginsWith, .initialized RX2, .code yX2_beginsWith cX2_beginsWith 5 (some .boolean), .methodLink RX2 11 yX2_lengthOf, .static yX2_lengthOf, .code yX2_lengthOf cX2_lengthOf 2 (some .int), .methodLink RX2 21 yX2_beginning, .static yX2_beginning, .code yX2_beginning cX2_beginning 4 (some .long), .constantLong RX2 15 (1125899906842623), .methodLink RX2 17 yX2_pack, .static yX2_pack, .code yX2_pack cX2_pack 3 (some .long)])
def wsX3_leadsOn : List Cond := .code yX3_leadsOn cX3_leadsOn 5 (some .boolean) :: ([.methodLink RX3 78 yX0_isLongEnough, .instanceMethod yX0_isLongEnough, .selects RX0 yX0_isLongEnough yX0_isLongEnough, .initialized RX0, .code yX0_isLongEnough cX0_isLongEnough 3 (some .boolean), .fieldLink RX0 19 "GhostGame$Dictionary" "leastLength" "I", .methodLink RX0 36 yX2_lengthOf, .static yX2_lengthOf, .initialized RX2, .code yX2_lengthOf cX2_lengthOf 2 (some .int), .methodLink RX3 81 yX2_goesOnBehind, .static yX2_goesOnBehind, .code yX2_goesOnBehind cX2_goesOnBehind 4 (some .boolean), .methodLink RX2 25 yX2_beginsWith, .static yX2_beginsWith, .code yX2_beginsWith cX2_beginsWith 5 (some .boolean), .methodLink RX2 11 yX2_lengthOf, .methodLink RX2 21 yX2_beginning, .static yX2_beginning, .code yX2_beginning cX2_beginning 4 (some .long), .constantLong RX2 15 (1125899906842623), .methodLink RX2 17 yX2_pack, .static yX2_pack, .code yX2_pack cX2_pack 3 (some .long)] ++ wsX00)
def wsX3_lettersOpenBehind_r1 : List Cond := [Cond.methodLink RX3 9 yX0_size, Cond.instanceMethod yX0_size, Cond.selects RX0 yX0_size yX0_size, Cond.initialized RX0, Cond.code yX0_size cX0_size 1 (some .int), Cond.fieldLink RX0 15 "GhostGame$Dictionary" "count" "I", Cond.methodLink RX3 15 yX0_wordAt, Cond.instanceMethod yX0_wordAt, Cond.selects RX0 yX0_wordAt yX0_wordAt, Cond.code yX0_wordAt cX0_wordAt 2 (some .long), Cond.fieldLink RX0 9 "GhostGame$Dictionary" "words" "[J", Cond.methodLink RX3 19 yX3_leadsOn, Cond.static yX3_leadsOn, Cond.initialized RX3, Cond.code yX3_leadsOn cX3_leadsOn 5 (some .boolean), Cond.methodLink RX3 78 yX0_isLongEnough, Cond.instanceMethod yX0_isLongEnough, Cond.selects RX0 yX0_isLongEnough yX0_isLongEnough, Cond.code yX0_isLongEnough cX0_isLongEnough 3 (some .boolean), Cond.fieldLink RX0 19 "GhostGame$Dictionary" "leastLength" "I", Cond.methodLink RX0 36 yX2_lengthOf, Cond.static yX2_lengthOf, Cond.initialized RX2, Cond.code yX2_lengthOf cX2_lengthOf 2 (some .int)]
def wsX3_lettersOpenBehind_r2 : List Cond := [Cond.methodLink RX3 81 yX2_goesOnBehind, Cond.static yX2_goesOnBehind, Cond.code yX2_goesOnBehind cX2_goesOnBehind 4 (some .boolean), Cond.methodLink RX2 25 yX2_beginsWith, Cond.static yX2_beginsWith, Cond.code yX2_beginsWith cX2_beginsWith 5 (some .boolean), Cond.methodLink RX2 11 yX2_lengthOf, Cond.methodLink RX2 21 yX2_beginning, Cond.static yX2_beginning, Cond.code yX2_beginning cX2_beginning 4 (some .long), Cond.constantLong RX2 15 (1125899906842623), Cond.methodLink RX2 17 yX2_pack, Cond.static yX2_pack, Cond.code yX2_pack cX2_pack 3 (some .long), Cond.methodLink RX3 25 yX2_lengthOf, Cond.methodLink RX3 31 yX2_letterAt, Cond.static yX2_letterAt, Cond.code yX2_letterAt cX2_letterAt 4 (some .int)]
def wsX3_lettersOpenBehind : List Cond := .code yX3_lettersOpenBehind cX3_lettersOpenBehind 7 (some .int) :: ((wsX3_lettersOpenBehind_r1 ++ wsX3_lettersOpenBehind_r2) ++ wsX00)
def wsX3_isIn : List Cond := .code yX3_isIn cX3_isIn 2 (some .boolean) :: ([])
def wsX3_score_r1 : List Cond := [Cond.methodLink RX3 67 Lib.Math.max.name, Cond.static Lib.Math.max.name, Cond.initialized "java/lang/Math", Cond.code Lib.Math.max.name Lib.Math.max.code 2 (some .int), Cond.methodLink RX3 63 yX2_isFull, Cond.static yX2_isFull, Cond.initialized RX2, Cond.code yX2_isFull cX2_isFull 2 (some .boolean), Cond.methodLink RX2 11 yX2_lengthOf, Cond.static yX2_lengthOf, Cond.code yX2_lengthOf cX2_lengthOf 2 (some .int), Cond.methodLink RX3 35 yX3_lettersOpenBehind, Cond.static yX3_lettersOpenBehind, Cond.initialized RX3, Cond.code yX3_lettersOpenBehind cX3_lettersOpenBehind 7 (some .int), Cond.methodLink RX3 9 yX0_size, Cond.instanceMethod yX0_size, Cond.selects RX0 yX0_size yX0_size, Cond.initialized RX0, Cond.code yX0_size cX0_size 1 (some .int), Cond.fieldLink RX0 15 "GhostGame$Dictionary" "count" "I", Cond.methodLink RX3 15 yX0_wordAt, Cond.instanceMethod yX0_wordAt, Cond.selects RX0 yX0_wordAt yX0_wordAt]
def wsX3_score_r2 : List Cond := [Cond.code yX0_wordAt cX0_wordAt 2 (some .long), Cond.fieldLink RX0 9 "GhostGame$Dictionary" "words" "[J", Cond.methodLink RX3 19 yX3_leadsOn, Cond.static yX3_leadsOn, Cond.code yX3_leadsOn cX3_leadsOn 5 (some .boolean), Cond.methodLink RX3 78 yX0_isLongEnough, Cond.instanceMethod yX0_isLongEnough, Cond.selects RX0 yX0_isLongEnough yX0_isLongEnough, Cond.code yX0_isLongEnough cX0_isLongEnough 3 (some .boolean), Cond.fieldLink RX0 19 "GhostGame$Dictionary" "leastLength" "I", Cond.methodLink RX0 36 yX2_lengthOf, Cond.methodLink RX3 81 yX2_goesOnBehind, Cond.static yX2_goesOnBehind, Cond.code yX2_goesOnBehind cX2_goesOnBehind 4 (some .boolean), Cond.methodLink RX2 25 yX2_beginsWith, Cond.static yX2_beginsWith, Cond.code yX2_beginsWith cX2_beginsWith 5 (some .boolean), Cond.methodLink RX2 21 yX2_beginning, Cond.static yX2_beginning, Cond.code yX2_beginning cX2_beginning 4 (some .long), Cond.constantLong RX2 15 (1125899906842623), Cond.methodLink RX2 17 yX2_pack, Cond.static yX2_pack, Cond.code yX2_pack cX2_pack 3 (some .long)]
def wsX3_score_r3 : List Cond := [Cond.methodLink RX3 25 yX2_lengthOf, Cond.methodLink RX3 31 yX2_letterAt, Cond.static yX2_letterAt, Cond.code yX2_letterAt cX2_letterAt 4 (some .int), Cond.methodLink RX3 39 yX3_isIn, Cond.static yX3_isIn, Cond.code yX3_isIn cX3_isIn 2 (some .boolean), Cond.methodLink RX3 43 yX3_scoreOfLetter, Cond.static yX3_scoreOfLetter, Cond.code yX3_scoreOfLetter cX3_scoreOfLetter 7 (some .int), Cond.methodLink RX3 71 yX2_with, Cond.static yX2_with, Cond.code yX2_with cX2_with 3 (some .long), Cond.methodLink RX3 75 yX0_hasCounting, Cond.instanceMethod yX0_hasCounting, Cond.selects RX0 yX0_hasCounting yX0_hasCounting, Cond.code yX0_hasCounting cX0_hasCounting 3 (some .boolean), Cond.methodLink RX0 43 yX0_isLongEnough, Cond.methodLink RX0 28 yX0_has, Cond.instanceMethod yX0_has, Cond.selects RX0 yX0_has yX0_has, Cond.code yX0_has cX0_has 3 (some .boolean), Cond.methodLink RX0 22 yX0_placeOf, Cond.instanceMethod yX0_placeOf]
def wsX3_score_r4 : List Cond := [Cond.selects RX0 yX0_placeOf yX0_placeOf, Cond.code yX0_placeOf cX0_placeOf 4 (some .int), Cond.methodLink RX3 47 yX3_score, Cond.static yX3_score]
def wsX3_score : List Cond := .code yX3_score cX3_score 6 (some .int) :: ((wsX3_score_r1 ++ (wsX3_score_r2 ++ (wsX3_score_r3 ++ wsX3_score_r4))) ++ wsX00)
def wsX3_scoreOfLetter_r1 : List Cond := [Cond.methodLink RX3 71 yX2_with, Cond.static yX2_with, Cond.initialized RX2, Cond.code yX2_with cX2_with 3 (some .long), Cond.constantLong RX2 15 (1125899906842623), Cond.methodLink RX2 11 yX2_lengthOf, Cond.static yX2_lengthOf, Cond.code yX2_lengthOf cX2_lengthOf 2 (some .int), Cond.methodLink RX2 17 yX2_pack, Cond.static yX2_pack, Cond.code yX2_pack cX2_pack 3 (some .long), Cond.methodLink RX3 75 yX0_hasCounting, Cond.instanceMethod yX0_hasCounting, Cond.selects RX0 yX0_hasCounting yX0_hasCounting, Cond.initialized RX0, Cond.code yX0_hasCounting cX0_hasCounting 3 (some .boolean), Cond.methodLink RX0 43 yX0_isLongEnough, Cond.instanceMethod yX0_isLongEnough, Cond.selects RX0 yX0_isLongEnough yX0_isLongEnough, Cond.code yX0_isLongEnough cX0_isLongEnough 3 (some .boolean), Cond.fieldLink RX0 19 "GhostGame$Dictionary" "leastLength" "I", Cond.methodLink RX0 36 yX2_lengthOf, Cond.methodLink RX0 28 yX0_has, Cond.instanceMethod yX0_has]
def wsX3_scoreOfLetter_r2 : List Cond := [Cond.selects RX0 yX0_has yX0_has, Cond.code yX0_has cX0_has 3 (some .boolean), Cond.methodLink RX0 22 yX0_placeOf, Cond.instanceMethod yX0_placeOf, Cond.selects RX0 yX0_placeOf yX0_placeOf, Cond.code yX0_placeOf cX0_placeOf 4 (some .int), Cond.fieldLink RX0 15 "GhostGame$Dictionary" "count" "I", Cond.fieldLink RX0 9 "GhostGame$Dictionary" "words" "[J", Cond.methodLink RX3 47 yX3_score, Cond.static yX3_score, Cond.initialized RX3, Cond.code yX3_score cX3_score 6 (some .int), Cond.methodLink RX3 67 Lib.Math.max.name, Cond.static Lib.Math.max.name, Cond.initialized "java/lang/Math", Cond.code Lib.Math.max.name Lib.Math.max.code 2 (some .int), Cond.methodLink RX3 63 yX2_isFull, Cond.static yX2_isFull, Cond.code yX2_isFull cX2_isFull 2 (some .boolean), Cond.methodLink RX3 35 yX3_lettersOpenBehind, Cond.static yX3_lettersOpenBehind, Cond.code yX3_lettersOpenBehind cX3_lettersOpenBehind 7 (some .int), Cond.methodLink RX3 9 yX0_size, Cond.instanceMethod yX0_size]
def wsX3_scoreOfLetter_r3 : List Cond := [Cond.selects RX0 yX0_size yX0_size, Cond.code yX0_size cX0_size 1 (some .int), Cond.methodLink RX3 15 yX0_wordAt, Cond.instanceMethod yX0_wordAt, Cond.selects RX0 yX0_wordAt yX0_wordAt, Cond.code yX0_wordAt cX0_wordAt 2 (some .long), Cond.methodLink RX3 19 yX3_leadsOn, Cond.static yX3_leadsOn, Cond.code yX3_leadsOn cX3_leadsOn 5 (some .boolean), Cond.methodLink RX3 78 yX0_isLongEnough, Cond.methodLink RX3 81 yX2_goesOnBehind, Cond.static yX2_goesOnBehind, Cond.code yX2_goesOnBehind cX2_goesOnBehind 4 (some .boolean), Cond.methodLink RX2 25 yX2_beginsWith, Cond.static yX2_beginsWith, Cond.code yX2_beginsWith cX2_beginsWith 5 (some .boolean), Cond.methodLink RX2 21 yX2_beginning, Cond.static yX2_beginning, Cond.code yX2_beginning cX2_beginning 4 (some .long), Cond.methodLink RX3 25 yX2_lengthOf, Cond.methodLink RX3 31 yX2_letterAt, Cond.static yX2_letterAt, Cond.code yX2_letterAt cX2_letterAt 4 (some .int), Cond.methodLink RX3 39 yX3_isIn]
def wsX3_scoreOfLetter_r4 : List Cond := [Cond.static yX3_isIn, Cond.code yX3_isIn cX3_isIn 2 (some .boolean), Cond.methodLink RX3 43 yX3_scoreOfLetter, Cond.static yX3_scoreOfLetter]
def wsX3_scoreOfLetter : List Cond := .code yX3_scoreOfLetter cX3_scoreOfLetter 7 (some .int) :: ((wsX3_scoreOfLetter_r1 ++ (wsX3_scoreOfLetter_r2 ++ (wsX3_scoreOfLetter_r3 ++ wsX3_scoreOfLetter_r4))) ++ wsX00)
def wsX3_lettersWinningBehind_r1 : List Cond := [Cond.methodLink RX3 35 yX3_lettersOpenBehind, Cond.static yX3_lettersOpenBehind, Cond.initialized RX3, Cond.code yX3_lettersOpenBehind cX3_lettersOpenBehind 7 (some .int), Cond.methodLink RX3 9 yX0_size, Cond.instanceMethod yX0_size, Cond.selects RX0 yX0_size yX0_size, Cond.initialized RX0, Cond.code yX0_size cX0_size 1 (some .int), Cond.fieldLink RX0 15 "GhostGame$Dictionary" "count" "I", Cond.methodLink RX3 15 yX0_wordAt, Cond.instanceMethod yX0_wordAt, Cond.selects RX0 yX0_wordAt yX0_wordAt, Cond.code yX0_wordAt cX0_wordAt 2 (some .long), Cond.fieldLink RX0 9 "GhostGame$Dictionary" "words" "[J", Cond.methodLink RX3 19 yX3_leadsOn, Cond.static yX3_leadsOn, Cond.code yX3_leadsOn cX3_leadsOn 5 (some .boolean), Cond.methodLink RX3 78 yX0_isLongEnough, Cond.instanceMethod yX0_isLongEnough, Cond.selects RX0 yX0_isLongEnough yX0_isLongEnough, Cond.code yX0_isLongEnough cX0_isLongEnough 3 (some .boolean), Cond.fieldLink RX0 19 "GhostGame$Dictionary" "leastLength" "I", Cond.methodLink RX0 36 yX2_lengthOf]
def wsX3_lettersWinningBehind_r2 : List Cond := [Cond.static yX2_lengthOf, Cond.initialized RX2, Cond.code yX2_lengthOf cX2_lengthOf 2 (some .int), Cond.methodLink RX3 81 yX2_goesOnBehind, Cond.static yX2_goesOnBehind, Cond.code yX2_goesOnBehind cX2_goesOnBehind 4 (some .boolean), Cond.methodLink RX2 25 yX2_beginsWith, Cond.static yX2_beginsWith, Cond.code yX2_beginsWith cX2_beginsWith 5 (some .boolean), Cond.methodLink RX2 11 yX2_lengthOf, Cond.methodLink RX2 21 yX2_beginning, Cond.static yX2_beginning, Cond.code yX2_beginning cX2_beginning 4 (some .long), Cond.constantLong RX2 15 (1125899906842623), Cond.methodLink RX2 17 yX2_pack, Cond.static yX2_pack, Cond.code yX2_pack cX2_pack 3 (some .long), Cond.methodLink RX3 25 yX2_lengthOf, Cond.methodLink RX3 31 yX2_letterAt, Cond.static yX2_letterAt, Cond.code yX2_letterAt cX2_letterAt 4 (some .int), Cond.methodLink RX3 39 yX3_isIn, Cond.static yX3_isIn, Cond.code yX3_isIn cX3_isIn 2 (some .boolean)]
def wsX3_lettersWinningBehind_r3 : List Cond := [Cond.methodLink RX3 43 yX3_scoreOfLetter, Cond.static yX3_scoreOfLetter, Cond.code yX3_scoreOfLetter cX3_scoreOfLetter 7 (some .int), Cond.methodLink RX3 71 yX2_with, Cond.static yX2_with, Cond.code yX2_with cX2_with 3 (some .long), Cond.methodLink RX3 75 yX0_hasCounting, Cond.instanceMethod yX0_hasCounting, Cond.selects RX0 yX0_hasCounting yX0_hasCounting, Cond.code yX0_hasCounting cX0_hasCounting 3 (some .boolean), Cond.methodLink RX0 43 yX0_isLongEnough, Cond.methodLink RX0 28 yX0_has, Cond.instanceMethod yX0_has, Cond.selects RX0 yX0_has yX0_has, Cond.code yX0_has cX0_has 3 (some .boolean), Cond.methodLink RX0 22 yX0_placeOf, Cond.instanceMethod yX0_placeOf, Cond.selects RX0 yX0_placeOf yX0_placeOf, Cond.code yX0_placeOf cX0_placeOf 4 (some .int), Cond.methodLink RX3 47 yX3_score, Cond.static yX3_score, Cond.code yX3_score cX3_score 6 (some .int), Cond.methodLink RX3 67 Lib.Math.max.name, Cond.static Lib.Math.max.name]
def wsX3_lettersWinningBehind_r4 : List Cond := [Cond.initialized "java/lang/Math", Cond.code Lib.Math.max.name Lib.Math.max.code 2 (some .int), Cond.methodLink RX3 63 yX2_isFull, Cond.static yX2_isFull, Cond.code yX2_isFull cX2_isFull 2 (some .boolean)]
def wsX3_lettersWinningBehind : List Cond := .code yX3_lettersWinningBehind cX3_lettersWinningBehind 6 (some .int) :: ((wsX3_lettersWinningBehind_r1 ++ (wsX3_lettersWinningBehind_r2 ++ (wsX3_lettersWinningBehind_r3 ++ wsX3_lettersWinningBehind_r4))) ++ wsX00)
def wsX3_moverWins_r1 : List Cond := [Cond.methodLink RX3 47 yX3_score, Cond.static yX3_score, Cond.initialized RX3, Cond.code yX3_score cX3_score 6 (some .int), Cond.methodLink RX3 67 Lib.Math.max.name, Cond.static Lib.Math.max.name, Cond.initialized "java/lang/Math", Cond.code Lib.Math.max.name Lib.Math.max.code 2 (some .int), Cond.methodLink RX3 63 yX2_isFull, Cond.static yX2_isFull, Cond.initialized RX2, Cond.code yX2_isFull cX2_isFull 2 (some .boolean), Cond.methodLink RX2 11 yX2_lengthOf, Cond.static yX2_lengthOf, Cond.code yX2_lengthOf cX2_lengthOf 2 (some .int), Cond.methodLink RX3 35 yX3_lettersOpenBehind, Cond.static yX3_lettersOpenBehind, Cond.code yX3_lettersOpenBehind cX3_lettersOpenBehind 7 (some .int), Cond.methodLink RX3 9 yX0_size, Cond.instanceMethod yX0_size, Cond.selects RX0 yX0_size yX0_size, Cond.initialized RX0, Cond.code yX0_size cX0_size 1 (some .int), Cond.fieldLink RX0 15 "GhostGame$Dictionary" "count" "I"]
def wsX3_moverWins_r2 : List Cond := [Cond.methodLink RX3 15 yX0_wordAt, Cond.instanceMethod yX0_wordAt, Cond.selects RX0 yX0_wordAt yX0_wordAt, Cond.code yX0_wordAt cX0_wordAt 2 (some .long), Cond.fieldLink RX0 9 "GhostGame$Dictionary" "words" "[J", Cond.methodLink RX3 19 yX3_leadsOn, Cond.static yX3_leadsOn, Cond.code yX3_leadsOn cX3_leadsOn 5 (some .boolean), Cond.methodLink RX3 78 yX0_isLongEnough, Cond.instanceMethod yX0_isLongEnough, Cond.selects RX0 yX0_isLongEnough yX0_isLongEnough, Cond.code yX0_isLongEnough cX0_isLongEnough 3 (some .boolean), Cond.fieldLink RX0 19 "GhostGame$Dictionary" "leastLength" "I", Cond.methodLink RX0 36 yX2_lengthOf, Cond.methodLink RX3 81 yX2_goesOnBehind, Cond.static yX2_goesOnBehind, Cond.code yX2_goesOnBehind cX2_goesOnBehind 4 (some .boolean), Cond.methodLink RX2 25 yX2_beginsWith, Cond.static yX2_beginsWith, Cond.code yX2_beginsWith cX2_beginsWith 5 (some .boolean), Cond.methodLink RX2 21 yX2_beginning, Cond.static yX2_beginning, Cond.code yX2_beginning cX2_beginning 4 (some .long), Cond.constantLong RX2 15 (1125899906842623)]
def wsX3_moverWins_r3 : List Cond := [Cond.methodLink RX2 17 yX2_pack, Cond.static yX2_pack, Cond.code yX2_pack cX2_pack 3 (some .long), Cond.methodLink RX3 25 yX2_lengthOf, Cond.methodLink RX3 31 yX2_letterAt, Cond.static yX2_letterAt, Cond.code yX2_letterAt cX2_letterAt 4 (some .int), Cond.methodLink RX3 39 yX3_isIn, Cond.static yX3_isIn, Cond.code yX3_isIn cX3_isIn 2 (some .boolean), Cond.methodLink RX3 43 yX3_scoreOfLetter, Cond.static yX3_scoreOfLetter, Cond.code yX3_scoreOfLetter cX3_scoreOfLetter 7 (some .int), Cond.methodLink RX3 71 yX2_with, Cond.static yX2_with, Cond.code yX2_with cX2_with 3 (some .long), Cond.methodLink RX3 75 yX0_hasCounting, Cond.instanceMethod yX0_hasCounting, Cond.selects RX0 yX0_hasCounting yX0_hasCounting, Cond.code yX0_hasCounting cX0_hasCounting 3 (some .boolean), Cond.methodLink RX0 43 yX0_isLongEnough, Cond.methodLink RX0 28 yX0_has, Cond.instanceMethod yX0_has, Cond.selects RX0 yX0_has yX0_has]
def wsX3_moverWins_r4 : List Cond := [Cond.code yX0_has cX0_has 3 (some .boolean), Cond.methodLink RX0 22 yX0_placeOf, Cond.instanceMethod yX0_placeOf, Cond.selects RX0 yX0_placeOf yX0_placeOf, Cond.code yX0_placeOf cX0_placeOf 4 (some .int)]
def wsX3_moverWins : List Cond := .code yX3_moverWins cX3_moverWins 3 (some .boolean) :: ((wsX3_moverWins_r1 ++ (wsX3_moverWins_r2 ++ (wsX3_moverWins_r3 ++ wsX3_moverWins_r4))) ++ wsX00)
def wsX3_endBehind_r1 : List Cond := [Cond.methodLink RX3 50 Lib.Math.abs.name, Cond.static Lib.Math.abs.name, Cond.initialized "java/lang/Math", Cond.code Lib.Math.abs.name Lib.Math.abs.code 1 (some .int), Cond.methodLink RX3 47 yX3_score, Cond.static yX3_score, Cond.initialized RX3, Cond.code yX3_score cX3_score 6 (some .int), Cond.methodLink RX3 67 Lib.Math.max.name, Cond.static Lib.Math.max.name, Cond.code Lib.Math.max.name Lib.Math.max.code 2 (some .int), Cond.methodLink RX3 63 yX2_isFull, Cond.static yX2_isFull, Cond.initialized RX2, Cond.code yX2_isFull cX2_isFull 2 (some .boolean), Cond.methodLink RX2 11 yX2_lengthOf, Cond.static yX2_lengthOf, Cond.code yX2_lengthOf cX2_lengthOf 2 (some .int), Cond.methodLink RX3 35 yX3_lettersOpenBehind, Cond.static yX3_lettersOpenBehind, Cond.code yX3_lettersOpenBehind cX3_lettersOpenBehind 7 (some .int), Cond.methodLink RX3 9 yX0_size, Cond.instanceMethod yX0_size, Cond.selects RX0 yX0_size yX0_size]
def wsX3_endBehind_r2 : List Cond := [Cond.initialized RX0, Cond.code yX0_size cX0_size 1 (some .int), Cond.fieldLink RX0 15 "GhostGame$Dictionary" "count" "I", Cond.methodLink RX3 15 yX0_wordAt, Cond.instanceMethod yX0_wordAt, Cond.selects RX0 yX0_wordAt yX0_wordAt, Cond.code yX0_wordAt cX0_wordAt 2 (some .long), Cond.fieldLink RX0 9 "GhostGame$Dictionary" "words" "[J", Cond.methodLink RX3 19 yX3_leadsOn, Cond.static yX3_leadsOn, Cond.code yX3_leadsOn cX3_leadsOn 5 (some .boolean), Cond.methodLink RX3 78 yX0_isLongEnough, Cond.instanceMethod yX0_isLongEnough, Cond.selects RX0 yX0_isLongEnough yX0_isLongEnough, Cond.code yX0_isLongEnough cX0_isLongEnough 3 (some .boolean), Cond.fieldLink RX0 19 "GhostGame$Dictionary" "leastLength" "I", Cond.methodLink RX0 36 yX2_lengthOf, Cond.methodLink RX3 81 yX2_goesOnBehind, Cond.static yX2_goesOnBehind, Cond.code yX2_goesOnBehind cX2_goesOnBehind 4 (some .boolean), Cond.methodLink RX2 25 yX2_beginsWith, Cond.static yX2_beginsWith, Cond.code yX2_beginsWith cX2_beginsWith 5 (some .boolean), Cond.methodLink RX2 21 yX2_beginning]
def wsX3_endBehind_r3 : List Cond := [Cond.static yX2_beginning, Cond.code yX2_beginning cX2_beginning 4 (some .long), Cond.constantLong RX2 15 (1125899906842623), Cond.methodLink RX2 17 yX2_pack, Cond.static yX2_pack, Cond.code yX2_pack cX2_pack 3 (some .long), Cond.methodLink RX3 25 yX2_lengthOf, Cond.methodLink RX3 31 yX2_letterAt, Cond.static yX2_letterAt, Cond.code yX2_letterAt cX2_letterAt 4 (some .int), Cond.methodLink RX3 39 yX3_isIn, Cond.static yX3_isIn, Cond.code yX3_isIn cX3_isIn 2 (some .boolean), Cond.methodLink RX3 43 yX3_scoreOfLetter, Cond.static yX3_scoreOfLetter, Cond.code yX3_scoreOfLetter cX3_scoreOfLetter 7 (some .int), Cond.methodLink RX3 71 yX2_with, Cond.static yX2_with, Cond.code yX2_with cX2_with 3 (some .long), Cond.methodLink RX3 75 yX0_hasCounting, Cond.instanceMethod yX0_hasCounting, Cond.selects RX0 yX0_hasCounting yX0_hasCounting, Cond.code yX0_hasCounting cX0_hasCounting 3 (some .boolean), Cond.methodLink RX0 43 yX0_isLongEnough]
def wsX3_endBehind_r4 : List Cond := [Cond.methodLink RX0 28 yX0_has, Cond.instanceMethod yX0_has, Cond.selects RX0 yX0_has yX0_has, Cond.code yX0_has cX0_has 3 (some .boolean), Cond.methodLink RX0 22 yX0_placeOf, Cond.instanceMethod yX0_placeOf, Cond.selects RX0 yX0_placeOf yX0_placeOf, Cond.code yX0_placeOf cX0_placeOf 4 (some .int)]
def wsX3_endBehind : List Cond := .code yX3_endBehind cX3_endBehind 3 (some .int) :: ((wsX3_endBehind_r1 ++ (wsX3_endBehind_r2 ++ (wsX3_endBehind_r3 ++ wsX3_endBehind_r4))) ++ wsX00)
def wsX3_letterChosenBehind_r1 : List Cond := [Cond.methodLink RX3 35 yX3_lettersOpenBehind, Cond.static yX3_lettersOpenBehind, Cond.initialized RX3, Cond.code yX3_lettersOpenBehind cX3_lettersOpenBehind 7 (some .int), Cond.methodLink RX3 9 yX0_size, Cond.instanceMethod yX0_size, Cond.selects RX0 yX0_size yX0_size, Cond.initialized RX0, Cond.code yX0_size cX0_size 1 (some .int), Cond.fieldLink RX0 15 "GhostGame$Dictionary" "count" "I", Cond.methodLink RX3 15 yX0_wordAt, Cond.instanceMethod yX0_wordAt, Cond.selects RX0 yX0_wordAt yX0_wordAt, Cond.code yX0_wordAt cX0_wordAt 2 (some .long), Cond.fieldLink RX0 9 "GhostGame$Dictionary" "words" "[J", Cond.methodLink RX3 19 yX3_leadsOn, Cond.static yX3_leadsOn, Cond.code yX3_leadsOn cX3_leadsOn 5 (some .boolean), Cond.methodLink RX3 78 yX0_isLongEnough, Cond.instanceMethod yX0_isLongEnough, Cond.selects RX0 yX0_isLongEnough yX0_isLongEnough, Cond.code yX0_isLongEnough cX0_isLongEnough 3 (some .boolean), Cond.fieldLink RX0 19 "GhostGame$Dictionary" "leastLength" "I", Cond.methodLink RX0 36 yX2_lengthOf]
def wsX3_letterChosenBehind_r2 : List Cond := [Cond.static yX2_lengthOf, Cond.initialized RX2, Cond.code yX2_lengthOf cX2_lengthOf 2 (some .int), Cond.methodLink RX3 81 yX2_goesOnBehind, Cond.static yX2_goesOnBehind, Cond.code yX2_goesOnBehind cX2_goesOnBehind 4 (some .boolean), Cond.methodLink RX2 25 yX2_beginsWith, Cond.static yX2_beginsWith, Cond.code yX2_beginsWith cX2_beginsWith 5 (some .boolean), Cond.methodLink RX2 11 yX2_lengthOf, Cond.methodLink RX2 21 yX2_beginning, Cond.static yX2_beginning, Cond.code yX2_beginning cX2_beginning 4 (some .long), Cond.constantLong RX2 15 (1125899906842623), Cond.methodLink RX2 17 yX2_pack, Cond.static yX2_pack, Cond.code yX2_pack cX2_pack 3 (some .long), Cond.methodLink RX3 25 yX2_lengthOf, Cond.methodLink RX3 31 yX2_letterAt, Cond.static yX2_letterAt, Cond.code yX2_letterAt cX2_letterAt 4 (some .int), Cond.methodLink RX3 47 yX3_score, Cond.static yX3_score, Cond.code yX3_score cX3_score 6 (some .int)]
def wsX3_letterChosenBehind_r3 : List Cond := [Cond.methodLink RX3 67 Lib.Math.max.name, Cond.static Lib.Math.max.name, Cond.initialized "java/lang/Math", Cond.code Lib.Math.max.name Lib.Math.max.code 2 (some .int), Cond.methodLink RX3 63 yX2_isFull, Cond.static yX2_isFull, Cond.code yX2_isFull cX2_isFull 2 (some .boolean), Cond.methodLink RX3 39 yX3_isIn, Cond.static yX3_isIn, Cond.code yX3_isIn cX3_isIn 2 (some .boolean), Cond.methodLink RX3 43 yX3_scoreOfLetter, Cond.static yX3_scoreOfLetter, Cond.code yX3_scoreOfLetter cX3_scoreOfLetter 7 (some .int), Cond.methodLink RX3 71 yX2_with, Cond.static yX2_with, Cond.code yX2_with cX2_with 3 (some .long), Cond.methodLink RX3 75 yX0_hasCounting, Cond.instanceMethod yX0_hasCounting, Cond.selects RX0 yX0_hasCounting yX0_hasCounting, Cond.code yX0_hasCounting cX0_hasCounting 3 (some .boolean), Cond.methodLink RX0 43 yX0_isLongEnough, Cond.methodLink RX0 28 yX0_has, Cond.instanceMethod yX0_has, Cond.selects RX0 yX0_has yX0_has]
def wsX3_letterChosenBehind_r4 : List Cond := [Cond.code yX0_has cX0_has 3 (some .boolean), Cond.methodLink RX0 22 yX0_placeOf, Cond.instanceMethod yX0_placeOf, Cond.selects RX0 yX0_placeOf yX0_placeOf, Cond.code yX0_placeOf cX0_placeOf 4 (some .int)]
def wsX3_letterChosenBehind : List Cond := .code yX3_letterChosenBehind cX3_letterChosenBehind 6 (some .int) :: ((wsX3_letterChosenBehind_r1 ++ (wsX3_letterChosenBehind_r2 ++ (wsX3_letterChosenBehind_r3 ++ wsX3_letterChosenBehind_r4))) ++ wsX00)
def wsX3_isWay_r1 : List Cond := [Cond.methodLink RX3 19 yX3_leadsOn, Cond.static yX3_leadsOn, Cond.initialized RX3, Cond.code yX3_leadsOn cX3_leadsOn 5 (some .boolean), Cond.methodLink RX3 78 yX0_isLongEnough, Cond.instanceMethod yX0_isLongEnough, Cond.selects RX0 yX0_isLongEnough yX0_isLongEnough, Cond.initialized RX0, Cond.code yX0_isLongEnough cX0_isLongEnough 3 (some .boolean), Cond.fieldLink RX0 19 "GhostGame$Dictionary" "leastLength" "I", Cond.methodLink RX0 36 yX2_lengthOf, Cond.static yX2_lengthOf, Cond.initialized RX2, Cond.code yX2_lengthOf cX2_lengthOf 2 (some .int), Cond.methodLink RX3 81 yX2_goesOnBehind, Cond.static yX2_goesOnBehind, Cond.code yX2_goesOnBehind cX2_goesOnBehind 4 (some .boolean), Cond.methodLink RX2 25 yX2_beginsWith, Cond.static yX2_beginsWith, Cond.code yX2_beginsWith cX2_beginsWith 5 (some .boolean), Cond.methodLink RX2 11 yX2_lengthOf, Cond.methodLink RX2 21 yX2_beginning, Cond.static yX2_beginning, Cond.code yX2_beginning cX2_beginning 4 (some .long)]
def wsX3_isWay_r2 : List Cond := [Cond.constantLong RX2 15 (1125899906842623), Cond.methodLink RX2 17 yX2_pack, Cond.static yX2_pack, Cond.code yX2_pack cX2_pack 3 (some .long), Cond.methodLink RX3 25 yX2_lengthOf, Cond.methodLink RX3 84 yX2_beginning, Cond.methodLink RX3 75 yX0_hasCounting, Cond.instanceMethod yX0_hasCounting, Cond.selects RX0 yX0_hasCounting yX0_hasCounting, Cond.code yX0_hasCounting cX0_hasCounting 3 (some .boolean), Cond.methodLink RX0 43 yX0_isLongEnough, Cond.methodLink RX0 28 yX0_has, Cond.instanceMethod yX0_has, Cond.selects RX0 yX0_has yX0_has, Cond.code yX0_has cX0_has 3 (some .boolean), Cond.methodLink RX0 22 yX0_placeOf, Cond.instanceMethod yX0_placeOf, Cond.selects RX0 yX0_placeOf yX0_placeOf, Cond.code yX0_placeOf cX0_placeOf 4 (some .int), Cond.fieldLink RX0 15 "GhostGame$Dictionary" "count" "I", Cond.fieldLink RX0 9 "GhostGame$Dictionary" "words" "[J"]
def wsX3_isWay : List Cond := .code yX3_isWay cX3_isWay 6 (some .boolean) :: ((wsX3_isWay_r1 ++ wsX3_isWay_r2) ++ wsX00)
def wsX3_countWays_r1 : List Cond := [Cond.methodLink RX3 9 yX0_size, Cond.instanceMethod yX0_size, Cond.selects RX0 yX0_size yX0_size, Cond.initialized RX0, Cond.code yX0_size cX0_size 1 (some .int), Cond.fieldLink RX0 15 "GhostGame$Dictionary" "count" "I", Cond.methodLink RX3 15 yX0_wordAt, Cond.instanceMethod yX0_wordAt, Cond.selects RX0 yX0_wordAt yX0_wordAt, Cond.code yX0_wordAt cX0_wordAt 2 (some .long), Cond.fieldLink RX0 9 "GhostGame$Dictionary" "words" "[J", Cond.methodLink RX3 56 yX3_isWay, Cond.static yX3_isWay, Cond.initialized RX3, Cond.code yX3_isWay cX3_isWay 6 (some .boolean), Cond.methodLink RX3 19 yX3_leadsOn, Cond.static yX3_leadsOn, Cond.code yX3_leadsOn cX3_leadsOn 5 (some .boolean), Cond.methodLink RX3 78 yX0_isLongEnough, Cond.instanceMethod yX0_isLongEnough, Cond.selects RX0 yX0_isLongEnough yX0_isLongEnough, Cond.code yX0_isLongEnough cX0_isLongEnough 3 (some .boolean), Cond.fieldLink RX0 19 "GhostGame$Dictionary" "leastLength" "I", Cond.methodLink RX0 36 yX2_lengthOf]
def wsX3_countWays_r2 : List Cond := [Cond.static yX2_lengthOf, Cond.initialized RX2, Cond.code yX2_lengthOf cX2_lengthOf 2 (some .int), Cond.methodLink RX3 81 yX2_goesOnBehind, Cond.static yX2_goesOnBehind, Cond.code yX2_goesOnBehind cX2_goesOnBehind 4 (some .boolean), Cond.methodLink RX2 25 yX2_beginsWith, Cond.static yX2_beginsWith, Cond.code yX2_beginsWith cX2_beginsWith 5 (some .boolean), Cond.methodLink RX2 11 yX2_lengthOf, Cond.methodLink RX2 21 yX2_beginning, Cond.static yX2_beginning, Cond.code yX2_beginning cX2_beginning 4 (some .long), Cond.constantLong RX2 15 (1125899906842623), Cond.methodLink RX2 17 yX2_pack, Cond.static yX2_pack, Cond.code yX2_pack cX2_pack 3 (some .long), Cond.methodLink RX3 25 yX2_lengthOf, Cond.methodLink RX3 84 yX2_beginning, Cond.methodLink RX3 75 yX0_hasCounting, Cond.instanceMethod yX0_hasCounting, Cond.selects RX0 yX0_hasCounting yX0_hasCounting, Cond.code yX0_hasCounting cX0_hasCounting 3 (some .boolean), Cond.methodLink RX0 43 yX0_isLongEnough]
def wsX3_countWays_r3 : List Cond := [Cond.methodLink RX0 28 yX0_has, Cond.instanceMethod yX0_has, Cond.selects RX0 yX0_has yX0_has, Cond.code yX0_has cX0_has 3 (some .boolean), Cond.methodLink RX0 22 yX0_placeOf, Cond.instanceMethod yX0_placeOf, Cond.selects RX0 yX0_placeOf yX0_placeOf, Cond.code yX0_placeOf cX0_placeOf 4 (some .int)]
def wsX3_countWays : List Cond := .code yX3_countWays cX3_countWays 5 (some .int) :: ((wsX3_countWays_r1 ++ (wsX3_countWays_r2 ++ wsX3_countWays_r3)) ++ wsX00)
def wsX3_otherSideCompletes : List Cond := .code yX3_otherSideCompletes cX3_otherSideCompletes 4 (some .boolean) :: ([.methodLink RX3 25 yX2_lengthOf, .static yX2_lengthOf, .initialized RX2, .code yX2_lengthOf cX2_lengthOf 2 (some .int)])
def wsX3_countWonWays_r1 : List Cond := [Cond.methodLink RX3 9 yX0_size, Cond.instanceMethod yX0_size, Cond.selects RX0 yX0_size yX0_size, Cond.initialized RX0, Cond.code yX0_size cX0_size 1 (some .int), Cond.fieldLink RX0 15 "GhostGame$Dictionary" "count" "I", Cond.methodLink RX3 15 yX0_wordAt, Cond.instanceMethod yX0_wordAt, Cond.selects RX0 yX0_wordAt yX0_wordAt, Cond.code yX0_wordAt cX0_wordAt 2 (some .long), Cond.fieldLink RX0 9 "GhostGame$Dictionary" "words" "[J", Cond.methodLink RX3 56 yX3_isWay, Cond.static yX3_isWay, Cond.initialized RX3, Cond.code yX3_isWay cX3_isWay 6 (some .boolean), Cond.methodLink RX3 19 yX3_leadsOn, Cond.static yX3_leadsOn, Cond.code yX3_leadsOn cX3_leadsOn 5 (some .boolean), Cond.methodLink RX3 78 yX0_isLongEnough, Cond.instanceMethod yX0_isLongEnough, Cond.selects RX0 yX0_isLongEnough yX0_isLongEnough, Cond.code yX0_isLongEnough cX0_isLongEnough 3 (some .boolean), Cond.fieldLink RX0 19 "GhostGame$Dictionary" "leastLength" "I", Cond.methodLink RX0 36 yX2_lengthOf]
def wsX3_countWonWays_r2 : List Cond := [Cond.static yX2_lengthOf, Cond.initialized RX2, Cond.code yX2_lengthOf cX2_lengthOf 2 (some .int), Cond.methodLink RX3 81 yX2_goesOnBehind, Cond.static yX2_goesOnBehind, Cond.code yX2_goesOnBehind cX2_goesOnBehind 4 (some .boolean), Cond.methodLink RX2 25 yX2_beginsWith, Cond.static yX2_beginsWith, Cond.code yX2_beginsWith cX2_beginsWith 5 (some .boolean), Cond.methodLink RX2 11 yX2_lengthOf, Cond.methodLink RX2 21 yX2_beginning, Cond.static yX2_beginning, Cond.code yX2_beginning cX2_beginning 4 (some .long), Cond.constantLong RX2 15 (1125899906842623), Cond.methodLink RX2 17 yX2_pack, Cond.static yX2_pack, Cond.code yX2_pack cX2_pack 3 (some .long), Cond.methodLink RX3 25 yX2_lengthOf, Cond.methodLink RX3 84 yX2_beginning, Cond.methodLink RX3 75 yX0_hasCounting, Cond.instanceMethod yX0_hasCounting, Cond.selects RX0 yX0_hasCounting yX0_hasCounting, Cond.code yX0_hasCounting cX0_hasCounting 3 (some .boolean), Cond.methodLink RX0 43 yX0_isLongEnough]
def wsX3_countWonWays_r3 : List Cond := [Cond.methodLink RX0 28 yX0_has, Cond.instanceMethod yX0_has, Cond.selects RX0 yX0_has yX0_has, Cond.code yX0_has cX0_has 3 (some .boolean), Cond.methodLink RX0 22 yX0_placeOf, Cond.instanceMethod yX0_placeOf, Cond.selects RX0 yX0_placeOf yX0_placeOf, Cond.code yX0_placeOf cX0_placeOf 4 (some .int), Cond.methodLink RX3 59 yX3_otherSideCompletes, Cond.static yX3_otherSideCompletes, Cond.code yX3_otherSideCompletes cX3_otherSideCompletes 4 (some .boolean)]
def wsX3_countWonWays : List Cond := .code yX3_countWonWays cX3_countWonWays 7 (some .int) :: ((wsX3_countWonWays_r1 ++ (wsX3_countWonWays_r2 ++ wsX3_countWonWays_r3)) ++ wsX00)
def wsX4_init_r1 : List Cond := [Cond.methodLink RX4 1 objectInit, Cond.instanceMethod objectInit, Cond.code objectInit ⟨#[0xb1]⟩ 1 none, Cond.classLink RX4 7 RX0, Cond.instantiable RX0 3, Cond.initialized RX0, Cond.fieldLink RX4 10 "GhostGame" "dictionary" "LGhostGame$Dictionary;", Cond.classLink RX4 16 RX1, Cond.instantiable RX1 6, Cond.initialized RX1, Cond.fieldLink RX4 19 "GhostGame" "game" "LGhostGame$Game;", Cond.fieldLink RX4 25 "GhostGame" "slip" "J", Cond.methodLink RX4 9 yX0_init, Cond.instanceMethod yX0_init, Cond.code yX0_init cX0_init 1 none, Cond.methodLink RX0 3 objectInit, Cond.arrayClass .long, Cond.fieldLink RX0 9 "GhostGame$Dictionary" "words" "[J", Cond.fieldLink RX0 15 "GhostGame$Dictionary" "count" "I", Cond.fieldLink RX0 19 "GhostGame$Dictionary" "leastLength" "I", Cond.methodLink RX4 18 yX1_init, Cond.instanceMethod yX1_init, Cond.code yX1_init cX1_init 1 none, Cond.methodLink RX1 3 objectInit]
def wsX4_init_r2 : List Cond := [Cond.arrayClass .int, Cond.fieldLink RX1 9 "GhostGame$Game" "strikes" "[I", Cond.fieldLink RX1 15 "GhostGame$Game" "playerCount" "I", Cond.fieldLink RX1 19 "GhostGame$Game" "mover" "I", Cond.fieldLink RX1 22 "GhostGame$Game" "lastMover" "I", Cond.fieldLink RX1 25 "GhostGame$Game" "champion" "I", Cond.fieldLink RX1 30 "GhostGame$Game" "fragment" "J"]
def wsX4_init : List Cond := .code yX4_init cX4_init 1 none :: ((wsX4_init_r1 ++ wsX4_init_r2) ++ wsX00 ++ wsX40 ++ wsX10)
def wsX4_isLetter : List Cond := .code yX4_isLetter cX4_isLetter 1 (some .boolean) :: ([])
def wsX4_write : List Cond := .code yX4_write cX4_write 2 (some .int) :: ([.classLink RX4 33 "java/lang/IllegalArgumentException", .initialized "java/lang/IllegalArgumentException", .classLink RX4 44 "java/lang/IllegalStateException", .initialized "java/lang/IllegalStateException", .fieldLink RX4 25 "GhostGame" "slip" "J", .methodLink RX4 29 yX4_isLetter, .static yX4_isLetter, .initialized RX4, .code yX4_isLetter cX4_isLetter 1 (some .boolean), .methodLink RX4 40 yX2_isFull, .static yX2_isFull, .initialized RX2, .code yX2_isFull cX2_isFull 2 (some .boolean), .methodLink RX2 11 yX2_lengthOf, .static yX2_lengthOf, .code yX2_lengthOf cX2_lengthOf 2 (some .int), .methodLink RX4 49 yX2_with, .static yX2_with, .code yX2_with cX2_with 3 (some .long), .constantLong RX2 15 (1125899906842623), .methodLink RX2 17 yX2_pack, .static yX2_pack, .code yX2_pack cX2_pack 3 (some .long), .methodLink RX4 53 yX2_lengthOf] ++ wsX40 ++ (vx_atS RX4 37 "java/lang/IllegalArgumentException" ["java/lang/RuntimeException", "java/lang/Exception"]).filter goodWord ++ (vx_atS RX4 48 "java/lang/IllegalStateException" ["java/lang/RuntimeException", "java/lang/Exception"]).filter goodWord)
def wsX4_wipe : List Cond := .code yX4_wipe cX4_wipe 2 (some .int) :: ([.fieldLink RX4 25 "GhostGame" "slip" "J", .methodLink RX4 53 yX2_lengthOf, .static yX2_lengthOf, .initialized RX2, .code yX2_lengthOf cX2_lengthOf 2 (some .int)] ++ wsX40)
def wsX4_slipLength : List Cond := .code yX4_slipLength cX4_slipLength 1 (some .int) :: ([.fieldLink RX4 25 "GhostGame" "slip" "J", .methodLink RX4 53 yX2_lengthOf, .static yX2_lengthOf, .initialized RX2, .code yX2_lengthOf cX2_lengthOf 2 (some .int)] ++ wsX40)
def wsX4_slipAt : List Cond := .code yX4_slipAt cX4_slipAt 3 (some .int) :: ([.classLink RX4 61 "java/lang/IndexOutOfBoundsException", .initialized "java/lang/IndexOutOfBoundsException", .fieldLink RX4 25 "GhostGame" "slip" "J", .methodLink RX4 57 yX2_letterAt, .static yX2_letterAt, .initialized RX2, .code yX2_letterAt cX2_letterAt 4 (some .int), .methodLink RX2 11 yX2_lengthOf, .static yX2_lengthOf, .code yX2_lengthOf cX2_lengthOf 2 (some .int)] ++ wsX40 ++ (vx_atS RX4 65 "java/lang/IndexOutOfBoundsException" ["java/lang/RuntimeException", "java/lang/Exception"]).filter goodWord)
def wsX4_addWord_r1 : List Cond := [Cond.classLink RX4 33 "java/lang/IllegalArgumentException", Cond.initialized "java/lang/IllegalArgumentException", Cond.classLink RX4 44 "java/lang/IllegalStateException", Cond.initialized "java/lang/IllegalStateException", Cond.fieldLink RX4 25 "GhostGame" "slip" "J", Cond.fieldLink RX4 10 "GhostGame" "dictionary" "LGhostGame$Dictionary;", Cond.methodLink RX4 53 yX2_lengthOf, Cond.static yX2_lengthOf, Cond.initialized RX2, Cond.code yX2_lengthOf cX2_lengthOf 2 (some .int), Cond.methodLink RX4 68 yX0_add, Cond.instanceMethod yX0_add, Cond.selects RX0 yX0_add yX0_add, Cond.initialized RX0, Cond.code yX0_add cX0_add 4 (some .boolean), Cond.fieldLink RX0 15 "GhostGame$Dictionary" "count" "I", Cond.fieldLink RX0 9 "GhostGame$Dictionary" "words" "[J", Cond.methodLink RX0 28 yX0_has, Cond.instanceMethod yX0_has, Cond.selects RX0 yX0_has yX0_has, Cond.code yX0_has cX0_has 3 (some .boolean), Cond.methodLink RX0 22 yX0_placeOf, Cond.instanceMethod yX0_placeOf, Cond.selects RX0 yX0_placeOf yX0_placeOf]
def wsX4_addWord_r2 : List Cond := [Cond.code yX0_placeOf cX0_placeOf 4 (some .int), Cond.methodLink RX4 73 yX0_size, Cond.instanceMethod yX0_size, Cond.selects RX0 yX0_size yX0_size, Cond.code yX0_size cX0_size 1 (some .int)]
def wsX4_addWord : List Cond := .code yX4_addWord cX4_addWord 1 (some .int) :: ((wsX4_addWord_r1 ++ wsX4_addWord_r2) ++ wsX40 ++ wsX00 ++ (vx_atS RX4 37 "java/lang/IllegalArgumentException" ["java/lang/RuntimeException", "java/lang/Exception"]).filter goodWord ++ (vx_atS RX4 48 "java/lang/IllegalStateException" ["java/lang/RuntimeException", "java/lang/Exception"]).filter goodWord)
def wsX4_removeWord : List Cond := .code yX4_removeWord cX4_removeWord 1 (some .int) :: ([.classLink RX4 44 "java/lang/IllegalStateException", .initialized "java/lang/IllegalStateException", .fieldLink RX4 10 "GhostGame" "dictionary" "LGhostGame$Dictionary;", .fieldLink RX4 25 "GhostGame" "slip" "J", .methodLink RX4 77 yX0_remove, .instanceMethod yX0_remove, .selects RX0 yX0_remove yX0_remove, .initialized RX0, .code yX0_remove cX0_remove 5 (some .boolean), .fieldLink RX0 15 "GhostGame$Dictionary" "count" "I", .fieldLink RX0 9 "GhostGame$Dictionary" "words" "[J", .methodLink RX0 22 yX0_placeOf, .instanceMethod yX0_placeOf, .selects RX0 yX0_placeOf yX0_placeOf, .code yX0_placeOf cX0_placeOf 4 (some .int), .methodLink RX4 73 yX0_size, .instanceMethod yX0_size, .selects RX0 yX0_size yX0_size, .code yX0_size cX0_size 1 (some .int)] ++ wsX40 ++ wsX00 ++ (vx_atS RX4 48 "java/lang/IllegalStateException" ["java/lang/RuntimeException", "java/lang/Exception"]).filter goodWord)
def wsX4_isWord : List Cond := .code yX4_isWord cX4_isWord 1 (some .boolean) :: ([.fieldLink RX4 10 "GhostGame" "dictionary" "LGhostGame$Dictionary;", .fieldLink RX4 25 "GhostGame" "slip" "J", .methodLink RX4 82 yX0_has, .instanceMethod yX0_has, .selects RX0 yX0_has yX0_has, .initialized RX0, .code yX0_has cX0_has 3 (some .boolean), .methodLink RX0 22 yX0_placeOf, .instanceMethod yX0_placeOf, .selects RX0 yX0_placeOf yX0_placeOf, .code yX0_placeOf cX0_placeOf 4 (some .int), .fieldLink RX0 15 "GhostGame$Dictionary" "count" "I", .fieldLink RX0 9 "GhostGame$Dictionary" "words" "[J"] ++ wsX40 ++ wsX00)
def wsX4_words : List Cond := .code yX4_words cX4_words 1 (some .int) :: ([.fieldLink RX4 10 "GhostGame" "dictionary" "LGhostGame$Dictionary;", .methodLink RX4 73 yX0_size, .instanceMethod yX0_size, .selects RX0 yX0_size yX0_size, .initialized RX0, .code yX0_size cX0_size 1 (some .int), .fieldLink RX0 15 "GhostGame$Dictionary" "count" "I"] ++ wsX40 ++ wsX00)
def wsX4_wordsFromSlip : List Cond := .code yX4_wordsFromSlip cX4_wordsFromSlip 1 (some .int) :: ([.fieldLink RX4 10 "GhostGame" "dictionary" "LGhostGame$Dictionary;", .fieldLink RX4 25 "GhostGame" "slip" "J", .methodLink RX4 85 yX0_countFrom, .instanceMethod yX0_countFrom, .selects RX0 yX0_countFrom yX0_countFrom, .initialized RX0, .code yX0_countFrom cX0_countFrom 5 (some .int), .fieldLink RX0 15 "GhostGame$Dictionary" "count" "I", .fieldLink RX0 9 "GhostGame$Dictionary" "words" "[J", .methodLink RX0 32 yX2_beginsWith, .static yX2_beginsWith, .initialized RX2, .code yX2_beginsWith cX2_beginsWith 5 (some .boolean), .methodLink RX2 11 yX2_lengthOf, .static yX2_lengthOf, .code yX2_lengthOf cX2_lengthOf 2 (some .int), .methodLink RX2 21 yX2_beginning, .static yX2_beginning, .code yX2_beginning cX2_beginning 4 (some .long), .constantLong RX2 15 (1125899906842623), .methodLink RX2 17 yX2_pack, .static yX2_pack, .code yX2_pack cX2_pack 3 (some .long)] ++ wsX40 ++ wsX00)
def wsX4_beginnings_r1 : List Cond := [Cond.fieldLink RX4 10 "GhostGame" "dictionary" "LGhostGame$Dictionary;", Cond.methodLink RX4 88 yX0_countBeginnings, Cond.instanceMethod yX0_countBeginnings, Cond.selects RX0 yX0_countBeginnings yX0_countBeginnings, Cond.initialized RX0, Cond.code yX0_countBeginnings cX0_countBeginnings 3 (some .int), Cond.fieldLink RX0 15 "GhostGame$Dictionary" "count" "I", Cond.fieldLink RX0 9 "GhostGame$Dictionary" "words" "[J", Cond.methodLink RX0 36 yX2_lengthOf, Cond.static yX2_lengthOf, Cond.initialized RX2, Cond.code yX2_lengthOf cX2_lengthOf 2 (some .int), Cond.methodLink RX0 39 yX0_lengthSharedBefore, Cond.instanceMethod yX0_lengthSharedBefore, Cond.selects RX0 yX0_lengthSharedBefore yX0_lengthSharedBefore, Cond.code yX0_lengthSharedBefore cX0_lengthSharedBefore 4 (some .int), Cond.methodLink RX0 50 Lib.Math.max.name, Cond.static Lib.Math.max.name, Cond.initialized "java/lang/Math", Cond.code Lib.Math.max.name Lib.Math.max.code 2 (some .int), Cond.methodLink RX0 46 yX2_lengthShared, Cond.static yX2_lengthShared, Cond.code yX2_lengthShared cX2_lengthShared 5 (some .int), Cond.methodLink RX2 29 Lib.Math.min.name]
def wsX4_beginnings_r2 : List Cond := [Cond.static Lib.Math.min.name, Cond.code Lib.Math.min.name Lib.Math.min.code 2 (some .int), Cond.methodLink RX2 11 yX2_lengthOf, Cond.methodLink RX2 21 yX2_beginning, Cond.static yX2_beginning, Cond.code yX2_beginning cX2_beginning 4 (some .long), Cond.constantLong RX2 15 (1125899906842623), Cond.methodLink RX2 17 yX2_pack, Cond.static yX2_pack, Cond.code yX2_pack cX2_pack 3 (some .long)]
def wsX4_beginnings : List Cond := .code yX4_beginnings cX4_beginnings 1 (some .int) :: ((wsX4_beginnings_r1 ++ wsX4_beginnings_r2) ++ wsX40 ++ wsX00)
def wsX4_copyWord : List Cond := .code yX4_copyWord cX4_copyWord 4 (some .int) :: ([.classLink RX4 61 "java/lang/IndexOutOfBoundsException", .initialized "java/lang/IndexOutOfBoundsException", .fieldLink RX4 10 "GhostGame" "dictionary" "LGhostGame$Dictionary;", .fieldLink RX4 25 "GhostGame" "slip" "J", .methodLink RX4 91 yX0_wordAt, .instanceMethod yX0_wordAt, .selects RX0 yX0_wordAt yX0_wordAt, .initialized RX0, .code yX0_wordAt cX0_wordAt 2 (some .long), .fieldLink RX0 15 "GhostGame$Dictionary" "count" "I", .fieldLink RX0 9 "GhostGame$Dictionary" "words" "[J", .methodLink RX4 53 yX2_lengthOf, .static yX2_lengthOf, .initialized RX2, .code yX2_lengthOf cX2_lengthOf 2 (some .int)] ++ wsX40 ++ wsX00 ++ (vx_atS RX4 65 "java/lang/IndexOutOfBoundsException" ["java/lang/RuntimeException", "java/lang/Exception"]).filter goodWord)
def wsX4_setLeastLength : List Cond := .code yX4_setLeastLength cX4_setLeastLength 2 (some .int) :: ([.classLink RX4 33 "java/lang/IllegalArgumentException", .initialized "java/lang/IllegalArgumentException", .fieldLink RX4 10 "GhostGame" "dictionary" "LGhostGame$Dictionary;", .methodLink RX4 99 yX0_changeLeastLength, .instanceMethod yX0_changeLeastLength, .selects RX0 yX0_changeLeastLength yX0_changeLeastLength, .initialized RX0, .code yX0_changeLeastLength cX0_changeLeastLength 3 (some .int), .fieldLink RX0 19 "GhostGame$Dictionary" "leastLength" "I"] ++ wsX40 ++ wsX00 ++ (vx_atS RX4 37 "java/lang/IllegalArgumentException" ["java/lang/RuntimeException", "java/lang/Exception"]).filter goodWord)
def wsX4_start : List Cond := .code yX4_start cX4_start 2 none :: ([.classLink RX4 33 "java/lang/IllegalArgumentException", .initialized "java/lang/IllegalArgumentException", .fieldLink RX4 19 "GhostGame" "game" "LGhostGame$Game;", .methodLink RX4 105 yX1_begin, .instanceMethod yX1_begin, .selects RX1 yX1_begin yX1_begin, .initialized RX1, .code yX1_begin cX1_begin 3 none, .fieldLink RX1 9 "GhostGame$Game" "strikes" "[I", .fieldLink RX1 15 "GhostGame$Game" "playerCount" "I", .fieldLink RX1 19 "GhostGame$Game" "mover" "I", .fieldLink RX1 22 "GhostGame$Game" "lastMover" "I", .fieldLink RX1 25 "GhostGame$Game" "champion" "I", .fieldLink RX1 30 "GhostGame$Game" "fragment" "J"] ++ wsX40 ++ wsX10 ++ (vx_atS RX4 37 "java/lang/IllegalArgumentException" ["java/lang/RuntimeException", "java/lang/Exception"]).filter goodWord)
def wsX4_play_r1 : List Cond := [Cond.classLink RX4 33 "java/lang/IllegalArgumentException", Cond.initialized "java/lang/IllegalArgumentException", Cond.classLink RX4 44 "java/lang/IllegalStateException", Cond.initialized "java/lang/IllegalStateException", Cond.fieldLink RX4 19 "GhostGame" "game" "LGhostGame$Game;", Cond.fieldLink RX4 10 "GhostGame" "dictionary" "LGhostGame$Dictionary;", Cond.methodLink RX4 29 yX4_isLetter, Cond.static yX4_isLetter, Cond.initialized RX4, Cond.code yX4_isLetter cX4_isLetter 1 (some .boolean), Cond.methodLink RX4 109 yX1_isOn, Cond.instanceMethod yX1_isOn, Cond.selects RX1 yX1_isOn yX1_isOn, Cond.initialized RX1, Cond.code yX1_isOn cX1_isOn 1 (some .boolean), Cond.fieldLink RX1 19 "GhostGame$Game" "mover" "I", Cond.methodLink RX4 113 yX1_fragment, Cond.instanceMethod yX1_fragment, Cond.selects RX1 yX1_fragment yX1_fragment, Cond.code yX1_fragment cX1_fragment 1 (some .long), Cond.fieldLink RX1 30 "GhostGame$Game" "fragment" "J", Cond.methodLink RX4 40 yX2_isFull, Cond.static yX2_isFull, Cond.initialized RX2]
def wsX4_play_r2 : List Cond := [Cond.code yX2_isFull cX2_isFull 2 (some .boolean), Cond.methodLink RX2 11 yX2_lengthOf, Cond.static yX2_lengthOf, Cond.code yX2_lengthOf cX2_lengthOf 2 (some .int), Cond.methodLink RX4 119 yX1_addLetter, Cond.instanceMethod yX1_addLetter, Cond.selects RX1 yX1_addLetter yX1_addLetter, Cond.code yX1_addLetter cX1_addLetter 3 (some .int), Cond.fieldLink RX1 22 "GhostGame$Game" "lastMover" "I", Cond.methodLink RX1 38 yX2_with, Cond.static yX2_with, Cond.code yX2_with cX2_with 3 (some .long), Cond.constantLong RX2 15 (1125899906842623), Cond.methodLink RX2 17 yX2_pack, Cond.static yX2_pack, Cond.code yX2_pack cX2_pack 3 (some .long), Cond.methodLink RX1 42 yX0_hasCounting, Cond.instanceMethod yX0_hasCounting, Cond.selects RX0 yX0_hasCounting yX0_hasCounting, Cond.initialized RX0, Cond.code yX0_hasCounting cX0_hasCounting 3 (some .boolean), Cond.methodLink RX0 43 yX0_isLongEnough, Cond.instanceMethod yX0_isLongEnough, Cond.selects RX0 yX0_isLongEnough yX0_isLongEnough]
def wsX4_play_r3 : List Cond := [Cond.code yX0_isLongEnough cX0_isLongEnough 3 (some .boolean), Cond.fieldLink RX0 19 "GhostGame$Dictionary" "leastLength" "I", Cond.methodLink RX0 36 yX2_lengthOf, Cond.methodLink RX0 28 yX0_has, Cond.instanceMethod yX0_has, Cond.selects RX0 yX0_has yX0_has, Cond.code yX0_has cX0_has 3 (some .boolean), Cond.methodLink RX0 22 yX0_placeOf, Cond.instanceMethod yX0_placeOf, Cond.selects RX0 yX0_placeOf yX0_placeOf, Cond.code yX0_placeOf cX0_placeOf 4 (some .int), Cond.fieldLink RX0 15 "GhostGame$Dictionary" "count" "I", Cond.fieldLink RX0 9 "GhostGame$Dictionary" "words" "[J", Cond.methodLink RX1 48 yX1_endRound, Cond.instanceMethod yX1_endRound, Cond.selects RX1 yX1_endRound yX1_endRound, Cond.code yX1_endRound cX1_endRound 2 (some .int), Cond.fieldLink RX1 9 "GhostGame$Game" "strikes" "[I", Cond.fieldLink RX1 25 "GhostGame$Game" "champion" "I", Cond.methodLink RX1 34 yX1_hasPlayer, Cond.instanceMethod yX1_hasPlayer, Cond.selects RX1 yX1_hasPlayer yX1_hasPlayer, Cond.code yX1_hasPlayer cX1_hasPlayer 2 (some .boolean), Cond.fieldLink RX1 15 "GhostGame$Game" "playerCount" "I"]
def wsX4_play_r4 : List Cond := [Cond.methodLink RX1 58 yX1_playersLeft, Cond.instanceMethod yX1_playersLeft, Cond.selects RX1 yX1_playersLeft yX1_playersLeft, Cond.code yX1_playersLeft cX1_playersLeft 3 (some .int), Cond.methodLink RX1 62 yX1_isOut, Cond.instanceMethod yX1_isOut, Cond.selects RX1 yX1_isOut yX1_isOut, Cond.code yX1_isOut cX1_isOut 2 (some .boolean), Cond.methodLink RX1 65 yX1_strikesOf, Cond.instanceMethod yX1_strikesOf, Cond.selects RX1 yX1_strikesOf yX1_strikesOf, Cond.code yX1_strikesOf cX1_strikesOf 2 (some .int), Cond.methodLink RX1 52 yX1_nextBehind, Cond.instanceMethod yX1_nextBehind, Cond.selects RX1 yX1_nextBehind yX1_nextBehind, Cond.code yX1_nextBehind cX1_nextBehind 4 (some .int)]
def wsX4_play : List Cond := .code yX4_play cX4_play 2 (some .int) :: ((wsX4_play_r1 ++ (wsX4_play_r2 ++ (wsX4_play_r3 ++ wsX4_play_r4))) ++ wsX40 ++ wsX10 ++ wsX00 ++ (vx_atS RX4 37 "java/lang/IllegalArgumentException" ["java/lang/RuntimeException", "java/lang/Exception"]).filter goodWord ++ (vx_atS RX4 48 "java/lang/IllegalStateException" ["java/lang/RuntimeException", "java/lang/Exception"]).filter goodWord)
def wsX4_challenge_r1 : List Cond := [Cond.classLink RX4 44 "java/lang/IllegalStateException", Cond.initialized "java/lang/IllegalStateException", Cond.fieldLink RX4 19 "GhostGame" "game" "LGhostGame$Game;", Cond.fieldLink RX4 10 "GhostGame" "dictionary" "LGhostGame$Dictionary;", Cond.methodLink RX4 109 yX1_isOn, Cond.instanceMethod yX1_isOn, Cond.selects RX1 yX1_isOn yX1_isOn, Cond.initialized RX1, Cond.code yX1_isOn cX1_isOn 1 (some .boolean), Cond.fieldLink RX1 19 "GhostGame$Game" "mover" "I", Cond.methodLink RX4 113 yX1_fragment, Cond.instanceMethod yX1_fragment, Cond.selects RX1 yX1_fragment yX1_fragment, Cond.code yX1_fragment cX1_fragment 1 (some .long), Cond.fieldLink RX1 30 "GhostGame$Game" "fragment" "J", Cond.methodLink RX4 125 yX1_settleChallenge, Cond.instanceMethod yX1_settleChallenge, Cond.selects RX1 yX1_settleChallenge yX1_settleChallenge, Cond.code yX1_settleChallenge cX1_settleChallenge 2 (some .int), Cond.fieldLink RX1 22 "GhostGame$Game" "lastMover" "I", Cond.methodLink RX1 55 yX0_hasCountingFrom, Cond.instanceMethod yX0_hasCountingFrom, Cond.selects RX0 yX0_hasCountingFrom yX0_hasCountingFrom, Cond.initialized RX0]
def wsX4_challenge_r2 : List Cond := [Cond.code yX0_hasCountingFrom cX0_hasCountingFrom 4 (some .boolean), Cond.fieldLink RX0 15 "GhostGame$Dictionary" "count" "I", Cond.fieldLink RX0 9 "GhostGame$Dictionary" "words" "[J", Cond.methodLink RX0 43 yX0_isLongEnough, Cond.instanceMethod yX0_isLongEnough, Cond.selects RX0 yX0_isLongEnough yX0_isLongEnough, Cond.code yX0_isLongEnough cX0_isLongEnough 3 (some .boolean), Cond.fieldLink RX0 19 "GhostGame$Dictionary" "leastLength" "I", Cond.methodLink RX0 36 yX2_lengthOf, Cond.static yX2_lengthOf, Cond.initialized RX2, Cond.code yX2_lengthOf cX2_lengthOf 2 (some .int), Cond.methodLink RX0 32 yX2_beginsWith, Cond.static yX2_beginsWith, Cond.code yX2_beginsWith cX2_beginsWith 5 (some .boolean), Cond.methodLink RX2 11 yX2_lengthOf, Cond.methodLink RX2 21 yX2_beginning, Cond.static yX2_beginning, Cond.code yX2_beginning cX2_beginning 4 (some .long), Cond.constantLong RX2 15 (1125899906842623), Cond.methodLink RX2 17 yX2_pack, Cond.static yX2_pack, Cond.code yX2_pack cX2_pack 3 (some .long), Cond.methodLink RX1 48 yX1_endRound]
def wsX4_challenge_r3 : List Cond := [Cond.instanceMethod yX1_endRound, Cond.selects RX1 yX1_endRound yX1_endRound, Cond.code yX1_endRound cX1_endRound 2 (some .int), Cond.fieldLink RX1 9 "GhostGame$Game" "strikes" "[I", Cond.fieldLink RX1 25 "GhostGame$Game" "champion" "I", Cond.methodLink RX1 34 yX1_hasPlayer, Cond.instanceMethod yX1_hasPlayer, Cond.selects RX1 yX1_hasPlayer yX1_hasPlayer, Cond.code yX1_hasPlayer cX1_hasPlayer 2 (some .boolean), Cond.fieldLink RX1 15 "GhostGame$Game" "playerCount" "I", Cond.methodLink RX1 58 yX1_playersLeft, Cond.instanceMethod yX1_playersLeft, Cond.selects RX1 yX1_playersLeft yX1_playersLeft, Cond.code yX1_playersLeft cX1_playersLeft 3 (some .int), Cond.methodLink RX1 62 yX1_isOut, Cond.instanceMethod yX1_isOut, Cond.selects RX1 yX1_isOut yX1_isOut, Cond.code yX1_isOut cX1_isOut 2 (some .boolean), Cond.methodLink RX1 65 yX1_strikesOf, Cond.instanceMethod yX1_strikesOf, Cond.selects RX1 yX1_strikesOf yX1_strikesOf, Cond.code yX1_strikesOf cX1_strikesOf 2 (some .int), Cond.methodLink RX1 52 yX1_nextBehind, Cond.instanceMethod yX1_nextBehind]
def wsX4_challenge_r4 : List Cond := [Cond.selects RX1 yX1_nextBehind yX1_nextBehind, Cond.code yX1_nextBehind cX1_nextBehind 4 (some .int)]
def wsX4_challenge : List Cond := .code yX4_challenge cX4_challenge 1 (some .int) :: ((wsX4_challenge_r1 ++ (wsX4_challenge_r2 ++ (wsX4_challenge_r3 ++ wsX4_challenge_r4))) ++ wsX40 ++ wsX10 ++ wsX00 ++ (vx_atS RX4 48 "java/lang/IllegalStateException" ["java/lang/RuntimeException", "java/lang/Exception"]).filter goodWord)
def wsX4_turn : List Cond := .code yX4_turn cX4_turn 1 (some .int) :: ([.fieldLink RX4 19 "GhostGame" "game" "LGhostGame$Game;", .methodLink RX4 129 yX1_mover, .instanceMethod yX1_mover, .selects RX1 yX1_mover yX1_mover, .initialized RX1, .code yX1_mover cX1_mover 1 (some .int), .fieldLink RX1 19 "GhostGame$Game" "mover" "I"] ++ wsX40 ++ wsX10)
def wsX4_winner : List Cond := .code yX4_winner cX4_winner 1 (some .int) :: ([.fieldLink RX4 19 "GhostGame" "game" "LGhostGame$Game;", .methodLink RX4 132 yX1_champion, .instanceMethod yX1_champion, .selects RX1 yX1_champion yX1_champion, .initialized RX1, .code yX1_champion cX1_champion 1 (some .int), .fieldLink RX1 25 "GhostGame$Game" "champion" "I"] ++ wsX40 ++ wsX10)
def wsX4_players : List Cond := .code yX4_players cX4_players 1 (some .int) :: ([.fieldLink RX4 19 "GhostGame" "game" "LGhostGame$Game;", .methodLink RX4 135 yX1_playerCount, .instanceMethod yX1_playerCount, .selects RX1 yX1_playerCount yX1_playerCount, .initialized RX1, .code yX1_playerCount cX1_playerCount 1 (some .int), .fieldLink RX1 15 "GhostGame$Game" "playerCount" "I"] ++ wsX40 ++ wsX10)
def wsX4_strikes : List Cond := .code yX4_strikes cX4_strikes 3 (some .int) :: ([.classLink RX4 61 "java/lang/IndexOutOfBoundsException", .initialized "java/lang/IndexOutOfBoundsException", .fieldLink RX4 19 "GhostGame" "game" "LGhostGame$Game;", .methodLink RX4 138 yX1_strikesOf, .instanceMethod yX1_strikesOf, .selects RX1 yX1_strikesOf yX1_strikesOf, .initialized RX1, .code yX1_strikesOf cX1_strikesOf 2 (some .int), .fieldLink RX1 9 "GhostGame$Game" "strikes" "[I", .methodLink RX1 34 yX1_hasPlayer, .instanceMethod yX1_hasPlayer, .selects RX1 yX1_hasPlayer yX1_hasPlayer, .code yX1_hasPlayer cX1_hasPlayer 2 (some .boolean), .fieldLink RX1 15 "GhostGame$Game" "playerCount" "I"] ++ wsX40 ++ wsX10 ++ (vx_atS RX4 65 "java/lang/IndexOutOfBoundsException" ["java/lang/RuntimeException", "java/lang/Exception"]).filter goodWord)
def wsX4_fragmentLength : List Cond := .code yX4_fragmentLength cX4_fragmentLength 1 (some .int) :: ([.fieldLink RX4 19 "GhostGame" "game" "LGhostGame$Game;", .methodLink RX4 113 yX1_fragment, .instanceMethod yX1_fragment, .selects RX1 yX1_fragment yX1_fragment, .initialized RX1, .code yX1_fragment cX1_fragment 1 (some .long), .fieldLink RX1 30 "GhostGame$Game" "fragment" "J", .methodLink RX4 53 yX2_lengthOf, .static yX2_lengthOf, .initialized RX2, .code yX2_lengthOf cX2_lengthOf 2 (some .int)] ++ wsX40 ++ wsX10)
def wsX4_fragmentAt : List Cond := .code yX4_fragmentAt cX4_fragmentAt 3 (some .int) :: ([.classLink RX4 61 "java/lang/IndexOutOfBoundsException", .initialized "java/lang/IndexOutOfBoundsException", .fieldLink RX4 19 "GhostGame" "game" "LGhostGame$Game;", .methodLink RX4 113 yX1_fragment, .instanceMethod yX1_fragment, .selects RX1 yX1_fragment yX1_fragment, .initialized RX1, .code yX1_fragment cX1_fragment 1 (some .long), .fieldLink RX1 30 "GhostGame$Game" "fragment" "J", .methodLink RX4 57 yX2_letterAt, .static yX2_letterAt, .initialized RX2, .code yX2_letterAt cX2_letterAt 4 (some .int), .methodLink RX2 11 yX2_lengthOf, .static yX2_lengthOf, .code yX2_lengthOf cX2_lengthOf 2 (some .int)] ++ wsX40 ++ wsX10 ++ (vx_atS RX4 65 "java/lang/IndexOutOfBoundsException" ["java/lang/RuntimeException", "java/lang/Exception"]).filter goodWord)
def wsX4_openLetters_r1 : List Cond := [Cond.fieldLink RX4 10 "GhostGame" "dictionary" "LGhostGame$Dictionary;", Cond.fieldLink RX4 19 "GhostGame" "game" "LGhostGame$Game;", Cond.methodLink RX4 113 yX1_fragment, Cond.instanceMethod yX1_fragment, Cond.selects RX1 yX1_fragment yX1_fragment, Cond.initialized RX1, Cond.code yX1_fragment cX1_fragment 1 (some .long), Cond.fieldLink RX1 30 "GhostGame$Game" "fragment" "J", Cond.methodLink RX4 145 yX3_lettersOpenBehind, Cond.static yX3_lettersOpenBehind, Cond.initialized RX3, Cond.code yX3_lettersOpenBehind cX3_lettersOpenBehind 7 (some .int), Cond.methodLink RX3 9 yX0_size, Cond.instanceMethod yX0_size, Cond.selects RX0 yX0_size yX0_size, Cond.initialized RX0, Cond.code yX0_size cX0_size 1 (some .int), Cond.fieldLink RX0 15 "GhostGame$Dictionary" "count" "I", Cond.methodLink RX3 15 yX0_wordAt, Cond.instanceMethod yX0_wordAt, Cond.selects RX0 yX0_wordAt yX0_wordAt, Cond.code yX0_wordAt cX0_wordAt 2 (some .long), Cond.fieldLink RX0 9 "GhostGame$Dictionary" "words" "[J", Cond.methodLink RX3 19 yX3_leadsOn]
def wsX4_openLetters_r2 : List Cond := [Cond.static yX3_leadsOn, Cond.code yX3_leadsOn cX3_leadsOn 5 (some .boolean), Cond.methodLink RX3 78 yX0_isLongEnough, Cond.instanceMethod yX0_isLongEnough, Cond.selects RX0 yX0_isLongEnough yX0_isLongEnough, Cond.code yX0_isLongEnough cX0_isLongEnough 3 (some .boolean), Cond.fieldLink RX0 19 "GhostGame$Dictionary" "leastLength" "I", Cond.methodLink RX0 36 yX2_lengthOf, Cond.static yX2_lengthOf, Cond.initialized RX2, Cond.code yX2_lengthOf cX2_lengthOf 2 (some .int), Cond.methodLink RX3 81 yX2_goesOnBehind, Cond.static yX2_goesOnBehind, Cond.code yX2_goesOnBehind cX2_goesOnBehind 4 (some .boolean), Cond.methodLink RX2 25 yX2_beginsWith, Cond.static yX2_beginsWith, Cond.code yX2_beginsWith cX2_beginsWith 5 (some .boolean), Cond.methodLink RX2 11 yX2_lengthOf, Cond.methodLink RX2 21 yX2_beginning, Cond.static yX2_beginning, Cond.code yX2_beginning cX2_beginning 4 (some .long), Cond.constantLong RX2 15 (1125899906842623), Cond.methodLink RX2 17 yX2_pack, Cond.static yX2_pack]
def wsX4_openLetters_r3 : List Cond := [Cond.code yX2_pack cX2_pack 3 (some .long), Cond.methodLink RX3 25 yX2_lengthOf, Cond.methodLink RX3 31 yX2_letterAt, Cond.static yX2_letterAt, Cond.code yX2_letterAt cX2_letterAt 4 (some .int)]
def wsX4_openLetters : List Cond := .code yX4_openLetters cX4_openLetters 1 (some .int) :: ((wsX4_openLetters_r1 ++ (wsX4_openLetters_r2 ++ wsX4_openLetters_r3)) ++ wsX40 ++ wsX10 ++ wsX00)
def wsX4_winningLetters_r1 : List Cond := [Cond.fieldLink RX4 10 "GhostGame" "dictionary" "LGhostGame$Dictionary;", Cond.fieldLink RX4 19 "GhostGame" "game" "LGhostGame$Game;", Cond.methodLink RX4 113 yX1_fragment, Cond.instanceMethod yX1_fragment, Cond.selects RX1 yX1_fragment yX1_fragment, Cond.initialized RX1, Cond.code yX1_fragment cX1_fragment 1 (some .long), Cond.fieldLink RX1 30 "GhostGame$Game" "fragment" "J", Cond.methodLink RX4 151 yX3_lettersWinningBehind, Cond.static yX3_lettersWinningBehind, Cond.initialized RX3, Cond.code yX3_lettersWinningBehind cX3_lettersWinningBehind 6 (some .int), Cond.methodLink RX3 35 yX3_lettersOpenBehind, Cond.static yX3_lettersOpenBehind, Cond.code yX3_lettersOpenBehind cX3_lettersOpenBehind 7 (some .int), Cond.methodLink RX3 9 yX0_size, Cond.instanceMethod yX0_size, Cond.selects RX0 yX0_size yX0_size, Cond.initialized RX0, Cond.code yX0_size cX0_size 1 (some .int), Cond.fieldLink RX0 15 "GhostGame$Dictionary" "count" "I", Cond.methodLink RX3 15 yX0_wordAt, Cond.instanceMethod yX0_wordAt, Cond.selects RX0 yX0_wordAt yX0_wordAt]
def wsX4_winningLetters_r2 : List Cond := [Cond.code yX0_wordAt cX0_wordAt 2 (some .long), Cond.fieldLink RX0 9 "GhostGame$Dictionary" "words" "[J", Cond.methodLink RX3 19 yX3_leadsOn, Cond.static yX3_leadsOn, Cond.code yX3_leadsOn cX3_leadsOn 5 (some .boolean), Cond.methodLink RX3 78 yX0_isLongEnough, Cond.instanceMethod yX0_isLongEnough, Cond.selects RX0 yX0_isLongEnough yX0_isLongEnough, Cond.code yX0_isLongEnough cX0_isLongEnough 3 (some .boolean), Cond.fieldLink RX0 19 "GhostGame$Dictionary" "leastLength" "I", Cond.methodLink RX0 36 yX2_lengthOf, Cond.static yX2_lengthOf, Cond.initialized RX2, Cond.code yX2_lengthOf cX2_lengthOf 2 (some .int), Cond.methodLink RX3 81 yX2_goesOnBehind, Cond.static yX2_goesOnBehind, Cond.code yX2_goesOnBehind cX2_goesOnBehind 4 (some .boolean), Cond.methodLink RX2 25 yX2_beginsWith, Cond.static yX2_beginsWith, Cond.code yX2_beginsWith cX2_beginsWith 5 (some .boolean), Cond.methodLink RX2 11 yX2_lengthOf, Cond.methodLink RX2 21 yX2_beginning, Cond.static yX2_beginning, Cond.code yX2_beginning cX2_beginning 4 (some .long)]
def wsX4_winningLetters_r3 : List Cond := [Cond.constantLong RX2 15 (1125899906842623), Cond.methodLink RX2 17 yX2_pack, Cond.static yX2_pack, Cond.code yX2_pack cX2_pack 3 (some .long), Cond.methodLink RX3 25 yX2_lengthOf, Cond.methodLink RX3 31 yX2_letterAt, Cond.static yX2_letterAt, Cond.code yX2_letterAt cX2_letterAt 4 (some .int), Cond.methodLink RX3 39 yX3_isIn, Cond.static yX3_isIn, Cond.code yX3_isIn cX3_isIn 2 (some .boolean), Cond.methodLink RX3 43 yX3_scoreOfLetter, Cond.static yX3_scoreOfLetter, Cond.code yX3_scoreOfLetter cX3_scoreOfLetter 7 (some .int), Cond.methodLink RX3 71 yX2_with, Cond.static yX2_with, Cond.code yX2_with cX2_with 3 (some .long), Cond.methodLink RX3 75 yX0_hasCounting, Cond.instanceMethod yX0_hasCounting, Cond.selects RX0 yX0_hasCounting yX0_hasCounting, Cond.code yX0_hasCounting cX0_hasCounting 3 (some .boolean), Cond.methodLink RX0 43 yX0_isLongEnough, Cond.methodLink RX0 28 yX0_has, Cond.instanceMethod yX0_has]
def wsX4_winningLetters_r4 : List Cond := [Cond.selects RX0 yX0_has yX0_has, Cond.code yX0_has cX0_has 3 (some .boolean), Cond.methodLink RX0 22 yX0_placeOf, Cond.instanceMethod yX0_placeOf, Cond.selects RX0 yX0_placeOf yX0_placeOf, Cond.code yX0_placeOf cX0_placeOf 4 (some .int), Cond.methodLink RX3 47 yX3_score, Cond.static yX3_score, Cond.code yX3_score cX3_score 6 (some .int), Cond.methodLink RX3 67 Lib.Math.max.name, Cond.static Lib.Math.max.name, Cond.initialized "java/lang/Math", Cond.code Lib.Math.max.name Lib.Math.max.code 2 (some .int), Cond.methodLink RX3 63 yX2_isFull, Cond.static yX2_isFull, Cond.code yX2_isFull cX2_isFull 2 (some .boolean)]
def wsX4_winningLetters : List Cond := .code yX4_winningLetters cX4_winningLetters 1 (some .int) :: ((wsX4_winningLetters_r1 ++ (wsX4_winningLetters_r2 ++ (wsX4_winningLetters_r3 ++ wsX4_winningLetters_r4))) ++ wsX40 ++ wsX10 ++ wsX00)
def wsX4_canWin_r1 : List Cond := [Cond.fieldLink RX4 10 "GhostGame" "dictionary" "LGhostGame$Dictionary;", Cond.fieldLink RX4 19 "GhostGame" "game" "LGhostGame$Game;", Cond.methodLink RX4 113 yX1_fragment, Cond.instanceMethod yX1_fragment, Cond.selects RX1 yX1_fragment yX1_fragment, Cond.initialized RX1, Cond.code yX1_fragment cX1_fragment 1 (some .long), Cond.fieldLink RX1 30 "GhostGame$Game" "fragment" "J", Cond.methodLink RX4 154 yX3_moverWins, Cond.static yX3_moverWins, Cond.initialized RX3, Cond.code yX3_moverWins cX3_moverWins 3 (some .boolean), Cond.methodLink RX3 47 yX3_score, Cond.static yX3_score, Cond.code yX3_score cX3_score 6 (some .int), Cond.methodLink RX3 67 Lib.Math.max.name, Cond.static Lib.Math.max.name, Cond.initialized "java/lang/Math", Cond.code Lib.Math.max.name Lib.Math.max.code 2 (some .int), Cond.methodLink RX3 63 yX2_isFull, Cond.static yX2_isFull, Cond.initialized RX2, Cond.code yX2_isFull cX2_isFull 2 (some .boolean), Cond.methodLink RX2 11 yX2_lengthOf]
def wsX4_canWin_r2 : List Cond := [Cond.static yX2_lengthOf, Cond.code yX2_lengthOf cX2_lengthOf 2 (some .int), Cond.methodLink RX3 35 yX3_lettersOpenBehind, Cond.static yX3_lettersOpenBehind, Cond.code yX3_lettersOpenBehind cX3_lettersOpenBehind 7 (some .int), Cond.methodLink RX3 9 yX0_size, Cond.instanceMethod yX0_size, Cond.selects RX0 yX0_size yX0_size, Cond.initialized RX0, Cond.code yX0_size cX0_size 1 (some .int), Cond.fieldLink RX0 15 "GhostGame$Dictionary" "count" "I", Cond.methodLink RX3 15 yX0_wordAt, Cond.instanceMethod yX0_wordAt, Cond.selects RX0 yX0_wordAt yX0_wordAt, Cond.code yX0_wordAt cX0_wordAt 2 (some .long), Cond.fieldLink RX0 9 "GhostGame$Dictionary" "words" "[J", Cond.methodLink RX3 19 yX3_leadsOn, Cond.static yX3_leadsOn, Cond.code yX3_leadsOn cX3_leadsOn 5 (some .boolean), Cond.methodLink RX3 78 yX0_isLongEnough, Cond.instanceMethod yX0_isLongEnough, Cond.selects RX0 yX0_isLongEnough yX0_isLongEnough, Cond.code yX0_isLongEnough cX0_isLongEnough 3 (some .boolean), Cond.fieldLink RX0 19 "GhostGame$Dictionary" "leastLength" "I"]
def wsX4_canWin_r3 : List Cond := [Cond.methodLink RX0 36 yX2_lengthOf, Cond.methodLink RX3 81 yX2_goesOnBehind, Cond.static yX2_goesOnBehind, Cond.code yX2_goesOnBehind cX2_goesOnBehind 4 (some .boolean), Cond.methodLink RX2 25 yX2_beginsWith, Cond.static yX2_beginsWith, Cond.code yX2_beginsWith cX2_beginsWith 5 (some .boolean), Cond.methodLink RX2 21 yX2_beginning, Cond.static yX2_beginning, Cond.code yX2_beginning cX2_beginning 4 (some .long), Cond.constantLong RX2 15 (1125899906842623), Cond.methodLink RX2 17 yX2_pack, Cond.static yX2_pack, Cond.code yX2_pack cX2_pack 3 (some .long), Cond.methodLink RX3 25 yX2_lengthOf, Cond.methodLink RX3 31 yX2_letterAt, Cond.static yX2_letterAt, Cond.code yX2_letterAt cX2_letterAt 4 (some .int), Cond.methodLink RX3 39 yX3_isIn, Cond.static yX3_isIn, Cond.code yX3_isIn cX3_isIn 2 (some .boolean), Cond.methodLink RX3 43 yX3_scoreOfLetter, Cond.static yX3_scoreOfLetter, Cond.code yX3_scoreOfLetter cX3_scoreOfLetter 7 (some .int)]
def wsX4_canWin_r4 : List Cond := [Cond.methodLink RX3 71 yX2_with, Cond.static yX2_with, Cond.code yX2_with cX2_with 3 (some .long), Cond.methodLink RX3 75 yX0_hasCounting, Cond.instanceMethod yX0_hasCounting, Cond.selects RX0 yX0_hasCounting yX0_hasCounting, Cond.code yX0_hasCounting cX0_hasCounting 3 (some .boolean), Cond.methodLink RX0 43 yX0_isLongEnough, Cond.methodLink RX0 28 yX0_has, Cond.instanceMethod yX0_has, Cond.selects RX0 yX0_has yX0_has, Cond.code yX0_has cX0_has 3 (some .boolean), Cond.methodLink RX0 22 yX0_placeOf, Cond.instanceMethod yX0_placeOf, Cond.selects RX0 yX0_placeOf yX0_placeOf, Cond.code yX0_placeOf cX0_placeOf 4 (some .int)]
def wsX4_canWin : List Cond := .code yX4_canWin cX4_canWin 1 (some .boolean) :: ((wsX4_canWin_r1 ++ (wsX4_canWin_r2 ++ (wsX4_canWin_r3 ++ wsX4_canWin_r4))) ++ wsX40 ++ wsX10 ++ wsX00)
def wsX4_end_r1 : List Cond := [Cond.fieldLink RX4 10 "GhostGame" "dictionary" "LGhostGame$Dictionary;", Cond.fieldLink RX4 19 "GhostGame" "game" "LGhostGame$Game;", Cond.methodLink RX4 113 yX1_fragment, Cond.instanceMethod yX1_fragment, Cond.selects RX1 yX1_fragment yX1_fragment, Cond.initialized RX1, Cond.code yX1_fragment cX1_fragment 1 (some .long), Cond.fieldLink RX1 30 "GhostGame$Game" "fragment" "J", Cond.methodLink RX4 158 yX3_endBehind, Cond.static yX3_endBehind, Cond.initialized RX3, Cond.code yX3_endBehind cX3_endBehind 3 (some .int), Cond.methodLink RX3 50 Lib.Math.abs.name, Cond.static Lib.Math.abs.name, Cond.initialized "java/lang/Math", Cond.code Lib.Math.abs.name Lib.Math.abs.code 1 (some .int), Cond.methodLink RX3 47 yX3_score, Cond.static yX3_score, Cond.code yX3_score cX3_score 6 (some .int), Cond.methodLink RX3 67 Lib.Math.max.name, Cond.static Lib.Math.max.name, Cond.code Lib.Math.max.name Lib.Math.max.code 2 (some .int), Cond.methodLink RX3 63 yX2_isFull, Cond.static yX2_isFull]
def wsX4_end_r2 : List Cond := [Cond.initialized RX2, Cond.code yX2_isFull cX2_isFull 2 (some .boolean), Cond.methodLink RX2 11 yX2_lengthOf, Cond.static yX2_lengthOf, Cond.code yX2_lengthOf cX2_lengthOf 2 (some .int), Cond.methodLink RX3 35 yX3_lettersOpenBehind, Cond.static yX3_lettersOpenBehind, Cond.code yX3_lettersOpenBehind cX3_lettersOpenBehind 7 (some .int), Cond.methodLink RX3 9 yX0_size, Cond.instanceMethod yX0_size, Cond.selects RX0 yX0_size yX0_size, Cond.initialized RX0, Cond.code yX0_size cX0_size 1 (some .int), Cond.fieldLink RX0 15 "GhostGame$Dictionary" "count" "I", Cond.methodLink RX3 15 yX0_wordAt, Cond.instanceMethod yX0_wordAt, Cond.selects RX0 yX0_wordAt yX0_wordAt, Cond.code yX0_wordAt cX0_wordAt 2 (some .long), Cond.fieldLink RX0 9 "GhostGame$Dictionary" "words" "[J", Cond.methodLink RX3 19 yX3_leadsOn, Cond.static yX3_leadsOn, Cond.code yX3_leadsOn cX3_leadsOn 5 (some .boolean), Cond.methodLink RX3 78 yX0_isLongEnough, Cond.instanceMethod yX0_isLongEnough]
def wsX4_end_r3 : List Cond := [Cond.selects RX0 yX0_isLongEnough yX0_isLongEnough, Cond.code yX0_isLongEnough cX0_isLongEnough 3 (some .boolean), Cond.fieldLink RX0 19 "GhostGame$Dictionary" "leastLength" "I", Cond.methodLink RX0 36 yX2_lengthOf, Cond.methodLink RX3 81 yX2_goesOnBehind, Cond.static yX2_goesOnBehind, Cond.code yX2_goesOnBehind cX2_goesOnBehind 4 (some .boolean), Cond.methodLink RX2 25 yX2_beginsWith, Cond.static yX2_beginsWith, Cond.code yX2_beginsWith cX2_beginsWith 5 (some .boolean), Cond.methodLink RX2 21 yX2_beginning, Cond.static yX2_beginning, Cond.code yX2_beginning cX2_beginning 4 (some .long), Cond.constantLong RX2 15 (1125899906842623), Cond.methodLink RX2 17 yX2_pack, Cond.static yX2_pack, Cond.code yX2_pack cX2_pack 3 (some .long), Cond.methodLink RX3 25 yX2_lengthOf, Cond.methodLink RX3 31 yX2_letterAt, Cond.static yX2_letterAt, Cond.code yX2_letterAt cX2_letterAt 4 (some .int), Cond.methodLink RX3 39 yX3_isIn, Cond.static yX3_isIn, Cond.code yX3_isIn cX3_isIn 2 (some .boolean)]
def wsX4_end_r4 : List Cond := [Cond.methodLink RX3 43 yX3_scoreOfLetter, Cond.static yX3_scoreOfLetter, Cond.code yX3_scoreOfLetter cX3_scoreOfLetter 7 (some .int), Cond.methodLink RX3 71 yX2_with, Cond.static yX2_with, Cond.code yX2_with cX2_with 3 (some .long), Cond.methodLink RX3 75 yX0_hasCounting, Cond.instanceMethod yX0_hasCounting, Cond.selects RX0 yX0_hasCounting yX0_hasCounting, Cond.code yX0_hasCounting cX0_hasCounting 3 (some .boolean), Cond.methodLink RX0 43 yX0_isLongEnough, Cond.methodLink RX0 28 yX0_has, Cond.instanceMethod yX0_has, Cond.selects RX0 yX0_has yX0_has, Cond.code yX0_has cX0_has 3 (some .boolean), Cond.methodLink RX0 22 yX0_placeOf, Cond.instanceMethod yX0_placeOf, Cond.selects RX0 yX0_placeOf yX0_placeOf, Cond.code yX0_placeOf cX0_placeOf 4 (some .int)]
def wsX4_end : List Cond := .code yX4_end cX4_end 1 (some .int) :: ((wsX4_end_r1 ++ (wsX4_end_r2 ++ (wsX4_end_r3 ++ wsX4_end_r4))) ++ wsX40 ++ wsX10 ++ wsX00)
def wsX4_bestLetter_r1 : List Cond := [Cond.fieldLink RX4 10 "GhostGame" "dictionary" "LGhostGame$Dictionary;", Cond.fieldLink RX4 19 "GhostGame" "game" "LGhostGame$Game;", Cond.methodLink RX4 113 yX1_fragment, Cond.instanceMethod yX1_fragment, Cond.selects RX1 yX1_fragment yX1_fragment, Cond.initialized RX1, Cond.code yX1_fragment cX1_fragment 1 (some .long), Cond.fieldLink RX1 30 "GhostGame$Game" "fragment" "J", Cond.methodLink RX4 161 yX3_letterChosenBehind, Cond.static yX3_letterChosenBehind, Cond.initialized RX3, Cond.code yX3_letterChosenBehind cX3_letterChosenBehind 6 (some .int), Cond.methodLink RX3 35 yX3_lettersOpenBehind, Cond.static yX3_lettersOpenBehind, Cond.code yX3_lettersOpenBehind cX3_lettersOpenBehind 7 (some .int), Cond.methodLink RX3 9 yX0_size, Cond.instanceMethod yX0_size, Cond.selects RX0 yX0_size yX0_size, Cond.initialized RX0, Cond.code yX0_size cX0_size 1 (some .int), Cond.fieldLink RX0 15 "GhostGame$Dictionary" "count" "I", Cond.methodLink RX3 15 yX0_wordAt, Cond.instanceMethod yX0_wordAt, Cond.selects RX0 yX0_wordAt yX0_wordAt]
def wsX4_bestLetter_r2 : List Cond := [Cond.code yX0_wordAt cX0_wordAt 2 (some .long), Cond.fieldLink RX0 9 "GhostGame$Dictionary" "words" "[J", Cond.methodLink RX3 19 yX3_leadsOn, Cond.static yX3_leadsOn, Cond.code yX3_leadsOn cX3_leadsOn 5 (some .boolean), Cond.methodLink RX3 78 yX0_isLongEnough, Cond.instanceMethod yX0_isLongEnough, Cond.selects RX0 yX0_isLongEnough yX0_isLongEnough, Cond.code yX0_isLongEnough cX0_isLongEnough 3 (some .boolean), Cond.fieldLink RX0 19 "GhostGame$Dictionary" "leastLength" "I", Cond.methodLink RX0 36 yX2_lengthOf, Cond.static yX2_lengthOf, Cond.initialized RX2, Cond.code yX2_lengthOf cX2_lengthOf 2 (some .int), Cond.methodLink RX3 81 yX2_goesOnBehind, Cond.static yX2_goesOnBehind, Cond.code yX2_goesOnBehind cX2_goesOnBehind 4 (some .boolean), Cond.methodLink RX2 25 yX2_beginsWith, Cond.static yX2_beginsWith, Cond.code yX2_beginsWith cX2_beginsWith 5 (some .boolean), Cond.methodLink RX2 11 yX2_lengthOf, Cond.methodLink RX2 21 yX2_beginning, Cond.static yX2_beginning, Cond.code yX2_beginning cX2_beginning 4 (some .long)]
def wsX4_bestLetter_r3 : List Cond := [Cond.constantLong RX2 15 (1125899906842623), Cond.methodLink RX2 17 yX2_pack, Cond.static yX2_pack, Cond.code yX2_pack cX2_pack 3 (some .long), Cond.methodLink RX3 25 yX2_lengthOf, Cond.methodLink RX3 31 yX2_letterAt, Cond.static yX2_letterAt, Cond.code yX2_letterAt cX2_letterAt 4 (some .int), Cond.methodLink RX3 47 yX3_score, Cond.static yX3_score, Cond.code yX3_score cX3_score 6 (some .int), Cond.methodLink RX3 67 Lib.Math.max.name, Cond.static Lib.Math.max.name, Cond.initialized "java/lang/Math", Cond.code Lib.Math.max.name Lib.Math.max.code 2 (some .int), Cond.methodLink RX3 63 yX2_isFull, Cond.static yX2_isFull, Cond.code yX2_isFull cX2_isFull 2 (some .boolean), Cond.methodLink RX3 39 yX3_isIn, Cond.static yX3_isIn, Cond.code yX3_isIn cX3_isIn 2 (some .boolean), Cond.methodLink RX3 43 yX3_scoreOfLetter, Cond.static yX3_scoreOfLetter, Cond.code yX3_scoreOfLetter cX3_scoreOfLetter 7 (some .int)]
def wsX4_bestLetter_r4 : List Cond := [Cond.methodLink RX3 71 yX2_with, Cond.static yX2_with, Cond.code yX2_with cX2_with 3 (some .long), Cond.methodLink RX3 75 yX0_hasCounting, Cond.instanceMethod yX0_hasCounting, Cond.selects RX0 yX0_hasCounting yX0_hasCounting, Cond.code yX0_hasCounting cX0_hasCounting 3 (some .boolean), Cond.methodLink RX0 43 yX0_isLongEnough, Cond.methodLink RX0 28 yX0_has, Cond.instanceMethod yX0_has, Cond.selects RX0 yX0_has yX0_has, Cond.code yX0_has cX0_has 3 (some .boolean), Cond.methodLink RX0 22 yX0_placeOf, Cond.instanceMethod yX0_placeOf, Cond.selects RX0 yX0_placeOf yX0_placeOf, Cond.code yX0_placeOf cX0_placeOf 4 (some .int)]
def wsX4_bestLetter : List Cond := .code yX4_bestLetter cX4_bestLetter 1 (some .int) :: ((wsX4_bestLetter_r1 ++ (wsX4_bestLetter_r2 ++ (wsX4_bestLetter_r3 ++ wsX4_bestLetter_r4))) ++ wsX40 ++ wsX10 ++ wsX00)
def wsX4_waysToPlay_r1 : List Cond := [Cond.fieldLink RX4 10 "GhostGame" "dictionary" "LGhostGame$Dictionary;", Cond.fieldLink RX4 19 "GhostGame" "game" "LGhostGame$Game;", Cond.methodLink RX4 113 yX1_fragment, Cond.instanceMethod yX1_fragment, Cond.selects RX1 yX1_fragment yX1_fragment, Cond.initialized RX1, Cond.code yX1_fragment cX1_fragment 1 (some .long), Cond.fieldLink RX1 30 "GhostGame$Game" "fragment" "J", Cond.methodLink RX4 164 yX3_countWays, Cond.static yX3_countWays, Cond.initialized RX3, Cond.code yX3_countWays cX3_countWays 5 (some .int), Cond.methodLink RX3 9 yX0_size, Cond.instanceMethod yX0_size, Cond.selects RX0 yX0_size yX0_size, Cond.initialized RX0, Cond.code yX0_size cX0_size 1 (some .int), Cond.fieldLink RX0 15 "GhostGame$Dictionary" "count" "I", Cond.methodLink RX3 15 yX0_wordAt, Cond.instanceMethod yX0_wordAt, Cond.selects RX0 yX0_wordAt yX0_wordAt, Cond.code yX0_wordAt cX0_wordAt 2 (some .long), Cond.fieldLink RX0 9 "GhostGame$Dictionary" "words" "[J", Cond.methodLink RX3 56 yX3_isWay]
def wsX4_waysToPlay_r2 : List Cond := [Cond.static yX3_isWay, Cond.code yX3_isWay cX3_isWay 6 (some .boolean), Cond.methodLink RX3 19 yX3_leadsOn, Cond.static yX3_leadsOn, Cond.code yX3_leadsOn cX3_leadsOn 5 (some .boolean), Cond.methodLink RX3 78 yX0_isLongEnough, Cond.instanceMethod yX0_isLongEnough, Cond.selects RX0 yX0_isLongEnough yX0_isLongEnough, Cond.code yX0_isLongEnough cX0_isLongEnough 3 (some .boolean), Cond.fieldLink RX0 19 "GhostGame$Dictionary" "leastLength" "I", Cond.methodLink RX0 36 yX2_lengthOf, Cond.static yX2_lengthOf, Cond.initialized RX2, Cond.code yX2_lengthOf cX2_lengthOf 2 (some .int), Cond.methodLink RX3 81 yX2_goesOnBehind, Cond.static yX2_goesOnBehind, Cond.code yX2_goesOnBehind cX2_goesOnBehind 4 (some .boolean), Cond.methodLink RX2 25 yX2_beginsWith, Cond.static yX2_beginsWith, Cond.code yX2_beginsWith cX2_beginsWith 5 (some .boolean), Cond.methodLink RX2 11 yX2_lengthOf, Cond.methodLink RX2 21 yX2_beginning, Cond.static yX2_beginning, Cond.code yX2_beginning cX2_beginning 4 (some .long)]
def wsX4_waysToPlay_r3 : List Cond := [Cond.constantLong RX2 15 (1125899906842623), Cond.methodLink RX2 17 yX2_pack, Cond.static yX2_pack, Cond.code yX2_pack cX2_pack 3 (some .long), Cond.methodLink RX3 25 yX2_lengthOf, Cond.methodLink RX3 84 yX2_beginning, Cond.methodLink RX3 75 yX0_hasCounting, Cond.instanceMethod yX0_hasCounting, Cond.selects RX0 yX0_hasCounting yX0_hasCounting, Cond.code yX0_hasCounting cX0_hasCounting 3 (some .boolean), Cond.methodLink RX0 43 yX0_isLongEnough, Cond.methodLink RX0 28 yX0_has, Cond.instanceMethod yX0_has, Cond.selects RX0 yX0_has yX0_has, Cond.code yX0_has cX0_has 3 (some .boolean), Cond.methodLink RX0 22 yX0_placeOf, Cond.instanceMethod yX0_placeOf, Cond.selects RX0 yX0_placeOf yX0_placeOf, Cond.code yX0_placeOf cX0_placeOf 4 (some .int)]
def wsX4_waysToPlay : List Cond := .code yX4_waysToPlay cX4_waysToPlay 1 (some .int) :: ((wsX4_waysToPlay_r1 ++ (wsX4_waysToPlay_r2 ++ wsX4_waysToPlay_r3)) ++ wsX40 ++ wsX10 ++ wsX00)
def wsX4_waysToWin_r1 : List Cond := [Cond.fieldLink RX4 10 "GhostGame" "dictionary" "LGhostGame$Dictionary;", Cond.fieldLink RX4 19 "GhostGame" "game" "LGhostGame$Game;", Cond.methodLink RX4 113 yX1_fragment, Cond.instanceMethod yX1_fragment, Cond.selects RX1 yX1_fragment yX1_fragment, Cond.initialized RX1, Cond.code yX1_fragment cX1_fragment 1 (some .long), Cond.fieldLink RX1 30 "GhostGame$Game" "fragment" "J", Cond.methodLink RX4 167 yX3_countWonWays, Cond.static yX3_countWonWays, Cond.initialized RX3, Cond.code yX3_countWonWays cX3_countWonWays 7 (some .int), Cond.methodLink RX3 9 yX0_size, Cond.instanceMethod yX0_size, Cond.selects RX0 yX0_size yX0_size, Cond.initialized RX0, Cond.code yX0_size cX0_size 1 (some .int), Cond.fieldLink RX0 15 "GhostGame$Dictionary" "count" "I", Cond.methodLink RX3 15 yX0_wordAt, Cond.instanceMethod yX0_wordAt, Cond.selects RX0 yX0_wordAt yX0_wordAt, Cond.code yX0_wordAt cX0_wordAt 2 (some .long), Cond.fieldLink RX0 9 "GhostGame$Dictionary" "words" "[J", Cond.methodLink RX3 56 yX3_isWay]
def wsX4_waysToWin_r2 : List Cond := [Cond.static yX3_isWay, Cond.code yX3_isWay cX3_isWay 6 (some .boolean), Cond.methodLink RX3 19 yX3_leadsOn, Cond.static yX3_leadsOn, Cond.code yX3_leadsOn cX3_leadsOn 5 (some .boolean), Cond.methodLink RX3 78 yX0_isLongEnough, Cond.instanceMethod yX0_isLongEnough, Cond.selects RX0 yX0_isLongEnough yX0_isLongEnough, Cond.code yX0_isLongEnough cX0_isLongEnough 3 (some .boolean), Cond.fieldLink RX0 19 "GhostGame$Dictionary" "leastLength" "I", Cond.methodLink RX0 36 yX2_lengthOf, Cond.static yX2_lengthOf, Cond.initialized RX2, Cond.code yX2_lengthOf cX2_lengthOf 2 (some .int), Cond.methodLink RX3 81 yX2_goesOnBehind, Cond.static yX2_goesOnBehind, Cond.code yX2_goesOnBehind cX2_goesOnBehind 4 (some .boolean), Cond.methodLink RX2 25 yX2_beginsWith, Cond.static yX2_beginsWith, Cond.code yX2_beginsWith cX2_beginsWith 5 (some .boolean), Cond.methodLink RX2 11 yX2_lengthOf, Cond.methodLink RX2 21 yX2_beginning, Cond.static yX2_beginning, Cond.code yX2_beginning cX2_beginning 4 (some .long)]
def wsX4_waysToWin_r3 : List Cond := [Cond.constantLong RX2 15 (1125899906842623), Cond.methodLink RX2 17 yX2_pack, Cond.static yX2_pack, Cond.code yX2_pack cX2_pack 3 (some .long), Cond.methodLink RX3 25 yX2_lengthOf, Cond.methodLink RX3 84 yX2_beginning, Cond.methodLink RX3 75 yX0_hasCounting, Cond.instanceMethod yX0_hasCounting, Cond.selects RX0 yX0_hasCounting yX0_hasCounting, Cond.code yX0_hasCounting cX0_hasCounting 3 (some .boolean), Cond.methodLink RX0 43 yX0_isLongEnough, Cond.methodLink RX0 28 yX0_has, Cond.instanceMethod yX0_has, Cond.selects RX0 yX0_has yX0_has, Cond.code yX0_has cX0_has 3 (some .boolean), Cond.methodLink RX0 22 yX0_placeOf, Cond.instanceMethod yX0_placeOf, Cond.selects RX0 yX0_placeOf yX0_placeOf, Cond.code yX0_placeOf cX0_placeOf 4 (some .int), Cond.methodLink RX3 59 yX3_otherSideCompletes, Cond.static yX3_otherSideCompletes, Cond.code yX3_otherSideCompletes cX3_otherSideCompletes 4 (some .boolean)]
def wsX4_waysToWin : List Cond := .code yX4_waysToWin cX4_waysToWin 1 (some .int) :: ((wsX4_waysToWin_r1 ++ (wsX4_waysToWin_r2 ++ wsX4_waysToWin_r3)) ++ wsX40 ++ wsX10 ++ wsX00)
def wsX5_init : List Cond := .code yX5_init cX5_init 1 none :: ([.methodLink RX5 1 objectInit, .instanceMethod objectInit, .code objectInit ⟨#[0xb1]⟩ 1 none, .arrayClass .int, .fieldLink RX5 7 "GhostGameModel" "slip" "[I", .fieldLink RX5 13 "GhostGameModel" "letters" "[I", .fieldLink RX5 16 "GhostGameModel" "length" "[I", .fieldLink RX5 19 "GhostGameModel" "least" "I", .fieldLink RX5 23 "GhostGameModel" "strikes" "[I", .fieldLink RX5 26 "GhostGameModel" "winner" "I", .fieldLink RX5 29 "GhostGameModel" "fragment" "[I", .arrayClass .boolean, .fieldLink RX5 32 "GhostGameModel" "wins" "[Z", .fieldLink RX5 36 "GhostGameModel" "ends" "[I", .fieldLink RX5 39 "GhostGameModel" "chosen" "[I", .fieldLink RX5 42 "GhostGameModel" "good" "[I", .fieldLink RX5 45 "GhostGameModel" "open" "[I"] ++ wsX50)
def wsX5_thrown : List Cond := .code yX5_thrown cX5_thrown 1 (some .int) :: ([.fieldLink RX5 48 "GhostGameModel" "thrown" "I"] ++ wsX50)
def wsX5_asked : List Cond := .code yX5_asked cX5_asked 2 (some .boolean) :: ([.fieldLink RX5 48 "GhostGameModel" "thrown" "I"] ++ wsX50)
def wsX5_asked_ : List Cond := .code yX5_asked_ cX5_asked_ 3 (some .boolean) :: ([.fieldLink RX5 48 "GhostGameModel" "thrown" "I"] ++ wsX50)
def wsX5_told : List Cond := .code yX5_told cX5_told 2 (some .int) :: ([.fieldLink RX5 48 "GhostGameModel" "thrown" "I"] ++ wsX50)
def wsX5_isLetter : List Cond := .code yX5_isLetter cX5_isLetter 1 (some .boolean) :: ([])
def wsX5_begins : List Cond := .code yX5_begins cX5_begins 6 (some .boolean) :: ([.fieldLink RX5 16 "GhostGameModel" "length" "[I", .fieldLink RX5 13 "GhostGameModel" "letters" "[I"] ++ wsX50)
def wsX5_areAlike : List Cond := .code yX5_areAlike cX5_areAlike 6 (some .boolean) :: ([.fieldLink RX5 16 "GhostGameModel" "length" "[I", .fieldLink RX5 13 "GhostGameModel" "letters" "[I"] ++ wsX50)
def wsX5_counts : List Cond := .code yX5_counts cX5_counts 2 (some .boolean) :: ([.fieldLink RX5 16 "GhostGameModel" "length" "[I", .fieldLink RX5 19 "GhostGameModel" "least" "I"] ++ wsX50)
def wsX5_found : List Cond := .code yX5_found cX5_found 3 (some .int) :: ([.fieldLink RX5 51 "GhostGameModel" "words" "I", .fieldLink RX5 16 "GhostGameModel" "length" "[I", .fieldLink RX5 54 "GhostGameModel" "slipLength" "I", .fieldLink RX5 7 "GhostGameModel" "slip" "[I", .methodLink RX5 57 yX5_begins, .instanceMethod yX5_begins, .selects RX5 yX5_begins yX5_begins, .initialized RX5, .code yX5_begins cX5_begins 6 (some .boolean), .fieldLink RX5 13 "GhostGameModel" "letters" "[I"] ++ wsX50)
def wsX5_isBefore : List Cond := .code yX5_isBefore cX5_isBefore 6 (some .boolean) :: ([.fieldLink RX5 16 "GhostGameModel" "length" "[I", .fieldLink RX5 13 "GhostGameModel" "letters" "[I"] ++ wsX50)
def wsX5_write : List Cond := .code yX5_write cX5_write 2 (some .int) :: ([.fieldLink RX5 54 "GhostGameModel" "slipLength" "I", .fieldLink RX5 7 "GhostGameModel" "slip" "[I", .methodLink RX5 61 yX5_isLetter, .static yX5_isLetter, .initialized RX5, .code yX5_isLetter cX5_isLetter 1 (some .boolean), .methodLink RX5 65 yX5_asked_, .instanceMethod yX5_asked_, .selects RX5 yX5_asked_ yX5_asked_, .code yX5_asked_ cX5_asked_ 3 (some .boolean), .fieldLink RX5 48 "GhostGameModel" "thrown" "I"] ++ wsX50)
def wsX5_wipe : List Cond := .code yX5_wipe cX5_wipe 2 (some .int) :: ([.fieldLink RX5 54 "GhostGameModel" "slipLength" "I", .methodLink RX5 69 yX5_told, .instanceMethod yX5_told, .selects RX5 yX5_told yX5_told, .initialized RX5, .code yX5_told cX5_told 2 (some .int), .fieldLink RX5 48 "GhostGameModel" "thrown" "I"] ++ wsX50)
def wsX5_slipLength : List Cond := .code yX5_slipLength cX5_slipLength 1 (some .int) :: ([.fieldLink RX5 54 "GhostGameModel" "slipLength" "I", .methodLink RX5 69 yX5_told, .instanceMethod yX5_told, .selects RX5 yX5_told yX5_told, .initialized RX5, .code yX5_told cX5_told 2 (some .int), .fieldLink RX5 48 "GhostGameModel" "thrown" "I"] ++ wsX50)
def wsX5_slipAt : List Cond := .code yX5_slipAt cX5_slipAt 2 (some .int) :: ([.fieldLink RX5 54 "GhostGameModel" "slipLength" "I", .fieldLink RX5 7 "GhostGameModel" "slip" "[I", .methodLink RX5 73 yX5_asked, .instanceMethod yX5_asked, .selects RX5 yX5_asked yX5_asked, .initialized RX5, .code yX5_asked cX5_asked 2 (some .boolean), .fieldLink RX5 48 "GhostGameModel" "thrown" "I"] ++ wsX50)
def wsX5_addWord : List Cond := .code yX5_addWord cX5_addWord 2 (some .int) :: ([.fieldLink RX5 54 "GhostGameModel" "slipLength" "I", .fieldLink RX5 51 "GhostGameModel" "words" "I", .fieldLink RX5 16 "GhostGameModel" "length" "[I", .fieldLink RX5 13 "GhostGameModel" "letters" "[I", .fieldLink RX5 7 "GhostGameModel" "slip" "[I", .methodLink RX5 76 yX5_found, .instanceMethod yX5_found, .selects RX5 yX5_found yX5_found, .initialized RX5, .code yX5_found cX5_found 3 (some .int), .methodLink RX5 57 yX5_begins, .instanceMethod yX5_begins, .selects RX5 yX5_begins yX5_begins, .code yX5_begins cX5_begins 6 (some .boolean), .methodLink RX5 65 yX5_asked_, .instanceMethod yX5_asked_, .selects RX5 yX5_asked_ yX5_asked_, .code yX5_asked_ cX5_asked_ 3 (some .boolean), .fieldLink RX5 48 "GhostGameModel" "thrown" "I"] ++ wsX50)
def wsX5_removeWord : List Cond := .code yX5_removeWord cX5_removeWord 3 (some .int) :: ([.fieldLink RX5 51 "GhostGameModel" "words" "I", .fieldLink RX5 16 "GhostGameModel" "length" "[I", .fieldLink RX5 13 "GhostGameModel" "letters" "[I", .methodLink RX5 76 yX5_found, .instanceMethod yX5_found, .selects RX5 yX5_found yX5_found, .initialized RX5, .code yX5_found cX5_found 3 (some .int), .fieldLink RX5 54 "GhostGameModel" "slipLength" "I", .fieldLink RX5 7 "GhostGameModel" "slip" "[I", .methodLink RX5 57 yX5_begins, .instanceMethod yX5_begins, .selects RX5 yX5_begins yX5_begins, .code yX5_begins cX5_begins 6 (some .boolean), .methodLink RX5 73 yX5_asked, .instanceMethod yX5_asked, .selects RX5 yX5_asked yX5_asked, .code yX5_asked cX5_asked 2 (some .boolean), .fieldLink RX5 48 "GhostGameModel" "thrown" "I"] ++ wsX50)
def wsX5_isWord : List Cond := .code yX5_isWord cX5_isWord 1 (some .boolean) :: ([.fieldLink RX5 48 "GhostGameModel" "thrown" "I", .methodLink RX5 76 yX5_found, .instanceMethod yX5_found, .selects RX5 yX5_found yX5_found, .initialized RX5, .code yX5_found cX5_found 3 (some .int), .fieldLink RX5 51 "GhostGameModel" "words" "I", .fieldLink RX5 16 "GhostGameModel" "length" "[I", .fieldLink RX5 54 "GhostGameModel" "slipLength" "I", .fieldLink RX5 7 "GhostGameModel" "slip" "[I", .methodLink RX5 57 yX5_begins, .instanceMethod yX5_begins, .selects RX5 yX5_begins yX5_begins, .code yX5_begins cX5_begins 6 (some .boolean), .fieldLink RX5 13 "GhostGameModel" "letters" "[I"] ++ wsX50)
def wsX5_words : List Cond := .code yX5_words cX5_words 1 (some .int) :: ([.fieldLink RX5 51 "GhostGameModel" "words" "I", .methodLink RX5 69 yX5_told, .instanceMethod yX5_told, .selects RX5 yX5_told yX5_told, .initialized RX5, .code yX5_told cX5_told 2 (some .int), .fieldLink RX5 48 "GhostGameModel" "thrown" "I"] ++ wsX50)
def wsX5_wordsFromSlip : List Cond := .code yX5_wordsFromSlip cX5_wordsFromSlip 3 (some .int) :: ([.fieldLink RX5 51 "GhostGameModel" "words" "I", .fieldLink RX5 7 "GhostGameModel" "slip" "[I", .fieldLink RX5 54 "GhostGameModel" "slipLength" "I", .methodLink RX5 57 yX5_begins, .instanceMethod yX5_begins, .selects RX5 yX5_begins yX5_begins, .initialized RX5, .code yX5_begins cX5_begins 6 (some .boolean), .fieldLink RX5 16 "GhostGameModel" "length" "[I", .fieldLink RX5 13 "GhostGameModel" "letters" "[I", .methodLink RX5 69 yX5_told, .instanceMethod yX5_told, .selects RX5 yX5_told yX5_told, .code yX5_told cX5_told 2 (some .int), .fieldLink RX5 48 "GhostGameModel" "thrown" "I"] ++ wsX50)
def wsX5_beginnings : List Cond := .code yX5_beginnings cX5_beginnings 6 (some .int) :: ([.fieldLink RX5 51 "GhostGameModel" "words" "I", .fieldLink RX5 16 "GhostGameModel" "length" "[I", .methodLink RX5 80 yX5_areAlike, .instanceMethod yX5_areAlike, .selects RX5 yX5_areAlike yX5_areAlike, .initialized RX5, .code yX5_areAlike cX5_areAlike 6 (some .boolean), .fieldLink RX5 13 "GhostGameModel" "letters" "[I", .methodLink RX5 69 yX5_told, .instanceMethod yX5_told, .selects RX5 yX5_told yX5_told, .code yX5_told cX5_told 2 (some .int), .fieldLink RX5 48 "GhostGameModel" "thrown" "I"] ++ wsX50)
def wsX5_copyWord : List Cond := .code yX5_copyWord cX5_copyWord 6 (some .int) :: ([.fieldLink RX5 51 "GhostGameModel" "words" "I", .fieldLink RX5 16 "GhostGameModel" "length" "[I", .fieldLink RX5 54 "GhostGameModel" "slipLength" "I", .fieldLink RX5 7 "GhostGameModel" "slip" "[I", .fieldLink RX5 13 "GhostGameModel" "letters" "[I", .methodLink RX5 73 yX5_asked, .instanceMethod yX5_asked, .selects RX5 yX5_asked yX5_asked, .initialized RX5, .code yX5_asked cX5_asked 2 (some .boolean), .fieldLink RX5 48 "GhostGameModel" "thrown" "I", .methodLink RX5 84 yX5_isBefore, .instanceMethod yX5_isBefore, .selects RX5 yX5_isBefore yX5_isBefore, .code yX5_isBefore cX5_isBefore 6 (some .boolean)] ++ wsX50)
def wsX5_setLeastLength : List Cond := .code yX5_setLeastLength cX5_setLeastLength 3 (some .int) :: ([.fieldLink RX5 19 "GhostGameModel" "least" "I", .methodLink RX5 73 yX5_asked, .instanceMethod yX5_asked, .selects RX5 yX5_asked yX5_asked, .initialized RX5, .code yX5_asked cX5_asked 2 (some .boolean), .fieldLink RX5 48 "GhostGameModel" "thrown" "I"] ++ wsX50)
def wsX5_goesOn : List Cond := .code yX5_goesOn cX5_goesOn 1 (some .boolean) :: ([.fieldLink RX5 88 "GhostGameModel" "players" "I", .fieldLink RX5 26 "GhostGameModel" "winner" "I"] ++ wsX50)
def wsX5_start : List Cond := .code yX5_start cX5_start 3 none :: ([.fieldLink RX5 88 "GhostGameModel" "players" "I", .fieldLink RX5 23 "GhostGameModel" "strikes" "[I", .fieldLink RX5 91 "GhostGameModel" "turn" "I", .fieldLink RX5 26 "GhostGameModel" "winner" "I", .fieldLink RX5 94 "GhostGameModel" "fragmentLength" "I", .methodLink RX5 73 yX5_asked, .instanceMethod yX5_asked, .selects RX5 yX5_asked yX5_asked, .initialized RX5, .code yX5_asked cX5_asked 2 (some .boolean), .fieldLink RX5 48 "GhostGameModel" "thrown" "I"] ++ wsX50)
def wsX5_behind : List Cond := .code yX5_behind cX5_behind 3 (some .int) :: ([.fieldLink RX5 88 "GhostGameModel" "players" "I", .fieldLink RX5 23 "GhostGameModel" "strikes" "[I"] ++ wsX50)
def wsX5_loses : List Cond := .code yX5_loses cX5_loses 4 (some .int) :: ([.fieldLink RX5 23 "GhostGameModel" "strikes" "[I", .fieldLink RX5 94 "GhostGameModel" "fragmentLength" "I", .fieldLink RX5 88 "GhostGameModel" "players" "I", .fieldLink RX5 91 "GhostGameModel" "turn" "I", .fieldLink RX5 26 "GhostGameModel" "winner" "I", .methodLink RX5 97 yX5_behind, .instanceMethod yX5_behind, .selects RX5 yX5_behind yX5_behind, .initialized RX5, .code yX5_behind cX5_behind 3 (some .int)] ++ wsX50)
def wsX5_hasWord : List Cond := .code yX5_hasWord cX5_hasWord 4 (some .boolean) :: ([.fieldLink RX5 51 "GhostGameModel" "words" "I", .fieldLink RX5 29 "GhostGameModel" "fragment" "[I", .fieldLink RX5 94 "GhostGameModel" "fragmentLength" "I", .fieldLink RX5 16 "GhostGameModel" "length" "[I", .methodLink RX5 100 yX5_counts, .instanceMethod yX5_counts, .selects RX5 yX5_counts yX5_counts, .initialized RX5, .code yX5_counts cX5_counts 2 (some .boolean), .fieldLink RX5 19 "GhostGameModel" "least" "I", .methodLink RX5 57 yX5_begins, .instanceMethod yX5_begins, .selects RX5 yX5_begins yX5_begins, .code yX5_begins cX5_begins 6 (some .boolean), .fieldLink RX5 13 "GhostGameModel" "letters" "[I"] ++ wsX50)
def wsX5_play_r1 : List Cond := [Cond.fieldLink RX5 94 "GhostGameModel" "fragmentLength" "I", Cond.fieldLink RX5 29 "GhostGameModel" "fragment" "[I", Cond.fieldLink RX5 91 "GhostGameModel" "turn" "I", Cond.fieldLink RX5 113 "GhostGameModel" "latest" "I", Cond.methodLink RX5 61 yX5_isLetter, Cond.static yX5_isLetter, Cond.initialized RX5, Cond.code yX5_isLetter cX5_isLetter 1 (some .boolean), Cond.methodLink RX5 103 yX5_goesOn, Cond.instanceMethod yX5_goesOn, Cond.selects RX5 yX5_goesOn yX5_goesOn, Cond.code yX5_goesOn cX5_goesOn 1 (some .boolean), Cond.fieldLink RX5 88 "GhostGameModel" "players" "I", Cond.fieldLink RX5 26 "GhostGameModel" "winner" "I", Cond.methodLink RX5 65 yX5_asked_, Cond.instanceMethod yX5_asked_, Cond.selects RX5 yX5_asked_ yX5_asked_, Cond.code yX5_asked_ cX5_asked_ 3 (some .boolean), Cond.fieldLink RX5 48 "GhostGameModel" "thrown" "I", Cond.methodLink RX5 107 yX5_hasWord, Cond.instanceMethod yX5_hasWord, Cond.selects RX5 yX5_hasWord yX5_hasWord, Cond.code yX5_hasWord cX5_hasWord 4 (some .boolean), Cond.fieldLink RX5 51 "GhostGameModel" "words" "I"]
def wsX5_play_r2 : List Cond := [Cond.fieldLink RX5 16 "GhostGameModel" "length" "[I", Cond.methodLink RX5 100 yX5_counts, Cond.instanceMethod yX5_counts, Cond.selects RX5 yX5_counts yX5_counts, Cond.code yX5_counts cX5_counts 2 (some .boolean), Cond.fieldLink RX5 19 "GhostGameModel" "least" "I", Cond.methodLink RX5 57 yX5_begins, Cond.instanceMethod yX5_begins, Cond.selects RX5 yX5_begins yX5_begins, Cond.code yX5_begins cX5_begins 6 (some .boolean), Cond.fieldLink RX5 13 "GhostGameModel" "letters" "[I", Cond.methodLink RX5 110 yX5_loses, Cond.instanceMethod yX5_loses, Cond.selects RX5 yX5_loses yX5_loses, Cond.code yX5_loses cX5_loses 4 (some .int), Cond.fieldLink RX5 23 "GhostGameModel" "strikes" "[I", Cond.methodLink RX5 97 yX5_behind, Cond.instanceMethod yX5_behind, Cond.selects RX5 yX5_behind yX5_behind, Cond.code yX5_behind cX5_behind 3 (some .int)]
def wsX5_play : List Cond := .code yX5_play cX5_play 2 (some .int) :: ((wsX5_play_r1 ++ wsX5_play_r2) ++ wsX50)
def wsX5_challenge_r1 : List Cond := [Cond.fieldLink RX5 94 "GhostGameModel" "fragmentLength" "I", Cond.fieldLink RX5 91 "GhostGameModel" "turn" "I", Cond.fieldLink RX5 113 "GhostGameModel" "latest" "I", Cond.methodLink RX5 103 yX5_goesOn, Cond.instanceMethod yX5_goesOn, Cond.selects RX5 yX5_goesOn yX5_goesOn, Cond.initialized RX5, Cond.code yX5_goesOn cX5_goesOn 1 (some .boolean), Cond.fieldLink RX5 88 "GhostGameModel" "players" "I", Cond.fieldLink RX5 26 "GhostGameModel" "winner" "I", Cond.methodLink RX5 73 yX5_asked, Cond.instanceMethod yX5_asked, Cond.selects RX5 yX5_asked yX5_asked, Cond.code yX5_asked cX5_asked 2 (some .boolean), Cond.fieldLink RX5 48 "GhostGameModel" "thrown" "I", Cond.methodLink RX5 107 yX5_hasWord, Cond.instanceMethod yX5_hasWord, Cond.selects RX5 yX5_hasWord yX5_hasWord, Cond.code yX5_hasWord cX5_hasWord 4 (some .boolean), Cond.fieldLink RX5 51 "GhostGameModel" "words" "I", Cond.fieldLink RX5 29 "GhostGameModel" "fragment" "[I", Cond.fieldLink RX5 16 "GhostGameModel" "length" "[I", Cond.methodLink RX5 100 yX5_counts, Cond.instanceMethod yX5_counts]
def wsX5_challenge_r2 : List Cond := [Cond.selects RX5 yX5_counts yX5_counts, Cond.code yX5_counts cX5_counts 2 (some .boolean), Cond.fieldLink RX5 19 "GhostGameModel" "least" "I", Cond.methodLink RX5 57 yX5_begins, Cond.instanceMethod yX5_begins, Cond.selects RX5 yX5_begins yX5_begins, Cond.code yX5_begins cX5_begins 6 (some .boolean), Cond.fieldLink RX5 13 "GhostGameModel" "letters" "[I", Cond.methodLink RX5 110 yX5_loses, Cond.instanceMethod yX5_loses, Cond.selects RX5 yX5_loses yX5_loses, Cond.code yX5_loses cX5_loses 4 (some .int), Cond.fieldLink RX5 23 "GhostGameModel" "strikes" "[I", Cond.methodLink RX5 97 yX5_behind, Cond.instanceMethod yX5_behind, Cond.selects RX5 yX5_behind yX5_behind, Cond.code yX5_behind cX5_behind 3 (some .int)]
def wsX5_challenge : List Cond := .code yX5_challenge cX5_challenge 1 (some .int) :: ((wsX5_challenge_r1 ++ wsX5_challenge_r2) ++ wsX50)
def wsX5_turn : List Cond := .code yX5_turn cX5_turn 1 (some .int) :: ([.fieldLink RX5 91 "GhostGameModel" "turn" "I", .methodLink RX5 103 yX5_goesOn, .instanceMethod yX5_goesOn, .selects RX5 yX5_goesOn yX5_goesOn, .initialized RX5, .code yX5_goesOn cX5_goesOn 1 (some .boolean), .fieldLink RX5 88 "GhostGameModel" "players" "I", .fieldLink RX5 26 "GhostGameModel" "winner" "I", .methodLink RX5 69 yX5_told, .instanceMethod yX5_told, .selects RX5 yX5_told yX5_told, .code yX5_told cX5_told 2 (some .int), .fieldLink RX5 48 "GhostGameModel" "thrown" "I"] ++ wsX50)
def wsX5_winner : List Cond := .code yX5_winner cX5_winner 1 (some .int) :: ([.fieldLink RX5 26 "GhostGameModel" "winner" "I", .methodLink RX5 69 yX5_told, .instanceMethod yX5_told, .selects RX5 yX5_told yX5_told, .initialized RX5, .code yX5_told cX5_told 2 (some .int), .fieldLink RX5 48 "GhostGameModel" "thrown" "I"] ++ wsX50)
def wsX5_players : List Cond := .code yX5_players cX5_players 1 (some .int) :: ([.fieldLink RX5 88 "GhostGameModel" "players" "I", .methodLink RX5 69 yX5_told, .instanceMethod yX5_told, .selects RX5 yX5_told yX5_told, .initialized RX5, .code yX5_told cX5_told 2 (some .int), .fieldLink RX5 48 "GhostGameModel" "thrown" "I"] ++ wsX50)
def wsX5_strikes : List Cond := .code yX5_strikes cX5_strikes 2 (some .int) :: ([.fieldLink RX5 88 "GhostGameModel" "players" "I", .fieldLink RX5 23 "GhostGameModel" "strikes" "[I", .methodLink RX5 73 yX5_asked, .instanceMethod yX5_asked, .selects RX5 yX5_asked yX5_asked, .initialized RX5, .code yX5_asked cX5_asked 2 (some .boolean), .fieldLink RX5 48 "GhostGameModel" "thrown" "I"] ++ wsX50)
def wsX5_fragmentLength : List Cond := .code yX5_fragmentLength cX5_fragmentLength 1 (some .int) :: ([.fieldLink RX5 94 "GhostGameModel" "fragmentLength" "I", .methodLink RX5 69 yX5_told, .instanceMethod yX5_told, .selects RX5 yX5_told yX5_told, .initialized RX5, .code yX5_told cX5_told 2 (some .int), .fieldLink RX5 48 "GhostGameModel" "thrown" "I"] ++ wsX50)
def wsX5_fragmentAt : List Cond := .code yX5_fragmentAt cX5_fragmentAt 2 (some .int) :: ([.fieldLink RX5 94 "GhostGameModel" "fragmentLength" "I", .fieldLink RX5 29 "GhostGameModel" "fragment" "[I", .methodLink RX5 73 yX5_asked, .instanceMethod yX5_asked, .selects RX5 yX5_asked yX5_asked, .initialized RX5, .code yX5_asked cX5_asked 2 (some .boolean), .fieldLink RX5 48 "GhostGameModel" "thrown" "I"] ++ wsX50)
def wsX5_isWhole : List Cond := .code yX5_isWhole cX5_isWhole 5 (some .boolean) :: ([.fieldLink RX5 51 "GhostGameModel" "words" "I", .fieldLink RX5 16 "GhostGameModel" "length" "[I", .methodLink RX5 100 yX5_counts, .instanceMethod yX5_counts, .selects RX5 yX5_counts yX5_counts, .initialized RX5, .code yX5_counts cX5_counts 2 (some .boolean), .fieldLink RX5 19 "GhostGameModel" "least" "I", .methodLink RX5 80 yX5_areAlike, .instanceMethod yX5_areAlike, .selects RX5 yX5_areAlike yX5_areAlike, .code yX5_areAlike cX5_areAlike 6 (some .boolean), .fieldLink RX5 13 "GhostGameModel" "letters" "[I"] ++ wsX50)
def wsX5_endBehind : List Cond := .code yX5_endBehind cX5_endBehind 6 (some .int) :: ([.fieldLink RX5 51 "GhostGameModel" "words" "I", .fieldLink RX5 16 "GhostGameModel" "length" "[I", .fieldLink RX5 13 "GhostGameModel" "letters" "[I", .fieldLink RX5 36 "GhostGameModel" "ends" "[I", .methodLink RX5 100 yX5_counts, .instanceMethod yX5_counts, .selects RX5 yX5_counts yX5_counts, .initialized RX5, .code yX5_counts cX5_counts 2 (some .boolean), .fieldLink RX5 19 "GhostGameModel" "least" "I", .methodLink RX5 80 yX5_areAlike, .instanceMethod yX5_areAlike, .selects RX5 yX5_areAlike yX5_areAlike, .code yX5_areAlike cX5_areAlike 6 (some .boolean), .methodLink RX5 116 yX5_isWhole, .instanceMethod yX5_isWhole, .selects RX5 yX5_isWhole yX5_isWhole, .code yX5_isWhole cX5_isWhole 5 (some .boolean)] ++ wsX50)
def wsX5_solves_r1 : List Cond := [Cond.fieldLink RX5 45 "GhostGameModel" "open" "[I", Cond.fieldLink RX5 42 "GhostGameModel" "good" "[I", Cond.fieldLink RX5 51 "GhostGameModel" "words" "I", Cond.fieldLink RX5 16 "GhostGameModel" "length" "[I", Cond.fieldLink RX5 13 "GhostGameModel" "letters" "[I", Cond.fieldLink RX5 32 "GhostGameModel" "wins" "[Z", Cond.fieldLink RX5 36 "GhostGameModel" "ends" "[I", Cond.fieldLink RX5 39 "GhostGameModel" "chosen" "[I", Cond.methodLink RX5 100 yX5_counts, Cond.instanceMethod yX5_counts, Cond.selects RX5 yX5_counts yX5_counts, Cond.initialized RX5, Cond.code yX5_counts cX5_counts 2 (some .boolean), Cond.fieldLink RX5 19 "GhostGameModel" "least" "I", Cond.methodLink RX5 80 yX5_areAlike, Cond.instanceMethod yX5_areAlike, Cond.selects RX5 yX5_areAlike yX5_areAlike, Cond.code yX5_areAlike cX5_areAlike 6 (some .boolean), Cond.methodLink RX5 116 yX5_isWhole, Cond.instanceMethod yX5_isWhole, Cond.selects RX5 yX5_isWhole yX5_isWhole, Cond.code yX5_isWhole cX5_isWhole 5 (some .boolean), Cond.methodLink RX5 119 yX5_endBehind, Cond.instanceMethod yX5_endBehind]
def wsX5_solves_r2 : List Cond := [Cond.selects RX5 yX5_endBehind yX5_endBehind, Cond.code yX5_endBehind cX5_endBehind 6 (some .int)]
def wsX5_solves : List Cond := .code yX5_solves cX5_solves 8 none :: ((wsX5_solves_r1 ++ wsX5_solves_r2) ++ wsX50)
def wsX5_looks_r1 : List Cond := [Cond.fieldLink RX5 48 "GhostGameModel" "thrown" "I", Cond.fieldLink RX5 94 "GhostGameModel" "fragmentLength" "I", Cond.fieldLink RX5 51 "GhostGameModel" "words" "I", Cond.fieldLink RX5 16 "GhostGameModel" "length" "[I", Cond.fieldLink RX5 29 "GhostGameModel" "fragment" "[I", Cond.methodLink RX5 100 yX5_counts, Cond.instanceMethod yX5_counts, Cond.selects RX5 yX5_counts yX5_counts, Cond.initialized RX5, Cond.code yX5_counts cX5_counts 2 (some .boolean), Cond.fieldLink RX5 19 "GhostGameModel" "least" "I", Cond.methodLink RX5 123 yX5_solves, Cond.instanceMethod yX5_solves, Cond.selects RX5 yX5_solves yX5_solves, Cond.code yX5_solves cX5_solves 8 none, Cond.fieldLink RX5 45 "GhostGameModel" "open" "[I", Cond.fieldLink RX5 42 "GhostGameModel" "good" "[I", Cond.fieldLink RX5 13 "GhostGameModel" "letters" "[I", Cond.fieldLink RX5 32 "GhostGameModel" "wins" "[Z", Cond.fieldLink RX5 36 "GhostGameModel" "ends" "[I", Cond.fieldLink RX5 39 "GhostGameModel" "chosen" "[I", Cond.methodLink RX5 80 yX5_areAlike, Cond.instanceMethod yX5_areAlike, Cond.selects RX5 yX5_areAlike yX5_areAlike]
def wsX5_looks_r2 : List Cond := [Cond.code yX5_areAlike cX5_areAlike 6 (some .boolean), Cond.methodLink RX5 116 yX5_isWhole, Cond.instanceMethod yX5_isWhole, Cond.selects RX5 yX5_isWhole yX5_isWhole, Cond.code yX5_isWhole cX5_isWhole 5 (some .boolean), Cond.methodLink RX5 119 yX5_endBehind, Cond.instanceMethod yX5_endBehind, Cond.selects RX5 yX5_endBehind yX5_endBehind, Cond.code yX5_endBehind cX5_endBehind 6 (some .int), Cond.methodLink RX5 57 yX5_begins, Cond.instanceMethod yX5_begins, Cond.selects RX5 yX5_begins yX5_begins, Cond.code yX5_begins cX5_begins 6 (some .boolean)]
def wsX5_looks : List Cond := .code yX5_looks cX5_looks 4 (some .int) :: ((wsX5_looks_r1 ++ wsX5_looks_r2) ++ wsX50)
def wsX5_openLetters_r1 : List Cond := [Cond.fieldLink RX5 45 "GhostGameModel" "open" "[I", Cond.methodLink RX5 127 yX5_looks, Cond.instanceMethod yX5_looks, Cond.selects RX5 yX5_looks yX5_looks, Cond.initialized RX5, Cond.code yX5_looks cX5_looks 4 (some .int), Cond.fieldLink RX5 48 "GhostGameModel" "thrown" "I", Cond.fieldLink RX5 94 "GhostGameModel" "fragmentLength" "I", Cond.fieldLink RX5 51 "GhostGameModel" "words" "I", Cond.fieldLink RX5 16 "GhostGameModel" "length" "[I", Cond.fieldLink RX5 29 "GhostGameModel" "fragment" "[I", Cond.methodLink RX5 100 yX5_counts, Cond.instanceMethod yX5_counts, Cond.selects RX5 yX5_counts yX5_counts, Cond.code yX5_counts cX5_counts 2 (some .boolean), Cond.fieldLink RX5 19 "GhostGameModel" "least" "I", Cond.methodLink RX5 123 yX5_solves, Cond.instanceMethod yX5_solves, Cond.selects RX5 yX5_solves yX5_solves, Cond.code yX5_solves cX5_solves 8 none, Cond.fieldLink RX5 42 "GhostGameModel" "good" "[I", Cond.fieldLink RX5 13 "GhostGameModel" "letters" "[I", Cond.fieldLink RX5 32 "GhostGameModel" "wins" "[Z", Cond.fieldLink RX5 36 "GhostGameModel" "ends" "[I"]
def wsX5_openLetters_r2 : List Cond := [Cond.fieldLink RX5 39 "GhostGameModel" "chosen" "[I", Cond.methodLink RX5 80 yX5_areAlike, Cond.instanceMethod yX5_areAlike, Cond.selects RX5 yX5_areAlike yX5_areAlike, Cond.code yX5_areAlike cX5_areAlike 6 (some .boolean), Cond.methodLink RX5 116 yX5_isWhole, Cond.instanceMethod yX5_isWhole, Cond.selects RX5 yX5_isWhole yX5_isWhole, Cond.code yX5_isWhole cX5_isWhole 5 (some .boolean), Cond.methodLink RX5 119 yX5_endBehind, Cond.instanceMethod yX5_endBehind, Cond.selects RX5 yX5_endBehind yX5_endBehind, Cond.code yX5_endBehind cX5_endBehind 6 (some .int), Cond.methodLink RX5 57 yX5_begins, Cond.instanceMethod yX5_begins, Cond.selects RX5 yX5_begins yX5_begins, Cond.code yX5_begins cX5_begins 6 (some .boolean)]
def wsX5_openLetters : List Cond := .code yX5_openLetters cX5_openLetters 2 (some .int) :: ((wsX5_openLetters_r1 ++ wsX5_openLetters_r2) ++ wsX50)
def wsX5_winningLetters_r1 : List Cond := [Cond.fieldLink RX5 42 "GhostGameModel" "good" "[I", Cond.methodLink RX5 127 yX5_looks, Cond.instanceMethod yX5_looks, Cond.selects RX5 yX5_looks yX5_looks, Cond.initialized RX5, Cond.code yX5_looks cX5_looks 4 (some .int), Cond.fieldLink RX5 48 "GhostGameModel" "thrown" "I", Cond.fieldLink RX5 94 "GhostGameModel" "fragmentLength" "I", Cond.fieldLink RX5 51 "GhostGameModel" "words" "I", Cond.fieldLink RX5 16 "GhostGameModel" "length" "[I", Cond.fieldLink RX5 29 "GhostGameModel" "fragment" "[I", Cond.methodLink RX5 100 yX5_counts, Cond.instanceMethod yX5_counts, Cond.selects RX5 yX5_counts yX5_counts, Cond.code yX5_counts cX5_counts 2 (some .boolean), Cond.fieldLink RX5 19 "GhostGameModel" "least" "I", Cond.methodLink RX5 123 yX5_solves, Cond.instanceMethod yX5_solves, Cond.selects RX5 yX5_solves yX5_solves, Cond.code yX5_solves cX5_solves 8 none, Cond.fieldLink RX5 45 "GhostGameModel" "open" "[I", Cond.fieldLink RX5 13 "GhostGameModel" "letters" "[I", Cond.fieldLink RX5 32 "GhostGameModel" "wins" "[Z", Cond.fieldLink RX5 36 "GhostGameModel" "ends" "[I"]
def wsX5_winningLetters_r2 : List Cond := [Cond.fieldLink RX5 39 "GhostGameModel" "chosen" "[I", Cond.methodLink RX5 80 yX5_areAlike, Cond.instanceMethod yX5_areAlike, Cond.selects RX5 yX5_areAlike yX5_areAlike, Cond.code yX5_areAlike cX5_areAlike 6 (some .boolean), Cond.methodLink RX5 116 yX5_isWhole, Cond.instanceMethod yX5_isWhole, Cond.selects RX5 yX5_isWhole yX5_isWhole, Cond.code yX5_isWhole cX5_isWhole 5 (some .boolean), Cond.methodLink RX5 119 yX5_endBehind, Cond.instanceMethod yX5_endBehind, Cond.selects RX5 yX5_endBehind yX5_endBehind, Cond.code yX5_endBehind cX5_endBehind 6 (some .int), Cond.methodLink RX5 57 yX5_begins, Cond.instanceMethod yX5_begins, Cond.selects RX5 yX5_begins yX5_begins, Cond.code yX5_begins cX5_begins 6 (some .boolean)]
def wsX5_winningLetters : List Cond := .code yX5_winningLetters cX5_winningLetters 2 (some .int) :: ((wsX5_winningLetters_r1 ++ wsX5_winningLetters_r2) ++ wsX50)
def wsX5_canWin_r1 : List Cond := [Cond.fieldLink RX5 32 "GhostGameModel" "wins" "[Z", Cond.methodLink RX5 127 yX5_looks, Cond.instanceMethod yX5_looks, Cond.selects RX5 yX5_looks yX5_looks, Cond.initialized RX5, Cond.code yX5_looks cX5_looks 4 (some .int), Cond.fieldLink RX5 48 "GhostGameModel" "thrown" "I", Cond.fieldLink RX5 94 "GhostGameModel" "fragmentLength" "I", Cond.fieldLink RX5 51 "GhostGameModel" "words" "I", Cond.fieldLink RX5 16 "GhostGameModel" "length" "[I", Cond.fieldLink RX5 29 "GhostGameModel" "fragment" "[I", Cond.methodLink RX5 100 yX5_counts, Cond.instanceMethod yX5_counts, Cond.selects RX5 yX5_counts yX5_counts, Cond.code yX5_counts cX5_counts 2 (some .boolean), Cond.fieldLink RX5 19 "GhostGameModel" "least" "I", Cond.methodLink RX5 123 yX5_solves, Cond.instanceMethod yX5_solves, Cond.selects RX5 yX5_solves yX5_solves, Cond.code yX5_solves cX5_solves 8 none, Cond.fieldLink RX5 45 "GhostGameModel" "open" "[I", Cond.fieldLink RX5 42 "GhostGameModel" "good" "[I", Cond.fieldLink RX5 13 "GhostGameModel" "letters" "[I", Cond.fieldLink RX5 36 "GhostGameModel" "ends" "[I"]
def wsX5_canWin_r2 : List Cond := [Cond.fieldLink RX5 39 "GhostGameModel" "chosen" "[I", Cond.methodLink RX5 80 yX5_areAlike, Cond.instanceMethod yX5_areAlike, Cond.selects RX5 yX5_areAlike yX5_areAlike, Cond.code yX5_areAlike cX5_areAlike 6 (some .boolean), Cond.methodLink RX5 116 yX5_isWhole, Cond.instanceMethod yX5_isWhole, Cond.selects RX5 yX5_isWhole yX5_isWhole, Cond.code yX5_isWhole cX5_isWhole 5 (some .boolean), Cond.methodLink RX5 119 yX5_endBehind, Cond.instanceMethod yX5_endBehind, Cond.selects RX5 yX5_endBehind yX5_endBehind, Cond.code yX5_endBehind cX5_endBehind 6 (some .int), Cond.methodLink RX5 57 yX5_begins, Cond.instanceMethod yX5_begins, Cond.selects RX5 yX5_begins yX5_begins, Cond.code yX5_begins cX5_begins 6 (some .boolean)]
def wsX5_canWin : List Cond := .code yX5_canWin cX5_canWin 2 (some .boolean) :: ((wsX5_canWin_r1 ++ wsX5_canWin_r2) ++ wsX50)
def wsX5_end_r1 : List Cond := [Cond.fieldLink RX5 36 "GhostGameModel" "ends" "[I", Cond.methodLink RX5 127 yX5_looks, Cond.instanceMethod yX5_looks, Cond.selects RX5 yX5_looks yX5_looks, Cond.initialized RX5, Cond.code yX5_looks cX5_looks 4 (some .int), Cond.fieldLink RX5 48 "GhostGameModel" "thrown" "I", Cond.fieldLink RX5 94 "GhostGameModel" "fragmentLength" "I", Cond.fieldLink RX5 51 "GhostGameModel" "words" "I", Cond.fieldLink RX5 16 "GhostGameModel" "length" "[I", Cond.fieldLink RX5 29 "GhostGameModel" "fragment" "[I", Cond.methodLink RX5 100 yX5_counts, Cond.instanceMethod yX5_counts, Cond.selects RX5 yX5_counts yX5_counts, Cond.code yX5_counts cX5_counts 2 (some .boolean), Cond.fieldLink RX5 19 "GhostGameModel" "least" "I", Cond.methodLink RX5 123 yX5_solves, Cond.instanceMethod yX5_solves, Cond.selects RX5 yX5_solves yX5_solves, Cond.code yX5_solves cX5_solves 8 none, Cond.fieldLink RX5 45 "GhostGameModel" "open" "[I", Cond.fieldLink RX5 42 "GhostGameModel" "good" "[I", Cond.fieldLink RX5 13 "GhostGameModel" "letters" "[I", Cond.fieldLink RX5 32 "GhostGameModel" "wins" "[Z"]
def wsX5_end_r2 : List Cond := [Cond.fieldLink RX5 39 "GhostGameModel" "chosen" "[I", Cond.methodLink RX5 80 yX5_areAlike, Cond.instanceMethod yX5_areAlike, Cond.selects RX5 yX5_areAlike yX5_areAlike, Cond.code yX5_areAlike cX5_areAlike 6 (some .boolean), Cond.methodLink RX5 116 yX5_isWhole, Cond.instanceMethod yX5_isWhole, Cond.selects RX5 yX5_isWhole yX5_isWhole, Cond.code yX5_isWhole cX5_isWhole 5 (some .boolean), Cond.methodLink RX5 119 yX5_endBehind, Cond.instanceMethod yX5_endBehind, Cond.selects RX5 yX5_endBehind yX5_endBehind, Cond.code yX5_endBehind cX5_endBehind 6 (some .int), Cond.methodLink RX5 57 yX5_begins, Cond.instanceMethod yX5_begins, Cond.selects RX5 yX5_begins yX5_begins, Cond.code yX5_begins cX5_begins 6 (some .boolean)]
def wsX5_end : List Cond := .code yX5_end cX5_end 2 (some .int) :: ((wsX5_end_r1 ++ wsX5_end_r2) ++ wsX50)
def wsX5_bestLetter_r1 : List Cond := [Cond.fieldLink RX5 39 "GhostGameModel" "chosen" "[I", Cond.methodLink RX5 127 yX5_looks, Cond.instanceMethod yX5_looks, Cond.selects RX5 yX5_looks yX5_looks, Cond.initialized RX5, Cond.code yX5_looks cX5_looks 4 (some .int), Cond.fieldLink RX5 48 "GhostGameModel" "thrown" "I", Cond.fieldLink RX5 94 "GhostGameModel" "fragmentLength" "I", Cond.fieldLink RX5 51 "GhostGameModel" "words" "I", Cond.fieldLink RX5 16 "GhostGameModel" "length" "[I", Cond.fieldLink RX5 29 "GhostGameModel" "fragment" "[I", Cond.methodLink RX5 100 yX5_counts, Cond.instanceMethod yX5_counts, Cond.selects RX5 yX5_counts yX5_counts, Cond.code yX5_counts cX5_counts 2 (some .boolean), Cond.fieldLink RX5 19 "GhostGameModel" "least" "I", Cond.methodLink RX5 123 yX5_solves, Cond.instanceMethod yX5_solves, Cond.selects RX5 yX5_solves yX5_solves, Cond.code yX5_solves cX5_solves 8 none, Cond.fieldLink RX5 45 "GhostGameModel" "open" "[I", Cond.fieldLink RX5 42 "GhostGameModel" "good" "[I", Cond.fieldLink RX5 13 "GhostGameModel" "letters" "[I", Cond.fieldLink RX5 32 "GhostGameModel" "wins" "[Z"]
def wsX5_bestLetter_r2 : List Cond := [Cond.fieldLink RX5 36 "GhostGameModel" "ends" "[I", Cond.methodLink RX5 80 yX5_areAlike, Cond.instanceMethod yX5_areAlike, Cond.selects RX5 yX5_areAlike yX5_areAlike, Cond.code yX5_areAlike cX5_areAlike 6 (some .boolean), Cond.methodLink RX5 116 yX5_isWhole, Cond.instanceMethod yX5_isWhole, Cond.selects RX5 yX5_isWhole yX5_isWhole, Cond.code yX5_isWhole cX5_isWhole 5 (some .boolean), Cond.methodLink RX5 119 yX5_endBehind, Cond.instanceMethod yX5_endBehind, Cond.selects RX5 yX5_endBehind yX5_endBehind, Cond.code yX5_endBehind cX5_endBehind 6 (some .int), Cond.methodLink RX5 57 yX5_begins, Cond.instanceMethod yX5_begins, Cond.selects RX5 yX5_begins yX5_begins, Cond.code yX5_begins cX5_begins 6 (some .boolean)]
def wsX5_bestLetter : List Cond := .code yX5_bestLetter cX5_bestLetter 2 (some .int) :: ((wsX5_bestLetter_r1 ++ wsX5_bestLetter_r2) ++ wsX50)
def wsX5_isWay : List Cond := .code yX5_isWay cX5_isWay 4 (some .boolean) :: ([.fieldLink RX5 16 "GhostGameModel" "length" "[I", .fieldLink RX5 94 "GhostGameModel" "fragmentLength" "I", .fieldLink RX5 29 "GhostGameModel" "fragment" "[I", .methodLink RX5 100 yX5_counts, .instanceMethod yX5_counts, .selects RX5 yX5_counts yX5_counts, .initialized RX5, .code yX5_counts cX5_counts 2 (some .boolean), .fieldLink RX5 19 "GhostGameModel" "least" "I", .methodLink RX5 57 yX5_begins, .instanceMethod yX5_begins, .selects RX5 yX5_begins yX5_begins, .code yX5_begins cX5_begins 6 (some .boolean), .fieldLink RX5 13 "GhostGameModel" "letters" "[I", .methodLink RX5 116 yX5_isWhole, .instanceMethod yX5_isWhole, .selects RX5 yX5_isWhole yX5_isWhole, .code yX5_isWhole cX5_isWhole 5 (some .boolean), .fieldLink RX5 51 "GhostGameModel" "words" "I", .methodLink RX5 80 yX5_areAlike, .instanceMethod yX5_areAlike, .selects RX5 yX5_areAlike yX5_areAlike, .code yX5_areAlike cX5_areAlike 6 (some .boolean)] ++ wsX50)
def wsX5_waysToPlay_r1 : List Cond := [Cond.fieldLink RX5 51 "GhostGameModel" "words" "I", Cond.methodLink RX5 130 yX5_isWay, Cond.instanceMethod yX5_isWay, Cond.selects RX5 yX5_isWay yX5_isWay, Cond.initialized RX5, Cond.code yX5_isWay cX5_isWay 4 (some .boolean), Cond.fieldLink RX5 16 "GhostGameModel" "length" "[I", Cond.fieldLink RX5 94 "GhostGameModel" "fragmentLength" "I", Cond.fieldLink RX5 29 "GhostGameModel" "fragment" "[I", Cond.methodLink RX5 100 yX5_counts, Cond.instanceMethod yX5_counts, Cond.selects RX5 yX5_counts yX5_counts, Cond.code yX5_counts cX5_counts 2 (some .boolean), Cond.fieldLink RX5 19 "GhostGameModel" "least" "I", Cond.methodLink RX5 57 yX5_begins, Cond.instanceMethod yX5_begins, Cond.selects RX5 yX5_begins yX5_begins, Cond.code yX5_begins cX5_begins 6 (some .boolean), Cond.fieldLink RX5 13 "GhostGameModel" "letters" "[I", Cond.methodLink RX5 116 yX5_isWhole, Cond.instanceMethod yX5_isWhole, Cond.selects RX5 yX5_isWhole yX5_isWhole, Cond.code yX5_isWhole cX5_isWhole 5 (some .boolean), Cond.methodLink RX5 80 yX5_areAlike]
def wsX5_waysToPlay_r2 : List Cond := [Cond.instanceMethod yX5_areAlike, Cond.selects RX5 yX5_areAlike yX5_areAlike, Cond.code yX5_areAlike cX5_areAlike 6 (some .boolean), Cond.methodLink RX5 69 yX5_told, Cond.instanceMethod yX5_told, Cond.selects RX5 yX5_told yX5_told, Cond.code yX5_told cX5_told 2 (some .int), Cond.fieldLink RX5 48 "GhostGameModel" "thrown" "I"]
def wsX5_waysToPlay : List Cond := .code yX5_waysToPlay cX5_waysToPlay 3 (some .int) :: ((wsX5_waysToPlay_r1 ++ wsX5_waysToPlay_r2) ++ wsX50)
def wsX5_waysToWin_r1 : List Cond := [Cond.fieldLink RX5 51 "GhostGameModel" "words" "I", Cond.fieldLink RX5 16 "GhostGameModel" "length" "[I", Cond.fieldLink RX5 94 "GhostGameModel" "fragmentLength" "I", Cond.methodLink RX5 130 yX5_isWay, Cond.instanceMethod yX5_isWay, Cond.selects RX5 yX5_isWay yX5_isWay, Cond.initialized RX5, Cond.code yX5_isWay cX5_isWay 4 (some .boolean), Cond.fieldLink RX5 29 "GhostGameModel" "fragment" "[I", Cond.methodLink RX5 100 yX5_counts, Cond.instanceMethod yX5_counts, Cond.selects RX5 yX5_counts yX5_counts, Cond.code yX5_counts cX5_counts 2 (some .boolean), Cond.fieldLink RX5 19 "GhostGameModel" "least" "I", Cond.methodLink RX5 57 yX5_begins, Cond.instanceMethod yX5_begins, Cond.selects RX5 yX5_begins yX5_begins, Cond.code yX5_begins cX5_begins 6 (some .boolean), Cond.fieldLink RX5 13 "GhostGameModel" "letters" "[I", Cond.methodLink RX5 116 yX5_isWhole, Cond.instanceMethod yX5_isWhole, Cond.selects RX5 yX5_isWhole yX5_isWhole, Cond.code yX5_isWhole cX5_isWhole 5 (some .boolean), Cond.methodLink RX5 80 yX5_areAlike]
def wsX5_waysToWin_r2 : List Cond := [Cond.instanceMethod yX5_areAlike, Cond.selects RX5 yX5_areAlike yX5_areAlike, Cond.code yX5_areAlike cX5_areAlike 6 (some .boolean), Cond.methodLink RX5 69 yX5_told, Cond.instanceMethod yX5_told, Cond.selects RX5 yX5_told yX5_told, Cond.code yX5_told cX5_told 2 (some .int), Cond.fieldLink RX5 48 "GhostGameModel" "thrown" "I"]
def wsX5_waysToWin : List Cond := .code yX5_waysToWin cX5_waysToWin 3 (some .int) :: ((wsX5_waysToWin_r1 ++ wsX5_waysToWin_r2) ++ wsX50)
def wsJ9_abs_0f7a4 : List Cond := .code yJ9_abs_0f7a4 cJ9_abs_0f7a4 1 (some .int) :: ([])
def wsJ9_max_7cf53 : List Cond := .code yJ9_max_7cf53 cJ9_max_7cf53 2 (some .int) :: ([])
def wsJ9_min_7cf53 : List Cond := .code yJ9_min_7cf53 cJ9_min_7cf53 2 (some .int) :: ([])
theorem inJ9 : ∀ w ∈ wsJ90, w ∈ lw_tbl := by decide +kernel
theorem inJ0 : ∀ w ∈ wsJ00, w ∈ lw_tbl := by decide +kernel
abbrev vwCl : List vw_C := [(RX0, TX0, 3), (RX1, TX1, 6), (RX4, TX4, 3), (RX5, TX5, 19)]
end
section
section BASE
/-- the array classes of a run: of int, long and boolean arrays -/
abbrev GG : Type := va_G × (ClassId × ClassId × ClassId)
abbrev tyG (g : GG) : List (ClassId × FieldType) := [(g.2.1, .int), (g.2.2.1, .long), (g.2.2.2, .boolean)]
def Pw (g : GG) (wd : va_W) (sz : Nat) (U : State) : Prop := U.heap.size = sz ∧ va_P g.1 vwCl wd U.heap ∧ va_K g.1 vwCl (tyG g) U ∧ va_D (fun _ => True) wd
def Bw (g : GG) (A : Nat → Prop) (wd : va_W) (t : State) : Prop := va_P g.1 vwCl wd t.heap ∧ va_K g.1 vwCl (tyG g) t ∧ va_D A wd
/-- contracts over a world that makes nothing: with an int (or boolean), a long, nothing as the answer -/
def Ci (l : Launch) (y : MethodName) (ws : List Cond) (rm : Room) (g : GG) (av : List Value) (wd : va_W) (post : Int32 → va_W → Prop) : Prop := ∀ sz : Nat, Met l y ws rm (va_Pc av (Pw g wd sz)) (va_Qi post (fun w t => Bw g (va_A wd sz) w t) (va_A wd sz)) 0 0 (va_A wd sz)
def Cl (l : Launch) (y : MethodName) (ws : List Cond) (rm : Room) (g : GG) (av : List Value) (wd : va_W) (post : Int64 → va_W → Prop) : Prop := ∀ sz : Nat, Met l y ws rm (va_Pc av (Pw g wd sz)) (va_Ql post (fun w t => Bw g (va_A wd sz) w t) (va_A wd sz)) 0 0 (va_A wd sz)
def Cv (l : Launch) (y : MethodName) (ws : List Cond) (rm : Room) (g : GG) (av : List Value) (wd : va_W) (post : va_W → Prop) : Prop := ∀ sz : Nat, Met l y ws rm (va_Pc av (Pw g wd sz)) (va_Qv post (fun w t => Bw g (va_A wd sz) w t) (va_A wd sz)) 0 0 (va_A wd sz)
/-- pure static methods -/
def Pi (l : Launch) (y : MethodName) (ws : List Cond) (rm : Room) (av : List Value) (post : Int32 → Prop) : Prop := ∀ g : GG, Ci l y ws rm g av [] (fun r w => w = [] ∧ post r)
def Pl (l : Launch) (y : MethodName) (ws : List Cond) (rm : Room) (av : List Value) (post : Int64 → Prop) : Prop := ∀ g : GG, Cl l y ws rm g av [] (fun r w => w = [] ∧ post r)
theorem Pw.blind (g : GG) (av : List Value) (wd : va_W) (sz : Nat) : FrameBlind (va_Pc av (Pw g wd sz)) := fun a U gg mk q => by
  obtain ⟨q0, q1, qP, qK, qD⟩ := q
  exact ⟨q0, q1, qP, va_K.moved (u := U) (U := U.calling gg mk a) (Vm.Alike.refl U.vm) qK, qD⟩
theorem fm_of {ws wc : va_W} : ∀ {is : List Nat} {w : va_W}, is.map (fun i => ws[i]?) = w.map some → is.filterMap (fun i => ws[i]?) = w
  | [], [], _ => rfl
  | [], _ :: _, h => by cases h
  | _ :: _, [], h => by cases h
  | i :: is, x :: w, h => by
    obtain ⟨h1, h2⟩ := List.cons.inj (show ws[i]? :: is.map (fun i => ws[i]?) = some x :: w.map some from h)
    rw [List.filterMap_cons, h1]
    show x :: _ = _
    rw [fm_of (wc := wc) h2]
theorem rng_map (ws : va_W) : (List.range ws.length).map (fun i => ws[i]?) = ws.map some := by
  apply List.ext_getElem?
  intro i
  rw [List.getElem?_map, List.getElem?_map]
  by_cases h : i < ws.length
  · rw [List.getElem?_range h, List.getElem?_eq_getElem h]
    show some (ws[i]?) = _
    rw [List.getElem?_eq_getElem h]
    rfl
  · rw [List.getElem?_eq_none (by rw [List.length_range]; omega), List.getElem?_eq_none (by omega)]
    rfl
theorem nd_of : ∀ {l : List Nat}, l.Nodup → va_nd l = true
  | [], _ => rfl
  | a :: l, h => by
    have h' := List.nodup_cons.mp h
    show (decide (a ∉ l) && va_nd l) = true
    rw [nd_of h'.2, decide_eq_true h'.1]
    rfl
variable {l : Launch} {y : MethodName} {ws ws' : List Cond} {rm : Room} {g : GG} {av : List Value} {wd : va_W} {cc : ByteArray} {maxL : Nat}
/-- the body of a method that answers an int -/
theorem Ci.ofI {post : Int32 → va_W → Prop} (hy : plainName y.cls = true) (hw : ws = Cond.code y cc maxL (some .int) :: ws') (hn : (lg_sl av).length ≤ maxL)
    (body : ∀ (p : Program) (e : Env) (s : State) (m : MethodId) (args : Array Value) (below : List Frame) (meth : Method) (c : Code) (A : Nat → Prop) (Z : State → Prop),
      p.tables.exec = Jvm.exec → c.code = cc → c.maxLocals = maxL → (∀ w ∈ ws, w.before args s = true) → s.vm.findClass y.cls = some m.cls → va_K g.1 vwCl (tyG g) s → (∀ q, s.heap.size ≤ q → A q) →
      (∀ (r : Int32) (w : va_W) (H : Heap) (locs : List Loc) (ls : Array Slot) (pc : Nat), decode cc pc = .ok (.ireturn, 1) → post r w → va_P g.1 vwCl w H → va_D A w → va_S A s.heap H locs → W p l e rm s m args below meth c H locs 0 0 Z (F0 m pc ls [.int r])) →
      ∀ (H : Heap) (locs : List Loc) (ls : Array Slot), va_P g.1 vwCl wd H → va_D A wd → va_S A s.heap H locs → lv_has ls maxL (lv_args 0 av) → W p l e rm s m args below meth c H locs 0 0 Z (F0 m 0 ls [])) : Ci l y ws rm g av wd post := by
  intro sz
  refine Met.ofW (cc := cc) (maxL := maxL) (ret := some .int) hy hw ?_
  intro p e s m args below meth c s₁ B hml hv
  obtain ⟨rfl, hsz, hP, hK, hD0⟩ := hv
  have hx := B.exec
  have hb := B.bytes
  have hr := B.returns
  have hts := atoms_spec (ws := ws) B.pre
  have hown : s.vm.findClass y.cls = some m.cls := findClass_of_methodNamed B.named
  have hlocks := B.notSynchronized
  subst hsz
  have hD := hD0.self (sz := s.heap.size)
  generalize hAe : va_A wd s.heap.size = A at hD ⊢
  have hA : ∀ q : Nat, s.heap.size ≤ q → A q := fun q h => by rw [← hAe]; exact Or.inr h
  have hl := lv_entry av (n := maxL) hn
  rw [lg_entry_eq]
  exact body p e s m av.toArray below meth c A _ hx hb hml hts hown hK hA (fun r w H locs ls pc hd hp hP hD hS =>
    W.iret (v := r) hx hb hr (fun t ht hW => ⟨⟨r, w, rfl, hp, by rw [ht]; exact hP, va_K.moved hW.alike hK, hD⟩, hS.F ht⟩) hS.2.2 hd) _ _ _ hP hD va_S.rf hl
theorem nar_z {v : Int32} (h : v = 0 ∨ v = 1) : narrow .boolean (.int v) = .int v := by
  rcases h with rfl | rfl <;> rfl
theorem Ci.ofZ {post : Int32 → va_W → Prop} (hy : plainName y.cls = true) (hw : ws = Cond.code y cc maxL (some .boolean) :: ws') (hn : (lg_sl av).length ≤ maxL)
    (body : ∀ (p : Program) (e : Env) (s : State) (m : MethodId) (args : Array Value) (below : List Frame) (meth : Method) (c : Code) (A : Nat → Prop) (Z : State → Prop),
      p.tables.exec = Jvm.exec → c.code = cc → c.maxLocals = maxL → (∀ w ∈ ws, w.before args s = true) → s.vm.findClass y.cls = some m.cls → va_K g.1 vwCl (tyG g) s → (∀ q, s.heap.size ≤ q → A q) →
      (∀ (r : Int32) (w : va_W) (H : Heap) (locs : List Loc) (ls : Array Slot) (pc : Nat), decode cc pc = .ok (.ireturn, 1) → (r = 0 ∨ r = 1) → post r w → va_P g.1 vwCl w H → va_D A w → va_S A s.heap H locs → W p l e rm s m args below meth c H locs 0 0 Z (F0 m pc ls [.int r])) →
      ∀ (H : Heap) (locs : List Loc) (ls : Array Slot), va_P g.1 vwCl wd H → va_D A wd → va_S A s.heap H locs → lv_has ls maxL (lv_args 0 av) → W p l e rm s m args below meth c H locs 0 0 Z (F0 m 0 ls [])) : Ci l y ws rm g av wd post := by
  intro sz
  refine Met.ofW (cc := cc) (maxL := maxL) (ret := some .boolean) hy hw ?_
  intro p e s m args below meth c s₁ B hml hv
  obtain ⟨rfl, hsz, hP, hK, hD0⟩ := hv
  have hx := B.exec
  have hb := B.bytes
  have hr := B.returns
  have hts := atoms_spec (ws := ws) B.pre
  have hown : s.vm.findClass y.cls = some m.cls := findClass_of_methodNamed B.named
  have hlocks := B.notSynchronized
  subst hsz
  have hD := hD0.self (sz := s.heap.size)
  generalize hAe : va_A wd s.heap.size = A at hD ⊢
  have hA : ∀ q : Nat, s.heap.size ≤ q → A q := fun q h => by rw [← hAe]; exact Or.inr h
  have hl := lv_entry av (n := maxL) hn
  rw [lg_entry_eq]
  exact body p e s m av.toArray below meth c A _ hx hb hml hts hown hK hA (fun r w H locs ls pc hd hz hp hP hD hS =>
    W.zret (v := r) hx hb hr (nar_z hz) (fun t ht hW => ⟨⟨r, w, rfl, hp, by rw [ht]; exact hP, va_K.moved hW.alike hK, hD⟩, hS.F ht⟩) hS.2.2 hd) _ _ _ hP hD va_S.rf hl
theorem Cl.ofL {post : Int64 → va_W → Prop} (hy : plainName y.cls = true) (hw : ws = Cond.code y cc maxL (some .long) :: ws') (hn : (lg_sl av).length ≤ maxL)
    (body : ∀ (p : Program) (e : Env) (s : State) (m : MethodId) (args : Array Value) (below : List Frame) (meth : Method) (c : Code) (A : Nat → Prop) (Z : State → Prop),
      p.tables.exec = Jvm.exec → c.code = cc → c.maxLocals = maxL → (∀ w ∈ ws, w.before args s = true) → s.vm.findClass y.cls = some m.cls → va_K g.1 vwCl (tyG g) s → (∀ q, s.heap.size ≤ q → A q) →
      (∀ (r : Int64) (w : va_W) (H : Heap) (locs : List Loc) (ls : Array Slot) (pc : Nat), decode cc pc = .ok (.lreturn, 1) → post r w → va_P g.1 vwCl w H → va_D A w → va_S A s.heap H locs → W p l e rm s m args below meth c H locs 0 0 Z (F0 m pc ls [.long r])) →
      ∀ (H : Heap) (locs : List Loc) (ls : Array Slot), va_P g.1 vwCl wd H → va_D A wd → va_S A s.heap H locs → lv_has ls maxL (lv_args 0 av) → W p l e rm s m args below meth c H locs 0 0 Z (F0 m 0 ls [])) : Cl l y ws rm g av wd post := by
  intro sz
  refine Met.ofW (cc := cc) (maxL := maxL) (ret := some .long) hy hw ?_
  intro p e s m args below meth c s₁ B hml hv
  obtain ⟨rfl, hsz, hP, hK, hD0⟩ := hv
  have hx := B.exec
  have hb := B.bytes
  have hr := B.returns
  have hts := atoms_spec (ws := ws) B.pre
  have hown : s.vm.findClass y.cls = some m.cls := findClass_of_methodNamed B.named
  have hlocks := B.notSynchronized
  subst hsz
  have hD := hD0.self (sz := s.heap.size)
  generalize hAe : va_A wd s.heap.size = A at hD ⊢
  have hA : ∀ q : Nat, s.heap.size ≤ q → A q := fun q h => by rw [← hAe]; exact Or.inr h
  have hl := lv_entry av (n := maxL) hn
  rw [lg_entry_eq]
  exact body p e s m av.toArray below meth c A _ hx hb hml hts hown hK hA (fun r w H locs ls pc hd hp hP hD hS =>
    W.lret (v := r) hx hb hr (fun t ht hW => ⟨⟨r, w, rfl, hp, by rw [ht]; exact hP, va_K.moved hW.alike hK, hD⟩, hS.F ht⟩) hS.2.2 hd) _ _ _ hP hD va_S.rf hl
theorem Cv.ofV {post : va_W → Prop} (hy : plainName y.cls = true) (hw : ws = Cond.code y cc maxL none :: ws') (hn : (lg_sl av).length ≤ maxL)
    (body : ∀ (p : Program) (e : Env) (s : State) (m : MethodId) (args : Array Value) (below : List Frame) (meth : Method) (c : Code) (A : Nat → Prop) (Z : State → Prop),
      p.tables.exec = Jvm.exec → c.code = cc → c.maxLocals = maxL → (∀ w ∈ ws, w.before args s = true) → s.vm.findClass y.cls = some m.cls → va_K g.1 vwCl (tyG g) s → (∀ q, s.heap.size ≤ q → A q) →
      (∀ (w : va_W) (H : Heap) (locs : List Loc) (ls : Array Slot) (pc : Nat), decode cc pc = .ok (.return_, 1) → post w → va_P g.1 vwCl w H → va_D A w → va_S A s.heap H locs → W p l e rm s m args below meth c H locs 0 0 Z (F0 m pc ls [])) →
      ∀ (H : Heap) (locs : List Loc) (ls : Array Slot), va_P g.1 vwCl wd H → va_D A wd → va_S A s.heap H locs → lv_has ls maxL (lv_args 0 av) → W p l e rm s m args below meth c H locs 0 0 Z (F0 m 0 ls [])) : Cv l y ws rm g av wd post := by
  intro sz
  refine Met.ofW (cc := cc) (maxL := maxL) (ret := none) hy hw ?_
  intro p e s m args below meth c s₁ B hml hv
  obtain ⟨rfl, hsz, hP, hK, hD0⟩ := hv
  have hx := B.exec
  have hb := B.bytes
  have hr := B.returns
  have hts := atoms_spec (ws := ws) B.pre
  have hown : s.vm.findClass y.cls = some m.cls := findClass_of_methodNamed B.named
  have hlocks := B.notSynchronized
  subst hsz
  have hD := hD0.self (sz := s.heap.size)
  generalize hAe : va_A wd s.heap.size = A at hD ⊢
  have hA : ∀ q : Nat, s.heap.size ≤ q → A q := fun q h => by rw [← hAe]; exact Or.inr h
  have hl := lv_entry av (n := maxL) hn
  rw [lg_entry_eq]
  exact body p e s m av.toArray below meth c A _ hx hb hml hts hown hK hA (fun w H locs ls pc hd hp hP hD hS =>
    W.vret hx hb hr (fun t ht hW => ⟨⟨w, rfl, hp, by rw [ht]; exact hP, va_K.moved hW.alike hK, hD⟩, hS.F ht⟩) hS.2.2 hd) _ _ _ hP hD va_S.rf hl
end BASE
end
section
section CALLS
variable {p : Program} {l : Launch} {e : Env} {R : Room} {s : State} {m : MethodId} {args : Array Value} {below : List Frame} {meth : Method} {c : Code} {H : Heap} {locs : List Loc} {cells slots : Nat} {Q : State → Prop}
variable {cc : ByteArray} {nL maxL n index pc : Nat} {Ts ws : List Cond} {own C : String} {y : MethodName} {bytes : ByteArray} {ret : Option FieldType} {rm : Room} {g : GG} {As rest st0 : List Value} {b : Nat} {wd wc wr : va_W} {A : Nat → Prop} {H0 : Heap} {ls : Array Slot}
theorem call_iV {post : Int32 → va_W → Prop} (S : CallFix p m c cc nL s args Ts own) (hC : Ci l y ws rm g (.ref b :: As) wc post) (cw : CallW R s args own C index y bytes maxL ret ws rm 0 0 n)
    (hP : va_P g.1 vwCl wd H) (hK : va_K g.1 vwCl (tyG g) s) (hD : va_D A wd) (hS : va_S A H0 H locs) (hA : ∀ q, H0.size ≤ q → A q) (isC isR : List Nat) (hc : isC.map (fun i => wd[i]?) = wc.map some) (hr : isR.map (fun i => wd[i]?) = wr.map some) (hnC : va_nd isC = true) (hnR : va_nd isR = true) (hdis : ∀ i ∈ isR, i ∉ isC)
    (q0 : Nat) {ci : Nat} {q : vw_C} {fs : List Value} (he : wc[q0]? = some (b, .inr (ci, fs))) (hci : vwCl[ci]? = some q) (hqC : q.1 = C) (hn : As.length = n) (hsz : ls.size = nL) (hst : st0 = As.reverse ++ .ref b :: rest) (hrm : (rest.map fun v => v.category).sum ≤ 8) (hdg : decode cc pc = .ok (.invokevirtual index, 3)) (hf : cells + 0 ≤ R.cells ∧ slots + 0 ≤ R.slots)
    (kk : ∀ (r : Int32) (w : va_W) (H1 : Heap) (locs1 : List Loc), post r w → va_P g.1 vwCl (wr ++ w) H1 → va_D A (wr ++ w) → va_S A H0 H1 locs1 → W p l e R s m args below meth c H1 locs1 cells slots Q (F0 m (pc + 3) ls (.int r :: rest))) : W p l e R s m args below meth c H locs cells slots Q (F0 m pc ls st0) := by
  subst hst
  have hPc : va_P g.1 vwCl wc H := hP.sub isC (fm_of (wc := wc) hc)
  have hDc : va_D A wc := hD.sub isC hnC hc
  have hFc := va_free (wc := wc) hD hS hA isC hc
  refine va_calli (va_runV (As := As) (rest := rest) S (hC H.size) cw ⟨Pw.blind g (.ref b :: As) wc H.size, (by subst hqC; exact va_recv hK hPc hci he), fun U hU hW => ⟨rfl, by rw [hU], by rw [hU]; exact hPc, va_K.moved hW.alike hK, hDc.weaken (fun _ _ _ _ => trivial)⟩⟩ rfl hn hsz rfl (lv_room hrm) hdg hf) hS (fun q _ h => hFc q h) hFc (fun r w t H1 locs1 ht hvm hw hB hz1 hk1 hS1 => ?_)
  obtain ⟨hP1, hK1, hD1⟩ := hB
  rw [ht] at hP1
  obtain ⟨hP2, hD2⟩ := va_join (wr := wr) (w1 := w) hP hD isC isR hc hr hnR hdis hk1 hFc hP1 hD1
  exact kk r w H1 locs1 hw hP2 hD2 hS1
theorem call_iS {post : Int32 → va_W → Prop} (S : CallFix p m c cc nL s args Ts own) (hC : Ci l y ws rm g As wc post) (cw : CallB R s args own index y bytes maxL ret ws rm 0 0 n ∧ (Cond.static y).before args s = true)
    (hP : va_P g.1 vwCl wd H) (hK : va_K g.1 vwCl (tyG g) s) (hD : va_D A wd) (hS : va_S A H0 H locs) (hA : ∀ q, H0.size ≤ q → A q) (isC isR : List Nat) (hc : isC.map (fun i => wd[i]?) = wc.map some) (hr : isR.map (fun i => wd[i]?) = wr.map some) (hnC : va_nd isC = true) (hnR : va_nd isR = true) (hdis : ∀ i ∈ isR, i ∉ isC)
    (hn : As.length = n) (hsz : ls.size = nL) (hst : st0 = As.reverse ++ rest) (hrm : (rest.map fun v => v.category).sum ≤ 8) (hdg : decode cc pc = .ok (.invokestatic index, 3)) (hf : cells + 0 ≤ R.cells ∧ slots + 0 ≤ R.slots)
    (kk : ∀ (r : Int32) (w : va_W) (H1 : Heap) (locs1 : List Loc), post r w → va_P g.1 vwCl (wr ++ w) H1 → va_D A (wr ++ w) → va_S A H0 H1 locs1 → W p l e R s m args below meth c H1 locs1 cells slots Q (F0 m (pc + 3) ls (.int r :: rest))) : W p l e R s m args below meth c H locs cells slots Q (F0 m pc ls st0) := by
  subst hst
  have hPc : va_P g.1 vwCl wc H := hP.sub isC (fm_of (wc := wc) hc)
  have hDc : va_D A wc := hD.sub isC hnC hc
  have hFc := va_free (wc := wc) hD hS hA isC hc
  refine va_calli (va_runS (As := As) (rest := rest) S (hC H.size) cw ⟨Pw.blind g As wc H.size, fun U hU hW => ⟨rfl, by rw [hU], by rw [hU]; exact hPc, va_K.moved hW.alike hK, hDc.weaken (fun _ _ _ _ => trivial)⟩⟩ rfl hn hsz rfl (lv_room hrm) hdg hf) hS (fun q _ h => hFc q h) hFc (fun r w t H1 locs1 ht hvm hw hB hz1 hk1 hS1 => ?_)
  obtain ⟨hP1, hK1, hD1⟩ := hB
  rw [ht] at hP1
  obtain ⟨hP2, hD2⟩ := va_join (wr := wr) (w1 := w) hP hD isC isR hc hr hnR hdis hk1 hFc hP1 hD1
  exact kk r w H1 locs1 hw hP2 hD2 hS1
theorem call_lV {post : Int64 → va_W → Prop} (S : CallFix p m c cc nL s args Ts own) (hC : Cl l y ws rm g (.ref b :: As) wc post) (cw : CallW R s args own C index y bytes maxL ret ws rm 0 0 n)
    (hP : va_P g.1 vwCl wd H) (hK : va_K g.1 vwCl (tyG g) s) (hD : va_D A wd) (hS : va_S A H0 H locs) (hA : ∀ q, H0.size ≤ q → A q) (isC isR : List Nat) (hc : isC.map (fun i => wd[i]?) = wc.map some) (hr : isR.map (fun i => wd[i]?) = wr.map some) (hnC : va_nd isC = true) (hnR : va_nd isR = true) (hdis : ∀ i ∈ isR, i ∉ isC)
    (q0 : Nat) {ci : Nat} {q : vw_C} {fs : List Value} (he : wc[q0]? = some (b, .inr (ci, fs))) (hci : vwCl[ci]? = some q) (hqC : q.1 = C) (hn : As.length = n) (hsz : ls.size = nL) (hst : st0 = As.reverse ++ .ref b :: rest) (hrm : (rest.map fun v => v.category).sum ≤ 8) (hdg : decode cc pc = .ok (.invokevirtual index, 3)) (hf : cells + 0 ≤ R.cells ∧ slots + 0 ≤ R.slots)
    (kk : ∀ (r : Int64) (w : va_W) (H1 : Heap) (locs1 : List Loc), post r w → va_P g.1 vwCl (wr ++ w) H1 → va_D A (wr ++ w) → va_S A H0 H1 locs1 → W p l e R s m args below meth c H1 locs1 cells slots Q (F0 m (pc + 3) ls (.long r :: rest))) : W p l e R s m args below meth c H locs cells slots Q (F0 m pc ls st0) := by
  subst hst
  have hPc : va_P g.1 vwCl wc H := hP.sub isC (fm_of (wc := wc) hc)
  have hDc : va_D A wc := hD.sub isC hnC hc
  have hFc := va_free (wc := wc) hD hS hA isC hc
  refine va_calll (va_runV (As := As) (rest := rest) S (hC H.size) cw ⟨Pw.blind g (.ref b :: As) wc H.size, (by subst hqC; exact va_recv hK hPc hci he), fun U hU hW => ⟨rfl, by rw [hU], by rw [hU]; exact hPc, va_K.moved hW.alike hK, hDc.weaken (fun _ _ _ _ => trivial)⟩⟩ rfl hn hsz rfl (lv_room hrm) hdg hf) hS (fun q _ h => hFc q h) hFc (fun r w t H1 locs1 ht hvm hw hB hz1 hk1 hS1 => ?_)
  obtain ⟨hP1, hK1, hD1⟩ := hB
  rw [ht] at hP1
  obtain ⟨hP2, hD2⟩ := va_join (wr := wr) (w1 := w) hP hD isC isR hc hr hnR hdis hk1 hFc hP1 hD1
  exact kk r w H1 locs1 hw hP2 hD2 hS1
theorem call_lS {post : Int64 → va_W → Prop} (S : CallFix p m c cc nL s args Ts own) (hC : Cl l y ws rm g As wc post) (cw : CallB R s args own index y bytes maxL ret ws rm 0 0 n ∧ (Cond.static y).before args s = true)
    (hP : va_P g.1 vwCl wd H) (hK : va_K g.1 vwCl (tyG g) s) (hD : va_D A wd) (hS : va_S A H0 H locs) (hA : ∀ q, H0.size ≤ q → A q) (isC isR : List Nat) (hc : isC.map (fun i => wd[i]?) = wc.map some) (hr : isR.map (fun i => wd[i]?) = wr.map some) (hnC : va_nd isC = true) (hnR : va_nd isR = true) (hdis : ∀ i ∈ isR, i ∉ isC)
    (hn : As.length = n) (hsz : ls.size = nL) (hst : st0 = As.reverse ++ rest) (hrm : (rest.map fun v => v.category).sum ≤ 8) (hdg : decode cc pc = .ok (.invokestatic index, 3)) (hf : cells + 0 ≤ R.cells ∧ slots + 0 ≤ R.slots)
    (kk : ∀ (r : Int64) (w : va_W) (H1 : Heap) (locs1 : List Loc), post r w → va_P g.1 vwCl (wr ++ w) H1 → va_D A (wr ++ w) → va_S A H0 H1 locs1 → W p l e R s m args below meth c H1 locs1 cells slots Q (F0 m (pc + 3) ls (.long r :: rest))) : W p l e R s m args below meth c H locs cells slots Q (F0 m pc ls st0) := by
  subst hst
  have hPc : va_P g.1 vwCl wc H := hP.sub isC (fm_of (wc := wc) hc)
  have hDc : va_D A wc := hD.sub isC hnC hc
  have hFc := va_free (wc := wc) hD hS hA isC hc
  refine va_calll (va_runS (As := As) (rest := rest) S (hC H.size) cw ⟨Pw.blind g As wc H.size, fun U hU hW => ⟨rfl, by rw [hU], by rw [hU]; exact hPc, va_K.moved hW.alike hK, hDc.weaken (fun _ _ _ _ => trivial)⟩⟩ rfl hn hsz rfl (lv_room hrm) hdg hf) hS (fun q _ h => hFc q h) hFc (fun r w t H1 locs1 ht hvm hw hB hz1 hk1 hS1 => ?_)
  obtain ⟨hP1, hK1, hD1⟩ := hB
  rw [ht] at hP1
  obtain ⟨hP2, hD2⟩ := va_join (wr := wr) (w1 := w) hP hD isC isR hc hr hnR hdis hk1 hFc hP1 hD1
  exact kk r w H1 locs1 hw hP2 hD2 hS1
theorem call_vV {post : va_W → Prop} (S : CallFix p m c cc nL s args Ts own) (hC : Cv l y ws rm g (.ref b :: As) wc post) (cw : CallW R s args own C index y bytes maxL ret ws rm 0 0 n)
    (hP : va_P g.1 vwCl wd H) (hK : va_K g.1 vwCl (tyG g) s) (hD : va_D A wd) (hS : va_S A H0 H locs) (hA : ∀ q, H0.size ≤ q → A q) (isC isR : List Nat) (hc : isC.map (fun i => wd[i]?) = wc.map some) (hr : isR.map (fun i => wd[i]?) = wr.map some) (hnC : va_nd isC = true) (hnR : va_nd isR = true) (hdis : ∀ i ∈ isR, i ∉ isC)
    (q0 : Nat) {ci : Nat} {q : vw_C} {fs : List Value} (he : wc[q0]? = some (b, .inr (ci, fs))) (hci : vwCl[ci]? = some q) (hqC : q.1 = C) (hn : As.length = n) (hsz : ls.size = nL) (hst : st0 = As.reverse ++ .ref b :: rest) (hrm : (rest.map fun v => v.category).sum ≤ 8) (hdg : decode cc pc = .ok (.invokevirtual index, 3)) (hf : cells + 0 ≤ R.cells ∧ slots + 0 ≤ R.slots)
    (kk : ∀ (w : va_W) (H1 : Heap) (locs1 : List Loc), post w → va_P g.1 vwCl (wr ++ w) H1 → va_D A (wr ++ w) → va_S A H0 H1 locs1 → W p l e R s m args below meth c H1 locs1 cells slots Q (F0 m (pc + 3) ls rest)) : W p l e R s m args below meth c H locs cells slots Q (F0 m pc ls st0) := by
  subst hst
  have hPc : va_P g.1 vwCl wc H := hP.sub isC (fm_of (wc := wc) hc)
  have hDc : va_D A wc := hD.sub isC hnC hc
  have hFc := va_free (wc := wc) hD hS hA isC hc
  refine va_callv (va_runV (As := As) (rest := rest) S (hC H.size) cw ⟨Pw.blind g (.ref b :: As) wc H.size, (by subst hqC; exact va_recv hK hPc hci he), fun U hU hW => ⟨rfl, by rw [hU], by rw [hU]; exact hPc, va_K.moved hW.alike hK, hDc.weaken (fun _ _ _ _ => trivial)⟩⟩ rfl hn hsz rfl (lv_room hrm) hdg hf) hS (fun q _ h => hFc q h) hFc (fun w t H1 locs1 ht hvm hw hB hz1 hk1 hS1 => ?_)
  obtain ⟨hP1, hK1, hD1⟩ := hB
  rw [ht] at hP1
  obtain ⟨hP2, hD2⟩ := va_join (wr := wr) (w1 := w) hP hD isC isR hc hr hnR hdis hk1 hFc hP1 hD1
  exact kk w H1 locs1 hw hP2 hD2 hS1
theorem call_vS {post : va_W → Prop} (S : CallFix p m c cc nL s args Ts own) (hC : Cv l y ws rm g As wc post) (cw : CallB R s args own index y bytes maxL ret ws rm 0 0 n ∧ (Cond.static y).before args s = true)
    (hP : va_P g.1 vwCl wd H) (hK : va_K g.1 vwCl (tyG g) s) (hD : va_D A wd) (hS : va_S A H0 H locs) (hA : ∀ q, H0.size ≤ q → A q) (isC isR : List Nat) (hc : isC.map (fun i => wd[i]?) = wc.map some) (hr : isR.map (fun i => wd[i]?) = wr.map some) (hnC : va_nd isC = true) (hnR : va_nd isR = true) (hdis : ∀ i ∈ isR, i ∉ isC)
    (hn : As.length = n) (hsz : ls.size = nL) (hst : st0 = As.reverse ++ rest) (hrm : (rest.map fun v => v.category).sum ≤ 8) (hdg : decode cc pc = .ok (.invokestatic index, 3)) (hf : cells + 0 ≤ R.cells ∧ slots + 0 ≤ R.slots)
    (kk : ∀ (w : va_W) (H1 : Heap) (locs1 : List Loc), post w → va_P g.1 vwCl (wr ++ w) H1 → va_D A (wr ++ w) → va_S A H0 H1 locs1 → W p l e R s m args below meth c H1 locs1 cells slots Q (F0 m (pc + 3) ls rest)) : W p l e R s m args below meth c H locs cells slots Q (F0 m pc ls st0) := by
  subst hst
  have hPc : va_P g.1 vwCl wc H := hP.sub isC (fm_of (wc := wc) hc)
  have hDc : va_D A wc := hD.sub isC hnC hc
  have hFc := va_free (wc := wc) hD hS hA isC hc
  refine va_callv (va_runS (As := As) (rest := rest) S (hC H.size) cw ⟨Pw.blind g As wc H.size, fun U hU hW => ⟨rfl, by rw [hU], by rw [hU]; exact hPc, va_K.moved hW.alike hK, hDc.weaken (fun _ _ _ _ => trivial)⟩⟩ rfl hn hsz rfl (lv_room hrm) hdg hf) hS (fun q _ h => hFc q h) hFc (fun w t H1 locs1 ht hvm hw hB hz1 hk1 hS1 => ?_)
  obtain ⟨hP1, hK1, hD1⟩ := hB
  rw [ht] at hP1
  obtain ⟨hP2, hD2⟩ := va_join (wr := wr) (w1 := w) hP hD isC isR hc hr hnR hdis hk1 hFc hP1 hD1
  exact kk w H1 locs1 hw hP2 hD2 hS1
theorem call_iP {post : Int32 → Prop} (S : CallFix p m c cc nL s args Ts own) (hC : Pi l y ws rm As post) (cw : CallB R s args own index y bytes maxL ret ws rm 0 0 n ∧ (Cond.static y).before args s = true)
    (hP : va_P g.1 vwCl wd H) (hK : va_K g.1 vwCl (tyG g) s) (hD : va_D A wd) (hS : va_S A H0 H locs) (hA : ∀ q, H0.size ≤ q → A q)
    (hn : As.length = n) (hsz : ls.size = nL) (hst : st0 = As.reverse ++ rest) (hrm : (rest.map fun v => v.category).sum ≤ 8) (hdg : decode cc pc = .ok (.invokestatic index, 3)) (hf : cells + 0 ≤ R.cells ∧ slots + 0 ≤ R.slots)
    (kk : ∀ (r : Int32) (H1 : Heap) (locs1 : List Loc), post r → va_P g.1 vwCl wd H1 → va_D A wd → va_S A H0 H1 locs1 → W p l e R s m args below meth c H1 locs1 cells slots Q (F0 m (pc + 3) ls (.int r :: rest))) : W p l e R s m args below meth c H locs cells slots Q (F0 m pc ls st0) := by
  refine call_iS (wr := wd) S (hC g) cw hP hK hD hS hA [] (List.range wd.length) rfl (rng_map wd) rfl (nd_of List.nodup_range) (fun i _ h => by cases h) hn hsz hst hrm hdg hf (fun r w H1 locs1 hw hP hD hS => ?_)
  obtain ⟨rfl, hw⟩ := hw
  rw [List.append_nil] at hP hD
  exact kk r H1 locs1 hw hP hD hS
theorem call_lP {post : Int64 → Prop} (S : CallFix p m c cc nL s args Ts own) (hC : Pl l y ws rm As post) (cw : CallB R s args own index y bytes maxL ret ws rm 0 0 n ∧ (Cond.static y).before args s = true)
    (hP : va_P g.1 vwCl wd H) (hK : va_K g.1 vwCl (tyG g) s) (hD : va_D A wd) (hS : va_S A H0 H locs) (hA : ∀ q, H0.size ≤ q → A q)
    (hn : As.length = n) (hsz : ls.size = nL) (hst : st0 = As.reverse ++ rest) (hrm : (rest.map fun v => v.category).sum ≤ 8) (hdg : decode cc pc = .ok (.invokestatic index, 3)) (hf : cells + 0 ≤ R.cells ∧ slots + 0 ≤ R.slots)
    (kk : ∀ (r : Int64) (H1 : Heap) (locs1 : List Loc), post r → va_P g.1 vwCl wd H1 → va_D A wd → va_S A H0 H1 locs1 → W p l e R s m args below meth c H1 locs1 cells slots Q (F0 m (pc + 3) ls (.long r :: rest))) : W p l e R s m args below meth c H locs cells slots Q (F0 m pc ls st0) := by
  refine call_lS (wr := wd) S (hC g) cw hP hK hD hS hA [] (List.range wd.length) rfl (rng_map wd) rfl (nd_of List.nodup_range) (fun i _ h => by cases h) hn hsz hst hrm hdg hf (fun r w H1 locs1 hw hP hD hS => ?_)
  obtain ⟨rfl, hw⟩ := hw
  rw [List.append_nil] at hP hD
  exact kk r H1 locs1 hw hP hD hS
end CALLS
section CALLSW
variable {p : Program} {l : Launch} {e : Env} {R : Room} {s : State} {m : MethodId} {args : Array Value} {below : List Frame} {meth : Method} {c : Code} {H : Heap} {locs : List Loc} {cells slots : Nat} {Q : State → Prop}
variable {cc : ByteArray} {nL maxL n index pc : Nat} {Ts ws : List Cond} {own C : String} {y : MethodName} {bytes : ByteArray} {ret : Option FieldType} {rm : Room} {g : GG} {As rest st0 : List Value} {b : Nat} {wd : va_W} {A : Nat → Prop} {H0 : Heap} {ls : Array Slot}
theorem call_iVW {post : Int32 → va_W → Prop} (S : CallFix p m c cc nL s args Ts own) (hC : Ci l y ws rm g (.ref b :: As) wd post) (cw : CallW R s args own C index y bytes maxL ret ws rm 0 0 n)
    (hP : va_P g.1 vwCl wd H) (hK : va_K g.1 vwCl (tyG g) s) (hD : va_D A wd) (hS : va_S A H0 H locs) (hA : ∀ q, H0.size ≤ q → A q)
    (q0 : Nat) {ci : Nat} {q : vw_C} {fs : List Value} (he : wd[q0]? = some (b, .inr (ci, fs))) (hci : vwCl[ci]? = some q) (hqC : q.1 = C) (hn : As.length = n) (hsz : ls.size = nL) (hst : st0 = As.reverse ++ .ref b :: rest) (hrm : (rest.map fun v => v.category).sum ≤ 8) (hdg : decode cc pc = .ok (.invokevirtual index, 3)) (hf : cells + 0 ≤ R.cells ∧ slots + 0 ≤ R.slots)
    (kk : ∀ (r : Int32) (w : va_W) (H1 : Heap) (locs1 : List Loc), post r w → va_P g.1 vwCl w H1 → va_D A w → va_S A H0 H1 locs1 → W p l e R s m args below meth c H1 locs1 cells slots Q (F0 m (pc + 3) ls (.int r :: rest))) : W p l e R s m args below meth c H locs cells slots Q (F0 m pc ls st0) :=
  call_iV (wr := []) S hC cw hP hK hD hS hA (List.range wd.length) [] (rng_map wd) rfl (nd_of List.nodup_range) rfl (fun i h => by cases h) q0 he hci hqC hn hsz hst hrm hdg hf (fun r w H1 locs1 hw hP hD hS => kk r w H1 locs1 hw hP hD hS)
theorem call_iSW {post : Int32 → va_W → Prop} (S : CallFix p m c cc nL s args Ts own) (hC : Ci l y ws rm g As wd post) (cw : CallB R s args own index y bytes maxL ret ws rm 0 0 n ∧ (Cond.static y).before args s = true)
    (hP : va_P g.1 vwCl wd H) (hK : va_K g.1 vwCl (tyG g) s) (hD : va_D A wd) (hS : va_S A H0 H locs) (hA : ∀ q, H0.size ≤ q → A q)
    (hn : As.length = n) (hsz : ls.size = nL) (hst : st0 = As.reverse ++ rest) (hrm : (rest.map fun v => v.category).sum ≤ 8) (hdg : decode cc pc = .ok (.invokestatic index, 3)) (hf : cells + 0 ≤ R.cells ∧ slots + 0 ≤ R.slots)
    (kk : ∀ (r : Int32) (w : va_W) (H1 : Heap) (locs1 : List Loc), post r w → va_P g.1 vwCl w H1 → va_D A w → va_S A H0 H1 locs1 → W p l e R s m args below meth c H1 locs1 cells slots Q (F0 m (pc + 3) ls (.int r :: rest))) : W p l e R s m args below meth c H locs cells slots Q (F0 m pc ls st0) :=
  call_iS (wr := []) S hC cw hP hK hD hS hA (List.range wd.length) [] (rng_map wd) rfl (nd_of List.nodup_range) rfl (fun i h => by cases h) hn hsz hst hrm hdg hf (fun r w H1 locs1 hw hP hD hS => kk r w H1 locs1 hw hP hD hS)
theorem call_lVW {post : Int64 → va_W → Prop} (S : CallFix p m c cc nL s args Ts own) (hC : Cl l y ws rm g (.ref b :: As) wd post) (cw : CallW R s args own C index y bytes maxL ret ws rm 0 0 n)
    (hP : va_P g.1 vwCl wd H) (hK : va_K g.1 vwCl (tyG g) s) (hD : va_D A wd) (hS : va_S A H0 H locs) (hA : ∀ q, H0.size ≤ q → A q)
    (q0 : Nat) {ci : Nat} {q : vw_C} {fs : List Value} (he : wd[q0]? = some (b, .inr (ci, fs))) (hci : vwCl[ci]? = some q) (hqC : q.1 = C) (hn : As.length = n) (hsz : ls.size = nL) (hst : st0 = As.reverse ++ .ref b :: rest) (hrm : (rest.map fun v => v.category).sum ≤ 8) (hdg : decode cc pc = .ok (.invokevirtual index, 3)) (hf : cells + 0 ≤ R.cells ∧ slots + 0 ≤ R.slots)
    (kk : ∀ (r : Int64) (w : va_W) (H1 : Heap) (locs1 : List Loc), post r w → va_P g.1 vwCl w H1 → va_D A w → va_S A H0 H1 locs1 → W p l e R s m args below meth c H1 locs1 cells slots Q (F0 m (pc + 3) ls (.long r :: rest))) : W p l e R s m args below meth c H locs cells slots Q (F0 m pc ls st0) :=
  call_lV (wr := []) S hC cw hP hK hD hS hA (List.range wd.length) [] (rng_map wd) rfl (nd_of List.nodup_range) rfl (fun i h => by cases h) q0 he hci hqC hn hsz hst hrm hdg hf (fun r w H1 locs1 hw hP hD hS => kk r w H1 locs1 hw hP hD hS)
theorem call_lSW {post : Int64 → va_W → Prop} (S : CallFix p m c cc nL s args Ts own) (hC : Cl l y ws rm g As wd post) (cw : CallB R s args own index y bytes maxL ret ws rm 0 0 n ∧ (Cond.static y).before args s = true)
    (hP : va_P g.1 vwCl wd H) (hK : va_K g.1 vwCl (tyG g) s) (hD : va_D A wd) (hS : va_S A H0 H locs) (hA : ∀ q, H0.size ≤ q → A q)
    (hn : As.length = n) (hsz : ls.size = nL) (hst : st0 = As.reverse ++ rest) (hrm : (rest.map fun v => v.category).sum ≤ 8) (hdg : decode cc pc = .ok (.invokestatic index, 3)) (hf : cells + 0 ≤ R.cells ∧ slots + 0 ≤ R.slots)
    (kk : ∀ (r : Int64) (w : va_W) (H1 : Heap) (locs1 : List Loc), post r w → va_P g.1 vwCl w H1 → va_D A w → va_S A H0 H1 locs1 → W p l e R s m args below meth c H1 locs1 cells slots Q (F0 m (pc + 3) ls (.long r :: rest))) : W p l e R s m args below meth c H locs cells slots Q (F0 m pc ls st0) :=
  call_lS (wr := []) S hC cw hP hK hD hS hA (List.range wd.length) [] (rng_map wd) rfl (nd_of List.nodup_range) rfl (fun i h => by cases h) hn hsz hst hrm hdg hf (fun r w H1 locs1 hw hP hD hS => kk r w H1 locs1 hw hP hD hS)
theorem call_vVW {post : va_W → Prop} (S : CallFix p m c cc nL s args Ts own) (hC : Cv l y ws rm g (.ref b :: As) wd post) (cw : CallW R s args own C index y bytes maxL ret ws rm 0 0 n)
    (hP : va_P g.1 vwCl wd H) (hK : va_K g.1 vwCl (tyG g) s) (hD : va_D A wd) (hS : va_S A H0 H locs) (hA : ∀ q, H0.size ≤ q → A q)
    (q0 : Nat) {ci : Nat} {q : vw_C} {fs : List Value} (he : wd[q0]? = some (b, .inr (ci, fs))) (hci : vwCl[ci]? = some q) (hqC : q.1 = C) (hn : As.length = n) (hsz : ls.size = nL) (hst : st0 = As.reverse ++ .ref b :: rest) (hrm : (rest.map fun v => v.category).sum ≤ 8) (hdg : decode cc pc = .ok (.invokevirtual index, 3)) (hf : cells + 0 ≤ R.cells ∧ slots + 0 ≤ R.slots)
    (kk : ∀ (w : va_W) (H1 : Heap) (locs1 : List Loc), post w → va_P g.1 vwCl w H1 → va_D A w → va_S A H0 H1 locs1 → W p l e R s m args below meth c H1 locs1 cells slots Q (F0 m (pc + 3) ls rest)) : W p l e R s m args below meth c H locs cells slots Q (F0 m pc ls st0) :=
  call_vV (wr := []) S hC cw hP hK hD hS hA (List.range wd.length) [] (rng_map wd) rfl (nd_of List.nodup_range) rfl (fun i h => by cases h) q0 he hci hqC hn hsz hst hrm hdg hf (fun w H1 locs1 hw hP hD hS => kk w H1 locs1 hw hP hD hS)
theorem call_vSW {post : va_W → Prop} (S : CallFix p m c cc nL s args Ts own) (hC : Cv l y ws rm g As wd post) (cw : CallB R s args own index y bytes maxL ret ws rm 0 0 n ∧ (Cond.static y).before args s = true)
    (hP : va_P g.1 vwCl wd H) (hK : va_K g.1 vwCl (tyG g) s) (hD : va_D A wd) (hS : va_S A H0 H locs) (hA : ∀ q, H0.size ≤ q → A q)
    (hn : As.length = n) (hsz : ls.size = nL) (hst : st0 = As.reverse ++ rest) (hrm : (rest.map fun v => v.category).sum ≤ 8) (hdg : decode cc pc = .ok (.invokestatic index, 3)) (hf : cells + 0 ≤ R.cells ∧ slots + 0 ≤ R.slots)
    (kk : ∀ (w : va_W) (H1 : Heap) (locs1 : List Loc), post w → va_P g.1 vwCl w H1 → va_D A w → va_S A H0 H1 locs1 → W p l e R s m args below meth c H1 locs1 cells slots Q (F0 m (pc + 3) ls rest)) : W p l e R s m args below meth c H locs cells slots Q (F0 m pc ls st0) :=
  call_vS (wr := []) S hC cw hP hK hD hS hA (List.range wd.length) [] (rng_map wd) rfl (nd_of List.nodup_range) rfl (fun i h => by cases h) hn hsz hst hrm hdg hf (fun w H1 locs1 hw hP hD hS => kk w H1 locs1 hw hP hD hS)
end CALLSW
section TOPS
variable {p : Program} {l : Launch} {e : Env} {R : Room} {s : State} {m : MethodId} {args : Array Value} {below : List Frame} {meth : Method} {c : Code} {H : Heap} {locs : List Loc} {cells slots : Nat} {Q : State → Prop} {pc : Nat} {ls : Array Slot} {rest : List Value}
theorem tp_i {a b : Int32} (h : a = b) (k : W p l e R s m args below meth c H locs cells slots Q (F0 m pc ls (.int b :: rest))) : W p l e R s m args below meth c H locs cells slots Q (F0 m pc ls (.int a :: rest)) := h ▸ k
theorem tp_l {a b : Int64} (h : a = b) (k : W p l e R s m args below meth c H locs cells slots Q (F0 m pc ls (.long b :: rest))) : W p l e R s m args below meth c H locs cells slots Q (F0 m pc ls (.long a :: rest)) := h ▸ k
theorem tp_2 {a b : Int32} {v : Value} (h : a = b) (k : W p l e R s m args below meth c H locs cells slots Q (F0 m pc ls (v :: .int b :: rest))) : W p l e R s m args below meth c H locs cells slots Q (F0 m pc ls (v :: .int a :: rest)) := h ▸ k
end TOPS
/-- a truth value on the stack -/
def Bv (x : Int32) (P : Prop) : Prop := (x = 1 ∧ P) ∨ (x = 0 ∧ ¬ P)
theorem Bv.t {x : Int32} {P : Prop} (h : Bv x P) (c : ¬ x = 0) : P := by
  rcases h with ⟨-, h⟩ | ⟨h, -⟩
  · exact h
  · exact absurd h c
theorem Bv.f {x : Int32} {P : Prop} (h : Bv x P) (c : x = 0) : ¬ P := by
  rcases h with ⟨h, -⟩ | ⟨-, h⟩
  · rw [c] at h; exact absurd h (by decide)
  · exact h
theorem Bv.yes {P : Prop} (h : P) : Bv 1 P := Or.inl ⟨rfl, h⟩
theorem Bv.no {P : Prop} (h : ¬ P) : Bv 0 P := Or.inr ⟨rfl, h⟩
theorem Bv.z {x : Int32} {P : Prop} (h : Bv x P) : x = 0 ∨ x = 1 := by
  rcases h with ⟨h, -⟩ | ⟨h, -⟩
  · exact Or.inr h
  · exact Or.inl h
theorem Bv.iff {x : Int32} {P P' : Prop} (h : Bv x P) (e : P ↔ P') : Bv x P' := by
  rcases h with ⟨h, a⟩ | ⟨h, a⟩
  · exact Or.inl ⟨h, e.mp a⟩
  · exact Or.inr ⟨h, fun q => a (e.mpr q)⟩
end
section
/-! ===== lN n to 2^64: shifts, and, or, masks, one bit ===== -/
theorem wb_tb (n : Nat) : (lN n).toBitVec = BitVec.ofNat 64 n := rfl
theorem wb_inj {a b : Int64} (h : a.toBitVec = b.toBitVec) : a = b := Int64.toBitVec_inj.mp h
theorem wb_tn {n : Nat} (h : n < 2 ^ 64) : (lN n).toBitVec.toNat = n := by rw [wb_tb, BitVec.toNat_ofNat, Nat.mod_eq_of_lt h]
theorem wb_of (x : Int64) : ∃ n, n < 2 ^ 64 ∧ x = lN n := ⟨x.toBitVec.toNat, x.toBitVec.isLt, wb_inj (by rw [wb_tb]; simp)⟩
theorem wb_of32 (x : Int32) : ∃ n, n < 2 ^ 32 ∧ x = nI n := ⟨x.toBitVec.toNat, x.toBitVec.isLt, Int32.toBitVec_inj.mp (by show _ = BitVec.ofNat 32 _; simp)⟩
theorem wb_c : ∀ k, k < 64 → ((nI k).toInt64 &&& 63) = lN k := by decide +kernel
theorem wb_cu : ∀ k, k < 64 → ((nI k).toInt64.toUInt64 &&& Int64.toUInt64 63) = UInt64.ofNat k := by decide +kernel
theorem wb_sm : ∀ k, k < 64 → (BitVec.ofNat 64 k).smod 64 = BitVec.ofNat 64 k := by decide +kernel
theorem wb_pw {a b : Nat} (h : a ≤ b) : 2 ^ b = 2 ^ a * 2 ^ (b - a) := by rw [← Nat.pow_add]; congr 1; omega
theorem wb_lt2 {a b : Nat} (h : a < b) : 2 ^ a < 2 ^ b := Nat.pow_lt_pow_right (by decide) h
theorem wb_mod (n : Nat) : lN n = lN (n % 2 ^ 64) := wb_inj (by rw [wb_tb, wb_tb]; apply BitVec.eq_of_toNat_eq; rw [BitVec.toNat_ofNat, BitVec.toNat_ofNat, Nat.mod_mod])
theorem wb_shr {n k : Nat} (hn : n < 2 ^ 64) (hk : k < 64) : ((lN n).toUInt64 >>> ((nI k).toInt64.toUInt64 &&& Int64.toUInt64 63)).toInt64 = lN (n / 2 ^ k) := by
  rw [wb_cu k hk]
  apply wb_inj
  apply BitVec.eq_of_toNat_eq
  show ((lN n).toUInt64 >>> UInt64.ofNat k).toNat = (BitVec.ofNat 64 _).toNat
  have h1 : (UInt64.ofNat k).toNat = k := by
    show (BitVec.ofNat 64 k).toNat = k
    rw [BitVec.toNat_ofNat, Nat.mod_eq_of_lt (by omega)]
  have h2 : (lN n).toUInt64.toNat = n := wb_tn hn
  rw [UInt64.toNat_shiftRight, h1, h2, Nat.mod_eq_of_lt hk, Nat.shiftRight_eq_div_pow, BitVec.toNat_ofNat, Nat.mod_eq_of_lt (Nat.lt_of_le_of_lt (Nat.div_le_self _ _) hn)]
theorem wb_shl (n : Nat) {k : Nat} (hk : k < 64) : lN n <<< ((nI k).toInt64 &&& 63) = lN (n * 2 ^ k) := by
  rw [wb_c k hk]
  apply wb_inj
  rw [Int64.toBitVec_shiftLeft, wb_tb, wb_tb, wb_tb, wb_sm k hk]
  apply BitVec.eq_of_toNat_eq
  rw [BitVec.shiftLeft_eq', BitVec.toNat_shiftLeft, BitVec.toNat_ofNat, BitVec.toNat_ofNat, BitVec.toNat_ofNat, Nat.mod_eq_of_lt (show k < 2 ^ 64 by omega), Nat.shiftLeft_eq, Nat.mul_mod, Nat.mod_mod, ← Nat.mul_mod]
theorem wb_and {a b : Nat} (ha : a < 2 ^ 64) (hb : b < 2 ^ 64) : lN a &&& lN b = lN (a &&& b) := by
  apply wb_inj
  rw [Int64.toBitVec_and, wb_tb, wb_tb, wb_tb]
  apply BitVec.eq_of_toNat_eq
  rw [BitVec.toNat_and, BitVec.toNat_ofNat, BitVec.toNat_ofNat, BitVec.toNat_ofNat, Nat.mod_eq_of_lt ha, Nat.mod_eq_of_lt hb, Nat.mod_eq_of_lt (Nat.and_lt_two_pow _ hb)]
theorem wb_or {a b : Nat} (ha : a < 2 ^ 64) (hb : b < 2 ^ 64) : lN a ||| lN b = lN (a ||| b) := by
  apply wb_inj
  rw [Int64.toBitVec_or, wb_tb, wb_tb, wb_tb]
  apply BitVec.eq_of_toNat_eq
  rw [BitVec.toNat_or, BitVec.toNat_ofNat, BitVec.toNat_ofNat, BitVec.toNat_ofNat, Nat.mod_eq_of_lt ha, Nat.mod_eq_of_lt hb, Nat.mod_eq_of_lt (Nat.or_lt_two_pow ha hb)]
theorem wb_mask {n k : Nat} (hn : n < 2 ^ 64) (hk : k < 64) : lN n &&& lN (2 ^ k - 1) = lN (n % 2 ^ k) := by
  rw [wb_and hn (by have := wb_lt2 hk; omega), Nat.and_two_pow_sub_one_eq_mod]
theorem wb_a1 {n : Nat} (hn : n < 2 ^ 64) : lN n &&& 1 = lN (n % 2) := wb_mask (k := 1) hn (by decide)
theorem wb_bit {n k : Nat} (hn : n < 2 ^ 64) (hk : k < 64) : ((lN n).toUInt64 >>> ((nI k).toInt64.toUInt64 &&& Int64.toUInt64 63)).toInt64 &&& 1 = lN (n / 2 ^ k % 2) := by
  rw [wb_shr hn hk, wb_a1 (Nat.lt_of_le_of_lt (Nat.div_le_self _ _) hn)]
theorem wb_xor {q k : Nat} (hk : k < 63) (h : 2 ^ k ≤ q) (h2 : q < 2 ^ (k + 1)) : lN q ^^^ lN (2 ^ k) = lN (q - 2 ^ k) := by
  obtain ⟨r, rfl⟩ : ∃ r, q = 2 ^ k + r := ⟨q - 2 ^ k, by omega⟩
  have hr : r < 2 ^ k := by rw [Nat.pow_succ] at h2; omega
  have hx : (2 ^ k + r) ^^^ 2 ^ k = r := by
    apply Nat.eq_of_testBit_eq
    intro i
    rw [Nat.testBit_xor, Nat.testBit_two_pow]
    rcases Nat.lt_trichotomy i k with h | h | h
    · rw [Nat.testBit_two_pow_add_gt h]
      simp [show ¬ k = i by omega]
    · subst h
      rw [Nat.testBit_two_pow_add_eq]
      simp
    · have a1 : 2 ^ (k + 1) ≤ 2 ^ i := Nat.pow_le_pow_right (by decide) h
      rw [Nat.testBit_lt_two_pow (show 2 ^ k + r < 2 ^ i by omega), Nat.testBit_lt_two_pow (show r < 2 ^ i by omega)]
      simp [show ¬ k = i by omega]
  have b1 := wb_lt2 (show k + 1 < 64 by omega)
  have b2 := wb_lt2 (show k < 64 by omega)
  apply wb_inj
  rw [Int64.toBitVec_xor, wb_tb, wb_tb, wb_tb]
  apply BitVec.eq_of_toNat_eq
  rw [BitVec.toNat_xor, BitVec.toNat_ofNat, BitVec.toNat_ofNat, BitVec.toNat_ofNat, Nat.mod_eq_of_lt (by omega : 2 ^ k + r < 2 ^ 64), Nat.mod_eq_of_lt b2, hx, Nat.add_sub_cancel_left, Nat.mod_eq_of_lt (by omega)]
/-! plain facts to paste, each family by itself; over the kit's nI, lN and upd -/
/-! ===== drawers: more things than places ===== -/
theorem fb_holes : ∀ (m n : Nat) (f : Nat → Nat), (∀ i, i < n → f i < m) → (∀ i j, i < j → j < n → f i ≠ f j) → n ≤ m := by
  intro m
  induction m with
  | zero =>
    intro n f h1 _
    rcases Nat.eq_zero_or_pos n with h | h
    · omega
    · exact absurd (h1 0 h) (Nat.not_lt_zero _)
  | succ m ih =>
    intro n f h1 h2
    by_cases hx : ∃ i, i < n ∧ f i = m
    · obtain ⟨a, ha, hfa⟩ := hx
      have hg := ih (n - 1) (fun i => if i < a then f i else f (i + 1)) (by
        intro i hi
        by_cases q : i < a
        · simp only [if_pos q]
          have b1 := h1 i (by omega)
          have b2 := h2 i a q ha
          omega
        · simp only [if_neg q]
          have b1 := h1 (i + 1) (by omega)
          have b2 := h2 a (i + 1) (by omega) (by omega)
          omega) (by
        intro i j hij hj
        by_cases q : i < a
        · by_cases r : j < a
          · simp only [if_pos q, if_pos r]
            exact h2 i j hij (by omega)
          · simp only [if_pos q, if_neg r]
            exact h2 i (j + 1) (by omega) (by omega)
        · have r : ¬ j < a := by omega
          simp only [if_neg q, if_neg r]
          exact h2 (i + 1) (j + 1) (by omega) (by omega))
      omega
    · have hg := ih n f (fun i hi => by
        have b1 := h1 i hi
        have b2 : f i ≠ m := fun e => hx ⟨i, hi, e⟩
        omega) h2
      omega
/-- two of them in one place -/
theorem fb_twice {m n : Nat} {f : Nat → Nat} (h : ∀ i, i < n → f i < m) (hm : m < n) : ∃ i j, i < j ∧ j < n ∧ f i = f j := by
  refine Classical.byContradiction fun hx => ?_
  have := fb_holes m n f h (fun i j hij hj e => hx ⟨i, j, hij, hj, e⟩)
  omega
/-- as many as places, none twice: each place is taken -/
theorem fb_onto {n : Nat} {f : Nat → Nat} (h : ∀ i, i < n → f i < n) (h2 : ∀ i j, i < j → j < n → f i ≠ f j) {y : Nat} (hy : y < n) : ∃ i, i < n ∧ f i = y := by
  refine Classical.byContradiction fun hx => ?_
  have hne : ∀ i, i < n → f i ≠ y := fun i hi e => hx ⟨i, hi, e⟩
  have := fb_holes (n - 1) n (fun i => if f i < y then f i else f i - 1) (by
    intro i hi
    have b1 := h i hi
    have b2 := hne i hi
    by_cases q : f i < y
    · simp only [if_pos q]; omega
    · simp only [if_neg q]; omega) (by
    intro i j hij hj
    have b1 := hne i (by omega)
    have b2 := hne j hj
    have b3 := h2 i j hij hj
    by_cases q : f i < y
    · by_cases r : f j < y
      · simp only [if_pos q, if_pos r]; exact b3
      · simp only [if_pos q, if_neg r]; omega
    · by_cases r : f j < y
      · simp only [if_neg q, if_pos r]; omega
      · simp only [if_neg q, if_neg r]; omega)
  omega
/-! ===== how many places have a property ===== -/
def fb_ct (p : Nat → Bool) : Nat → Nat
  | 0 => 0
  | n + 1 => fb_ct p n + (if p n then 1 else 0)
theorem fb_ct_succ (p : Nat → Bool) (n : Nat) : fb_ct p (n + 1) = fb_ct p n + (if p n then 1 else 0) := rfl
theorem fb_ct_le (p : Nat → Bool) : ∀ n, fb_ct p n ≤ n
  | 0 => Nat.le_refl _
  | n + 1 => by
    have h := fb_ct_le p n
    rw [fb_ct_succ]
    split <;> omega
theorem fb_ct_step (p : Nat → Bool) (m : Nat) : ∀ n, fb_ct p m ≤ fb_ct p (m + n)
  | 0 => Nat.le_refl _
  | n + 1 => by
    have h := fb_ct_step p m n
    show fb_ct p m ≤ fb_ct p (m + n + 1)
    rw [fb_ct_succ]
    omega
theorem fb_ct_mono (p : Nat → Bool) {m n : Nat} (h : m ≤ n) : fb_ct p m ≤ fb_ct p n := by
  have := fb_ct_step p m (n - m)
  rwa [Nat.add_sub_cancel' h] at this
theorem fb_ct_cong {p q : Nat → Bool} : ∀ {n : Nat}, (∀ k, k < n → p k = q k) → fb_ct p n = fb_ct q n
  | 0, _ => rfl
  | n + 1, h => by
    rw [fb_ct_succ, fb_ct_succ, fb_ct_cong (fun k hk => h k (by omega)), h n (by omega)]
/-- one place changed -/
theorem fb_ct_out (p : Nat → Bool) (b : Bool) {i n : Nat} (h : n ≤ i) : fb_ct (fun k => if k = i then b else p k) n = fb_ct p n :=
  fb_ct_cong fun k hk => if_neg (by omega)
theorem fb_ct_upd (p : Nat → Bool) (b : Bool) {i : Nat} : ∀ {n : Nat}, i < n → fb_ct (fun k => if k = i then b else p k) n + (if p i then 1 else 0) = fb_ct p n + (if b then 1 else 0)
  | 0, h => absurd h (Nat.not_lt_zero i)
  | n + 1, h => by
    rw [fb_ct_succ, fb_ct_succ]
    rcases Nat.lt_or_ge i n with q | q
    · have := fb_ct_upd p b q
      have e : (if n = i then b else p n) = p n := if_neg (by omega)
      rw [e]
      omega
    · have e : i = n := by omega
      subst e
      rw [fb_ct_out p b (Nat.le_refl _)]
      simp only [if_true]
      omega
theorem fb_ct_sub {p q : Nat → Bool} : ∀ {n : Nat}, (∀ k, k < n → p k = true → q k = true) → fb_ct p n ≤ fb_ct q n
  | 0, _ => Nat.le_refl _
  | n + 1, h => by
    have h1 := fb_ct_sub (n := n) (p := p) (q := q) (fun k hk => h k (by omega))
    have h2 := h n (by omega)
    rw [fb_ct_succ, fb_ct_succ]
    cases hp : p n <;> cases hq : q n <;> simp_all <;> omega
theorem fb_ct_or {p q : Nat → Bool} : ∀ {n : Nat}, (∀ k, k < n → ¬ (p k = true ∧ q k = true)) → fb_ct (fun k => p k || q k) n = fb_ct p n + fb_ct q n
  | 0, _ => rfl
  | n + 1, h => by
    have h1 := fb_ct_or (n := n) (p := p) (q := q) (fun k hk => h k (by omega))
    have h2 := h n (by omega)
    rw [fb_ct_succ, fb_ct_succ, fb_ct_succ, h1]
    cases hp : p n <;> cases hq : q n <;> simp_all <;> omega
theorem fb_ct_not (p : Nat → Bool) : ∀ n, fb_ct p n + fb_ct (fun k => !p k) n = n
  | 0 => rfl
  | n + 1 => by
    have h := fb_ct_not p n
    rw [fb_ct_succ, fb_ct_succ]
    cases p n <;> simp <;> omega
theorem fb_ct_split (p : Nat → Bool) (m : Nat) : ∀ n, fb_ct p (m + n) = fb_ct p m + fb_ct (fun k => p (m + k)) n
  | 0 => rfl
  | n + 1 => by
    have h := fb_ct_split p m n
    show fb_ct p (m + n + 1) = _
    rw [fb_ct_succ, fb_ct_succ, h, Nat.add_assoc]
theorem fb_ct_zero {p : Nat → Bool} : ∀ {n : Nat}, fb_ct p n = 0 ↔ ∀ k, k < n → p k = false
  | 0 => ⟨fun _ k hk => absurd hk (Nat.not_lt_zero k), fun _ => rfl⟩
  | n + 1 => by
    have h := fb_ct_zero (p := p) (n := n)
    rw [fb_ct_succ]
    constructor
    · intro e k hk
      have e1 : fb_ct p n = 0 := by omega
      rcases Nat.lt_or_ge k n with q | q
      · exact h.mp e1 k q
      · have ek : k = n := by omega
        subst ek
        cases hp : p k
        · rfl
        · simp [hp] at e
    · intro a
      rw [h.mpr (fun k hk => a k (by omega)), a n (by omega)]
      rfl
theorem fb_ct_pos {p : Nat → Bool} {n : Nat} : 0 < fb_ct p n ↔ ∃ k, k < n ∧ p k = true := by
  constructor
  · intro h
    refine Classical.byContradiction fun hx => ?_
    have := fb_ct_zero.mpr (fun k hk => by
      cases hp : p k
      · rfl
      · exact absurd ⟨k, hk, hp⟩ hx : ∀ k, k < n → p k = false)
    omega
  · rintro ⟨k, hk, hp⟩
    rcases Nat.eq_zero_or_pos (fb_ct p n) with e | e
    · have := fb_ct_zero.mp e k hk
      rw [this] at hp
      cases hp
    · exact e
theorem fb_ct_all {p : Nat → Bool} {n : Nat} : fb_ct p n = n ↔ ∀ k, k < n → p k = true := by
  have h := fb_ct_not p n
  constructor
  · intro e k hk
    have z : fb_ct (fun k => !p k) n = 0 := by omega
    have := fb_ct_zero.mp z k hk
    cases hp : p k
    · simp [hp] at this
    · rfl
  · intro a
    have z : fb_ct (fun k => !p k) n = 0 := fb_ct_zero.mpr (fun k hk => by simp [a k hk])
    omega
/-- the k-th place with the property -/
theorem fb_ct_kth {p : Nat → Bool} {k : Nat} : ∀ {n : Nat}, k < fb_ct p n → ∃ i, i < n ∧ p i = true ∧ fb_ct p i = k
  | 0, h => absurd h (Nat.not_lt_zero k)
  | n + 1, h => by
    rcases Nat.lt_or_ge k (fb_ct p n) with q | q
    · obtain ⟨i, h1, h2⟩ := fb_ct_kth q
      exact ⟨i, by omega, h2⟩
    · rw [fb_ct_succ] at h
      cases hp : p n
      · simp [hp] at h; omega
      · simp [hp] at h
        exact ⟨n, by omega, hp, by omega⟩
theorem fb_ct_kth_one {p : Nat → Bool} {i j : Nat} (hi : p i = true) (hj : p j = true) (e : fb_ct p i = fb_ct p j) : i = j := by
  have key : ∀ a b : Nat, a < b → p a = true → fb_ct p a < fb_ct p b := by
    intro a b hab ha
    have h := fb_ct_mono p (show a + 1 ≤ b from hab)
    rw [fb_ct_succ, ha] at h
    simp at h
    omega
  rcases Nat.lt_trichotomy i j with q | q | q
  · have := key i j q hi; omega
  · exact q
  · have := key j i q hj; omega
/-! ===== sums over a range: one place changed, parts, bounds ===== -/
def fb_sm (f : Nat → Nat) : Nat → Nat
  | 0 => 0
  | n + 1 => fb_sm f n + f n
theorem fb_sm_succ (f : Nat → Nat) (n : Nat) : fb_sm f (n + 1) = fb_sm f n + f n := rfl
theorem fb_sm_cong {f g : Nat → Nat} : ∀ {n : Nat}, (∀ k, k < n → f k = g k) → fb_sm f n = fb_sm g n
  | 0, _ => rfl
  | n + 1, h => by rw [fb_sm_succ, fb_sm_succ, fb_sm_cong (fun k hk => h k (by omega)), h n (by omega)]
theorem fb_sm_out (f : Nat → Nat) (v : Nat) {i n : Nat} (h : n ≤ i) : fb_sm (fun k => if k = i then v else f k) n = fb_sm f n :=
  fb_sm_cong fun k hk => if_neg (by omega)
theorem fb_sm_upd (f : Nat → Nat) (v : Nat) {i : Nat} : ∀ {n : Nat}, i < n → fb_sm (fun k => if k = i then v else f k) n + f i = fb_sm f n + v
  | 0, h => absurd h (Nat.not_lt_zero i)
  | n + 1, h => by
    rw [fb_sm_succ, fb_sm_succ]
    rcases Nat.lt_or_ge i n with q | q
    · have := fb_sm_upd f v q
      have e : (if n = i then v else f n) = f n := if_neg (by omega)
      rw [e]
      omega
    · have e : i = n := by omega
      subst e
      rw [fb_sm_out f v (Nat.le_refl _)]
      simp only [if_true]
      omega
theorem fb_sm_add (f g : Nat → Nat) : ∀ n, fb_sm (fun k => f k + g k) n = fb_sm f n + fb_sm g n
  | 0 => rfl
  | n + 1 => by
    have h := fb_sm_add f g n
    rw [fb_sm_succ, fb_sm_succ, fb_sm_succ, h]
    omega
theorem fb_sm_le {f g : Nat → Nat} : ∀ {n : Nat}, (∀ k, k < n → f k ≤ g k) → fb_sm f n ≤ fb_sm g n
  | 0, _ => Nat.le_refl _
  | n + 1, h => by
    have h1 := fb_sm_le (n := n) (f := f) (g := g) (fun k hk => h k (by omega))
    have h2 := h n (by omega)
    rw [fb_sm_succ, fb_sm_succ]
    omega
theorem fb_sm_const (c : Nat) : ∀ n, fb_sm (fun _ => c) n = n * c
  | 0 => by rw [Nat.zero_mul]; rfl
  | n + 1 => by rw [fb_sm_succ, fb_sm_const c n, Nat.succ_mul]
theorem fb_sm_bound {f : Nat → Nat} {c n : Nat} (h : ∀ k, k < n → f k ≤ c) : fb_sm f n ≤ n * c := by
  rw [← fb_sm_const c n]
  exact fb_sm_le h
theorem fb_sm_mono (f : Nat → Nat) (m : Nat) : ∀ n, fb_sm f m ≤ fb_sm f (m + n)
  | 0 => Nat.le_refl _
  | n + 1 => by
    have h := fb_sm_mono f m n
    show fb_sm f m ≤ fb_sm f (m + n + 1)
    rw [fb_sm_succ]
    omega
theorem fb_sm_part (f : Nat → Nat) {i n : Nat} (h : i < n) : fb_sm f i + f i ≤ fb_sm f n := by
  have := fb_sm_mono f (i + 1) (n - (i + 1))
  rw [fb_sm_succ, show i + 1 + (n - (i + 1)) = n by omega] at this
  exact this
theorem fb_sm_split (f : Nat → Nat) (m : Nat) : ∀ n, fb_sm f (m + n) = fb_sm f m + fb_sm (fun k => f (m + k)) n
  | 0 => rfl
  | n + 1 => by
    have h := fb_sm_split f m n
    show fb_sm f (m + n + 1) = _
    rw [fb_sm_succ, fb_sm_succ, h, Nat.add_assoc]
theorem fb_sm_zero {f : Nat → Nat} {n : Nat} (h : fb_sm f n = 0) : ∀ k, k < n → f k = 0 := fun k hk => by
  have := fb_sm_part f hk
  omega
/-- the same over whole numbers -/
def fb_si (f : Nat → Int) : Nat → Int
  | 0 => 0
  | n + 1 => fb_si f n + f n
theorem fb_si_succ (f : Nat → Int) (n : Nat) : fb_si f (n + 1) = fb_si f n + f n := rfl
theorem fb_si_cong {f g : Nat → Int} : ∀ {n : Nat}, (∀ k, k < n → f k = g k) → fb_si f n = fb_si g n
  | 0, _ => rfl
  | n + 1, h => by rw [fb_si_succ, fb_si_succ, fb_si_cong (fun k hk => h k (by omega)), h n (by omega)]
theorem fb_si_out (f : Nat → Int) (v : Int) {i n : Nat} (h : n ≤ i) : fb_si (fun k => if k = i then v else f k) n = fb_si f n :=
  fb_si_cong fun k hk => if_neg (by omega)
theorem fb_si_upd (f : Nat → Int) (v : Int) {i : Nat} : ∀ {n : Nat}, i < n → fb_si (fun k => if k = i then v else f k) n = fb_si f n - f i + v
  | 0, h => absurd h (Nat.not_lt_zero i)
  | n + 1, h => by
    rw [fb_si_succ, fb_si_succ]
    rcases Nat.lt_or_ge i n with q | q
    · have := fb_si_upd f v q
      have e : (if n = i then v else f n) = f n := if_neg (by omega)
      rw [e]
      omega
    · have e : i = n := by omega
      subst e
      rw [fb_si_out f v (Nat.le_refl _)]
      simp only [if_true]
      omega
theorem fb_si_add (f g : Nat → Int) : ∀ n, fb_si (fun k => f k + g k) n = fb_si f n + fb_si g n
  | 0 => rfl
  | n + 1 => by
    have h := fb_si_add f g n
    rw [fb_si_succ, fb_si_succ, fb_si_succ, h]
    omega
theorem fb_si_sub (f g : Nat → Int) : ∀ n, fb_si (fun k => f k - g k) n = fb_si f n - fb_si g n
  | 0 => rfl
  | n + 1 => by
    have h := fb_si_sub f g n
    rw [fb_si_succ, fb_si_succ, fb_si_succ, h]
    omega
theorem fb_si_mul (c : Int) (f : Nat → Int) : ∀ n, fb_si (fun k => c * f k) n = c * fb_si f n
  | 0 => (Int.mul_zero c).symm
  | n + 1 => by
    have h := fb_si_mul c f n
    rw [fb_si_succ, fb_si_succ, h, Int.mul_add]
theorem fb_si_split (f : Nat → Int) (m : Nat) : ∀ n, fb_si f (m + n) = fb_si f m + fb_si (fun k => f (m + k)) n
  | 0 => (Int.add_zero _).symm
  | n + 1 => by
    have h := fb_si_split f m n
    show fb_si f (m + n + 1) = _
    rw [fb_si_succ, fb_si_succ, h, Int.add_assoc]
theorem fb_si_nat (f : Nat → Nat) : ∀ n, fb_si (fun k => (f k : Int)) n = (fb_sm f n : Int)
  | 0 => rfl
  | n + 1 => by
    have h := fb_si_nat f n
    rw [fb_si_succ, fb_sm_succ, h]
    omega
theorem fb_si_bound {f : Nat → Int} {c : Int} (hc : 0 ≤ c) : ∀ {n : Nat}, (∀ k, k < n → -c ≤ f k ∧ f k ≤ c) → -(n * c) ≤ fb_si f n ∧ fb_si f n ≤ n * c
  | 0, _ => by simp [fb_si]
  | n + 1, h => by
    have h1 := fb_si_bound (n := n) (f := f) hc (fun k hk => h k (by omega))
    have h2 := h n (by omega)
    have e : ((n + 1 : Nat) : Int) * c = n * c + c := by rw [Int.natCast_add, Int.add_mul]; simp
    rw [fb_si_succ, e]
    omega
/-! ===== bits of a long that isn't negative ===== -/
theorem fb_andL (a b : Nat) : lN a &&& lN b = lN (a &&& b) := by
  apply Int64.toBitVec_inj.1
  show BitVec.ofNat 64 a &&& BitVec.ofNat 64 b = BitVec.ofNat 64 (a &&& b)
  apply BitVec.eq_of_getLsbD_eq
  intro i hi
  simp [hi]
theorem fb_orL (a b : Nat) : lN a ||| lN b = lN (a ||| b) := by
  apply Int64.toBitVec_inj.1
  show BitVec.ofNat 64 a ||| BitVec.ofNat 64 b = BitVec.ofNat 64 (a ||| b)
  apply BitVec.eq_of_getLsbD_eq
  intro i hi
  simp [hi]
theorem fb_xorL (a b : Nat) : lN a ^^^ lN b = lN (a ^^^ b) := by
  apply Int64.toBitVec_inj.1
  show BitVec.ofNat 64 a ^^^ BitVec.ofNat 64 b = BitVec.ofNat 64 (a ^^^ b)
  apply BitVec.eq_of_getLsbD_eq
  intro i hi
  simp [hi]
theorem fb_xorI (a b : Nat) : nI a ^^^ nI b = nI (a ^^^ b) := by
  apply Int32.toBitVec_inj.1
  show BitVec.ofNat 32 a ^^^ BitVec.ofNat 32 b = BitVec.ofNat 32 (a ^^^ b)
  apply BitVec.eq_of_getLsbD_eq
  intro i hi
  simp [hi]
theorem fb_maskL (n k : Nat) : lN n &&& lN (2 ^ k - 1) = lN (n % 2 ^ k) := by rw [fb_andL, Nat.and_two_pow_sub_one_eq_mod]
theorem fb_or_sumL {a k : Nat} (b : Nat) (h : a < 2 ^ k) : lN (2 ^ k * b) ||| lN a = lN (2 ^ k * b + a) := by rw [fb_orL, Nat.two_pow_add_eq_or_of_lt h]
theorem fb_lN_inj {a b : Nat} (ha : a < 2 ^ 63) (hb : b < 2 ^ 63) : lN a = lN b ↔ a = b := by
  constructor
  · intro h
    have h1 : (BitVec.ofNat 64 a).toNat = (BitVec.ofNat 64 b).toNat := congrArg (fun x : Int64 => x.toBitVec.toNat) h
    rw [BitVec.toNat_ofNat, BitVec.toNat_ofNat, Nat.mod_eq_of_lt (by omega), Nat.mod_eq_of_lt (by omega)] at h1
    exact h1
  · rintro rfl; rfl
theorem fb_bit_nat (n j : Nat) : n &&& 2 ^ j = 0 ↔ n.testBit j = false := by
  constructor
  · intro h
    have h1 : (n &&& 2 ^ j).testBit j = false := by rw [h]; simp
    rw [Nat.testBit_and] at h1
    simpa using h1
  · intro h
    apply Nat.eq_of_testBit_eq
    intro i
    rw [Nat.testBit_and]
    by_cases hi : j = i
    · subst hi; simp [h]
    · first | (simp [Nat.testBit_two_pow, hi]; done) | (simp [Nat.testBit_two_pow_of_ne hi]; done)
/-- one bit of a long -/
theorem fb_bitL {n j : Nat} (hj : j < 63) : lN n &&& lN (2 ^ j) = 0 ↔ n.testBit j = false := by
  have h2 : (2 : Nat) ^ j < 2 ^ 63 := Nat.pow_lt_pow_right (by decide) hj
  have hle : n &&& 2 ^ j ≤ 2 ^ j := Nat.and_le_right
  rw [fb_andL, ← fb_bit_nat, show (0 : Int64) = lN 0 from rfl]
  exact fb_lN_inj (by omega) (by decide)
/-- a bit set, a bit taken off -/
theorem fb_bit_set (n j i : Nat) : (n ||| 2 ^ j).testBit i = (n.testBit i || decide (i = j)) := by
  rw [Nat.testBit_or]
  by_cases h : j = i
  · subst h; simp
  · have h2 : ¬ i = j := fun e => h e.symm
    first | (simp [Nat.testBit_two_pow, h, h2]; done) | (simp [Nat.testBit_two_pow_of_ne h, h2]; done)
theorem fb_bit_flip (n j i : Nat) : (n ^^^ 2 ^ j).testBit i = (n.testBit i ^^ decide (i = j)) := by
  rw [Nat.testBit_xor]
  by_cases h : j = i
  · subst h; simp
  · have h2 : ¬ i = j := fun e => h e.symm
    first | (simp [Nat.testBit_two_pow, h, h2]; done) | (simp [Nat.testBit_two_pow_of_ne h, h2]; done)
/-! ===== a stretch of an array written over by a function ===== -/
def fb_put {α : Type} (f g : Nat → α) (a n : Nat) : Nat → α := fun k => if a ≤ k ∧ k < a + n then g (k - a) else f k
theorem fb_put_0 {α : Type} (f g : Nat → α) (a : Nat) : fb_put f g a 0 = f := funext fun k => if_neg (by omega)
theorem fb_put_in {α : Type} {f g : Nat → α} {a n k : Nat} (h1 : a ≤ k) (h2 : k < a + n) : fb_put f g a n k = g (k - a) := if_pos ⟨h1, h2⟩
theorem fb_put_out {α : Type} {f g : Nat → α} {a n k : Nat} (h : k < a ∨ a + n ≤ k) : fb_put f g a n k = f k := if_neg (by omega)
theorem fb_put_succ (f g : Nat → Int32) (a n : Nat) : upd (fb_put f g a n) (a + n) (g n) = fb_put f g a (n + 1) := by
  funext k
  by_cases h : k = a + n
  · subst h
    simp [upd, fb_put]
  · by_cases h1 : a ≤ k ∧ k < a + n
    · have h2 : a ≤ k ∧ k < a + (n + 1) := by omega
      simp only [upd, fb_put, if_neg h, if_pos h1, if_pos h2]
    · have h2 : ¬ (a ≤ k ∧ k < a + (n + 1)) := by omega
      simp only [upd, fb_put, if_neg h, if_neg h1, if_neg h2]
/-- .. from the far end down -/
theorem fb_put_down (f g : Nat → Int32) {a n m : Nat} (h : m < n) : upd (fb_put f (fun k => g (k + (m + 1))) (a + (m + 1)) (n - (m + 1))) (a + m) (g m) = fb_put f (fun k => g (k + m)) (a + m) (n - m) := by
  funext k
  by_cases h0 : k = a + m
  · subst h0
    simp only [upd, if_true]
    rw [fb_put_in (by omega) (by omega)]
    exact congrArg g (by omega)
  · simp only [upd, if_neg h0]
    by_cases h1 : a + (m + 1) ≤ k ∧ k < a + (m + 1) + (n - (m + 1))
    · rw [fb_put_in h1.1 h1.2, fb_put_in (by omega) (by omega)]
      exact congrArg g (by omega)
    · rw [fb_put_out (by omega), fb_put_out (by omega)]
theorem fb_put_cong {α : Type} {f f2 g g2 : Nat → α} {a n : Nat} (hf : ∀ k, (k < a ∨ a + n ≤ k) → f k = f2 k) (hg : ∀ k, k < n → g k = g2 k) : fb_put f g a n = fb_put f2 g2 a n := by
  funext k
  by_cases h : a ≤ k ∧ k < a + n
  · rw [fb_put_in h.1 h.2, fb_put_in h.1 h.2, hg _ (by omega)]
  · rw [fb_put_out (by omega), fb_put_out (by omega), hf _ (by omega)]
/-! ===== the least, the first, the best so far; that there is one alone ===== -/
theorem fb_first {p : Nat → Prop} [DecidablePred p] : ∀ {n : Nat}, (∃ i, i < n ∧ p i) → ∃ i, i < n ∧ p i ∧ ∀ j, j < i → ¬ p j
  | 0, h => by obtain ⟨i, hi, -⟩ := h; exact absurd hi (Nat.not_lt_zero i)
  | n + 1, h => by
    by_cases q : ∃ i, i < n ∧ p i
    · obtain ⟨i, h1, h2⟩ := fb_first q
      exact ⟨i, by omega, h2⟩
    · obtain ⟨i, h1, h2⟩ := h
      have e : i = n := by
        rcases Nat.lt_or_ge i n with r | r
        · exact absurd ⟨i, r, h2⟩ q
        · omega
      subst e
      exact ⟨i, by omega, h2, fun j hj hp => q ⟨j, hj, hp⟩⟩
theorem fb_first_one {p : Nat → Prop} {i j : Nat} (hi : p i) (hi2 : ∀ k, k < i → ¬ p k) (hj : p j) (hj2 : ∀ k, k < j → ¬ p k) : i = j := by
  rcases Nat.lt_trichotomy i j with q | q | q
  · exact absurd hi (hj2 i q)
  · exact q
  · exact absurd hj (hi2 j q)
theorem fb_last {p : Nat → Prop} [DecidablePred p] : ∀ {n : Nat}, (∃ i, i < n ∧ p i) → ∃ i, i < n ∧ p i ∧ ∀ j, i < j → j < n → ¬ p j
  | 0, h => by obtain ⟨i, hi, -⟩ := h; exact absurd hi (Nat.not_lt_zero i)
  | n + 1, h => by
    by_cases q : p n
    · exact ⟨n, by omega, q, fun j h1 h2 => by omega⟩
    · obtain ⟨i, h1, h2⟩ := h
      have hi : i < n := by
        rcases Nat.lt_or_ge i n with r | r
        · exact r
        · have e : i = n := by omega
          subst e
          exact absurd h2 q
      obtain ⟨i2, a1, a2, a3⟩ := fb_last (n := n) ⟨i, hi, h2⟩
      refine ⟨i2, by omega, a2, fun j b1 b2 => ?_⟩
      rcases Nat.lt_or_ge j n with r | r
      · exact a3 j b1 r
      · have e : j = n := by omega
        subst e
        exact q
/-- the first greatest -/
theorem fb_best (f : Nat → Int) : ∀ {n : Nat}, 0 < n → ∃ i, i < n ∧ (∀ j, j < n → f j ≤ f i) ∧ ∀ j, j < i → f j < f i
  | 0, h => absurd h (Nat.lt_irrefl 0)
  | 1, _ => ⟨0, by omega, fun j hj => by have e : j = 0 := by omega
                                         subst e; exact Int.le_refl _, fun j hj => absurd hj (Nat.not_lt_zero j)⟩
  | n + 2, _ => by
    obtain ⟨i, h1, h2, h3⟩ := fb_best f (n := n + 1) (by omega)
    by_cases q : f i < f (n + 1)
    · refine ⟨n + 1, by omega, fun j hj => ?_, fun j hj => ?_⟩
      · rcases Nat.lt_or_ge j (n + 1) with r | r
        · have := h2 j r; omega
        · have e : j = n + 1 := by omega
          subst e; exact Int.le_refl _
      · have := h2 j hj; omega
    · refine ⟨i, by omega, fun j hj => ?_, h3⟩
      rcases Nat.lt_or_ge j (n + 1) with r | r
      · exact h2 j r
      · have e : j = n + 1 := by omega
        subst e; omega
theorem fb_best_one {f : Nat → Int} {n i j : Nat} (hi : i < n) (hi2 : ∀ k, k < n → f k ≤ f i) (hi3 : ∀ k, k < i → f k < f i) (hj : j < n) (hj2 : ∀ k, k < n → f k ≤ f j) (hj3 : ∀ k, k < j → f k < f j) : i = j := by
  rcases Nat.lt_trichotomy i j with q | q | q
  · have a := hj3 i q
    have b := hi2 j hj
    omega
  · exact q
  · have a := hi3 j q
    have b := hj2 i hi
    omega
/-- the first least -/
theorem fb_low (f : Nat → Int) {n : Nat} (h : 0 < n) : ∃ i, i < n ∧ (∀ j, j < n → f i ≤ f j) ∧ ∀ j, j < i → f i < f j := by
  obtain ⟨i, h1, h2, h3⟩ := fb_best (fun k => -f k) h
  exact ⟨i, h1, fun j hj => by have := h2 j hj; omega, fun j hj => by have := h3 j hj; omega⟩
/-! ===== signed ints as whole numbers, within bounds ===== -/
theorem fb_rng (x : Int32) : -2147483648 ≤ x.toInt ∧ x.toInt < 2147483648 := by
  have h1 := Int32.le_toInt x
  have h2 := Int32.toInt_lt x
  omega
theorem fb_bmod {z : Int} (h1 : -2147483648 ≤ z) (h2 : z < 2147483648) : z.bmod (2 ^ 32) = z := by
  rw [Int.bmod_eq_of_le (by omega) (by omega)]
theorem fb_addI {x y : Int32} (h1 : -2147483648 ≤ x.toInt + y.toInt) (h2 : x.toInt + y.toInt < 2147483648) : (x + y).toInt = x.toInt + y.toInt := by
  rw [Int32.toInt_add, fb_bmod h1 h2]
theorem fb_subI {x y : Int32} (h1 : -2147483648 ≤ x.toInt - y.toInt) (h2 : x.toInt - y.toInt < 2147483648) : (x - y).toInt = x.toInt - y.toInt := by
  rw [Int32.toInt_sub, fb_bmod h1 h2]
theorem fb_mulI {x y : Int32} (h1 : -2147483648 ≤ x.toInt * y.toInt) (h2 : x.toInt * y.toInt < 2147483648) : (x * y).toInt = x.toInt * y.toInt := by
  rw [Int32.toInt_mul, fb_bmod h1 h2]
theorem fb_negI {x : Int32} (h : x.toInt ≠ -2147483648) : (-x).toInt = -x.toInt := by
  have := fb_rng x
  rw [Int32.toInt_neg, fb_bmod (by omega) (by omega)]
theorem fb_ofI {z : Int} (h1 : -2147483648 ≤ z) (h2 : z < 2147483648) : (Int32.ofInt z).toInt = z := by
  rw [Int32.toInt_ofInt, fb_bmod h1 h2]
theorem fb_asI (x : Int32) : Int32.ofInt x.toInt = x := Int32.ofInt_toInt x
theorem fb_rngL (x : Int64) : -9223372036854775808 ≤ x.toInt ∧ x.toInt < 9223372036854775808 := by
  have h1 := Int64.le_toInt x
  have h2 := Int64.toInt_lt x
  omega
theorem fb_bmodL {z : Int} (h1 : -9223372036854775808 ≤ z) (h2 : z < 9223372036854775808) : z.bmod (2 ^ 64) = z := by
  rw [Int.bmod_eq_of_le (by omega) (by omega)]
theorem fb_addL {x y : Int64} (h1 : -9223372036854775808 ≤ x.toInt + y.toInt) (h2 : x.toInt + y.toInt < 9223372036854775808) : (x + y).toInt = x.toInt + y.toInt := by
  rw [Int64.toInt_add, fb_bmodL h1 h2]
theorem fb_subL {x y : Int64} (h1 : -9223372036854775808 ≤ x.toInt - y.toInt) (h2 : x.toInt - y.toInt < 9223372036854775808) : (x - y).toInt = x.toInt - y.toInt := by
  rw [Int64.toInt_sub, fb_bmodL h1 h2]
theorem fb_mulL {x y : Int64} (h1 : -9223372036854775808 ≤ x.toInt * y.toInt) (h2 : x.toInt * y.toInt < 9223372036854775808) : (x * y).toInt = x.toInt * y.toInt := by
  rw [Int64.toInt_mul, fb_bmodL h1 h2]
/-! ===== cuts of what is narrow already ===== -/
theorem fb_byte {x : Int32} (h1 : -128 ≤ x.toInt) (h2 : x.toInt < 128) : x.toInt8.toInt32 = x := by
  apply Int32.toInt_inj.1
  rw [Int8.toInt_toInt32, Int32.toInt_toInt8, Int.bmod_eq_of_le (by omega) (by omega)]
theorem fb_short {x : Int32} (h1 : -32768 ≤ x.toInt) (h2 : x.toInt < 32768) : x.toInt16.toInt32 = x := by
  apply Int32.toInt_inj.1
  rw [Int16.toInt_toInt32, Int32.toInt_toInt16, Int.bmod_eq_of_le (by omega) (by omega)]
theorem fb_byte_rng (x : Int32) : -128 ≤ x.toInt8.toInt32.toInt ∧ x.toInt8.toInt32.toInt < 128 := by
  rw [Int8.toInt_toInt32]
  have h1 := Int8.le_toInt x.toInt8
  have h2 := Int8.toInt_lt x.toInt8
  omega
theorem fb_short_rng (x : Int32) : -32768 ≤ x.toInt16.toInt32.toInt ∧ x.toInt16.toInt32.toInt < 32768 := by
  rw [Int16.toInt_toInt32]
  have h1 := Int16.le_toInt x.toInt16
  have h2 := Int16.toInt_lt x.toInt16
  omega
theorem fb_byte_twice (x : Int32) : x.toInt8.toInt32.toInt8.toInt32 = x.toInt8.toInt32 := fb_byte (fb_byte_rng x).1 (fb_byte_rng x).2
theorem fb_short_twice (x : Int32) : x.toInt16.toInt32.toInt16.toInt32 = x.toInt16.toInt32 := fb_short (fb_short_rng x).1 (fb_short_rng x).2
theorem fb_char {n : Nat} (h : n < 65536) : (nI n).toUInt32.toUInt16.toUInt32.toInt32 = nI n := by
  apply Int32.toBitVec_inj.1
  apply BitVec.eq_of_toNat_eq
  have e1 : (nI n).toBitVec.toNat = n := by
    show (BitVec.ofNat 32 n).toNat = n
    rw [BitVec.toNat_ofNat, Nat.mod_eq_of_lt (by omega)]
  have e2 : ((nI n).toUInt32.toUInt16.toUInt32).toNat = n := by
    rw [UInt16.toNat_toUInt32, UInt32.toNat_toUInt16]
    show (nI n).toBitVec.toNat % 2 ^ 16 = n
    rw [e1, Nat.mod_eq_of_lt (by omega)]
  rw [e1]
  exact e2
/-! plain facts on numbers and arrays, to paste: each family by itself; over the kit's rows on nI and upd -/
/-! ===== order of ints, in all its forms, and through longs ===== -/
theorem fa_lt (a b : Int32) : a < b ↔ a.toInt < b.toInt := Int32.lt_iff_toInt_lt
theorem fa_le (a b : Int32) : a ≤ b ↔ a.toInt ≤ b.toInt := Int32.le_iff_toInt_le
theorem fa_eq (a b : Int32) : a = b ↔ a.toInt = b.toInt := Int32.toInt_inj.symm
theorem fa_lt64 (a b : Int64) : a < b ↔ a.toInt < b.toInt := Int64.lt_iff_toInt_lt
theorem fa_le64 (a b : Int64) : a ≤ b ↔ a.toInt ≤ b.toInt := Int64.le_iff_toInt_le
theorem fa_eq64 (a b : Int64) : a = b ↔ a.toInt = b.toInt := Int64.toInt_inj.symm
/-- a comparison of two ints taken as longs -/
theorem fa_wide_lt (a b : Int32) : a.toInt64 < b.toInt64 ↔ a < b := by rw [fa_lt64, fa_lt, Int32.toInt_toInt64, Int32.toInt_toInt64]
theorem fa_wide_le (a b : Int32) : a.toInt64 ≤ b.toInt64 ↔ a ≤ b := by rw [fa_le64, fa_le, Int32.toInt_toInt64, Int32.toInt_toInt64]
theorem fa_wide_eq (a b : Int32) : a.toInt64 = b.toInt64 ↔ a = b := by rw [fa_eq64, fa_eq, Int32.toInt_toInt64, Int32.toInt_toInt64]
/-- one strict comparison gives all the others -/
theorem fa_of_lt {a b : Int32} (h : a < b) : a ≤ b ∧ ¬ b ≤ a ∧ ¬ b < a ∧ a ≠ b ∧ b ≠ a := by
  rw [fa_lt] at h
  refine ⟨?_, ?_, ?_, ?_, ?_⟩
  · rw [fa_le]; omega
  · rw [fa_le]; omega
  · rw [fa_lt]; omega
  · intro e; rw [fa_eq] at e; omega
  · intro e; rw [fa_eq] at e; omega
theorem fa_of_nlt {a b : Int32} (h : ¬ a < b) : b ≤ a := by
  rw [fa_lt] at h
  rw [fa_le]
  omega
theorem fa_of_nle {a b : Int32} (h : ¬ a ≤ b) : b < a := by
  rw [fa_le] at h
  rw [fa_lt]
  omega
theorem fa_le_ne {a b : Int32} (h : a ≤ b) (h2 : a ≠ b) : a < b := by
  rw [fa_le] at h
  rw [fa_lt]
  have h3 : a.toInt ≠ b.toInt := fun e => h2 ((fa_eq a b).mpr e)
  omega
theorem fa_three (a b : Int32) : a < b ∨ a = b ∨ b < a := by
  rw [fa_lt, fa_lt, fa_eq]
  omega
theorem fa_trans {a b c : Int32} (h : a < b) (h2 : b ≤ c) : a < c := by
  rw [fa_lt] at *
  rw [fa_le] at h2
  omega
/-! ===== small literals as numbers ===== -/
theorem fa_lit (n : Nat) : (OfNat.ofNat n : Int32) = nI n := rfl
theorem fa_litL (n : Nat) : (OfNat.ofNat n : Int64) = lN n := rfl
/-! ===== bits of a number: 'or', masks, one bit ===== -/
theorem fa_and (a b : Nat) : nI a &&& nI b = nI (a &&& b) := by
  apply Int32.toBitVec_inj.1
  show BitVec.ofNat 32 a &&& BitVec.ofNat 32 b = BitVec.ofNat 32 (a &&& b)
  apply BitVec.eq_of_getLsbD_eq
  intro i hi
  simp [hi]
theorem fa_or (a b : Nat) : nI a ||| nI b = nI (a ||| b) := by
  apply Int32.toBitVec_inj.1
  show BitVec.ofNat 32 a ||| BitVec.ofNat 32 b = BitVec.ofNat 32 (a ||| b)
  apply BitVec.eq_of_getLsbD_eq
  intro i hi
  simp [hi]
/-- a remainder by a power of two, as a mask -/
theorem fa_mask (n k : Nat) : nI n &&& nI (2 ^ k - 1) = nI (n % 2 ^ k) := by rw [fa_and, Nat.and_two_pow_sub_one_eq_mod]
/-- 'or' of a high part and a low one that don't meet is their sum -/
theorem fa_or_sum {a k : Nat} (b : Nat) (h : a < 2 ^ k) : nI (2 ^ k * b) ||| nI a = nI (2 ^ k * b + a) := by rw [fa_or, Nat.two_pow_add_eq_or_of_lt h]
/-- one bit, by 'and' with a power of two -/
theorem fa_bit {n j : Nat} (hj : j < 31) : nI n &&& nI (2 ^ j) = 0 ↔ n.testBit j = false := by
  have h2 : (2 : Nat) ^ j < 2 ^ 31 := Nat.pow_lt_pow_right (by decide) hj
  have hle : n &&& 2 ^ j ≤ 2 ^ j := Nat.and_le_right
  have e : n &&& 2 ^ j = 0 ↔ n.testBit j = false := by
    constructor
    · intro h
      have h1 : (n &&& 2 ^ j).testBit j = false := by rw [h]; simp
      rw [Nat.testBit_and] at h1
      first | simpa using h1 | simpa [Nat.testBit_two_pow_self] using h1 | simpa [Nat.testBit_two_pow] using h1
    · intro h
      apply Nat.eq_of_testBit_eq
      intro i
      rw [Nat.testBit_and]
      by_cases hi : j = i
      · subst hi; simp [h]
      · first | (simp [Nat.testBit_two_pow, hi]; done) | (simp [Nat.testBit_two_pow_of_ne hi]; done)
  rw [fa_and]
  constructor
  · intro h
    apply e.mp
    rcases Nat.eq_zero_or_pos (n &&& 2 ^ j) with z | z
    · exact z
    · exact absurd h (nI_ne0 z (Nat.lt_of_le_of_lt hle h2))
  · intro h
    rw [e.mpr h]; exact nI_0
/-- a remainder by a power of two of a number that isn't negative, as Java divides -/
theorem fa_rem {a k : Nat} (ha : a < 2 ^ 31) (hk : k < 31) : nI a - nI a / nI (2 ^ k) * nI (2 ^ k) = nI (a % 2 ^ k) := pk_rem ha (Nat.two_pow_pos k) (Nat.pow_lt_pow_right (by decide) hk)
/-! ===== cuts to a byte, a short ===== -/
theorem fa_byte_xor (x y : Int32) : (x ^^^ y).toInt8 = x.toInt8 ^^^ y.toInt8 := by
  apply Int8.toBitVec_inj.1
  apply BitVec.eq_of_getLsbD_eq
  intro i hi
  first | (simp [hi]; done) | (simp [hi, BitVec.getLsbD_setWidth, BitVec.getLsbD_signExtend]; done)
theorem fa_short_xor (x y : Int32) : (x ^^^ y).toInt16 = x.toInt16 ^^^ y.toInt16 := by
  apply Int16.toBitVec_inj.1
  apply BitVec.eq_of_getLsbD_eq
  intro i hi
  first | (simp [hi]; done) | (simp [hi, BitVec.getLsbD_setWidth, BitVec.getLsbD_signExtend]; done)
/-- the cut to a byte sees the low byte alone -/
theorem fa_byte_low (x : Int32) : (x &&& 255).toInt8 = x.toInt8 := by
  apply Int8.toBitVec_inj.1
  apply BitVec.eq_of_getLsbD_eq
  intro i hi
  have h2 : (255 : Int32).toBitVec.getLsbD i = true := by
    have : ∀ j : Fin 8, (255 : Int32).toBitVec.getLsbD j.val = true := by decide +kernel
    exact this ⟨i, hi⟩
  have h4 : (x &&& 255).toBitVec.getLsbD i = x.toBitVec.getLsbD i := by
    show (x.toBitVec &&& (255 : Int32).toBitVec).getLsbD i = _
    rw [BitVec.getLsbD_and, h2, Bool.and_true]
  have h3 : i < 32 := by omega
  first
    | (show (((x &&& 255).toBitVec).signExtend 8).getLsbD i = (x.toBitVec.signExtend 8).getLsbD i; rw [BitVec.getLsbD_signExtend, BitVec.getLsbD_signExtend, if_pos h3, if_pos h3, h4])
    | (show (((x &&& 255).toBitVec).setWidth 8).getLsbD i = (x.toBitVec.setWidth 8).getLsbD i; rw [BitVec.getLsbD_setWidth, BitVec.getLsbD_setWidth, h4])
    | (simp [hi, h3, h4]; done)
theorem fa_short_low (x : Int32) : (x &&& 65535).toInt16 = x.toInt16 := by
  apply Int16.toBitVec_inj.1
  apply BitVec.eq_of_getLsbD_eq
  intro i hi
  have h2 : (65535 : Int32).toBitVec.getLsbD i = true := by
    have : ∀ j : Fin 16, (65535 : Int32).toBitVec.getLsbD j.val = true := by decide +kernel
    exact this ⟨i, hi⟩
  have h4 : (x &&& 65535).toBitVec.getLsbD i = x.toBitVec.getLsbD i := by
    show (x.toBitVec &&& (65535 : Int32).toBitVec).getLsbD i = _
    rw [BitVec.getLsbD_and, h2, Bool.and_true]
  have h3 : i < 32 := by omega
  first
    | (show (((x &&& 65535).toBitVec).signExtend 16).getLsbD i = (x.toBitVec.signExtend 16).getLsbD i; rw [BitVec.getLsbD_signExtend, BitVec.getLsbD_signExtend, if_pos h3, if_pos h3, h4])
    | (show (((x &&& 65535).toBitVec).setWidth 16).getLsbD i = (x.toBitVec.setWidth 16).getLsbD i; rw [BitVec.getLsbD_setWidth, BitVec.getLsbD_setWidth, h4])
    | (simp [hi, h3, h4]; done)
/-- a small number is its own byte, its own short -/
theorem fa_byte_small {n : Nat} (h : n < 128) : (nI n).toInt8.toInt32 = nI n := by
  have : ∀ j : Fin 128, (nI j.val).toInt8.toInt32 = nI j.val := by decide +kernel
  exact this ⟨n, h⟩
/-! ===== absolute difference ===== -/
theorem fa_absdiff {a b : Nat} (ha : a < 2 ^ 31) (hb : b < 2 ^ 31) : (if nI a < nI b then nI b - nI a else nI a - nI b) = nI (if a < b then b - a else a - b) := by
  by_cases h : a < b
  · rw [if_pos (nI_lt h hb), if_pos h]
    exact pk_sub (Nat.le_of_lt h)
  · rw [if_neg (nI_nlt (Nat.le_of_not_lt h) ha), if_neg h]
    exact pk_sub (Nat.le_of_not_lt h)
/-! ===== an array behind i stores, a conditional store, a row copied ===== -/
/-- f where k < i, what stood there else -/
def fa_fill {α : Type} (f g : Nat → α) (i : Nat) : Nat → α := fun k => if k < i then f k else g k
theorem fa_fill_0 {α : Type} (f g : Nat → α) : fa_fill f g 0 = g := funext fun k => if_neg (Nat.not_lt_zero k)
theorem fa_fill_in {α : Type} {f g : Nat → α} {i k : Nat} (h : k < i) : fa_fill f g i k = f k := if_pos h
theorem fa_fill_out {α : Type} {f g : Nat → α} {i k : Nat} (h : i ≤ k) : fa_fill f g i k = g k := if_neg (Nat.not_lt.mpr h)
theorem fa_fill_succ (f g : Nat → Int32) (i : Nat) : upd (fa_fill f g i) i (f i) = fa_fill f g (i + 1) := by
  funext k
  by_cases e : k = i
  · subst e
    rw [pk_us]
    exact (if_pos (Nat.lt_succ_self k)).symm
  · rw [pk_un e]
    by_cases h : k < i
    · rw [fa_fill_in h, fa_fill_in (Nat.lt_succ_of_lt h)]
    · rw [fa_fill_out (Nat.le_of_not_lt h), fa_fill_out (by omega)]
/-- a store that changes nothing -/
theorem fa_upd_same {f : Nat → Int32} {i : Nat} {x : Int32} (h : f i = x) : upd f i x = f := by
  funext k
  by_cases e : k = i
  · subst e
    rw [pk_us, h]
  · rw [pk_un e]
/-- a store under a condition, told as one -/
theorem fa_upd_if (c : Prop) [Decidable c] (f : Nat → Int32) (i : Nat) (x : Int32) : (if c then upd f i x else f) = upd f i (if c then x else f i) := by
  by_cases h : c
  · rw [if_pos h, if_pos h]
  · rw [if_neg h, if_neg h, fa_upd_same rfl]
/-- two stores at one place, at two -/
theorem fa_upd_twice (f : Nat → Int32) (i : Nat) (x y : Int32) : upd (upd f i x) i y = upd f i y := by
  funext k
  by_cases e : k = i
  · subst e
    rw [pk_us, pk_us]
  · rw [pk_un e, pk_un e, pk_un e]
theorem fa_upd_swap (f : Nat → Int32) {i j : Nat} (h : i ≠ j) (x y : Int32) : upd (upd f i x) j y = upd (upd f j y) i x := by
  funext k
  by_cases e : k = i
  · subst e
    rw [pk_un h, pk_us, pk_us]
  · by_cases e2 : k = j
    · subst e2
      rw [pk_us, pk_un e, pk_us]
    · rw [pk_un e2, pk_un e, pk_un e, pk_un e2]
/-! ===== the first index with a property; a count ===== -/
/-- the first k < n with p k, n if there is none -/
def fa_first (p : Nat → Bool) : Nat → Nat
  | 0 => 0
  | n + 1 => if fa_first p n < n then fa_first p n else if p n then n else n + 1
theorem fa_first_le (p : Nat → Bool) : ∀ n, fa_first p n ≤ n
  | 0 => Nat.le_refl 0
  | n + 1 => by
    have ih := fa_first_le p n
    unfold fa_first
    split
    · omega
    · split
      · omega
      · omega
theorem fa_first_no (p : Nat → Bool) : ∀ n k, k < fa_first p n → p k = false
  | 0, k, h => absurd h (Nat.not_lt_zero k)
  | n + 1, k, h => by
    have ih := fa_first_no p n
    have hl := fa_first_le p n
    unfold fa_first at h
    split at h
    · exact ih k h
    · rename_i h1
      split at h
      · exact ih k (by omega)
      · rename_i h2
        by_cases e : k = n
        · subst e
          exact Bool.eq_false_iff.mpr h2
        · exact ih k (by omega)
theorem fa_first_yes (p : Nat → Bool) : ∀ n, fa_first p n < n → p (fa_first p n) = true
  | 0, h => absurd h (Nat.not_lt_zero _)
  | n + 1, h => by
    have ih := fa_first_yes p n
    have hl := fa_first_le p n
    unfold fa_first at h ⊢
    split at h
    · rename_i h1
      rw [if_pos h1]
      exact ih h1
    · rename_i h1
      rw [if_neg h1]
      split at h
      · rename_i h2
        rw [if_pos h2]
        exact h2
      · omega
/-- how many k < n have p k -/
def fa_cnt (p : Nat → Bool) : Nat → Nat
  | 0 => 0
  | n + 1 => fa_cnt p n + if p n then 1 else 0
theorem fa_cnt_le (p : Nat → Bool) : ∀ n, fa_cnt p n ≤ n
  | 0 => Nat.le_refl 0
  | n + 1 => by
    have ih := fa_cnt_le p n
    unfold fa_cnt
    split
    · omega
    · omega
theorem fa_cnt_yes {p : Nat → Bool} {n : Nat} (h : p n = true) : fa_cnt p (n + 1) = fa_cnt p n + 1 := by rw [fa_cnt, if_pos h]
theorem fa_cnt_no {p : Nat → Bool} {n : Nat} (h : p n = false) : fa_cnt p (n + 1) = fa_cnt p n := by rw [fa_cnt, if_neg (by rw [h]; decide)]; rfl
theorem fa_cnt_cong {p q : Nat → Bool} : ∀ {n : Nat}, (∀ k, k < n → p k = q k) → fa_cnt p n = fa_cnt q n
  | 0, _ => rfl
  | n + 1, h => by rw [fa_cnt, fa_cnt, fa_cnt_cong (fun k hk => h k (Nat.lt_succ_of_lt hk)), h n (Nat.lt_succ_self n)]
/-! ===== an answer carried into a post; a branch on a boolean answer ===== -/
theorem fa_post {α : Type} {P : α → Prop} {x y : α} (h : x = y) (hp : P y) : P x := h ▸ hp
theorem fa_post2 {α β : Type} {P : α → β → Prop} {x y : α} {u v : β} (h : x = y) (h2 : u = v) (hp : P y v) : P x u := h ▸ h2 ▸ hp
theorem fa_bool {r : Int32} {b : Bool} (h : r = if b then 1 else 0) : (r = 0 ↔ b = false) ∧ (¬ r = 0 ↔ b = true) := by
  subst h
  cases b
  · exact ⟨⟨fun _ => rfl, fun _ => rfl⟩, ⟨fun h => absurd rfl h, fun h => absurd h (by decide)⟩⟩
  · exact ⟨⟨fun h => absurd h (by decide), fun h => absurd h (by decide)⟩, ⟨fun _ => rfl, fun _ => by decide⟩⟩
/-- a boolean's narrowing changes nothing -/
theorem fa_bool_and {r : Int32} (h : r = 0 ∨ r = 1) : r &&& 1 = r := by
  rcases h with rfl | rfl
  · decide
  · decide
theorem fa_bool_prop {c : Prop} [Decidable c] {r : Int32} (h : r = if c then 1 else 0) : (r = 0 ↔ ¬ c) ∧ (¬ r = 0 ↔ c) := by
  subst h
  by_cases hc : c
  · rw [if_pos hc]
    exact ⟨⟨fun h => absurd h (by decide), fun h => absurd hc h⟩, ⟨fun _ => hc, fun _ => by decide⟩⟩
  · rw [if_neg hc]
    exact ⟨⟨fun _ => hc, fun _ => rfl⟩, ⟨fun h => absurd rfl h, fun h => absurd h hc⟩⟩
end
section
def MW (g : GG) (h : Nat) (a : Nat → Nat) (sl : Int32) (n : Int32) (L : Int32) (P : Int32) (tu : Int32) (la : Int32) (wi : Int32) (fl : Int32) (th : Int32) (fS : Nat → Int32) (fL : Nat → Int32) (fN : Nat → Int32) (fK : Nat → Int32) (fF : Nat → Int32) (fW : Nat → Int32) (fE : Nat → Int32) (fC : Nat → Int32) (fG : Nat → Int32) (fO : Nat → Int32) : va_W := [(h, .inr (3, [.ref (a 0), .int (sl), .ref (a 2), .ref (a 3), .int (n), .int (L), .int (P), .ref (a 7), .int (tu), .int (la), .int (wi), .ref (a 11), .int (fl), .ref (a 13), .ref (a 14), .ref (a 15), .ref (a 16), .ref (a 17), .int (th)])), (a 0, .inl (g.2.1, 10, .inl (fS))), (a 2, .inl (g.2.1, 500, .inl (fL))), (a 3, .inl (g.2.1, 50, .inl (fN))), (a 7, .inl (g.2.1, 4, .inl (fK))), (a 11, .inl (g.2.1, 10, .inl (fF))), (a 13, .inl (g.2.2.2, 550, .inl (fW))), (a 14, .inl (g.2.1, 550, .inl (fE))), (a 15, .inl (g.2.1, 550, .inl (fC))), (a 16, .inl (g.2.1, 550, .inl (fG))), (a 17, .inl (g.2.1, 550, .inl (fO)))]
def DW (g : GG) (d : Nat) (v : Nat) (f : Nat → Int64) (n : Int32) (L : Int32) : va_W := [(d, .inr (0, [.ref (v), .int (n), .int (L)])), (v, .inl (g.2.2.1, 50, .inr (.inl (f))))]
def QW (g : GG) (q : Nat) (u : Nat) (k : Nat → Int32) (P : Int32) (mv : Int32) (lm : Int32) (ch : Int32) (fr : Int64) : va_W := [(q, .inr (1, [.ref (u), .int (P), .int (mv), .int (lm), .int (ch), .long (fr)])), (u, .inl (g.2.1, 4, .inl (k)))]
def QDW (g : GG) (q : Nat) (u : Nat) (k : Nat → Int32) (P : Int32) (mv : Int32) (lm : Int32) (ch : Int32) (fr : Int64) (d : Nat) (v : Nat) (f : Nat → Int64) (n : Int32) (L : Int32) : va_W := [(q, .inr (1, [.ref (u), .int (P), .int (mv), .int (lm), .int (ch), .long (fr)])), (u, .inl (g.2.1, 4, .inl (k))), (d, .inr (0, [.ref (v), .int (n), .int (L)])), (v, .inl (g.2.2.1, 50, .inr (.inl (f))))]
def FW (g : GG) (x : Nat) (sl : Int64) (q : Nat) (u : Nat) (k : Nat → Int32) (P : Int32) (mv : Int32) (lm : Int32) (ch : Int32) (fr : Int64) (d : Nat) (v : Nat) (f : Nat → Int64) (n : Int32) (L : Int32) : va_W := [(x, .inr (2, [.ref (d), .ref (q), .long (sl)])), (q, .inr (1, [.ref (u), .int (P), .int (mv), .int (lm), .int (ch), .long (fr)])), (u, .inl (g.2.1, 4, .inl (k))), (d, .inr (0, [.ref (v), .int (n), .int (L)])), (v, .inl (g.2.2.1, 50, .inr (.inl (f))))]
/-! rows of letters packed into a number: its length, its letters to the base 32 -/
def rwL (P : Nat) : Nat := P / 1125899906842624
def rwC (P : Nat) : Nat := P % 1125899906842624
def rwK (n c : Nat) : Nat := n * 1125899906842624 + c
def rwX (P a : Nat) : Nat := rwK (rwL P + 1) (rwC P * 32 + a)
def rwB (P m : Nat) : Nat := rwK m (rwC P / 32 ^ (rwL P - m))
def rwA (P i : Nat) : Nat := rwC P / 32 ^ (rwL P - 1 - i) % 32
def RV (P : Nat) : Prop := rwL P ≤ 10 ∧ rwC P < 32 ^ rwL P ∧ ∀ i, i < rwL P → rwA P i < 26
theorem rk_l {n c : Nat} (h : c < 1125899906842624) : rwL (rwK n c) = n := by unfold rwL rwK; omega
theorem rk_c {n c : Nat} (h : c < 1125899906842624) : rwC (rwK n c) = c := by unfold rwC rwK; omega
theorem rk_e (P : Nat) : rwK (rwL P) (rwC P) = P := by unfold rwK rwL rwC; omega
theorem p32 {n m : Nat} (h : n ≤ m) : 32 ^ n ≤ 32 ^ m := Nat.pow_le_pow_right (by decide) h
theorem p32_10 : 32 ^ 10 = 1125899906842624 := by decide
theorem rc_lt (P : Nat) : rwC P < 1125899906842624 := Nat.mod_lt _ (by decide)
theorem rl_mono {P Q : Nat} (h : P ≤ Q) : rwL P ≤ rwL Q := Nat.div_le_div_right h
theorem RV.lt {P : Nat} (h : RV P) : P < 18014398509481984 := by
  have := h.1
  unfold rwL at this
  omega
theorem RV.code {P m : Nat} (h : RV P) (hm : m ≤ rwL P) : rwC P / 32 ^ (rwL P - m) < 32 ^ m := by
  rw [Nat.div_lt_iff_lt_mul (Nat.pow_pos (by decide)), ← Nat.pow_add, Nat.add_sub_cancel' hm]
  exact h.2.1
theorem RV.rbl {P m : Nat} (h : RV P) (hm : m ≤ rwL P) : rwL (rwB P m) = m :=
  rk_l (by have h1 := h.code hm; have h2 := p32 (Nat.le_trans hm h.1); rw [p32_10] at h2; omega)
theorem RV.rbc {P m : Nat} (h : RV P) (hm : m ≤ rwL P) : rwC (rwB P m) = rwC P / 32 ^ (rwL P - m) :=
  rk_c (by have h1 := h.code hm; have h2 := p32 (Nat.le_trans hm h.1); rw [p32_10] at h2; omega)
theorem RV.rbra {P m i : Nat} (h : RV P) (hm : m ≤ rwL P) (hi : i < m) : rwA (rwB P m) i = rwA P i := by
  unfold rwA
  rw [h.rbl hm, h.rbc hm, Nat.div_div_eq_div_mul, ← Nat.pow_add]
  congr 3
  omega
theorem RV.rb {P m : Nat} (h : RV P) (hm : m ≤ rwL P) : RV (rwB P m) := by
  refine ⟨by rw [h.rbl hm]; have := h.1; omega, by rw [h.rbl hm, h.rbc hm]; exact h.code hm, fun i hi => ?_⟩
  rw [h.rbl hm] at hi
  rw [h.rbra hm hi]
  exact h.2.2 i (by omega)
theorem rb_all {P : Nat} : rwB P (rwL P) = P := by
  unfold rwB
  rw [Nat.sub_self, Nat.pow_zero, Nat.div_one, rk_e]
theorem RV.rbb {P m k : Nat} (h : RV P) (hm : m ≤ rwL P) (hk : k ≤ m) : rwB (rwB P m) k = rwB P k := by
  show rwK k _ = rwK k _
  rw [h.rbl hm, h.rbc hm, Nat.div_div_eq_div_mul, ← Nat.pow_add]
  congr 3
  omega
theorem RV.rb0 {P : Nat} (h : RV P) : rwB P 0 = 0 := by
  show rwK 0 _ = 0
  have := h.code (Nat.zero_le _)
  rw [Nat.pow_zero] at this
  unfold rwK
  generalize rwC P / 32 ^ (rwL P - 0) = z at this ⊢
  omega
theorem RV.zero : RV 0 := ⟨by decide, by decide, fun i hi => absurd hi (by unfold rwL; simp)⟩
theorem RV.rbs {P m : Nat} (h : RV P) (hm : m < rwL P) : rwB P (m + 1) = rwX (rwB P m) (rwA P m) := by
  show _ = rwK (rwL (rwB P m) + 1) (rwC (rwB P m) * 32 + rwA P m)
  rw [h.rbl (by omega), h.rbc (by omega)]
  show rwK (m + 1) _ = _
  congr 1
  unfold rwA
  have e : rwL P - m = (rwL P - 1 - m) + 1 := by omega
  have e2 : rwL P - (m + 1) = rwL P - 1 - m := by omega
  rw [e, e2, Nat.pow_succ, ← Nat.div_div_eq_div_mul]
  omega
theorem RV.rxl {P a : Nat} (h : RV P) (hl : rwL P < 10) (ha : a < 32) : rwL (rwX P a) = rwL P + 1 :=
  rk_l (by have h1 := h.2.1; have h2 := p32 (show rwL P ≤ 9 by omega); rw [show 32 ^ 9 = 35184372088832 by decide] at h2; omega)
theorem RV.rxc {P a : Nat} (h : RV P) (hl : rwL P < 10) (ha : a < 32) : rwC (rwX P a) = rwC P * 32 + a :=
  rk_c (by have h1 := h.2.1; have h2 := p32 (show rwL P ≤ 9 by omega); rw [show 32 ^ 9 = 35184372088832 by decide] at h2; omega)
theorem RV.rxb {P a m : Nat} (h : RV P) (hl : rwL P < 10) (ha : a < 32) (hm : m ≤ rwL P) : rwB (rwX P a) m = rwB P m := by
  show rwK m _ = rwK m _
  rw [h.rxl hl ha, h.rxc hl ha, show rwL P + 1 - m = (rwL P - m) + 1 by omega, Nat.pow_succ, Nat.mul_comm (32 ^ _), ← Nat.div_div_eq_div_mul]
  congr 2
  omega
theorem RV.rxa {P a : Nat} (h : RV P) (hl : rwL P < 10) (ha : a < 32) : rwA (rwX P a) (rwL P) = a := by
  unfold rwA
  rw [h.rxl hl ha, h.rxc hl ha, show rwL P + 1 - 1 - rwL P = 0 by omega, Nat.pow_zero, Nat.div_one]
  omega
theorem RV.rxi {P a i : Nat} (h : RV P) (hl : rwL P < 10) (ha : a < 32) (hi : i < rwL P) : rwA (rwX P a) i = rwA P i := by
  unfold rwA
  rw [h.rxl hl ha, h.rxc hl ha, show rwL P + 1 - 1 - i = (rwL P - 1 - i) + 1 by omega, Nat.pow_succ, Nat.mul_comm (32 ^ _), ← Nat.div_div_eq_div_mul]
  congr 2
  omega
theorem RV.rx {P a : Nat} (h : RV P) (hl : rwL P < 10) (ha : a < 26) : RV (rwX P a) := by
  refine ⟨by rw [h.rxl hl (by omega)]; omega, ?_, fun i hi => ?_⟩
  · rw [h.rxl hl (by omega), h.rxc hl (by omega), Nat.pow_succ]
    have := h.2.1
    omega
  · rw [h.rxl hl (by omega)] at hi
    by_cases e : i = rwL P
    · rw [e, h.rxa hl (by omega)]; exact ha
    · rw [h.rxi hl (by omega) (by omega)]; exact h.2.2 i (by omega)
/-- the same letters up to m: the same beginning -/
theorem RV.ext {P Q : Nat} (h : RV P) (h' : RV Q) : ∀ {m : Nat}, m ≤ rwL P → m ≤ rwL Q → (∀ i, i < m → rwA P i = rwA Q i) → rwB P m = rwB Q m
  | 0, _, _, _ => by rw [h.rb0, h'.rb0]
  | m + 1, h1, h2, h3 => by rw [h.rbs h1, h'.rbs h2, RV.ext h h' (by omega) (by omega) (fun i hi => h3 i (by omega)), h3 m (by omega)]
theorem RV.ext_a {P Q m i : Nat} (h : RV P) (h' : RV Q) (h1 : m ≤ rwL P) (h2 : m ≤ rwL Q) (e : rwB P m = rwB Q m) (hi : i < m) : rwA P i = rwA Q i := by
  rw [← h.rbra h1 hi, e, h'.rbra h2 hi]
theorem RV.ext_l {P Q m m' : Nat} (h : RV P) (h' : RV Q) (h1 : m ≤ rwL P) (h2 : m ≤ rwL Q) (e : rwB P m = rwB Q m) (hm : m' ≤ m) : rwB P m' = rwB Q m' := by
  rw [← h.rbb h1 hm, e, h'.rbb h2 hm]
theorem RV.inj {P a b : Nat} (h : RV P) (hl : rwL P < 10) (ha : a < 32) (hb : b < 32) (e : rwX P a = rwX P b) : a = b := by
  rw [← h.rxa hl ha, e, h.rxa hl hb]
/-! of the machine's numbers -/
theorem lc_eq {a b : Nat} (ha : a < 9223372036854775808) (hb : b < 9223372036854775808) : lg_cmp (lN a) (lN b) = 0 ↔ a = b := by
  rw [lg_cmp_eq, pk_lEQ (by omega) (by omega)]
theorem lc_le {a b : Nat} (ha : a < 9223372036854775808) (hb : b < 9223372036854775808) : lg_cmp (lN a) (lN b) ≤ 0 ↔ a ≤ b := by
  rw [lg_cmp_le, pk_lLE (by omega) (by omega)]
theorem dec1 {n : Nat} (h : 0 < n) : nI n + (-1) = nI (n - 1) := by
  have := pk_m1 (n - 1)
  rwa [Nat.sub_add_cancel h] at this
theorem p2_5 (k : Nat) : 2 ^ (5 * k) = 32 ^ k := by rw [Nat.pow_mul]
/-- the letter at a place, out of the whole number -/
theorem ra_of {P t : Nat} (h : t ≤ 9) : P / 32 ^ t % 32 = rwC P / 32 ^ t % 32 := by
  have e : P = rwC P + 32 * 32 ^ (9 - t) * rwL P * 32 ^ t := by
    have h1 : 32 * 32 ^ (9 - t) * rwL P * 32 ^ t = rwL P * 1125899906842624 := by
      rw [← p32_10, show 32 ^ 10 = 32 * 32 ^ 9 by decide, show 32 ^ 9 = 32 ^ (9 - t) * 32 ^ t by rw [← Nat.pow_add]; congr 1; omega]
      simp only [Nat.mul_comm, Nat.mul_left_comm, Nat.mul_assoc]
    rw [h1]
    have := rk_e P
    unfold rwK at this
    omega
  rw (occs := .pos [1]) [e]
  rw [Nat.add_mul_div_right _ _ (Nat.pow_pos (by decide)), Nat.mul_assoc 32, Nat.add_mul_mod_self_left]
theorem pk_or {n c : Nat} (hc : c < 1125899906842624) : lN (n * 2 ^ 50) ||| lN c = lN (rwK n c) := by
  have h := fb_or_sumL (k := 50) n hc
  rw [Nat.mul_comm] at h
  exact h
theorem pk_sh {P : Nat} (hP : P < 18014398509481984) (k : Nat) (hk : k ≤ 10) : ((lN P).toUInt64 >>> ((nI (5 * k)).toInt64.toUInt64 &&& Int64.toUInt64 63)).toInt64 = lN (P / 32 ^ k) := by
  rw [wb_shr (by omega) (by omega), p2_5]
theorem pk_ad {c a : Nat} (ha : a < 32) : lN (c * 2 ^ 5) ||| lN a = lN (c * 32 + a) := by
  have h := fb_or_sumL (k := 5) c ha
  rw [Nat.mul_comm] at h
  exact h
theorem min_nI {a b : Nat} (ha : a < 2 ^ 31) (hb : b < 2 ^ 31) : (if nI b < nI a then nI b else nI a) = nI (min a b) := by
  by_cases h : b < a
  · rw [if_pos ((nI_ltI hb ha).mpr h), Nat.min_eq_right (by omega)]
  · rw [if_neg (fun q => h ((nI_ltI hb ha).mp q)), Nat.min_eq_left (by omega)]
theorem max_nI {a b : Nat} (ha : a < 2 ^ 31) (hb : b < 2 ^ 31) : (if nI a < nI b then nI b else nI a) = nI (max a b) := by
  by_cases h : a < b
  · rw [if_pos ((nI_ltI ha hb).mpr h), Nat.max_eq_right (by omega)]
  · rw [if_neg (fun q => h ((nI_ltI ha hb).mp q)), Nat.max_eq_left (by omega)]
/-- the longest beginning in common -/
def shD (P Q : Nat) : Nat → Nat
  | 0 => 0
  | k + 1 => if rwB P (k + 1) = rwB Q (k + 1) then k + 1 else shD P Q k
def shr (P Q : Nat) : Nat := shD P Q (min (rwL P) (rwL Q))
theorem shD_le (P Q : Nat) : ∀ k, shD P Q k ≤ k
  | 0 => Nat.le_refl _
  | k + 1 => by
    unfold shD
    by_cases h : rwB P (k + 1) = rwB Q (k + 1)
    · rw [if_pos h]; exact Nat.le_refl _
    · rw [if_neg h]; exact Nat.le_succ_of_le (shD_le P Q k)
theorem shD_t {P Q k : Nat} (h : rwB P k = rwB Q k) : shD P Q k = k := by
  cases k with
  | zero => rfl
  | succ k => exact if_pos h
theorem shD_f {P Q k : Nat} (h0 : 0 < k) (h : ¬ rwB P k = rwB Q k) : shD P Q k = shD P Q (k - 1) := by
  cases k with
  | zero => omega
  | succ k => exact if_neg h
theorem shr_le (P Q : Nat) : shr P Q ≤ rwL P ∧ shr P Q ≤ rwL Q := by
  have := shD_le P Q (min (rwL P) (rwL Q))
  unfold shr
  omega
theorem nI_nem1 {n : Nat} (h : n < 2147483648) : ¬ nI n = -1 := fun q => by
  have h1 := nI_toInt (n := n) (by omega)
  rw [q] at h1
  have h2 : (-1 : Int32).toInt = -1 := by decide
  omega
end
section
theorem dX2_lengthOf_0 : decode cX2_lengthOf 0 = .ok (.lload_n 0, 1) := by decide +kernel
theorem dX2_lengthOf_1 : decode cX2_lengthOf 1 = .ok (.bipush 50, 2) := by decide +kernel
theorem dX2_lengthOf_3 : decode cX2_lengthOf 3 = .ok (.lushr, 1) := by decide +kernel
theorem dX2_lengthOf_4 : decode cX2_lengthOf 4 = .ok (.l2i, 1) := by decide +kernel
theorem dX2_lengthOf_5 : decode cX2_lengthOf 5 = .ok (.ireturn, 1) := by decide +kernel
set_option maxRecDepth 20000 in
theorem ggX2_isFull_X2_lengthOf : GoodIn wsX2_isFull wsX2_lengthOf := goodIn_r _ [4] (by decide +kernel) (by decide +kernel)
set_option maxRecDepth 20000 in
theorem gX2_isFull_X2_lengthOf : GoodIn wsX2_isFull (va_wsS RX2 11 yX2_lengthOf wsX2_lengthOf) := goodIn_app (goodIn_of _ (by decide +kernel)) ggX2_isFull_X2_lengthOf
theorem dX2_isFull_0 : decode cX2_isFull 0 = .ok (.lload_n 0, 1) := by decide +kernel
theorem dX2_isFull_1 : decode cX2_isFull 1 = .ok (.invokestatic 11, 3) := by decide +kernel
theorem dX2_isFull_4 : decode cX2_isFull 4 = .ok (.bipush 10, 2) := by decide +kernel
theorem dX2_isFull_6 : decode cX2_isFull 6 = .ok (.if_icmp .lt 7, 3) := by decide +kernel
theorem dX2_isFull_9 : decode cX2_isFull 9 = .ok (.iconst 1, 1) := by decide +kernel
theorem dX2_isFull_10 : decode cX2_isFull 10 = .ok (.goto 4, 3) := by decide +kernel
theorem dX2_isFull_13 : decode cX2_isFull 13 = .ok (.iconst 0, 1) := by decide +kernel
theorem dX2_isFull_14 : decode cX2_isFull 14 = .ok (.ireturn, 1) := by decide +kernel
set_option maxRecDepth 20000 in
theorem ggX2_letterAt_X2_lengthOf : GoodIn wsX2_letterAt wsX2_lengthOf := goodIn_r _ [4] (by decide +kernel) (by decide +kernel)
set_option maxRecDepth 20000 in
theorem gX2_letterAt_X2_lengthOf : GoodIn wsX2_letterAt (va_wsS RX2 11 yX2_lengthOf wsX2_lengthOf) := goodIn_app (goodIn_of _ (by decide +kernel)) ggX2_letterAt_X2_lengthOf
theorem dX2_letterAt_0 : decode cX2_letterAt 0 = .ok (.lload_n 0, 1) := by decide +kernel
theorem dX2_letterAt_1 : decode cX2_letterAt 1 = .ok (.invokestatic 11, 3) := by decide +kernel
theorem dX2_letterAt_4 : decode cX2_letterAt 4 = .ok (.istore_n 3, 1) := by decide +kernel
theorem dX2_letterAt_5 : decode cX2_letterAt 5 = .ok (.iload_n 2, 1) := by decide +kernel
theorem dX2_letterAt_6 : decode cX2_letterAt 6 = .ok (.ifCond .lt 8, 3) := by decide +kernel
theorem dX2_letterAt_9 : decode cX2_letterAt 9 = .ok (.iload_n 2, 1) := by decide +kernel
theorem dX2_letterAt_10 : decode cX2_letterAt 10 = .ok (.iload_n 3, 1) := by decide +kernel
theorem dX2_letterAt_11 : decode cX2_letterAt 11 = .ok (.if_icmp .lt 5, 3) := by decide +kernel
theorem dX2_letterAt_14 : decode cX2_letterAt 14 = .ok (.iconst (-1), 1) := by decide +kernel
theorem dX2_letterAt_15 : decode cX2_letterAt 15 = .ok (.ireturn, 1) := by decide +kernel
theorem dX2_letterAt_16 : decode cX2_letterAt 16 = .ok (.lload_n 0, 1) := by decide +kernel
theorem dX2_letterAt_17 : decode cX2_letterAt 17 = .ok (.iconst 5, 1) := by decide +kernel
theorem dX2_letterAt_18 : decode cX2_letterAt 18 = .ok (.iload_n 3, 1) := by decide +kernel
theorem dX2_letterAt_19 : decode cX2_letterAt 19 = .ok (.iconst 1, 1) := by decide +kernel
theorem dX2_letterAt_20 : decode cX2_letterAt 20 = .ok (.isub, 1) := by decide +kernel
theorem dX2_letterAt_21 : decode cX2_letterAt 21 = .ok (.iload_n 2, 1) := by decide +kernel
theorem dX2_letterAt_22 : decode cX2_letterAt 22 = .ok (.isub, 1) := by decide +kernel
theorem dX2_letterAt_23 : decode cX2_letterAt 23 = .ok (.imul, 1) := by decide +kernel
theorem dX2_letterAt_24 : decode cX2_letterAt 24 = .ok (.lushr, 1) := by decide +kernel
theorem dX2_letterAt_25 : decode cX2_letterAt 25 = .ok (.l2i, 1) := by decide +kernel
theorem dX2_letterAt_26 : decode cX2_letterAt 26 = .ok (.bipush 31, 2) := by decide +kernel
theorem dX2_letterAt_28 : decode cX2_letterAt 28 = .ok (.iand, 1) := by decide +kernel
theorem dX2_letterAt_29 : decode cX2_letterAt 29 = .ok (.ireturn, 1) := by decide +kernel
set_option maxRecDepth 20000 in
theorem ggX2_with_X2_lengthOf : GoodIn wsX2_with wsX2_lengthOf := goodIn_r _ [5] (by decide +kernel) (by decide +kernel)
set_option maxRecDepth 20000 in
theorem gX2_with_X2_lengthOf : GoodIn wsX2_with (va_wsS RX2 11 yX2_lengthOf wsX2_lengthOf) := goodIn_app (goodIn_of _ (by decide +kernel)) ggX2_with_X2_lengthOf
set_option maxRecDepth 20000 in
theorem ggX2_with_X2_pack : GoodIn wsX2_with wsX2_pack := goodIn_r _ [8] (by decide +kernel) (by decide +kernel)
set_option maxRecDepth 20000 in
theorem gX2_with_X2_pack : GoodIn wsX2_with (va_wsS RX2 17 yX2_pack wsX2_pack) := goodIn_app (goodIn_of _ (by decide +kernel)) ggX2_with_X2_pack
theorem dX2_with_0 : decode cX2_with 0 = .ok (.lload_n 0, 1) := by decide +kernel
theorem dX2_with_1 : decode cX2_with 1 = .ok (.invokestatic 11, 3) := by decide +kernel
theorem dX2_with_4 : decode cX2_with 4 = .ok (.iconst 1, 1) := by decide +kernel
theorem dX2_with_5 : decode cX2_with 5 = .ok (.iadd, 1) := by decide +kernel
theorem dX2_with_6 : decode cX2_with 6 = .ok (.lload_n 0, 1) := by decide +kernel
theorem dX2_with_7 : decode cX2_with 7 = .ok (.ldc2_w 15, 3) := by decide +kernel
theorem dX2_with_10 : decode cX2_with 10 = .ok (.land, 1) := by decide +kernel
theorem dX2_with_11 : decode cX2_with 11 = .ok (.iconst 5, 1) := by decide +kernel
theorem dX2_with_12 : decode cX2_with 12 = .ok (.lshl, 1) := by decide +kernel
theorem dX2_with_13 : decode cX2_with 13 = .ok (.iload_n 2, 1) := by decide +kernel
theorem dX2_with_14 : decode cX2_with 14 = .ok (.i2l, 1) := by decide +kernel
theorem dX2_with_15 : decode cX2_with 15 = .ok (.lor, 1) := by decide +kernel
theorem dX2_with_16 : decode cX2_with 16 = .ok (.invokestatic 17, 3) := by decide +kernel
theorem dX2_with_19 : decode cX2_with 19 = .ok (.lreturn, 1) := by decide +kernel
set_option maxRecDepth 20000 in
theorem ggX2_beginning_X2_lengthOf : GoodIn wsX2_beginning wsX2_lengthOf := goodIn_r _ [5] (by decide +kernel) (by decide +kernel)
set_option maxRecDepth 20000 in
theorem gX2_beginning_X2_lengthOf : GoodIn wsX2_beginning (va_wsS RX2 11 yX2_lengthOf wsX2_lengthOf) := goodIn_app (goodIn_of _ (by decide +kernel)) ggX2_beginning_X2_lengthOf
set_option maxRecDepth 20000 in
theorem ggX2_beginning_X2_pack : GoodIn wsX2_beginning wsX2_pack := goodIn_r _ [8] (by decide +kernel) (by decide +kernel)
set_option maxRecDepth 20000 in
theorem gX2_beginning_X2_pack : GoodIn wsX2_beginning (va_wsS RX2 17 yX2_pack wsX2_pack) := goodIn_app (goodIn_of _ (by decide +kernel)) ggX2_beginning_X2_pack
theorem dX2_beginning_0 : decode cX2_beginning 0 = .ok (.lload_n 0, 1) := by decide +kernel
theorem dX2_beginning_1 : decode cX2_beginning 1 = .ok (.invokestatic 11, 3) := by decide +kernel
theorem dX2_beginning_4 : decode cX2_beginning 4 = .ok (.iload_n 2, 1) := by decide +kernel
theorem dX2_beginning_5 : decode cX2_beginning 5 = .ok (.isub, 1) := by decide +kernel
theorem dX2_beginning_6 : decode cX2_beginning 6 = .ok (.istore_n 3, 1) := by decide +kernel
theorem dX2_beginning_7 : decode cX2_beginning 7 = .ok (.iload_n 2, 1) := by decide +kernel
theorem dX2_beginning_8 : decode cX2_beginning 8 = .ok (.lload_n 0, 1) := by decide +kernel
theorem dX2_beginning_9 : decode cX2_beginning 9 = .ok (.ldc2_w 15, 3) := by decide +kernel
theorem dX2_beginning_12 : decode cX2_beginning 12 = .ok (.land, 1) := by decide +kernel
theorem dX2_beginning_13 : decode cX2_beginning 13 = .ok (.iconst 5, 1) := by decide +kernel
theorem dX2_beginning_14 : decode cX2_beginning 14 = .ok (.iload_n 3, 1) := by decide +kernel
theorem dX2_beginning_15 : decode cX2_beginning 15 = .ok (.imul, 1) := by decide +kernel
theorem dX2_beginning_16 : decode cX2_beginning 16 = .ok (.lushr, 1) := by decide +kernel
theorem dX2_beginning_17 : decode cX2_beginning 17 = .ok (.invokestatic 17, 3) := by decide +kernel
theorem dX2_beginning_20 : decode cX2_beginning 20 = .ok (.lreturn, 1) := by decide +kernel
set_option maxRecDepth 20000 in
theorem ggX2_beginsWith_X2_lengthOf : GoodIn wsX2_beginsWith wsX2_lengthOf := goodIn_r _ [4] (by decide +kernel) (by decide +kernel)
set_option maxRecDepth 20000 in
theorem gX2_beginsWith_X2_lengthOf : GoodIn wsX2_beginsWith (va_wsS RX2 11 yX2_lengthOf wsX2_lengthOf) := goodIn_app (goodIn_of _ (by decide +kernel)) ggX2_beginsWith_X2_lengthOf
set_option maxRecDepth 20000 in
theorem ggX2_beginsWith_X2_beginning : GoodIn wsX2_beginsWith wsX2_beginning := goodIn_r _ [7, 8, 1, 2, 3, 4, 9, 10, 11] (by decide +kernel) (by decide +kernel)
set_option maxRecDepth 20000 in
theorem gX2_beginsWith_X2_beginning : GoodIn wsX2_beginsWith (va_wsS RX2 21 yX2_beginning wsX2_beginning) := goodIn_app (goodIn_of _ (by decide +kernel)) ggX2_beginsWith_X2_beginning
theorem dX2_beginsWith_0 : decode cX2_beginsWith 0 = .ok (.lload_n 2, 1) := by decide +kernel
theorem dX2_beginsWith_1 : decode cX2_beginsWith 1 = .ok (.invokestatic 11, 3) := by decide +kernel
theorem dX2_beginsWith_4 : decode cX2_beginsWith 4 = .ok (.istore 4, 2) := by decide +kernel
theorem dX2_beginsWith_6 : decode cX2_beginsWith 6 = .ok (.lload_n 0, 1) := by decide +kernel
theorem dX2_beginsWith_7 : decode cX2_beginsWith 7 = .ok (.invokestatic 11, 3) := by decide +kernel
theorem dX2_beginsWith_10 : decode cX2_beginsWith 10 = .ok (.iload 4, 2) := by decide +kernel
theorem dX2_beginsWith_12 : decode cX2_beginsWith 12 = .ok (.if_icmp .lt 18, 3) := by decide +kernel
theorem dX2_beginsWith_15 : decode cX2_beginsWith 15 = .ok (.lload_n 0, 1) := by decide +kernel
theorem dX2_beginsWith_16 : decode cX2_beginsWith 16 = .ok (.iload 4, 2) := by decide +kernel
theorem dX2_beginsWith_18 : decode cX2_beginsWith 18 = .ok (.invokestatic 21, 3) := by decide +kernel
theorem dX2_beginsWith_21 : decode cX2_beginsWith 21 = .ok (.lload_n 2, 1) := by decide +kernel
theorem dX2_beginsWith_22 : decode cX2_beginsWith 22 = .ok (.lcmp, 1) := by decide +kernel
theorem dX2_beginsWith_23 : decode cX2_beginsWith 23 = .ok (.ifCond .ne 7, 3) := by decide +kernel
theorem dX2_beginsWith_26 : decode cX2_beginsWith 26 = .ok (.iconst 1, 1) := by decide +kernel
theorem dX2_beginsWith_27 : decode cX2_beginsWith 27 = .ok (.goto 4, 3) := by decide +kernel
theorem dX2_beginsWith_30 : decode cX2_beginsWith 30 = .ok (.iconst 0, 1) := by decide +kernel
theorem dX2_beginsWith_31 : decode cX2_beginsWith 31 = .ok (.ireturn, 1) := by decide +kernel
set_option maxRecDepth 20000 in
theorem ggX2_goesOnBehind_X2_beginsWith : GoodIn wsX2_goesOnBehind wsX2_beginsWith := goodIn_r _ [4, 5, 6, 3, 7, 8, 9, 10, 11, 12, 13, 14] (by decide +kernel) (by decide +kernel)
set_option maxRecDepth 20000 in
theorem gX2_goesOnBehind_X2_beginsWith : GoodIn wsX2_goesOnBehind (va_wsS RX2 25 yX2_beginsWith wsX2_beginsWith) := goodIn_app (goodIn_of _ (by decide +kernel)) ggX2_goesOnBehind_X2_beginsWith
theorem dX2_goesOnBehind_0 : decode cX2_goesOnBehind 0 = .ok (.lload_n 0, 1) := by decide +kernel
theorem dX2_goesOnBehind_1 : decode cX2_goesOnBehind 1 = .ok (.lload_n 2, 1) := by decide +kernel
theorem dX2_goesOnBehind_2 : decode cX2_goesOnBehind 2 = .ok (.lcmp, 1) := by decide +kernel
theorem dX2_goesOnBehind_3 : decode cX2_goesOnBehind 3 = .ok (.ifCond .eq 15, 3) := by decide +kernel
theorem dX2_goesOnBehind_6 : decode cX2_goesOnBehind 6 = .ok (.lload_n 0, 1) := by decide +kernel
theorem dX2_goesOnBehind_7 : decode cX2_goesOnBehind 7 = .ok (.lload_n 2, 1) := by decide +kernel
theorem dX2_goesOnBehind_8 : decode cX2_goesOnBehind 8 = .ok (.invokestatic 25, 3) := by decide +kernel
theorem dX2_goesOnBehind_11 : decode cX2_goesOnBehind 11 = .ok (.ifCond .eq 7, 3) := by decide +kernel
theorem dX2_goesOnBehind_14 : decode cX2_goesOnBehind 14 = .ok (.iconst 1, 1) := by decide +kernel
theorem dX2_goesOnBehind_15 : decode cX2_goesOnBehind 15 = .ok (.goto 4, 3) := by decide +kernel
theorem dX2_goesOnBehind_18 : decode cX2_goesOnBehind 18 = .ok (.iconst 0, 1) := by decide +kernel
theorem dX2_goesOnBehind_19 : decode cX2_goesOnBehind 19 = .ok (.ireturn, 1) := by decide +kernel
set_option maxRecDepth 20000 in
theorem ggX2_lengthShared_X2_lengthOf : GoodIn wsX2_lengthShared wsX2_lengthOf := goodIn_r _ [8] (by decide +kernel) (by decide +kernel)
set_option maxRecDepth 20000 in
theorem gX2_lengthShared_X2_lengthOf : GoodIn wsX2_lengthShared (va_wsS RX2 11 yX2_lengthOf wsX2_lengthOf) := goodIn_app (goodIn_of _ (by decide +kernel)) ggX2_lengthShared_X2_lengthOf
set_option maxRecDepth 20000 in
theorem ggX2_lengthShared_X2_beginning : GoodIn wsX2_lengthShared wsX2_beginning := goodIn_r _ [11, 12, 5, 6, 7, 8, 13, 14, 15] (by decide +kernel) (by decide +kernel)
set_option maxRecDepth 20000 in
theorem gX2_lengthShared_X2_beginning : GoodIn wsX2_lengthShared (va_wsS RX2 21 yX2_beginning wsX2_beginning) := goodIn_app (goodIn_of _ (by decide +kernel)) ggX2_lengthShared_X2_beginning
theorem dX2_lengthShared_0 : decode cX2_lengthShared 0 = .ok (.lload_n 0, 1) := by decide +kernel
theorem dX2_lengthShared_1 : decode cX2_lengthShared 1 = .ok (.invokestatic 11, 3) := by decide +kernel
theorem dX2_lengthShared_4 : decode cX2_lengthShared 4 = .ok (.lload_n 2, 1) := by decide +kernel
theorem dX2_lengthShared_5 : decode cX2_lengthShared 5 = .ok (.invokestatic 11, 3) := by decide +kernel
theorem dX2_lengthShared_8 : decode cX2_lengthShared 8 = .ok (.invokestatic 29, 3) := by decide +kernel
theorem dX2_lengthShared_11 : decode cX2_lengthShared 11 = .ok (.istore 4, 2) := by decide +kernel
theorem dX2_lengthShared_13 : decode cX2_lengthShared 13 = .ok (.iload 4, 2) := by decide +kernel
theorem dX2_lengthShared_15 : decode cX2_lengthShared 15 = .ok (.ifCond .le 25, 3) := by decide +kernel
theorem dX2_lengthShared_18 : decode cX2_lengthShared 18 = .ok (.lload_n 0, 1) := by decide +kernel
theorem dX2_lengthShared_19 : decode cX2_lengthShared 19 = .ok (.iload 4, 2) := by decide +kernel
theorem dX2_lengthShared_21 : decode cX2_lengthShared 21 = .ok (.invokestatic 21, 3) := by decide +kernel
theorem dX2_lengthShared_24 : decode cX2_lengthShared 24 = .ok (.lload_n 2, 1) := by decide +kernel
theorem dX2_lengthShared_25 : decode cX2_lengthShared 25 = .ok (.iload 4, 2) := by decide +kernel
theorem dX2_lengthShared_27 : decode cX2_lengthShared 27 = .ok (.invokestatic 21, 3) := by decide +kernel
theorem dX2_lengthShared_30 : decode cX2_lengthShared 30 = .ok (.lcmp, 1) := by decide +kernel
theorem dX2_lengthShared_31 : decode cX2_lengthShared 31 = .ok (.ifCond .eq 9, 3) := by decide +kernel
theorem dX2_lengthShared_34 : decode cX2_lengthShared 34 = .ok (.iinc 4 (-1), 3) := by decide +kernel
theorem dX2_lengthShared_37 : decode cX2_lengthShared 37 = .ok (.goto (-24), 3) := by decide +kernel
theorem dX2_lengthShared_40 : decode cX2_lengthShared 40 = .ok (.iload 4, 2) := by decide +kernel
theorem dX2_lengthShared_42 : decode cX2_lengthShared 42 = .ok (.ireturn, 1) := by decide +kernel
theorem dX2_pack_0 : decode cX2_pack 0 = .ok (.iload_n 0, 1) := by decide +kernel
theorem dX2_pack_1 : decode cX2_pack 1 = .ok (.i2l, 1) := by decide +kernel
theorem dX2_pack_2 : decode cX2_pack 2 = .ok (.bipush 50, 2) := by decide +kernel
theorem dX2_pack_4 : decode cX2_pack 4 = .ok (.lshl, 1) := by decide +kernel
theorem dX2_pack_5 : decode cX2_pack 5 = .ok (.lload_n 1, 1) := by decide +kernel
theorem dX2_pack_6 : decode cX2_pack 6 = .ok (.lor, 1) := by decide +kernel
theorem dX2_pack_7 : decode cX2_pack 7 = .ok (.lreturn, 1) := by decide +kernel
end
section
abbrev rm_X2_lengthOf : Room := { frames := 0, cells := 0, slots := 0, locals := 0 }
set_option maxHeartbeats 4000000 in
set_option maxRecDepth 100000 in
theorem c_X2_lengthOf (l : Launch) (P : Nat) (hP0 : P < 18014398509481984) : Pi l yX2_lengthOf wsX2_lengthOf rm_X2_lengthOf [.long (lN (P))] (fun r => r = nI (rwL P)) := by
  intro g
  refine Ci.ofI (cc := cX2_lengthOf) (maxL := 2) (by decide) rfl (Nat.le_of_ble_eq_true rfl) ?_
  intro p e s m args below meth c A Z hx hb hml hts hown hK hA hret H locs ls hP hD hS hl
  have hl : lv_has ls 2 [(0, .long (lN (P)))] := hl
  refine lv_lload_n hx hb dX2_lengthOf_0 rfl (lv_at hl 0 rfl) ?_
  refine lv_bipush (v := nI 50) hx hb dX2_lengthOf_1 (by decide) ?_
  refine lv_lushr (v := (lN (rwL P))) hx hb dX2_lengthOf_3 (wb_shr (n := P) (k := 50) (by omega) (by decide)) ?_
  refine lv_l2i (v := nI (rwL P)) hx hb dX2_lengthOf_4 (lN_i _) ?_
  exact hret (nI (rwL P)) [] _ _ _ _ dX2_lengthOf_5 (⟨rfl, rfl⟩) hP hD hS

abbrev rm_X2_pack : Room := { frames := 0, cells := 0, slots := 0, locals := 0 }
set_option maxHeartbeats 4000000 in
set_option maxRecDepth 100000 in
theorem c_X2_pack (l : Launch) (n c0 : Nat) (hn0 : n < 4096) (hc0 : c0 < 1125899906842624) : Pl l yX2_pack wsX2_pack rm_X2_pack [.int (nI (n)), .long (lN (c0))] (fun r => r = lN (rwK n c0)) := by
  intro g
  refine Cl.ofL (cc := cX2_pack) (maxL := 3) (by decide) rfl (Nat.le_of_ble_eq_true rfl) ?_
  intro p e s m args below meth c A Z hx hb hml hts hown hK hA hret H locs ls hP hD hS hl
  have hl : lv_has ls 3 [(0, .int (nI (n))), (1, .long (lN (c0)))] := hl
  refine lv_iload_n hx hb dX2_pack_0 rfl (lv_at hl 0 rfl) ?_
  refine lv_i2l (v := lN (n)) hx hb dX2_pack_1 (nI_l (by omega)) ?_
  refine lv_bipush (v := nI 50) hx hb dX2_pack_2 (by decide) ?_
  refine lv_lshl (v := (lN (n * 2 ^ 50))) hx hb dX2_pack_4 (wb_shl n (by decide)) ?_
  refine lv_lload_n hx hb dX2_pack_5 rfl (lv_at hl 1 rfl) ?_
  refine lv_lor hx hb dX2_pack_6 ?_
  refine tp_l (b := (lN (rwK n c0))) (pk_or hc0) ?_
  exact hret (lN (rwK n c0)) [] _ _ _ _ dX2_pack_7 (⟨rfl, rfl⟩) hP hD hS

abbrev rm_X2_isFull : Room := { frames := 1, cells := 0, slots := 0, locals := 21 }
set_option maxHeartbeats 4000000 in
set_option maxRecDepth 100000 in
theorem c_X2_isFull (l : Launch) (P : Nat) (hV : RV P) : Pi l yX2_isFull wsX2_isFull rm_X2_isFull [.long (lN (P))] (fun r => Bv r (10 ≤ rwL P)) := by
  intro g
  refine Ci.ofZ (cc := cX2_isFull) (maxL := 2) (by decide) rfl (Nat.le_of_ble_eq_true rfl) ?_
  intro p e s m args below meth c A Z hx hb hml hts hown hK hA hret H locs ls hP hD hS hl
  have hl : lv_has ls 2 [(0, .long (lN (P)))] := hl
  have h10 := hV.1
  refine lv_lload_n hx hb dX2_isFull_0 rfl (lv_at hl 0 rfl) ?_
  refine call_iP (As := [.long (lN (P))]) (rest := []) ⟨hx, hb, hml, hown, hts⟩ (c_X2_lengthOf l P (hV.lt)) (va_cwS 1 hts gX2_isFull_X2_lengthOf rfl rfl rfl (by decide +kernel) ⟨Nat.le_of_ble_eq_true rfl, Nat.le_of_ble_eq_true rfl⟩) hP hK hD hS hA rfl hl.1 rfl (Nat.le_of_ble_eq_true rfl) dX2_isFull_1 ⟨Nat.le_refl _, Nat.le_refl _⟩ (fun r_1 H locs h_1 hP hD hS => ?_)
  subst h_1
  refine lv_bipush (v := nI 10) hx hb dX2_isFull_4 (by decide) ?_
  refine lv_icmp_lt (tgt := 13) hx hb dX2_isFull_6 (by decide) (fun c_6_1 => ?_) (fun c_6_1 => ?_)
  · skip
    have n_6_1 : rwL P < 10 := (nI_ltI (a := rwL P) (b := 10) (by omega) (by omega)).mp c_6_1
    refine lv_iconst (v := nI 0) hx hb dX2_isFull_13 (by decide) ?_
    exact hret (nI (0)) [] _ _ _ _ dX2_isFull_14 (Or.inl rfl) (⟨rfl, Bv.no (by omega)⟩) hP hD hS
  · skip
    have n_6_1 : ¬ rwL P < 10 := fun q9 => c_6_1 ((nI_ltI (a := rwL P) (b := 10) (by omega) (by omega)).mpr q9)
    refine lv_iconst (v := nI 1) hx hb dX2_isFull_9 (by decide) ?_
    refine lv_goto (tgt := 14) hx hb dX2_isFull_10 (by decide) ?_
    exact hret (nI (1)) [] _ _ _ _ dX2_isFull_14 (Or.inr rfl) (⟨rfl, Bv.yes (by omega)⟩) hP hD hS

abbrev rm_X2_letterAt : Room := { frames := 1, cells := 0, slots := 0, locals := 21 }
set_option maxHeartbeats 4000000 in
set_option maxRecDepth 100000 in
theorem c_X2_letterAt (l : Launch) (P : Nat) (x : Int32) (hV : RV P) : Pi l yX2_letterAt wsX2_letterAt rm_X2_letterAt [.long (lN (P)), .int (x)] (fun r => (∃ j : Nat, j < rwL P ∧ nI j = x ∧ r = nI (rwA P j)) ∨ ((¬ ∃ j : Nat, j < rwL P ∧ nI j = x) ∧ r = -1)) := by
  intro g
  refine Ci.ofI (cc := cX2_letterAt) (maxL := 4) (by decide) rfl (Nat.le_of_ble_eq_true rfl) ?_
  intro p e s m args below meth c A Z hx hb hml hts hown hK hA hret H locs ls hP hD hS hl
  have hl : lv_has ls 4 [(0, .long (lN (P))), (2, .int (x))] := hl
  have h10 := hV.1
  have hP0 := hV.lt
  refine lv_lload_n hx hb dX2_letterAt_0 rfl (lv_at hl 0 rfl) ?_
  refine call_iP (As := [.long (lN (P))]) (rest := []) ⟨hx, hb, hml, hown, hts⟩ (c_X2_lengthOf l P (hV.lt)) (va_cwS 1 hts gX2_letterAt_X2_lengthOf rfl rfl rfl (by decide +kernel) ⟨Nat.le_of_ble_eq_true rfl, Nat.le_of_ble_eq_true rfl⟩) hP hK hD hS hA rfl hl.1 rfl (Nat.le_of_ble_eq_true rfl) dX2_letterAt_1 ⟨Nat.le_refl _, Nat.le_refl _⟩ (fun r_1 H locs h_1 hP hD hS => ?_)
  subst h_1
  refine lv_istore_n (lv' := [(3, .int (nI (rwL P))), (0, .long (lN (P))), (2, .int (x))]) hx hb dX2_letterAt_4 rfl hl (by decide) rfl (fun ls hl => ?_)
  refine lv_iload_n hx hb dX2_letterAt_5 rfl (lv_at hl 2 rfl) ?_
  refine lv_if_lt (tgt := 14) hx hb dX2_letterAt_6 (by decide) (fun c_6_1 => ?_) (fun c_6_1 => ?_)
  · skip
    have nj : ¬ ∃ j : Nat, j < rwL P ∧ nI j = x := by
      rintro ⟨j, hj, rfl⟩
      exact nI_pos (by omega) c_6_1
    refine lv_iconst (v := -1) hx hb dX2_letterAt_14 (by decide) ?_
    exact hret (-1) [] _ _ _ _ dX2_letterAt_15 (⟨rfl, Or.inr ⟨nj, rfl⟩⟩) hP hD hS
  · skip
    refine lv_iload_n hx hb dX2_letterAt_9 rfl (lv_at hl 2 rfl) ?_
    refine lv_iload_n hx hb dX2_letterAt_10 rfl (lv_at hl 0 rfl) ?_
    refine lv_icmp_lt (tgt := 16) hx hb dX2_letterAt_11 (by decide) (fun c_11_2 => ?_) (fun c_11_2 => ?_)
    · skip
      obtain ⟨j, hj, rfl⟩ : ∃ j : Nat, j < rwL P ∧ x = nI j := by
        rcases pk_ix x (n := rwL P) (by omega) with h | h | h
        · exact absurd h c_6_1
        · exact absurd h (fa_of_lt c_11_2).2.1
        · exact h
      refine lv_lload_n hx hb dX2_letterAt_16 rfl (lv_at hl 1 rfl) ?_
      refine lv_iconst (v := nI 5) hx hb dX2_letterAt_17 (by decide) ?_
      refine lv_iload_n hx hb dX2_letterAt_18 rfl (lv_at hl 0 rfl) ?_
      refine lv_iconst (v := nI 1) hx hb dX2_letterAt_19 (by decide) ?_
      refine lv_isub hx hb dX2_letterAt_20 ?_
      refine tp_i (pk_sub (a := rwL P) (b := 1) (by omega)) ?_
      refine lv_iload_n hx hb dX2_letterAt_21 rfl (lv_at hl 2 rfl) ?_
      refine lv_isub hx hb dX2_letterAt_22 ?_
      refine tp_i (pk_sub (a := (rwL P) - 1) (b := j) (by omega)) ?_
      refine lv_imul hx hb dX2_letterAt_23 ?_
      refine tp_i (pk_mul 5 (((rwL P) - 1) - j)) ?_
      refine lv_lushr (v := (lN (P / 32 ^ (rwL P - 1 - j)))) hx hb dX2_letterAt_24 (pk_sh hP0 _ (by omega)) ?_
      refine lv_l2i (v := nI (P / 32 ^ (rwL P - 1 - j))) hx hb dX2_letterAt_25 (lN_i _) ?_
      refine lv_bipush (v := nI 31) hx hb dX2_letterAt_26 (by decide) ?_
      refine lv_iand hx hb dX2_letterAt_28 ?_
      refine tp_i (b := (nI (rwA P j))) ((fa_mask _ 5).trans (congrArg nI (ra_of (by omega)))) ?_
      exact hret (nI (rwA P j)) [] _ _ _ _ dX2_letterAt_29 (⟨rfl, Or.inl ⟨j, hj, rfl, rfl⟩⟩) hP hD hS
    · skip
      have nj : ¬ ∃ j : Nat, j < rwL P ∧ nI j = x := by
        rintro ⟨j, hj, rfl⟩
        exact c_11_2 ((nI_ltI (by omega) (by omega)).mpr hj)
      refine lv_iconst (v := -1) hx hb dX2_letterAt_14 (by decide) ?_
      exact hret (-1) [] _ _ _ _ dX2_letterAt_15 (⟨rfl, Or.inr ⟨nj, rfl⟩⟩) hP hD hS

abbrev rm_X2_with : Room := { frames := 1, cells := 0, slots := 0, locals := 22 }
set_option maxHeartbeats 4000000 in
set_option maxRecDepth 100000 in
theorem c_X2_with (l : Launch) (P a : Nat) (hV : RV P) (hl0 : rwL P < 10) (ha0 : a < 32) : Pl l yX2_with wsX2_with rm_X2_with [.long (lN (P)), .int (nI (a))] (fun r => r = lN (rwX P a)) := by
  intro g
  refine Cl.ofL (cc := cX2_with) (maxL := 3) (by decide) rfl (Nat.le_of_ble_eq_true rfl) ?_
  intro p e s m args below meth c A Z hx hb hml hts hown hK hA hret H locs ls hP hD hS hl
  have hl : lv_has ls 3 [(0, .long (lN (P))), (2, .int (nI (a)))] := hl
  have hP0 := hV.lt
  have hc1 := hV.2.1
  have hc2 := p32 (show rwL P ≤ 9 by omega)
  rw [show 32 ^ 9 = 35184372088832 by decide] at hc2
  refine lv_lload_n hx hb dX2_with_0 rfl (lv_at hl 0 rfl) ?_
  refine call_iP (As := [.long (lN (P))]) (rest := []) ⟨hx, hb, hml, hown, hts⟩ (c_X2_lengthOf l P (hV.lt)) (va_cwS 1 hts gX2_with_X2_lengthOf rfl rfl rfl (by decide +kernel) ⟨Nat.le_of_ble_eq_true rfl, Nat.le_of_ble_eq_true rfl⟩) hP hK hD hS hA rfl hl.1 rfl (Nat.le_of_ble_eq_true rfl) dX2_with_1 ⟨Nat.le_refl _, Nat.le_refl _⟩ (fun r_1 H locs h_1 hP hD hS => ?_)
  subst h_1
  refine lv_iconst (v := nI 1) hx hb dX2_with_4 (by decide) ?_
  refine lv_iadd hx hb dX2_with_5 ?_
  refine tp_i (nI_add (rwL P) 1) ?_
  refine lv_lload_n hx hb dX2_with_6 rfl (lv_at hl 0 rfl) ?_
  refine lv_ldc2 (v := lN 1125899906842623) hx hb hown (hts (.constantLong RX2 15 (1125899906842623)) (by decide +kernel)) dX2_with_7 ?_
  refine lv_land hx hb dX2_with_10 ?_
  refine tp_l (b := (lN (rwC P))) (wb_mask (k := 50) (by omega) (by decide)) ?_
  refine lv_iconst (v := nI 5) hx hb dX2_with_11 (by decide) ?_
  refine lv_lshl (v := (lN (rwC P * 2 ^ 5))) hx hb dX2_with_12 (wb_shl _ (by decide)) ?_
  refine lv_iload_n hx hb dX2_with_13 rfl (lv_at hl 1 rfl) ?_
  refine lv_i2l (v := lN (a)) hx hb dX2_with_14 (nI_l (by omega)) ?_
  refine lv_lor hx hb dX2_with_15 ?_
  refine tp_l (b := (lN (rwC P * 32 + a))) (pk_ad ha0) ?_
  refine call_lP (As := [.int (nI ((rwL P) + 1)), .long (lN (rwC P * 32 + a))]) (rest := []) ⟨hx, hb, hml, hown, hts⟩ (c_X2_pack l (rwL P + 1) (rwC P * 32 + a) (by omega) (by omega)) (va_cwS 2 hts gX2_with_X2_pack rfl rfl rfl (by decide +kernel) ⟨Nat.le_of_ble_eq_true rfl, Nat.le_of_ble_eq_true rfl⟩) hP hK hD hS hA rfl hl.1 rfl (Nat.le_of_ble_eq_true rfl) dX2_with_16 ⟨Nat.le_refl _, Nat.le_refl _⟩ (fun r_16 H locs h_16 hP hD hS => ?_)
  subst h_16
  exact hret (lN (rwX P a)) [] _ _ _ _ dX2_with_19 (⟨rfl, rfl⟩) hP hD hS

abbrev rm_X2_beginning : Room := { frames := 1, cells := 0, slots := 0, locals := 22 }
set_option maxHeartbeats 4000000 in
set_option maxRecDepth 100000 in
theorem c_X2_beginning (l : Launch) (P k : Nat) (hV : RV P) (hk0 : k ≤ rwL P) : Pl l yX2_beginning wsX2_beginning rm_X2_beginning [.long (lN (P)), .int (nI (k))] (fun r => r = lN (rwB P k)) := by
  intro g
  refine Cl.ofL (cc := cX2_beginning) (maxL := 4) (by decide) rfl (Nat.le_of_ble_eq_true rfl) ?_
  intro p e s m args below meth c A Z hx hb hml hts hown hK hA hret H locs ls hP hD hS hl
  have hl : lv_has ls 4 [(0, .long (lN (P))), (2, .int (nI (k)))] := hl
  have h10 := hV.1
  have hP0 := hV.lt
  have hc1 := rc_lt P
  have hc2 := Nat.div_le_self (rwC P) (32 ^ (rwL P - k))
  refine lv_lload_n hx hb dX2_beginning_0 rfl (lv_at hl 0 rfl) ?_
  refine call_iP (As := [.long (lN (P))]) (rest := []) ⟨hx, hb, hml, hown, hts⟩ (c_X2_lengthOf l P (hV.lt)) (va_cwS 1 hts gX2_beginning_X2_lengthOf rfl rfl rfl (by decide +kernel) ⟨Nat.le_of_ble_eq_true rfl, Nat.le_of_ble_eq_true rfl⟩) hP hK hD hS hA rfl hl.1 rfl (Nat.le_of_ble_eq_true rfl) dX2_beginning_1 ⟨Nat.le_refl _, Nat.le_refl _⟩ (fun r_1 H locs h_1 hP hD hS => ?_)
  subst h_1
  refine lv_iload_n hx hb dX2_beginning_4 rfl (lv_at hl 1 rfl) ?_
  refine lv_isub hx hb dX2_beginning_5 ?_
  refine tp_i (pk_sub (a := rwL P) (b := k) (by omega)) ?_
  refine lv_istore_n (lv' := [(3, .int (nI ((rwL P) - k))), (0, .long (lN (P))), (2, .int (nI (k)))]) hx hb dX2_beginning_6 rfl hl (by decide) rfl (fun ls hl => ?_)
  refine lv_iload_n hx hb dX2_beginning_7 rfl (lv_at hl 2 rfl) ?_
  refine lv_lload_n hx hb dX2_beginning_8 rfl (lv_at hl 1 rfl) ?_
  refine lv_ldc2 (v := lN 1125899906842623) hx hb hown (hts (.constantLong RX2 15 (1125899906842623)) (by decide +kernel)) dX2_beginning_9 ?_
  refine lv_land hx hb dX2_beginning_12 ?_
  refine tp_l (b := (lN (rwC P))) (wb_mask (k := 50) (by omega) (by decide)) ?_
  refine lv_iconst (v := nI 5) hx hb dX2_beginning_13 (by decide) ?_
  refine lv_iload_n hx hb dX2_beginning_14 rfl (lv_at hl 0 rfl) ?_
  refine lv_imul hx hb dX2_beginning_15 ?_
  refine tp_i (pk_mul 5 ((rwL P) - k)) ?_
  refine lv_lushr (v := (lN (rwC P / 32 ^ (rwL P - k)))) hx hb dX2_beginning_16 (pk_sh (by omega) _ (by omega)) ?_
  refine call_lP (As := [.int (nI (k)), .long (lN (rwC P / 32 ^ (rwL P - k)))]) (rest := []) ⟨hx, hb, hml, hown, hts⟩ (c_X2_pack l k (rwC P / 32 ^ (rwL P - k)) (by omega) (by omega)) (va_cwS 2 hts gX2_beginning_X2_pack rfl rfl rfl (by decide +kernel) ⟨Nat.le_of_ble_eq_true rfl, Nat.le_of_ble_eq_true rfl⟩) hP hK hD hS hA rfl hl.1 rfl (Nat.le_of_ble_eq_true rfl) dX2_beginning_17 ⟨Nat.le_refl _, Nat.le_refl _⟩ (fun r_17 H locs h_17 hP hD hS => ?_)
  subst h_17
  exact hret (lN (rwB P k)) [] _ _ _ _ dX2_beginning_20 (⟨rfl, rfl⟩) hP hD hS

abbrev rm_X2_beginsWith : Room := { frames := 2, cells := 0, slots := 0, locals := 45 }
set_option maxHeartbeats 4000000 in
set_option maxRecDepth 100000 in
theorem c_X2_beginsWith (l : Launch) (P Q : Nat) (hV : RV P) (hU : RV Q) : Pi l yX2_beginsWith wsX2_beginsWith rm_X2_beginsWith [.long (lN (P)), .long (lN (Q))] (fun r => Bv r (rwL Q ≤ rwL P ∧ rwB P (rwL Q) = Q)) := by
  intro g
  refine Ci.ofZ (cc := cX2_beginsWith) (maxL := 5) (by decide) rfl (Nat.le_of_ble_eq_true rfl) ?_
  intro p e s m args below meth c A Z hx hb hml hts hown hK hA hret H locs ls hP hD hS hl
  have hl : lv_has ls 5 [(0, .long (lN (P))), (2, .long (lN (Q)))] := hl
  have h10 := hV.1
  have h11 := hU.1
  have hU0 := hU.lt
  refine lv_lload_n hx hb dX2_beginsWith_0 rfl (lv_at hl 1 rfl) ?_
  refine call_iP (As := [.long (lN (Q))]) (rest := []) ⟨hx, hb, hml, hown, hts⟩ (c_X2_lengthOf l Q (hU.lt)) (va_cwS 1 hts gX2_beginsWith_X2_lengthOf rfl rfl rfl (by decide +kernel) ⟨Nat.le_of_ble_eq_true rfl, Nat.le_of_ble_eq_true rfl⟩) hP hK hD hS hA rfl hl.1 rfl (Nat.le_of_ble_eq_true rfl) dX2_beginsWith_1 ⟨Nat.le_refl _, Nat.le_refl _⟩ (fun r_1 H locs h_1 hP hD hS => ?_)
  subst h_1
  refine lv_istore (lv' := [(4, .int (nI (rwL Q))), (0, .long (lN (P))), (2, .long (lN (Q)))]) hx hb dX2_beginsWith_4 hl (by decide) rfl (fun ls hl => ?_)
  refine lv_lload_n hx hb dX2_beginsWith_6 rfl (lv_at hl 1 rfl) ?_
  refine call_iP (As := [.long (lN (P))]) (rest := []) ⟨hx, hb, hml, hown, hts⟩ (c_X2_lengthOf l P (hV.lt)) (va_cwS 1 hts gX2_beginsWith_X2_lengthOf rfl rfl rfl (by decide +kernel) ⟨Nat.le_of_ble_eq_true rfl, Nat.le_of_ble_eq_true rfl⟩) hP hK hD hS hA rfl hl.1 rfl (Nat.le_of_ble_eq_true rfl) dX2_beginsWith_7 ⟨Nat.le_refl _, Nat.le_refl _⟩ (fun r_7 H locs h_7 hP hD hS => ?_)
  subst h_7
  refine lv_iload hx hb dX2_beginsWith_10 (lv_at hl 0 rfl) ?_
  refine lv_icmp_lt (tgt := 30) hx hb dX2_beginsWith_12 (by decide) (fun c_12_1 => ?_) (fun c_12_1 => ?_)
  · skip
    have n_12_1 : rwL P < rwL Q := (nI_ltI (a := rwL P) (b := rwL Q) (by omega) (by omega)).mp c_12_1
    refine lv_iconst (v := nI 0) hx hb dX2_beginsWith_30 (by decide) ?_
    exact hret (nI (0)) [] _ _ _ _ dX2_beginsWith_31 (Or.inl rfl) (⟨rfl, Bv.no (fun q9 => by omega)⟩) hP hD hS
  · skip
    have n_12_1 : ¬ rwL P < rwL Q := fun q9 => c_12_1 ((nI_ltI (a := rwL P) (b := rwL Q) (by omega) (by omega)).mpr q9)
    refine lv_lload_n hx hb dX2_beginsWith_15 rfl (lv_at hl 1 rfl) ?_
    refine lv_iload hx hb dX2_beginsWith_16 (lv_at hl 0 rfl) ?_
    refine call_lP (As := [.long (lN (P)), .int (nI (rwL Q))]) (rest := []) ⟨hx, hb, hml, hown, hts⟩ (c_X2_beginning l P (rwL Q) hV (by omega)) (va_cwS 2 hts gX2_beginsWith_X2_beginning rfl rfl rfl (by decide +kernel) ⟨Nat.le_of_ble_eq_true rfl, Nat.le_of_ble_eq_true rfl⟩) hP hK hD hS hA rfl hl.1 rfl (Nat.le_of_ble_eq_true rfl) dX2_beginsWith_18 ⟨Nat.le_refl _, Nat.le_refl _⟩ (fun r_18 H locs h_18 hP hD hS => ?_)
    subst h_18
    refine lv_lload_n hx hb dX2_beginsWith_21 rfl (lv_at hl 2 rfl) ?_
    have hB0 := (hV.rb (m := rwL Q) (by omega)).lt
    refine W.lcmp hx hb dX2_beginsWith_22 ?_
    refine lv_if_ne (tgt := 30) hx hb dX2_beginsWith_23 (by decide) (fun c_23_2 => ?_) (fun c_23_2 => ?_)
    · skip
      have n_23_2 : ¬ rwB P (rwL Q) = Q := fun q9 => c_23_2 ((lc_eq (a := rwB P (rwL Q)) (b := Q) (by omega) (by omega)).mpr q9)
      refine lv_iconst (v := nI 0) hx hb dX2_beginsWith_30 (by decide) ?_
      exact hret (nI (0)) [] _ _ _ _ dX2_beginsWith_31 (Or.inl rfl) (⟨rfl, Bv.no (fun q9 => by omega)⟩) hP hD hS
    · skip
      have n_23_2 : rwB P (rwL Q) = Q := (lc_eq (a := rwB P (rwL Q)) (b := Q) (by omega) (by omega)).mp c_23_2
      refine lv_iconst (v := nI 1) hx hb dX2_beginsWith_26 (by decide) ?_
      refine lv_goto (tgt := 31) hx hb dX2_beginsWith_27 (by decide) ?_
      exact hret (nI (1)) [] _ _ _ _ dX2_beginsWith_31 (Or.inr rfl) (⟨rfl, Bv.yes ⟨by omega, by omega⟩⟩) hP hD hS

abbrev rm_X2_goesOnBehind : Room := { frames := 3, cells := 0, slots := 0, locals := 69 }
set_option maxHeartbeats 4000000 in
set_option maxRecDepth 100000 in
theorem c_X2_goesOnBehind (l : Launch) (P Q : Nat) (hV : RV P) (hU : RV Q) : Pi l yX2_goesOnBehind wsX2_goesOnBehind rm_X2_goesOnBehind [.long (lN (P)), .long (lN (Q))] (fun r => Bv r (P ≠ Q ∧ rwL Q ≤ rwL P ∧ rwB P (rwL Q) = Q)) := by
  intro g
  refine Ci.ofZ (cc := cX2_goesOnBehind) (maxL := 4) (by decide) rfl (Nat.le_of_ble_eq_true rfl) ?_
  intro p e s m args below meth c A Z hx hb hml hts hown hK hA hret H locs ls hP hD hS hl
  have hl : lv_has ls 4 [(0, .long (lN (P))), (2, .long (lN (Q)))] := hl
  have hV0 := hV.lt
  have hU0 := hU.lt
  refine lv_lload_n hx hb dX2_goesOnBehind_0 rfl (lv_at hl 0 rfl) ?_
  refine lv_lload_n hx hb dX2_goesOnBehind_1 rfl (lv_at hl 1 rfl) ?_
  refine W.lcmp hx hb dX2_goesOnBehind_2 ?_
  refine lv_if_eq (tgt := 18) hx hb dX2_goesOnBehind_3 (by decide) (fun c_3_1 => ?_) (fun c_3_1 => ?_)
  · skip
    have n_3_1 : P = Q := (lc_eq (a := P) (b := Q) (by omega) (by omega)).mp c_3_1
    refine lv_iconst (v := nI 0) hx hb dX2_goesOnBehind_18 (by decide) ?_
    exact hret (nI (0)) [] _ _ _ _ dX2_goesOnBehind_19 (Or.inl rfl) (⟨rfl, Bv.no (fun q9 => q9.1 n_3_1)⟩) hP hD hS
  · skip
    have n_3_1 : ¬ P = Q := fun q9 => c_3_1 ((lc_eq (a := P) (b := Q) (by omega) (by omega)).mpr q9)
    refine lv_lload_n hx hb dX2_goesOnBehind_6 rfl (lv_at hl 0 rfl) ?_
    refine lv_lload_n hx hb dX2_goesOnBehind_7 rfl (lv_at hl 1 rfl) ?_
    refine call_iP (As := [.long (lN (P)), .long (lN (Q))]) (rest := []) ⟨hx, hb, hml, hown, hts⟩ (c_X2_beginsWith l P Q hV hU) (va_cwS 2 hts gX2_goesOnBehind_X2_beginsWith rfl rfl rfl (by decide +kernel) ⟨Nat.le_of_ble_eq_true rfl, Nat.le_of_ble_eq_true rfl⟩) hP hK hD hS hA rfl hl.1 rfl (Nat.le_of_ble_eq_true rfl) dX2_goesOnBehind_8 ⟨Nat.le_refl _, Nat.le_refl _⟩ (fun r_8 H locs h_8 hP hD hS => ?_)
    refine lv_if_eq (tgt := 18) hx hb dX2_goesOnBehind_11 (by decide) (fun c_11_2 => ?_) (fun c_11_2 => ?_)
    · skip
      have n_11_2 := Bv.f h_8 c_11_2
      refine lv_iconst (v := nI 0) hx hb dX2_goesOnBehind_18 (by decide) ?_
      exact hret (nI (0)) [] _ _ _ _ dX2_goesOnBehind_19 (Or.inl rfl) (⟨rfl, Bv.no (fun q9 => n_11_2 q9.2)⟩) hP hD hS
    · skip
      have n_11_2 := Bv.t h_8 c_11_2
      refine lv_iconst (v := nI 1) hx hb dX2_goesOnBehind_14 (by decide) ?_
      refine lv_goto (tgt := 19) hx hb dX2_goesOnBehind_15 (by decide) ?_
      exact hret (nI (1)) [] _ _ _ _ dX2_goesOnBehind_19 (Or.inr rfl) (⟨rfl, Bv.yes ⟨n_3_1, n_11_2⟩⟩) hP hD hS

abbrev rm_X2_lengthShared : Room := { frames := 2, cells := 0, slots := 0, locals := 45 }
set_option maxHeartbeats 4000000 in
set_option maxRecDepth 100000 in
theorem c_X2_lengthShared (l : Launch) (P Q : Nat) (hV : RV P) (hU : RV Q) : Pi l yX2_lengthShared wsX2_lengthShared rm_X2_lengthShared [.long (lN (P)), .long (lN (Q))] (fun r => r = nI (shr P Q)) := by
  intro g
  refine Ci.ofI (cc := cX2_lengthShared) (maxL := 5) (by decide) rfl (Nat.le_of_ble_eq_true rfl) ?_
  intro p e s m args below meth c A Z hx hb hml hts hown hK hA hret H locs ls hP hD hS hl
  have hl : lv_has ls 5 [(0, .long (lN (P))), (2, .long (lN (Q)))] := hl
  have h10 := hV.1
  have h11 := hU.1
  refine lv_lload_n hx hb dX2_lengthShared_0 rfl (lv_at hl 0 rfl) ?_
  refine call_iP (As := [.long (lN (P))]) (rest := []) ⟨hx, hb, hml, hown, hts⟩ (c_X2_lengthOf l P (hV.lt)) (va_cwS 1 hts gX2_lengthShared_X2_lengthOf rfl rfl rfl (by decide +kernel) ⟨Nat.le_of_ble_eq_true rfl, Nat.le_of_ble_eq_true rfl⟩) hP hK hD hS hA rfl hl.1 rfl (Nat.le_of_ble_eq_true rfl) dX2_lengthShared_1 ⟨Nat.le_refl _, Nat.le_refl _⟩ (fun r_1 H locs h_1 hP hD hS => ?_)
  subst h_1
  refine lv_lload_n hx hb dX2_lengthShared_4 rfl (lv_at hl 1 rfl) ?_
  refine call_iP (As := [.long (lN (Q))]) (rest := [.int (nI (rwL P))]) ⟨hx, hb, hml, hown, hts⟩ (c_X2_lengthOf l Q (hU.lt)) (va_cwS 1 hts gX2_lengthShared_X2_lengthOf rfl rfl rfl (by decide +kernel) ⟨Nat.le_of_ble_eq_true rfl, Nat.le_of_ble_eq_true rfl⟩) hP hK hD hS hA rfl hl.1 rfl (Nat.le_of_ble_eq_true rfl) dX2_lengthShared_5 ⟨Nat.le_refl _, Nat.le_refl _⟩ (fun r_5 H locs h_5 hP hD hS => ?_)
  subst h_5
  refine va_mmin hx hb (by rw [hml]; exact hl.1.symm) hown (hts (.methodLink RX2 29 Lib.Math.min.name) (by decide +kernel)) (hts (.static Lib.Math.min.name) (by decide +kernel)) (hts (.initialized "java/lang/Math") (by decide +kernel)) (hts (.code Lib.Math.min.name Lib.Math.min.code 2 (some .int)) (by decide +kernel)) (Nat.le_of_ble_eq_true rfl) (Nat.le_of_ble_eq_true rfl) (Nat.zero_le _) (Nat.zero_le _) dX2_lengthShared_8 ?_
  refine tp_i (b := (nI (min (rwL P) (rwL Q)))) (min_nI (by omega) (by omega)) ?_
  refine lv_istore (lv' := [(4, .int (nI (min (rwL P) (rwL Q)))), (0, .long (lN (P))), (2, .long (lN (Q)))]) hx hb dX2_lengthShared_11 hl (by decide) rfl (fun ls hl => ?_)
  have L_13 : ∀ (fu : Nat) (k : Nat), k < fu → (k ≤ rwL P) → (k ≤ rwL Q) → (shD P Q k = shr P Q) → ∀ (H : Heap) (locs : List Loc) (ls : Array Slot), va_P g.1 vwCl [] H → va_D A [] → va_S A s.heap H locs → lv_has ls 5 [(0, .long (lN (P))), (2, .long (lN (Q))), (4, .int (nI (k)))] → W p l e rm_X2_lengthShared s m args below meth c H locs 0 0 Z (F0 m 13 ls []) := by
    intro fu
    induction fu with
    | zero => intro _ h0; exact absurd h0 (Nat.not_lt_zero _)
    | succ fu ih_13 =>
      intro k hfu hk1 hk2 hk3 H locs ls hP hD hS hl
      refine lv_iload hx hb dX2_lengthShared_13 (lv_at hl 2 rfl) ?_
      refine lv_if_le (tgt := 40) hx hb dX2_lengthShared_15 (by decide) (fun c_15_1 => ?_) (fun c_15_1 => ?_)
      · skip
        have n_15_1 : k ≤ 0 := (nI_leI (a := k) (b := 0) (by omega) (by omega)).mp c_15_1
        refine lv_iload hx hb dX2_lengthShared_40 (lv_at hl 2 rfl) ?_
        exact hret (nI (k)) [] _ _ _ _ dX2_lengthShared_42 (⟨rfl, by rw [← hk3, shD_t (by rw [Nat.le_zero.mp n_15_1, hV.rb0, hU.rb0])]⟩) hP hD hS
      · skip
        have n_15_1 : ¬ k ≤ 0 := fun q9 => c_15_1 ((nI_leI (a := k) (b := 0) (by omega) (by omega)).mpr q9)
        refine lv_lload_n hx hb dX2_lengthShared_18 rfl (lv_at hl 0 rfl) ?_
        refine lv_iload hx hb dX2_lengthShared_19 (lv_at hl 2 rfl) ?_
        refine call_lP (As := [.long (lN (P)), .int (nI (k))]) (rest := []) ⟨hx, hb, hml, hown, hts⟩ (c_X2_beginning l P k hV (by omega)) (va_cwS 2 hts gX2_lengthShared_X2_beginning rfl rfl rfl (by decide +kernel) ⟨Nat.le_of_ble_eq_true rfl, Nat.le_of_ble_eq_true rfl⟩) hP hK hD hS hA rfl hl.1 rfl (Nat.le_of_ble_eq_true rfl) dX2_lengthShared_21 ⟨Nat.le_refl _, Nat.le_refl _⟩ (fun r_21 H locs h_21 hP hD hS => ?_)
        subst h_21
        refine lv_lload_n hx hb dX2_lengthShared_24 rfl (lv_at hl 1 rfl) ?_
        refine lv_iload hx hb dX2_lengthShared_25 (lv_at hl 2 rfl) ?_
        refine call_lP (As := [.long (lN (Q)), .int (nI (k))]) (rest := [.long (lN (rwB P k))]) ⟨hx, hb, hml, hown, hts⟩ (c_X2_beginning l Q k hU (by omega)) (va_cwS 2 hts gX2_lengthShared_X2_beginning rfl rfl rfl (by decide +kernel) ⟨Nat.le_of_ble_eq_true rfl, Nat.le_of_ble_eq_true rfl⟩) hP hK hD hS hA rfl hl.1 rfl (Nat.le_of_ble_eq_true rfl) dX2_lengthShared_27 ⟨Nat.le_refl _, Nat.le_refl _⟩ (fun r_27 H locs h_27 hP hD hS => ?_)
        subst h_27
        have hB1 := (hV.rb (m := k) (by omega)).lt
        have hB2 := (hU.rb (m := k) (by omega)).lt
        refine W.lcmp hx hb dX2_lengthShared_30 ?_
        refine lv_if_eq (tgt := 40) hx hb dX2_lengthShared_31 (by decide) (fun c_31_2 => ?_) (fun c_31_2 => ?_)
        · skip
          have n_31_2 : rwB P k = rwB Q k := (lc_eq (a := rwB P k) (b := rwB Q k) (by omega) (by omega)).mp c_31_2
          refine lv_iload hx hb dX2_lengthShared_40 (lv_at hl 2 rfl) ?_
          exact hret (nI (k)) [] _ _ _ _ dX2_lengthShared_42 (⟨rfl, by rw [← hk3, shD_t n_31_2]⟩) hP hD hS
        · skip
          have n_31_2 : ¬ rwB P k = rwB Q k := fun q9 => c_31_2 ((lc_eq (a := rwB P k) (b := rwB Q k) (by omega) (by omega)).mpr q9)
          refine lv_iinc (v := (nI (k - 1))) (lv' := [(4, .int (nI (k - 1))), (0, .long (lN (P))), (2, .long (lN (Q)))]) hx hb dX2_lengthShared_34 hl (k := 2) rfl (dec1 (by omega)) (by decide) rfl (fun ls hl => ?_)
          refine lv_goto (tgt := 13) hx hb dX2_lengthShared_37 (by decide) ?_
          exact ih_13 (k - 1) (by omega) (by omega) (by omega) ((shD_f (by omega) n_31_2).symm.trans hk3) _ _ _ hP hD hS (lv_sub hl [1, 2, 0] rfl)
  exact L_13 (_ + 1) (min (rwL P) (rwL Q)) (Nat.lt_succ_self _) (by omega) (by omega) (rfl) _ _ _ hP hD hS (lv_sub hl [1, 2, 0] rfl)
end
section
theorem tk0 : ((vx_atS RX4 37 "java/lang/IllegalArgumentException" ["java/lang/RuntimeException", "java/lang/Exception"]).filter (fun w => !goodWord w)).countP (fun w => match w with | .castable .. => true | _ => false) = 0 := by decide +kernel

theorem tk1 : ((vx_atS RX4 37 "java/lang/IllegalArgumentException" ["java/lang/RuntimeException", "java/lang/Exception"]).filter (fun w => !goodWord w)).countP (fun w => match w with | .codeSync .. => true | _ => false) = 0 := by decide +kernel

theorem tk2 : ((vx_atS RX4 37 "java/lang/IllegalArgumentException" ["java/lang/RuntimeException", "java/lang/Exception"]).filter (fun w => !goodWord w)).countP (fun w => match w with | .native _ => true | _ => false) = 0 := by decide +kernel

theorem tk3 : ((vx_atS RX4 37 "java/lang/IllegalArgumentException" ["java/lang/RuntimeException", "java/lang/Exception"]).filter (fun w => !goodWord w)).countP (fun w => match w with | .superclass .. => true | _ => false) = 0 := by decide +kernel

theorem tk4 : ((vx_atS RX4 37 "java/lang/IllegalArgumentException" ["java/lang/RuntimeException", "java/lang/Exception"]).filter (fun w => !goodWord w)).countP (fun w => match w with | .selects .. => true | _ => false) = 0 := by decide +kernel

theorem tk5 : ((vx_atS RX4 37 "java/lang/IllegalArgumentException" ["java/lang/RuntimeException", "java/lang/Exception"]).filter (fun w => !goodWord w)).countP (fun w => match w with | .initialized _ => true | _ => false) = 0 := by decide +kernel

theorem tk6 : ((vx_atS RX4 37 "java/lang/IllegalArgumentException" ["java/lang/RuntimeException", "java/lang/Exception"]).filter (fun w => !goodWord w)).countP (fun w => match w with | .lays .. => true | _ => false) = 0 := by decide +kernel

theorem tk7 : ((vx_atS RX4 37 "java/lang/IllegalArgumentException" ["java/lang/RuntimeException", "java/lang/Exception"]).filter (fun w => !goodWord w)).countP (fun w => match w with | .laysStatic .. => true | _ => false) = 0 := by decide +kernel

theorem tk8 : ((vx_atS RX4 37 "java/lang/IllegalArgumentException" ["java/lang/RuntimeException", "java/lang/Exception"]).filter (fun w => !goodWord w)).countP (fun w => match w with | .fieldLink .. => true | _ => false) = 0 := by decide +kernel

theorem tk9 : ((vx_atS RX4 37 "java/lang/IllegalArgumentException" ["java/lang/RuntimeException", "java/lang/Exception"]).filter (fun w => !goodWord w)).countP (fun w => match w with | .methodLink .. => true | _ => false) = 0 := by decide +kernel

theorem tk10 : ((vx_atS RX4 37 "java/lang/IllegalArgumentException" ["java/lang/RuntimeException", "java/lang/Exception"]).filter (fun w => !goodWord w)).countP (fun w => match w with | .code .. => true | _ => false) = 0 := by decide +kernel

theorem tk11 : ((vx_atS RX4 37 "java/lang/IllegalArgumentException" ["java/lang/RuntimeException", "java/lang/Exception"]).filter (fun w => !goodWord w)).countP (fun w => match w with | .instanceMethod _ => true | _ => false) = 0 := by decide +kernel

theorem tk12 : ((vx_atS RX4 37 "java/lang/IllegalArgumentException" ["java/lang/RuntimeException", "java/lang/Exception"]).filter (fun w => !goodWord w)).countP (fun w => match w with | .instantiable .. => true | _ => false) = 0 := by decide +kernel

theorem tk13 : ((vx_atS RX4 37 "java/lang/IllegalArgumentException" ["java/lang/RuntimeException", "java/lang/Exception"]).filter (fun w => !goodWord w)).countP (fun w => match w with | .classLink .. => true | _ => false) = 0 := by decide +kernel

theorem tk14 : ((vx_atS RX4 37 "java/lang/IllegalArgumentException" ["java/lang/RuntimeException", "java/lang/Exception"]).filter (fun w => !goodWord w)).countP (fun w => match w with | .isRef _ => true | _ => false) = 0 := by decide +kernel

theorem tn0 : ¬ ((vx_atS RX4 37 "java/lang/IllegalArgumentException" ["java/lang/RuntimeException", "java/lang/Exception"]).filter (fun w => !goodWord w)).length = 0 := by decide +kernel

theorem tn1 : ¬ ((vx_atS RX4 37 "java/lang/IllegalArgumentException" ["java/lang/RuntimeException", "java/lang/Exception"]).filter (fun w => !goodWord w)).length = 1 := by decide +kernel

theorem tn2 : ¬ ((vx_atS RX4 37 "java/lang/IllegalArgumentException" ["java/lang/RuntimeException", "java/lang/Exception"]).filter (fun w => !goodWord w)).length = 2 := by decide +kernel

theorem tn3 : ¬ ((vx_atS RX4 37 "java/lang/IllegalArgumentException" ["java/lang/RuntimeException", "java/lang/Exception"]).filter (fun w => !goodWord w)).length = 3 := by decide +kernel

theorem tn4 : ¬ ((vx_atS RX4 37 "java/lang/IllegalArgumentException" ["java/lang/RuntimeException", "java/lang/Exception"]).filter (fun w => !goodWord w)).length = 4 := by decide +kernel

theorem tn5 : ¬ ((vx_atS RX4 37 "java/lang/IllegalArgumentException" ["java/lang/RuntimeException", "java/lang/Exception"]).filter (fun w => !goodWord w)).length = 5 := by decide +kernel

theorem tn6 : ¬ ((vx_atS RX4 37 "java/lang/IllegalArgumentException" ["java/lang/RuntimeException", "java/lang/Exception"]).filter (fun w => !goodWord w)).length = 6 := by decide +kernel

theorem tn7 : ¬ ((vx_atS RX4 37 "java/lang/IllegalArgumentException" ["java/lang/RuntimeException", "java/lang/Exception"]).filter (fun w => !goodWord w)).length = 7 := by decide +kernel

theorem tn8 : ¬ ((vx_atS RX4 37 "java/lang/IllegalArgumentException" ["java/lang/RuntimeException", "java/lang/Exception"]).filter (fun w => !goodWord w)).length = 8 := by decide +kernel

theorem tn9 : ¬ ((vx_atS RX4 37 "java/lang/IllegalArgumentException" ["java/lang/RuntimeException", "java/lang/Exception"]).filter (fun w => !goodWord w)).length = 9 := by decide +kernel

theorem tn10 : ¬ ((vx_atS RX4 37 "java/lang/IllegalArgumentException" ["java/lang/RuntimeException", "java/lang/Exception"]).filter (fun w => !goodWord w)).length = 10 := by decide +kernel

theorem tn11 : ¬ ((vx_atS RX4 37 "java/lang/IllegalArgumentException" ["java/lang/RuntimeException", "java/lang/Exception"]).filter (fun w => !goodWord w)).length = 11 := by decide +kernel
end
