section LAWB
def nNc : Prop := True
def Pwy (g : GG) (wd : va_W) (sz : Nat) (U : State) : Prop := Pwx g wd sz U ∧ va_Nc "java/lang/IllegalStateException" "java/lang/IllegalArgumentException" U
theorem Pwy.blind (g : GG) (av : List Value) (wd : va_W) (sz : Nat) : FrameBlind (va_Pc av (Pwy g wd sz)) := fun a U gg mk q => by
  obtain ⟨q0, q1, q2⟩ := q
  have h := Pwx.blind g av wd sz a U gg mk ⟨q0, q1⟩
  exact ⟨h.1, h.2, va_Nc.moved (u := U) (U := U.calling gg mk a) (Vm.Alike.refl U.vm) q2⟩
/-- a method of the law that catches all that its callee throws -/
def Xw (l : Launch) (y : MethodName) (ws : List Cond) (rm : Room) (g : GG) (av : List Value) (wd : va_W) (post : Int32 → va_W → Prop) : Prop := ∀ sz : Nat, vx_Met l y ws rm (va_Pc av (Pwy g wd sz)) (va_Qi post (fun w t => Bw g (va_A wd sz) w t) (va_A wd sz)) (vx_X (fun _ : Unit => False) (fun _ _ _ => True) (va_A wd sz)) 1 6 (va_A wd sz)
theorem Xw.of {l : Launch} {y : MethodName} {ws ws' : List Cond} {rm : Room} {g : GG} {av : List Value} {wd : va_W} {cc : ByteArray} {maxL : Nat} {hh : List (Nat × Nat × Nat × Nat)} {post : Int32 → va_W → Prop} (hy : plainName y.cls = true) (hw : ws = Cond.codeWith y cc maxL (some .int) hh :: ws') (hn : (lg_sl av).length ≤ maxL)
    (body : ∀ (p : Program) (e : Env) (s : State) (m : MethodId) (args : Array Value) (below : List Frame) (meth : Method) (c : Code) (A : Nat → Prop) (Z : State → Prop),
      p.tables.exec = Jvm.exec → c.code = cc → c.maxLocals = maxL → (∀ w ∈ ws, w.before args s = true) → s.vm.findClass y.cls = some m.cls → va_K g.1 vwCl (tyG g) s → (∀ q, s.heap.size ≤ q → A q) → Xk A s → va_Nc "java/lang/IllegalStateException" "java/lang/IllegalArgumentException" s → c.exceptionTable.toList = tableOf hh →
      (∀ (r : Int32) (w : va_W) (H : Heap) (locs : List Loc) (ls : Array Slot) (pc cells slots : Nat), cells ≤ 1 → slots ≤ 6 → decode cc pc = .ok (.ireturn, 1) → post r w → va_P g.1 vwCl w H → va_D A w → va_S A s.heap H locs → W p l e rm s m args below meth c H locs cells slots Z (F0 m pc ls [.int r])) →
      ∀ (H : Heap) (locs : List Loc) (ls : Array Slot), va_P g.1 vwCl wd H → va_D A wd → va_S A s.heap H locs → lv_has ls maxL (lv_args 0 av) → W p l e rm s m args below meth c H locs 0 0 Z (F0 m 0 ls [])) : Xw l y ws rm g av wd post := by
  intro sz
  refine vx_ofWH (cc := cc) (maxL := maxL) (ret := some .int) (hh := hh) hy hw ?_
  intro p e s m args below meth c s₁ B hml hv
  obtain ⟨rfl, ⟨⟨hsz, hP, hK, hD0⟩, hXk⟩, hNc⟩ := hv
  have hx := B.exec
  have hb := B.bytes
  have hr := B.returns
  have hts := atoms_spec (ws := ws) B.pre
  have hown : s.vm.findClass y.cls = some m.cls := findClass_of_methodNamed B.named
  have hlocks := B.notSynchronized
  have htab := vx_table (x := y) B (hts _ (by rw [hw]; exact List.mem_cons_self))
  subst hsz
  have hD := hD0.self (sz := s.heap.size)
  generalize hAe : va_A wd s.heap.size = A at hD hXk ⊢
  have hA : ∀ q : Nat, s.heap.size ≤ q → A q := fun q h => by rw [← hAe]; exact Or.inr h
  have hl := lv_entry av (n := maxL) hn
  rw [lg_entry_eq]
  exact body p e s m av.toArray below meth c A _ hx hb hml hts hown hK hA hXk hNc htab (fun r w H locs ls pc cells slots h1 h6 hd hp hP hD hS =>
    W.widen (k := 1) (n := 6) h1 h6 (vx_ret (W.iret (v := r) hx hb hr (fun t ht hW => ⟨⟨r, w, rfl, hp, by rw [ht]; exact hP, va_K.moved hW.alike hK, hD⟩, hS.F ht⟩) hS.2.2 hd))) _ _ _ hP hD va_S.rf hl
theorem Xw.ofZ {l : Launch} {y : MethodName} {ws ws' : List Cond} {rm : Room} {g : GG} {av : List Value} {wd : va_W} {cc : ByteArray} {maxL : Nat} {hh : List (Nat × Nat × Nat × Nat)} {post : Int32 → va_W → Prop} (hy : plainName y.cls = true) (hw : ws = Cond.codeWith y cc maxL (some .boolean) hh :: ws') (hn : (lg_sl av).length ≤ maxL)
    (body : ∀ (p : Program) (e : Env) (s : State) (m : MethodId) (args : Array Value) (below : List Frame) (meth : Method) (c : Code) (A : Nat → Prop) (Z : State → Prop),
      p.tables.exec = Jvm.exec → c.code = cc → c.maxLocals = maxL → (∀ w ∈ ws, w.before args s = true) → s.vm.findClass y.cls = some m.cls → va_K g.1 vwCl (tyG g) s → (∀ q, s.heap.size ≤ q → A q) → Xk A s → va_Nc "java/lang/IllegalStateException" "java/lang/IllegalArgumentException" s → c.exceptionTable.toList = tableOf hh →
      (∀ (r : Int32) (w : va_W) (H : Heap) (locs : List Loc) (ls : Array Slot) (pc cells slots : Nat), cells ≤ 1 → slots ≤ 6 → decode cc pc = .ok (.ireturn, 1) → (r = 0 ∨ r = 1) → post r w → va_P g.1 vwCl w H → va_D A w → va_S A s.heap H locs → W p l e rm s m args below meth c H locs cells slots Z (F0 m pc ls [.int r])) →
      ∀ (H : Heap) (locs : List Loc) (ls : Array Slot), va_P g.1 vwCl wd H → va_D A wd → va_S A s.heap H locs → lv_has ls maxL (lv_args 0 av) → W p l e rm s m args below meth c H locs 0 0 Z (F0 m 0 ls [])) : Xw l y ws rm g av wd post := by
  intro sz
  refine vx_ofWH (cc := cc) (maxL := maxL) (ret := some .boolean) (hh := hh) hy hw ?_
  intro p e s m args below meth c s₁ B hml hv
  obtain ⟨rfl, ⟨⟨hsz, hP, hK, hD0⟩, hXk⟩, hNc⟩ := hv
  have hx := B.exec
  have hb := B.bytes
  have hr := B.returns
  have hts := atoms_spec (ws := ws) B.pre
  have hown : s.vm.findClass y.cls = some m.cls := findClass_of_methodNamed B.named
  have hlocks := B.notSynchronized
  have htab := vx_table (x := y) B (hts _ (by rw [hw]; exact List.mem_cons_self))
  subst hsz
  have hD := hD0.self (sz := s.heap.size)
  generalize hAe : va_A wd s.heap.size = A at hD hXk ⊢
  have hA : ∀ q : Nat, s.heap.size ≤ q → A q := fun q h => by rw [← hAe]; exact Or.inr h
  have hl := lv_entry av (n := maxL) hn
  rw [lg_entry_eq]
  exact body p e s m av.toArray below meth c A _ hx hb hml hts hown hK hA hXk hNc htab (fun r w H locs ls pc cells slots h1 h6 hd hz hp hP hD hS =>
    W.widen (k := 1) (n := 6) h1 h6 (vx_ret (W.zret (v := r) hx hb hr (nar_z hz) (fun t ht hW => ⟨⟨r, w, rfl, hp, by rw [ht]; exact hP, va_K.moved hW.alike hK, hD⟩, hS.F ht⟩) hS.2.2 hd))) _ _ _ hP hD va_S.rf hl
variable {p : Program} {l : Launch} {e : Env} {R : Room} {s : State} {m : MethodId} {args : Array Value} {below : List Frame} {meth : Method} {c : Code} {H : Heap} {locs : List Loc} {cells slots : Nat} {Q : State → Prop}
variable {cc : ByteArray} {nL maxL n index pc : Nat} {Ts ws : List Cond} {own C : String} {y : MethodName} {bytes : ByteArray} {ret : Option FieldType} {hh : List (Nat × Nat × Nat × Nat)} {rm : Room} {g : GG} {As rest st0 : List Value} {b : Nat} {wd wc wr : va_W} {A : Nat → Prop} {ls : Array Slot} {xp : String → Prop}
theorem call_iX {post : Int32 → va_W → Prop} (S : CallFix p m c cc nL s args Ts own) (hC : Xi l y ws rm g (.ref b :: As) wc post xp) (cw : CallW R s args own C index y bytes maxL ret ws rm 1 6 n)
    (hP : va_P g.1 vwCl wd H) (hK : va_K g.1 vwCl (tyG g) s) (hD : va_D A wd) (hS : va_S A s.heap H locs) (hA : ∀ q, s.heap.size ≤ q → A q) (hXk : Xk A s) (isC isR : List Nat) (hc : isC.map (fun i => wd[i]?) = wc.map some) (hr : isR.map (fun i => wd[i]?) = wr.map some) (hnC : va_nd isC = true) (hnR : va_nd isR = true) (hdis : ∀ i ∈ isR, i ∉ isC)
    (q0 : Nat) {ci : Nat} {q : vw_C} {fs : List Value} (he : wc[q0]? = some (b, .inr (ci, fs))) (hci : vwCl[ci]? = some q) (hqC : q.1 = C) (hn : As.length = n) (hsz : ls.size = nL) (hst : st0 = As.reverse ++ .ref b :: rest) (hrm : (rest.map fun v => v.category).sum ≤ 8) (hdg : decode cc pc = .ok (.invokevirtual index, 3)) (hf : cells + 1 ≤ R.cells ∧ slots + 6 ≤ R.slots)
    (kx : ∀ (E : String) (ce : Cell) (q9 : Addr) (H1 : Heap) (locs1 : List Loc), xp E → va_P g.1 vwCl (wr ++ wc) H1 → va_D A (wr ++ wc) → va_S A s.heap H1 locs1 → H1[q9]? = some ce → ce.vm = .none → s.vm.findClass E = some ce.cls → vx_W p l e R s m args below meth c H1 locs1 (cells + 1) (slots + 6) Q (F0 m pc ls rest) q9)
    (kk : ∀ (r : Int32) (w : va_W) (H1 : Heap) (locs1 : List Loc), post r w → va_P g.1 vwCl (wr ++ w) H1 → va_D A (wr ++ w) → va_S A s.heap H1 locs1 → W p l e R s m args below meth c H1 locs1 (cells + 1) (slots + 6) Q (F0 m (pc + 3) ls (.int r :: rest))) : W p l e R s m args below meth c H locs cells slots Q (F0 m pc ls st0) := by
  subst hst
  have hPc : va_P g.1 vwCl wc H := hP.sub isC (fm_of (wc := wc) hc)
  have hDc : va_D A wc := hD.sub isC hnC hc
  have hFc := va_free (wc := wc) hD hS hA isC hc
  refine vx_calli (vx_runV (As := As) (rest := rest) S (hC H.size) cw ⟨Pwx.blind g (.ref b :: As) wc H.size, (by subst hqC; exact va_recv hK hPc hci he), fun U hU hW => ⟨rfl, ⟨by rw [hU], by rw [hU]; exact hPc, va_K.moved hW.alike hK, hDc.weaken (fun _ _ _ _ => trivial)⟩, Xk.move hW hU hS hFc hXk⟩⟩ rfl hn hsz rfl (lv_room hrm) hdg hf) hS (fun q _ h => hFc q h) hFc (fun q _ h => hFc q h) (fun E ce q9 u t H1 locs1 ht hvm _ hB hz1 hk1 hS1 hcell hcv hcl => ?_) (fun r w t H1 locs1 ht hvm hw hB hz1 hk1 hS1 => ?_)
  · obtain ⟨hxp, hP1, hK1, hD1⟩ := hB
    rw [ht] at hP1
    obtain ⟨hP2, hD2⟩ := va_join (wr := wr) (w1 := wc) hP hD isC isR hc hr hnR hdis hk1 hFc hP1 hD1
    exact kx E ce q9 H1 locs1 hxp hP2 hD2 hS1 hcell hcv hcl
  · obtain ⟨hP1, hK1, hD1⟩ := hB
    rw [ht] at hP1
    obtain ⟨hP2, hD2⟩ := va_join (wr := wr) (w1 := w) hP hD isC isR hc hr hnR hdis hk1 hFc hP1 hD1
    exact kk r w H1 locs1 hw hP2 hD2 hS1
theorem call_vX {post : va_W → Prop} (S : CallFix p m c cc nL s args Ts own) (hC : Xv l y ws rm g (.ref b :: As) wc post xp) (cw : CallW R s args own C index y bytes maxL ret ws rm 1 6 n)
    (hP : va_P g.1 vwCl wd H) (hK : va_K g.1 vwCl (tyG g) s) (hD : va_D A wd) (hS : va_S A s.heap H locs) (hA : ∀ q, s.heap.size ≤ q → A q) (hXk : Xk A s) (isC isR : List Nat) (hc : isC.map (fun i => wd[i]?) = wc.map some) (hr : isR.map (fun i => wd[i]?) = wr.map some) (hnC : va_nd isC = true) (hnR : va_nd isR = true) (hdis : ∀ i ∈ isR, i ∉ isC)
    (q0 : Nat) {ci : Nat} {q : vw_C} {fs : List Value} (he : wc[q0]? = some (b, .inr (ci, fs))) (hci : vwCl[ci]? = some q) (hqC : q.1 = C) (hn : As.length = n) (hsz : ls.size = nL) (hst : st0 = As.reverse ++ .ref b :: rest) (hrm : (rest.map fun v => v.category).sum ≤ 8) (hdg : decode cc pc = .ok (.invokevirtual index, 3)) (hf : cells + 1 ≤ R.cells ∧ slots + 6 ≤ R.slots)
    (kx : ∀ (E : String) (ce : Cell) (q9 : Addr) (H1 : Heap) (locs1 : List Loc), xp E → va_P g.1 vwCl (wr ++ wc) H1 → va_D A (wr ++ wc) → va_S A s.heap H1 locs1 → H1[q9]? = some ce → ce.vm = .none → s.vm.findClass E = some ce.cls → vx_W p l e R s m args below meth c H1 locs1 (cells + 1) (slots + 6) Q (F0 m pc ls rest) q9)
    (kk : ∀ (w : va_W) (H1 : Heap) (locs1 : List Loc), post w → va_P g.1 vwCl (wr ++ w) H1 → va_D A (wr ++ w) → va_S A s.heap H1 locs1 → W p l e R s m args below meth c H1 locs1 (cells + 1) (slots + 6) Q (F0 m (pc + 3) ls rest)) : W p l e R s m args below meth c H locs cells slots Q (F0 m pc ls st0) := by
  subst hst
  have hPc : va_P g.1 vwCl wc H := hP.sub isC (fm_of (wc := wc) hc)
  have hDc : va_D A wc := hD.sub isC hnC hc
  have hFc := va_free (wc := wc) hD hS hA isC hc
  refine vx_callv (vx_runV (As := As) (rest := rest) S (hC H.size) cw ⟨Pwx.blind g (.ref b :: As) wc H.size, (by subst hqC; exact va_recv hK hPc hci he), fun U hU hW => ⟨rfl, ⟨by rw [hU], by rw [hU]; exact hPc, va_K.moved hW.alike hK, hDc.weaken (fun _ _ _ _ => trivial)⟩, Xk.move hW hU hS hFc hXk⟩⟩ rfl hn hsz rfl (lv_room hrm) hdg hf) hS (fun q _ h => hFc q h) hFc (fun q _ h => hFc q h) (fun E ce q9 u t H1 locs1 ht hvm _ hB hz1 hk1 hS1 hcell hcv hcl => ?_) (fun w t H1 locs1 ht hvm hw hB hz1 hk1 hS1 => ?_)
  · obtain ⟨hxp, hP1, hK1, hD1⟩ := hB
    rw [ht] at hP1
    obtain ⟨hP2, hD2⟩ := va_join (wr := wr) (w1 := wc) hP hD isC isR hc hr hnR hdis hk1 hFc hP1 hD1
    exact kx E ce q9 H1 locs1 hxp hP2 hD2 hS1 hcell hcv hcl
  · obtain ⟨hP1, hK1, hD1⟩ := hB
    rw [ht] at hP1
    obtain ⟨hP2, hD2⟩ := va_join (wr := wr) (w1 := w) hP hD isC isR hc hr hnR hdis hk1 hFc hP1 hD1
    exact kk w H1 locs1 hw hP2 hD2 hS1
theorem call_wX {post : Int32 → va_W → Prop} (S : CallFix p m c cc nL s args Ts own) (hC : Xw l y ws rm g As wc post) (cw : vx_CSW R s args own index y bytes maxL ret hh ws rm 1 6 n)
    (hP : va_P g.1 vwCl wd H) (hK : va_K g.1 vwCl (tyG g) s) (hD : va_D A wd) (hS : va_S A s.heap H locs) (hA : ∀ q, s.heap.size ≤ q → A q) (hXk : Xk A s) (hNc : va_Nc "java/lang/IllegalStateException" "java/lang/IllegalArgumentException" s) (isC isR : List Nat) (hc : isC.map (fun i => wd[i]?) = wc.map some) (hr : isR.map (fun i => wd[i]?) = wr.map some) (hnC : va_nd isC = true) (hnR : va_nd isR = true) (hdis : ∀ i ∈ isR, i ∉ isC)
    (hn : As.length = n) (hsz : ls.size = nL) (hst : st0 = As.reverse ++ rest) (hrm : (rest.map fun v => v.category).sum ≤ 8) (hdg : decode cc pc = .ok (.invokestatic index, 3)) (hf : cells + 1 ≤ R.cells ∧ slots + 6 ≤ R.slots)
    (kk : ∀ (r : Int32) (w : va_W) (H1 : Heap) (locs1 : List Loc), post r w → va_P g.1 vwCl (wr ++ w) H1 → va_D A (wr ++ w) → va_S A s.heap H1 locs1 → W p l e R s m args below meth c H1 locs1 (cells + 1) (slots + 6) Q (F0 m (pc + 3) ls (.int r :: rest))) : W p l e R s m args below meth c H locs cells slots Q (F0 m pc ls st0) := by
  subst hst
  have hPc : va_P g.1 vwCl wc H := hP.sub isC (fm_of (wc := wc) hc)
  have hDc : va_D A wc := hD.sub isC hnC hc
  have hFc := va_free (wc := wc) hD hS hA isC hc
  refine vx_calli (vx_runSX (As := As) (rest := rest) S (hC H.size) cw ⟨Pwy.blind g As wc H.size, fun U hU hW => ⟨rfl, ⟨⟨by rw [hU], by rw [hU]; exact hPc, va_K.moved hW.alike hK, hDc.weaken (fun _ _ _ _ => trivial)⟩, Xk.move hW hU hS hFc hXk⟩, hNc.moved hW.alike⟩⟩ rfl hn hsz rfl (lv_room hrm) hdg hf) hS (fun q _ h => hFc q h) hFc (fun q _ h => hFc q h) (fun E ce q9 u t H1 locs1 ht hvm hF _ hz1 hk1 hS1 hcell hcv hcl => hF.elim) (fun r w t H1 locs1 ht hvm hw hB hz1 hk1 hS1 => ?_)
  obtain ⟨hP1, hK1, hD1⟩ := hB
  rw [ht] at hP1
  obtain ⟨hP2, hD2⟩ := va_join (wr := wr) (w1 := w) hP hD isC isR hc hr hnR hdis hk1 hFc hP1 hD1
  exact kk r w H1 locs1 hw hP2 hD2 hS1
/-- a method of the law without a table of its own; it makes at most mc cells of ms slots -/
def Yc (l : Launch) (y : MethodName) (ws : List Cond) (rm : Room) (g : GG) (av : List Value) (wd : va_W) (mc ms : Nat) (post : Int32 → va_W → Prop) : Prop := ∀ sz : Nat, Met l y ws rm (va_Pc av (Pwy g wd sz)) (va_Qi post (fun w t => Bw g (va_A wd sz) w t) (va_A wd sz)) mc ms (va_A wd sz)
theorem Yc.ofZ {l : Launch} {y : MethodName} {ws ws' : List Cond} {rm : Room} {g : GG} {av : List Value} {wd : va_W} {mc ms : Nat} {cc : ByteArray} {maxL : Nat} {post : Int32 → va_W → Prop} (hy : plainName y.cls = true) (hw : ws = Cond.code y cc maxL (some .boolean) :: ws') (hn : (lg_sl av).length ≤ maxL)
    (body : ∀ (p : Program) (e : Env) (s : State) (m : MethodId) (args : Array Value) (below : List Frame) (meth : Method) (c : Code) (A : Nat → Prop) (Z : State → Prop),
      p.tables.exec = Jvm.exec → c.code = cc → c.maxLocals = maxL → (∀ w ∈ ws, w.before args s = true) → s.vm.findClass y.cls = some m.cls → va_K g.1 vwCl (tyG g) s → (∀ q, s.heap.size ≤ q → A q) → Xk A s → va_Nc "java/lang/IllegalStateException" "java/lang/IllegalArgumentException" s →
      (∀ (r : Int32) (w : va_W) (H : Heap) (locs : List Loc) (ls : Array Slot) (pc cells slots : Nat), cells ≤ mc → slots ≤ ms → decode cc pc = .ok (.ireturn, 1) → (r = 0 ∨ r = 1) → post r w → va_P g.1 vwCl w H → va_D A w → va_S A s.heap H locs → W p l e rm s m args below meth c H locs cells slots Z (F0 m pc ls [.int r])) →
      ∀ (H : Heap) (locs : List Loc) (ls : Array Slot), va_P g.1 vwCl wd H → va_D A wd → va_S A s.heap H locs → lv_has ls maxL (lv_args 0 av) → W p l e rm s m args below meth c H locs 0 0 Z (F0 m 0 ls [])) : Yc l y ws rm g av wd mc ms post := by
  intro sz
  refine Met.ofW (cc := cc) (maxL := maxL) (ret := some .boolean) hy hw ?_
  intro p e s m args below meth c s₁ B hml hv
  obtain ⟨rfl, ⟨⟨hsz, hP, hK, hD0⟩, hXk⟩, hNc⟩ := hv
  have hx := B.exec
  have hb := B.bytes
  have hr := B.returns
  have hts := atoms_spec (ws := ws) B.pre
  have hown : s.vm.findClass y.cls = some m.cls := findClass_of_methodNamed B.named
  have hlocks := B.notSynchronized
  subst hsz
  have hD := hD0.self (sz := s.heap.size)
  generalize hAe : va_A wd s.heap.size = A at hD hXk ⊢
  have hA : ∀ q : Nat, s.heap.size ≤ q → A q := fun q h => by rw [← hAe]; exact Or.inr h
  have hl := lv_entry av (n := maxL) hn
  rw [lg_entry_eq]
  exact body p e s m av.toArray below meth c A _ hx hb hml hts hown hK hA hXk hNc (fun r w H locs ls pc cells slots h1 h6 hd hz hp hP hD hS =>
    W.widen (k := mc) (n := ms) h1 h6 (W.zret (v := r) hx hb hr (nar_z hz) (fun t ht hW => ⟨⟨r, w, rfl, hp, by rw [ht]; exact hP, va_K.moved hW.alike hK, hD⟩, hS.F ht⟩) hS.2.2 hd)) _ _ _ hP hD va_S.rf hl
theorem call_yS {mc ms : Nat} {post : Int32 → va_W → Prop} (S : CallFix p m c cc nL s args Ts own) (hC : Yc l y ws rm g As wd mc ms post) (cw : CallB R s args own index y bytes maxL ret ws rm mc ms n ∧ (Cond.static y).before args s = true)
    (hP : va_P g.1 vwCl wd H) (hK : va_K g.1 vwCl (tyG g) s) (hD : va_D A wd) (hS : va_S A s.heap H locs) (hA : ∀ q, s.heap.size ≤ q → A q) (hXk : Xk A s) (hNc : va_Nc "java/lang/IllegalStateException" "java/lang/IllegalArgumentException" s)
    (hn : As.length = n) (hsz : ls.size = nL) (hst : st0 = As.reverse ++ rest) (hrm : (rest.map fun v => v.category).sum ≤ 8) (hdg : decode cc pc = .ok (.invokestatic index, 3)) (hf : cells + mc ≤ R.cells ∧ slots + ms ≤ R.slots)
    (kk : ∀ (r : Int32) (w : va_W) (H1 : Heap) (locs1 : List Loc), post r w → va_P g.1 vwCl w H1 → va_D A w → va_S A s.heap H1 locs1 → W p l e R s m args below meth c H1 locs1 (cells + mc) (slots + ms) Q (F0 m (pc + 3) ls (.int r :: rest))) : W p l e R s m args below meth c H locs cells slots Q (F0 m pc ls st0) := by
  subst hst
  have hc : (List.range wd.length).map (fun i => wd[i]?) = wd.map some := rng_map wd
  have hFc := va_free (wc := wd) hD hS hA (List.range wd.length) hc
  refine va_calli (va_runS (As := As) (rest := rest) S (hC H.size) cw ⟨Pwy.blind g As wd H.size, fun U hU hW => ⟨rfl, ⟨⟨by rw [hU], by rw [hU]; exact hP, va_K.moved hW.alike hK, hD.weaken (fun _ _ _ _ => trivial)⟩, Xk.move hW hU hS hFc hXk⟩, hNc.moved hW.alike⟩⟩ rfl hn hsz rfl (lv_room hrm) hdg hf) hS (fun q _ h => hFc q h) hFc (fun r w t H1 locs1 ht hvm hw hB hz1 hk1 hS1 => ?_)
  obtain ⟨hP1, hK1, hD1⟩ := hB
  rw [ht] at hP1
  obtain ⟨hP2, hD2⟩ := va_join (wr := []) (w1 := w) hP hD (List.range wd.length) [] hc rfl rfl (fun i h => by cases h) hk1 hFc hP1 hD1
  exact kk r w H1 locs1 hw hP2 hD2 hS1
/-! what is drawn -/
def drV (L : Nat) (xs : Nat → Int32) (k : Nat) : Int32 := (if k < L then xs k else nI 11071 * nI k + nI 2027) &&& 2147483647
theorem dr_ex (L : Nat) (xs : Nat → Int32) (k : Nat) : ∃ n : Nat, n < 2147483648 ∧ drV L xs k = nI n := pk_andE _ (m := 2147483647) 31 (by decide +kernel)
def Pdr (g : GG) (b L : Nat) (xs : Nat → Int32) (sz : Nat) (U : State) : Prop := Pw g [] sz U ∧ va_X b L xs U U.heap ∧ b < sz
theorem Pdr.blind (g : GG) (av : List Value) (b L : Nat) (xs : Nat → Int32) (sz : Nat) : FrameBlind (va_Pc av (Pdr g b L xs sz)) := fun a U gg mk q => by
  obtain ⟨q0, q1, q2, q3⟩ := q
  have h := Pw.blind g av [] sz a U gg mk ⟨q0, q1⟩
  exact ⟨h.1, h.2, va_X.moved (u := U) (U := U.calling gg mk a) (Vm.Alike.refl U.vm) q2, q3⟩
abbrev rm_L_drawn : Room := { frames := 0, cells := 0, slots := 0, locals := 0 }
def Dr (l : Launch) (g : GG) (b L k : Nat) (xs : Nat → Int32) : Prop := ∀ sz : Nat, Met l yL_drawn wsL_drawn rm_L_drawn (va_Pc [.ref b, .int (nI k)] (Pdr g b L xs sz)) (va_Qi (fun r (w : va_W) => w = [] ∧ r = drV L xs k) (fun w t => Bw g (va_A [] sz) w t) (va_A [] sz)) 0 0 (va_A [] sz)
set_option maxHeartbeats 4000000 in
set_option maxRecDepth 100000 in
theorem c_L_drawn (l : Launch) (g : GG) (b L k : Nat) (xs : Nat → Int32) (hL : L ≤ 260) (hk : k ≤ 1000) : Dr l g b L k xs := by
  intro sz
  refine Met.ofW (cc := cL_drawn) (maxL := 3) (ret := some .int) (by decide) rfl ?_
  intro p e s m args below meth c s₁ B hml hv
  obtain ⟨rfl, ⟨hsz, hP, hK, hD0⟩, hX, hbl⟩ := hv
  have hx := B.exec
  have hb := B.bytes
  have hr := B.returns
  have hts := atoms_spec (ws := wsL_drawn) B.pre
  have hown : s.vm.findClass RL = some m.cls := findClass_of_methodNamed B.named
  have hlocks := B.notSynchronized
  subst hsz
  have hD := hD0.self (sz := s.heap.size)
  have hA : ∀ q : Nat, s.heap.size ≤ q → va_A [] s.heap.size q := fun q h => Or.inr h
  have hAb : ¬ va_A [] s.heap.size b := by
    rintro (⟨i, q, h⟩ | h)
    · have h8 : (none : Option (Nat × va_E)) = some (b, q) := h
      cases h8
    · omega
  have hl := lv_entry [.ref b, .int (nI k)] (n := 3) (Nat.le_of_ble_eq_true rfl)
  rw [lg_entry_eq]
  generalize (lg_sl [Value.ref b, Value.int (nI k)] ++ List.replicate (3 - (lg_sl [Value.ref b, Value.int (nI k)]).length) Slot.unset).toArray = ls at hl ⊢
  have hl : lv_has ls 3 [(0, .ref b), (1, .int (nI k))] := hl
  have hS : va_S (va_A [] s.heap.size) s.heap s.heap [] := va_S.rf
  have J : ∀ (v : Int32) (ls : Array Slot), v = (if k < L then xs k else nI 11071 * nI k + nI 2027) → lv_has ls 3 [(0, .ref b), (1, .int (nI k))] → W p l e rm_L_drawn s m #[.ref b, .int (nI k)] below meth c s.heap [] 0 0 (MQ below (va_Qi (fun r (w : va_W) => w = [] ∧ r = drV L xs k) (fun w t => Bw g (va_A [] s.heap.size) w t) (va_A [] s.heap.size)) #[.ref b, .int (nI k)] s 0 0 (va_A [] s.heap.size)) (F0 m 21 ls [.int v]) := by
    intro v ls hv hl
    refine lv_istore_n (lv' := [(2, .int v), (0, .ref b), (1, .int (nI k))]) hx hb dL_drawn_21 rfl hl (by decide) rfl (fun ls hl => ?_)
    refine lv_iload_n hx hb dL_drawn_22 rfl (lv_at hl 0 rfl) ?_
    refine lv_ldc (v := 2147483647) hx hb hown (hts (.constant RL 7 (2147483647)) (by decide +kernel)) dL_drawn_23 ?_
    refine lv_iand hx hb dL_drawn_25 ?_
    exact W.iret (v := v &&& 2147483647) hx hb hr (fun t ht hW => ⟨⟨_, [], rfl, ⟨rfl, by rw [hv]; rfl⟩, by rw [ht]; exact hP, va_K.moved hW.alike hK, hD⟩, hS.F ht⟩) hS.2.2 dL_drawn_26
  refine lv_iload_n hx hb dL_drawn_0 rfl (lv_at hl 1 rfl) ?_
  refine lv_aload_n hx hb dL_drawn_1 rfl (lv_at hl 0 rfl) ?_
  refine va_slen hx hb hX hbl hAb hS dL_drawn_2 ?_
  by_cases hc : k < L
  · refine lv_icmp_ge (tgt := 12) hx hb dL_drawn_3 (by decide) (fun c9 => absurd ((nI_leI (a := L) (b := k) (by omega) (by omega)).mp c9) (by omega)) (fun _ => ?_)
    refine lv_aload_n hx hb dL_drawn_6 rfl (lv_at hl 0 rfl) ?_
    refine lv_iload_n hx hb dL_drawn_7 rfl (lv_at hl 1 rfl) ?_
    refine va_sld hx hb hX hbl hAb hS (i := nI k) (vp_in_nI hc (by omega)) dL_drawn_8 ?_
    rw [nI_clamp (n := k) (by omega)]
    refine lv_goto (tgt := 21) hx hb dL_drawn_9 (by decide) ?_
    exact J _ _ (by rw [if_pos hc]) hl
  · refine lv_icmp_ge (tgt := 12) hx hb dL_drawn_3 (by decide) (fun _ => ?_) (fun c9 => absurd ((nI_leI (a := L) (b := k) (by omega) (by omega)).mpr (by omega)) c9)
    refine lv_sipush (v := nI 11071) hx hb dL_drawn_12 (by decide) ?_
    refine lv_iload_n hx hb dL_drawn_15 rfl (lv_at hl 1 rfl) ?_
    refine lv_imul hx hb dL_drawn_16 ?_
    refine lv_sipush (v := nI 2027) hx hb dL_drawn_17 (by decide) ?_
    refine lv_iadd hx hb dL_drawn_20 ?_
    exact J _ _ (by rw [if_neg hc]) hl
theorem call_dS {bs L k : Nat} {xs : Nat → Int32} (S : CallFix p m c cc nL s args Ts own) (hC : Dr l g bs L k xs) (cw : CallB R s args own index yL_drawn bytes maxL ret wsL_drawn rm_L_drawn 0 0 2 ∧ (Cond.static yL_drawn).before args s = true)
    (hP : va_P g.1 vwCl wd H) (hK : va_K g.1 vwCl (tyG g) s) (hD : va_D A wd) (hS : va_S A s.heap H locs) (hA : ∀ q, s.heap.size ≤ q → A q) (hX : va_X bs L xs s s.heap) (hbl : bs < s.heap.size) (hAb : ¬ A bs)
    (hsz : ls.size = nL) (hst : st0 = .int (nI k) :: .ref bs :: rest) (hrm : (rest.map fun v => v.category).sum ≤ 8) (hdg : decode cc pc = .ok (.invokestatic index, 3)) (hf : cells + 0 ≤ R.cells ∧ slots + 0 ≤ R.slots)
    (kk : ∀ (H1 : Heap) (locs1 : List Loc), va_P g.1 vwCl wd H1 → va_D A wd → va_S A s.heap H1 locs1 → W p l e R s m args below meth c H1 locs1 cells slots Q (F0 m (pc + 3) ls (.int (drV L xs k) :: rest))) : W p l e R s m args below meth c H locs cells slots Q (F0 m pc ls st0) := by
  subst hst
  have hPc : va_P g.1 vwCl [] H := hP.sub [] rfl
  have hDc : va_D A [] := hD.sub [] (by decide) rfl
  have hFc := va_free (wc := []) hD hS hA [] rfl
  refine va_calli (va_runS (As := [.ref bs, .int (nI k)]) (rest := rest) S (hC H.size) cw ⟨Pdr.blind g [.ref bs, .int (nI k)] bs L xs H.size, fun U hU hW => ⟨rfl, ⟨by rw [hU], by rw [hU]; exact hPc, va_K.moved hW.alike hK, hDc.weaken (fun _ _ _ _ => trivial)⟩, by rw [hU]; exact (hX.moved hW.alike).kept (hS.2.1 bs hbl hAb), Nat.lt_of_lt_of_le hbl hS.1⟩⟩ rfl rfl hsz rfl (lv_room hrm) hdg hf) hS (fun q _ h => hFc q h) hFc (fun r w t H1 locs1 ht hvm hw hB hz1 hk1 hS1 => ?_)
  obtain ⟨rfl, rfl⟩ := hw
  obtain ⟨hP1, hK1, hD1⟩ := hB
  rw [ht] at hP1
  obtain ⟨hP2, hD2⟩ := va_join (wr := wd) (w1 := []) hP hD [] (List.range wd.length) rfl (rng_map wd) (nd_of List.nodup_range) (fun i _ h => by cases h) hk1 hFc hP1 hD1
  rw [List.append_nil] at hP2 hD2
  exact kk H1 locs1 hP2 hD2 hS1
end LAWB

abbrev rm_L_with_write : Room := { frames := 7, cells := 1, slots := 6, locals := 111 }
set_option maxHeartbeats 4000000 in
set_option maxRecDepth 100000 in
theorem c_L_with_write (l : Launch) (hl0 : l.flags = flags0) (g : GG) (x q u d v : Nat) (SL : Nat) (k : Nat → Int32) (K : Nat → Nat) (np : Nat) (mv lm ch : Int32) (F : Nat) (f : Nat → Int64) (S : Nat → Nat) (cnt ll : Nat) (hSL : RV SL) (hF : RV F) (hk : GK k K) (hp : np ≤ 4) (hf : DR f S cnt) (hc : cnt ≤ 50) (hll : ll ≤ 10) (x0 : Int32) : Xw l yL_with wsL_with rm_L_with_write g [.ref x, .int (nI 1), .int x0] (FW g x (lN SL) q u k (nI np) mv lm ch (lN F) d v f (nI cnt) (nI ll)) (fun rc w => (fun r w => ∃ a : Nat, a < 26 ∧ nI a = x0 ∧ rwL SL < 10 ∧ r = nI (rwL SL + 1) ∧ w = (FW g x (lN (rwX SL a)) q u k (nI np) mv lm ch (lN F) d v f (nI cnt) (nI ll))) rc w ∨ (∃ E, (fun E => (E = "java/lang/IllegalArgumentException" ∧ ¬ (∃ a : Nat, a < 26 ∧ nI a = x0)) ∨ (E = "java/lang/IllegalStateException" ∧ (∃ a : Nat, a < 26 ∧ nI a = x0) ∧ 10 ≤ rwL SL)) E ∧ rc = -5 ∧ w = (FW g x (lN SL) q u k (nI np) mv lm ch (lN F) d v f (nI cnt) (nI ll)))) := by
  refine Xw.of (cc := cL_with) (maxL := 4) (hh := [(0, 17, 18, 17), (0, 17, 22, 19)]) (by decide) rfl (Nat.le_of_ble_eq_true rfl) ?_
  intro p e s m args below meth c A Z hx hb hml hts hown hK hA hXk hNc htab hret H locs ls hP hD hS hl
  have hl : lv_has ls 4 [(0, .ref x), (1, .int (nI 1)), (2, .int x0)] := hl
  refine lv_iload_n hx hb dL_with_0 rfl (lv_at hl 1 rfl) ?_
  refine lv_if_eq (tgt := 12) hx hb dL_with_1 (by decide) (fun c9 => absurd c9 (by decide)) (fun _ => ?_)
  refine lv_aload_n hx hb dL_with_4 rfl (lv_at hl 0 rfl) ?_
  refine lv_iload_n hx hb dL_with_5 rfl (lv_at hl 2 rfl) ?_
  refine call_iX (As := [.int x0]) (rest := []) (wr := []) ⟨hx, hb, hml, hown, hts⟩ (c_X4_write l hl0 g x q u d v SL k K np mv lm ch F f S cnt ll hSL hF hk hp hf hc hll x0) (cwV 1 hts gL_with_X4_write rfl rfl rfl (by decide +kernel) ⟨Nat.le_of_ble_eq_true rfl, Nat.le_of_ble_eq_true rfl⟩) hP hK hD hS hA hXk [0, 1, 2, 3, 4] [] rfl rfl (by decide) (by decide) (by decide) 0 rfl rfl rfl rfl hl.1 rfl (Nat.le_of_ble_eq_true rfl) dL_with_6 ⟨Nat.le_of_ble_eq_true rfl, Nat.le_of_ble_eq_true rfl⟩ (fun E ce q9 H locs hxp hP hD hS hcell hcv hcl => ?_) (fun r w H locs hw hP hD hS => ?_)
  · skip
    have hE : E = "java/lang/IllegalArgumentException" ∨ E = "java/lang/IllegalStateException" := by
      rcases hxp with h | h
      · exact Or.inl h.1
      · exact Or.inr h.1
    rcases hE with rfl | rfl
    · skip
      have hcs : (Cond.castable "java/lang/IllegalArgumentException" "java/lang/IllegalArgumentException").before args s = true := xb_move (s := s) (a := #[]) (by decide +kernel) (State.WarmedH.refl s) (hXk.2.2.1 _ (by decide +kernel))
      have hpre : ∀ z ∈ ([] : List ExceptionTableEntry), covers z 6 = false ∨ (z.catchType ≠ 0 ∧ ∃ nm : String, (Cond.classLink RL z.catchType nm).before args s = true ∧ va_Nc "java/lang/IllegalArgumentException" nm s) := fun z hz => by cases hz
      refine vx_catch (own := RL) (name := "java/lang/IllegalArgumentException") hown [] ⟨0, 17, 18, 17⟩ [⟨0, 17, 22, 19⟩] (by rw [htab]; rfl) hpre (by decide) (by decide) (hts (.classLink RL 17 "java/lang/IllegalArgumentException") (by decide +kernel)) hcs hcell hcv hcl ?_
      refine lv_astore_n (lv' := [(3, .ref q9), (0, .ref x), (1, .int (nI 1)), (2, .int x0)]) hx hb dL_with_18 rfl hl (by decide) rfl (fun ls hl => ?_)
      refine lv_bipush (v := -5) hx hb dL_with_19 (by decide) ?_
      exact hret (-5) (FW g x (lN SL) q u k (nI np) mv lm ch (lN F) d v f (nI cnt) (nI ll)) _ _ _ _ _ _ (by decide) (by decide) dL_with_21 (Or.inr ⟨_, hxp, rfl, rfl⟩) hP hD hS
    · skip
      have hcs : (Cond.castable "java/lang/IllegalStateException" "java/lang/IllegalStateException").before args s = true := xb_move (s := s) (a := #[]) (by decide +kernel) (State.WarmedH.refl s) (hXk.2.2.1 _ (by decide +kernel))
      have hpre : ∀ z ∈ ([⟨0, 17, 18, 17⟩] : List ExceptionTableEntry), covers z 6 = false ∨ (z.catchType ≠ 0 ∧ ∃ nm : String, (Cond.classLink RL z.catchType nm).before args s = true ∧ va_Nc "java/lang/IllegalStateException" nm s) := fun z hz => by
        rcases List.mem_singleton.mp hz with rfl
        exact Or.inr ⟨by decide, "java/lang/IllegalArgumentException", hts (.classLink RL 17 "java/lang/IllegalArgumentException") (by decide +kernel), hNc⟩
      refine vx_catch (own := RL) (name := "java/lang/IllegalStateException") hown [⟨0, 17, 18, 17⟩] ⟨0, 17, 22, 19⟩ [] (by rw [htab]; rfl) hpre (by decide) (by decide) (hts (.classLink RL 19 "java/lang/IllegalStateException") (by decide +kernel)) hcs hcell hcv hcl ?_
      refine lv_astore_n (lv' := [(3, .ref q9), (0, .ref x), (1, .int (nI 1)), (2, .int x0)]) hx hb dL_with_22 rfl hl (by decide) rfl (fun ls hl => ?_)
      refine lv_bipush (v := -5) hx hb dL_with_23 (by decide) ?_
      exact hret (-5) (FW g x (lN SL) q u k (nI np) mv lm ch (lN F) d v f (nI cnt) (nI ll)) _ _ _ _ _ _ (by decide) (by decide) dL_with_25 (Or.inr ⟨_, hxp, rfl, rfl⟩) hP hD hS
  · skip
    refine lv_goto (tgt := 17) hx hb dL_with_9 (by decide) ?_
    exact hret r w _ _ _ _ _ _ (by decide) (by decide) dL_with_17 (Or.inl hw) hP hD hS
abbrev rm_L_with_play : Room := { frames := 7, cells := 1, slots := 6, locals := 150 }
set_option maxHeartbeats 4000000 in
set_option maxRecDepth 100000 in
theorem c_L_with_play (l : Launch) (hl0 : l.flags = flags0) (g : GG) (x q u d v : Nat) (SL : Nat) (k : Nat → Int32) (K : Nat → Nat) (np : Nat) (mv lm ch : Int32) (F : Nat) (f : Nat → Int64) (S : Nat → Nat) (cnt ll : Nat) (hSL : RV SL) (hF : RV F) (hk : GK k K) (hp : np ≤ 4) (hf : DR f S cnt) (hc : cnt ≤ 50) (hll : ll ≤ 10) (hmv : mv = -1 ∨ ∃ j, mv = nI j ∧ j < np ∧ K j < 5) (x0 : Int32) : Xw l yL_with wsL_with rm_L_with_play g [.ref x, .int (nI 0), .int x0] (FW g x (lN SL) q u k (nI np) mv lm ch (lN F) d v f (nI cnt) (nI ll)) (fun rc w => (fun r w => ∃ a j : Nat, a < 26 ∧ nI a = x0 ∧ mv = nI j ∧ j < np ∧ K j < 5 ∧ rwL F < 10 ∧ (((ll ≤ rwL (rwX F a) ∧ inS S cnt (rwX F a)) ∧ r = nI j ∧ w = (FW g x (lN SL) q u (upd k j (nI (K j + 1))) (nI np) (erM K np j) lm (erC K np j ch) (lN 0) d v f (nI cnt) (nI ll))) ∨ (¬ (ll ≤ rwL (rwX F a) ∧ inS S cnt (rwX F a)) ∧ r = -1 ∧ w = (FW g x (lN SL) q u k (nI np) (oI (nxF K np np j)) (nI j) ch (lN (rwX F a)) d v f (nI cnt) (nI ll))))) rc w ∨ (∃ E, (fun E => (E = "java/lang/IllegalArgumentException" ∧ ¬ (∃ a : Nat, a < 26 ∧ nI a = x0)) ∨ (E = "java/lang/IllegalStateException" ∧ (∃ a : Nat, a < 26 ∧ nI a = x0) ∧ (mv = -1 ∨ 10 ≤ rwL F))) E ∧ rc = -5 ∧ w = (FW g x (lN SL) q u k (nI np) mv lm ch (lN F) d v f (nI cnt) (nI ll)))) := by
  refine Xw.of (cc := cL_with) (maxL := 4) (hh := [(0, 17, 18, 17), (0, 17, 22, 19)]) (by decide) rfl (Nat.le_of_ble_eq_true rfl) ?_
  intro p e s m args below meth c A Z hx hb hml hts hown hK hA hXk hNc htab hret H locs ls hP hD hS hl
  have hl : lv_has ls 4 [(0, .ref x), (1, .int (nI 0)), (2, .int x0)] := hl
  refine lv_iload_n hx hb dL_with_0 rfl (lv_at hl 1 rfl) ?_
  refine lv_if_eq (tgt := 12) hx hb dL_with_1 (by decide) (fun _ => ?_) (fun c9 => absurd (by decide) c9)
  refine lv_aload_n hx hb dL_with_12 rfl (lv_at hl 0 rfl) ?_
  refine lv_iload_n hx hb dL_with_13 rfl (lv_at hl 2 rfl) ?_
  refine call_iX (As := [.int x0]) (rest := []) (wr := []) ⟨hx, hb, hml, hown, hts⟩ (c_X4_play l hl0 g x q u d v SL k K np mv lm ch F f S cnt ll hSL hF hk hp hf hc hll hmv x0) (cwV 1 hts gL_with_X4_play rfl rfl rfl (by decide +kernel) ⟨Nat.le_of_ble_eq_true rfl, Nat.le_of_ble_eq_true rfl⟩) hP hK hD hS hA hXk [0, 1, 2, 3, 4] [] rfl rfl (by decide) (by decide) (by decide) 0 rfl rfl rfl rfl hl.1 rfl (Nat.le_of_ble_eq_true rfl) dL_with_14 ⟨Nat.le_of_ble_eq_true rfl, Nat.le_of_ble_eq_true rfl⟩ (fun E ce q9 H locs hxp hP hD hS hcell hcv hcl => ?_) (fun r w H locs hw hP hD hS => ?_)
  · skip
    have hE : E = "java/lang/IllegalArgumentException" ∨ E = "java/lang/IllegalStateException" := by
      rcases hxp with h | h
      · exact Or.inl h.1
      · exact Or.inr h.1
    rcases hE with rfl | rfl
    · skip
      have hcs : (Cond.castable "java/lang/IllegalArgumentException" "java/lang/IllegalArgumentException").before args s = true := xb_move (s := s) (a := #[]) (by decide +kernel) (State.WarmedH.refl s) (hXk.2.2.1 _ (by decide +kernel))
      have hpre : ∀ z ∈ ([] : List ExceptionTableEntry), covers z 14 = false ∨ (z.catchType ≠ 0 ∧ ∃ nm : String, (Cond.classLink RL z.catchType nm).before args s = true ∧ va_Nc "java/lang/IllegalArgumentException" nm s) := fun z hz => by cases hz
      refine vx_catch (own := RL) (name := "java/lang/IllegalArgumentException") hown [] ⟨0, 17, 18, 17⟩ [⟨0, 17, 22, 19⟩] (by rw [htab]; rfl) hpre (by decide) (by decide) (hts (.classLink RL 17 "java/lang/IllegalArgumentException") (by decide +kernel)) hcs hcell hcv hcl ?_
      refine lv_astore_n (lv' := [(3, .ref q9), (0, .ref x), (1, .int (nI 0)), (2, .int x0)]) hx hb dL_with_18 rfl hl (by decide) rfl (fun ls hl => ?_)
      refine lv_bipush (v := -5) hx hb dL_with_19 (by decide) ?_
      exact hret (-5) (FW g x (lN SL) q u k (nI np) mv lm ch (lN F) d v f (nI cnt) (nI ll)) _ _ _ _ _ _ (by decide) (by decide) dL_with_21 (Or.inr ⟨_, hxp, rfl, rfl⟩) hP hD hS
    · skip
      have hcs : (Cond.castable "java/lang/IllegalStateException" "java/lang/IllegalStateException").before args s = true := xb_move (s := s) (a := #[]) (by decide +kernel) (State.WarmedH.refl s) (hXk.2.2.1 _ (by decide +kernel))
      have hpre : ∀ z ∈ ([⟨0, 17, 18, 17⟩] : List ExceptionTableEntry), covers z 14 = false ∨ (z.catchType ≠ 0 ∧ ∃ nm : String, (Cond.classLink RL z.catchType nm).before args s = true ∧ va_Nc "java/lang/IllegalStateException" nm s) := fun z hz => by
        rcases List.mem_singleton.mp hz with rfl
        exact Or.inr ⟨by decide, "java/lang/IllegalArgumentException", hts (.classLink RL 17 "java/lang/IllegalArgumentException") (by decide +kernel), hNc⟩
      refine vx_catch (own := RL) (name := "java/lang/IllegalStateException") hown [⟨0, 17, 18, 17⟩] ⟨0, 17, 22, 19⟩ [] (by rw [htab]; rfl) hpre (by decide) (by decide) (hts (.classLink RL 19 "java/lang/IllegalStateException") (by decide +kernel)) hcs hcell hcv hcl ?_
      refine lv_astore_n (lv' := [(3, .ref q9), (0, .ref x), (1, .int (nI 0)), (2, .int x0)]) hx hb dL_with_22 rfl hl (by decide) rfl (fun ls hl => ?_)
      refine lv_bipush (v := -5) hx hb dL_with_23 (by decide) ?_
      exact hret (-5) (FW g x (lN SL) q u k (nI np) mv lm ch (lN F) d v f (nI cnt) (nI ll)) _ _ _ _ _ _ (by decide) (by decide) dL_with_25 (Or.inr ⟨_, hxp, rfl, rfl⟩) hP hD hS
  · skip
    exact hret r w _ _ _ _ _ _ (by decide) (by decide) dL_with_17 (Or.inl hw) hP hD hS
abbrev rm_L_does_addWord : Room := { frames := 7, cells := 1, slots := 6, locals := 110 }
set_option maxHeartbeats 4000000 in
set_option maxRecDepth 100000 in
theorem c_L_does_addWord (l : Launch) (hl0 : l.flags = flags0) (g : GG) (x q u d v : Nat) (SL : Nat) (k : Nat → Int32) (K : Nat → Nat) (np : Nat) (mv lm ch : Int32) (F : Nat) (f : Nat → Int64) (S : Nat → Nat) (cnt ll : Nat) (hSL : RV SL) (hF : RV F) (hk : GK k K) (hp : np ≤ 4) (hf : DR f S cnt) (hc : cnt ≤ 50) (hll : ll ≤ 10) : Xw l yL_does wsL_does rm_L_does_addWord g [.ref x, .int (nI 0)] (FW g x (lN SL) q u k (nI np) mv lm ch (lN F) d v f (nI cnt) (nI ll)) (fun rc w => (fun r w => 2 ≤ rwL SL ∧ cnt < 50 ∧ ¬ inS S cnt SL ∧ r = nI (cnt + 1) ∧ ∃ (f9 : Nat → Int64) (S9 : Nat → Nat) (t : Nat), w = FW g x (lN SL) q u k (nI np) mv lm ch (lN F) d v f9 (nI (cnt + 1)) (nI ll) ∧ DR f9 S9 (cnt + 1) ∧ InsAt S cnt t SL S9) rc w ∨ (∃ E, (fun E => (E = "java/lang/IllegalArgumentException" ∧ ¬ 2 ≤ rwL SL) ∨ (E = "java/lang/IllegalStateException" ∧ 2 ≤ rwL SL ∧ (50 ≤ cnt ∨ inS S cnt SL))) E ∧ rc = -5 ∧ w = (FW g x (lN SL) q u k (nI np) mv lm ch (lN F) d v f (nI cnt) (nI ll)))) := by
  refine Xw.of (cc := cL_does) (maxL := 3) (hh := [(0, 27, 28, 17), (0, 27, 32, 19)]) (by decide) rfl (Nat.le_of_ble_eq_true rfl) ?_
  intro p e s m args below meth c A Z hx hb hml hts hown hK hA hXk hNc htab hret H locs ls hP hD hS hl
  have hl : lv_has ls 3 [(0, .ref x), (1, .int (nI 0))] := hl
  refine lv_iload_n hx hb dL_does_0 rfl (lv_at hl 1 rfl) ?_
  refine lv_if_ne (tgt := 11) hx hb dL_does_1 (by decide) (fun c9 => absurd (by decide) c9) (fun _ => ?_)
  refine lv_aload_n hx hb dL_does_4 rfl (lv_at hl 0 rfl) ?_
  refine call_iX (As := []) (rest := []) (wr := []) ⟨hx, hb, hml, hown, hts⟩ (c_X4_addWord l hl0 g x q u d v SL k K np mv lm ch F f S cnt ll hSL hF hk hp hf hc hll) (cwV 0 hts gL_does_X4_addWord rfl rfl rfl (by decide +kernel) ⟨Nat.le_of_ble_eq_true rfl, Nat.le_of_ble_eq_true rfl⟩) hP hK hD hS hA hXk [0, 1, 2, 3, 4] [] rfl rfl (by decide) (by decide) (by decide) 0 rfl rfl rfl rfl hl.1 rfl (Nat.le_of_ble_eq_true rfl) dL_does_5 ⟨Nat.le_of_ble_eq_true rfl, Nat.le_of_ble_eq_true rfl⟩ (fun E ce q9 H locs hxp hP hD hS hcell hcv hcl => ?_) (fun r w H locs hw hP hD hS => ?_)
  · skip
    have hE : E = "java/lang/IllegalArgumentException" ∨ E = "java/lang/IllegalStateException" := by
      rcases hxp with h | h
      · exact Or.inl h.1
      · exact Or.inr h.1
    rcases hE with rfl | rfl
    · skip
      have hcs : (Cond.castable "java/lang/IllegalArgumentException" "java/lang/IllegalArgumentException").before args s = true := xb_move (s := s) (a := #[]) (by decide +kernel) (State.WarmedH.refl s) (hXk.2.2.1 _ (by decide +kernel))
      have hpre : ∀ z ∈ ([] : List ExceptionTableEntry), covers z 5 = false ∨ (z.catchType ≠ 0 ∧ ∃ nm : String, (Cond.classLink RL z.catchType nm).before args s = true ∧ va_Nc "java/lang/IllegalArgumentException" nm s) := fun z hz => by cases hz
      refine vx_catch (own := RL) (name := "java/lang/IllegalArgumentException") hown [] ⟨0, 27, 28, 17⟩ [⟨0, 27, 32, 19⟩] (by rw [htab]; rfl) hpre (by decide) (by decide) (hts (.classLink RL 17 "java/lang/IllegalArgumentException") (by decide +kernel)) hcs hcell hcv hcl ?_
      refine lv_astore_n (lv' := [(2, .ref q9), (0, .ref x), (1, .int (nI 0))]) hx hb dL_does_28 rfl hl (by decide) rfl (fun ls hl => ?_)
      refine lv_bipush (v := -5) hx hb dL_does_29 (by decide) ?_
      exact hret (-5) (FW g x (lN SL) q u k (nI np) mv lm ch (lN F) d v f (nI cnt) (nI ll)) _ _ _ _ _ _ (by decide) (by decide) dL_does_31 (Or.inr ⟨_, hxp, rfl, rfl⟩) hP hD hS
    · skip
      have hcs : (Cond.castable "java/lang/IllegalStateException" "java/lang/IllegalStateException").before args s = true := xb_move (s := s) (a := #[]) (by decide +kernel) (State.WarmedH.refl s) (hXk.2.2.1 _ (by decide +kernel))
      have hpre : ∀ z ∈ ([⟨0, 27, 28, 17⟩] : List ExceptionTableEntry), covers z 5 = false ∨ (z.catchType ≠ 0 ∧ ∃ nm : String, (Cond.classLink RL z.catchType nm).before args s = true ∧ va_Nc "java/lang/IllegalStateException" nm s) := fun z hz => by
        rcases List.mem_singleton.mp hz with rfl
        exact Or.inr ⟨by decide, "java/lang/IllegalArgumentException", hts (.classLink RL 17 "java/lang/IllegalArgumentException") (by decide +kernel), hNc⟩
      refine vx_catch (own := RL) (name := "java/lang/IllegalStateException") hown [⟨0, 27, 28, 17⟩] ⟨0, 27, 32, 19⟩ [] (by rw [htab]; rfl) hpre (by decide) (by decide) (hts (.classLink RL 19 "java/lang/IllegalStateException") (by decide +kernel)) hcs hcell hcv hcl ?_
      refine lv_astore_n (lv' := [(2, .ref q9), (0, .ref x), (1, .int (nI 0))]) hx hb dL_does_32 rfl hl (by decide) rfl (fun ls hl => ?_)
      refine lv_bipush (v := -5) hx hb dL_does_33 (by decide) ?_
      exact hret (-5) (FW g x (lN SL) q u k (nI np) mv lm ch (lN F) d v f (nI cnt) (nI ll)) _ _ _ _ _ _ (by decide) (by decide) dL_does_35 (Or.inr ⟨_, hxp, rfl, rfl⟩) hP hD hS
  · skip
    refine lv_goto (tgt := 27) hx hb dL_does_8 (by decide) ?_
    exact hret r w _ _ _ _ _ _ (by decide) (by decide) dL_does_27 (Or.inl hw) hP hD hS
abbrev rm_L_does_removeWord : Room := { frames := 7, cells := 1, slots := 6, locals := 110 }
set_option maxHeartbeats 4000000 in
set_option maxRecDepth 100000 in
theorem c_L_does_removeWord (l : Launch) (hl0 : l.flags = flags0) (g : GG) (x q u d v : Nat) (SL : Nat) (k : Nat → Int32) (K : Nat → Nat) (np : Nat) (mv lm ch : Int32) (F : Nat) (f : Nat → Int64) (S : Nat → Nat) (cnt ll : Nat) (hSL : RV SL) (hF : RV F) (hk : GK k K) (hp : np ≤ 4) (hf : DR f S cnt) (hc : cnt ≤ 50) (hll : ll ≤ 10) : Xw l yL_does wsL_does rm_L_does_removeWord g [.ref x, .int (nI 1)] (FW g x (lN SL) q u k (nI np) mv lm ch (lN F) d v f (nI cnt) (nI ll)) (fun rc w => (fun r w => r = nI (cnt - 1) ∧ ∃ (f9 : Nat → Int64) (S9 : Nat → Nat) (t : Nat), w = FW g x (lN SL) q u k (nI np) mv lm ch (lN F) d v f9 (nI (cnt - 1)) (nI ll) ∧ S t = SL ∧ DR f9 S9 (cnt - 1) ∧ RemAt S cnt t S9) rc w ∨ (∃ E, (fun E => E = "java/lang/IllegalStateException" ∧ ¬ inS S cnt SL) E ∧ rc = -5 ∧ w = (FW g x (lN SL) q u k (nI np) mv lm ch (lN F) d v f (nI cnt) (nI ll)))) := by
  refine Xw.of (cc := cL_does) (maxL := 3) (hh := [(0, 27, 28, 17), (0, 27, 32, 19)]) (by decide) rfl (Nat.le_of_ble_eq_true rfl) ?_
  intro p e s m args below meth c A Z hx hb hml hts hown hK hA hXk hNc htab hret H locs ls hP hD hS hl
  have hl : lv_has ls 3 [(0, .ref x), (1, .int (nI 1))] := hl
  refine lv_iload_n hx hb dL_does_0 rfl (lv_at hl 1 rfl) ?_
  refine lv_if_ne (tgt := 11) hx hb dL_does_1 (by decide) (fun _ => ?_) (fun c9 => absurd c9 (by decide))
  refine lv_iload_n hx hb dL_does_11 rfl (lv_at hl 1 rfl) ?_
  refine lv_iconst (v := nI 1) hx hb dL_does_12 (by decide) ?_
  refine lv_icmp_ne (tgt := 23) hx hb dL_does_13 (by decide) (fun c9 => absurd (by decide) c9) (fun _ => ?_)
  refine lv_aload_n hx hb dL_does_16 rfl (lv_at hl 0 rfl) ?_
  refine call_iX (As := []) (rest := []) (wr := []) ⟨hx, hb, hml, hown, hts⟩ (c_X4_removeWord l hl0 g x q u d v SL k K np mv lm ch F f S cnt ll hSL hF hk hp hf hc hll) (cwV 0 hts gL_does_X4_removeWord rfl rfl rfl (by decide +kernel) ⟨Nat.le_of_ble_eq_true rfl, Nat.le_of_ble_eq_true rfl⟩) hP hK hD hS hA hXk [0, 1, 2, 3, 4] [] rfl rfl (by decide) (by decide) (by decide) 0 rfl rfl rfl rfl hl.1 rfl (Nat.le_of_ble_eq_true rfl) dL_does_17 ⟨Nat.le_of_ble_eq_true rfl, Nat.le_of_ble_eq_true rfl⟩ (fun E ce q9 H locs hxp hP hD hS hcell hcv hcl => ?_) (fun r w H locs hw hP hD hS => ?_)
  · skip
    have hE := hxp.1
    subst hE
    have hcs : (Cond.castable "java/lang/IllegalStateException" "java/lang/IllegalStateException").before args s = true := xb_move (s := s) (a := #[]) (by decide +kernel) (State.WarmedH.refl s) (hXk.2.2.1 _ (by decide +kernel))
    have hpre : ∀ z ∈ ([⟨0, 27, 28, 17⟩] : List ExceptionTableEntry), covers z 17 = false ∨ (z.catchType ≠ 0 ∧ ∃ nm : String, (Cond.classLink RL z.catchType nm).before args s = true ∧ va_Nc "java/lang/IllegalStateException" nm s) := fun z hz => by
      rcases List.mem_singleton.mp hz with rfl
      exact Or.inr ⟨by decide, "java/lang/IllegalArgumentException", hts (.classLink RL 17 "java/lang/IllegalArgumentException") (by decide +kernel), hNc⟩
    refine vx_catch (own := RL) (name := "java/lang/IllegalStateException") hown [⟨0, 27, 28, 17⟩] ⟨0, 27, 32, 19⟩ [] (by rw [htab]; rfl) hpre (by decide) (by decide) (hts (.classLink RL 19 "java/lang/IllegalStateException") (by decide +kernel)) hcs hcell hcv hcl ?_
    refine lv_astore_n (lv' := [(2, .ref q9), (0, .ref x), (1, .int (nI 1))]) hx hb dL_does_32 rfl hl (by decide) rfl (fun ls hl => ?_)
    refine lv_bipush (v := -5) hx hb dL_does_33 (by decide) ?_
    exact hret (-5) (FW g x (lN SL) q u k (nI np) mv lm ch (lN F) d v f (nI cnt) (nI ll)) _ _ _ _ _ _ (by decide) (by decide) dL_does_35 (Or.inr ⟨_, hxp, rfl, rfl⟩) hP hD hS
  · skip
    refine lv_goto (tgt := 27) hx hb dL_does_20 (by decide) ?_
    exact hret r w _ _ _ _ _ _ (by decide) (by decide) dL_does_27 (Or.inl hw) hP hD hS
abbrev rm_L_does_challenge : Room := { frames := 7, cells := 1, slots := 6, locals := 148 }
set_option maxHeartbeats 4000000 in
set_option maxRecDepth 100000 in
theorem c_L_does_challenge (l : Launch) (hl0 : l.flags = flags0) (g : GG) (x q u d v : Nat) (SL : Nat) (k : Nat → Int32) (K : Nat → Nat) (np : Nat) (mv lm ch : Int32) (F : Nat) (f : Nat → Int64) (S : Nat → Nat) (cnt ll : Nat) (hSL : RV SL) (hF : RV F) (hk : GK k K) (hp : np ≤ 4) (hf : DR f S cnt) (hc : cnt ≤ 50) (hll : ll ≤ 10) (hmv : mv = -1 ∨ ∃ j, mv = nI j ∧ j < np ∧ K j < 5) (hlm : 0 < rwL F → ∃ j, lm = nI j ∧ j < np ∧ K j < 5) : Xw l yL_does wsL_does rm_L_does_challenge g [.ref x, .int (nI 2)] (FW g x (lN SL) q u k (nI np) mv lm ch (lN F) d v f (nI cnt) (nI ll)) (fun rc w => (fun r w => ∃ j j2 : Nat, mv = nI j ∧ lm = nI j2 ∧ j < np ∧ K j < 5 ∧ j2 < np ∧ K j2 < 5 ∧ 0 < rwL F ∧ (((∃ i, i < cnt ∧ ll ≤ rwL (S i) ∧ bgP (S i) F) ∧ r = nI j ∧ w = (FW g x (lN SL) q u (upd k j (nI (K j + 1))) (nI np) (erM K np j) (nI j2) (erC K np j ch) (lN 0) d v f (nI cnt) (nI ll))) ∨ (¬ (∃ i, i < cnt ∧ ll ≤ rwL (S i) ∧ bgP (S i) F) ∧ r = nI j2 ∧ w = (FW g x (lN SL) q u (upd k j2 (nI (K j2 + 1))) (nI np) (erM K np j2) (nI j2) (erC K np j2 ch) (lN 0) d v f (nI cnt) (nI ll))))) rc w ∨ (∃ E, (fun E => E = "java/lang/IllegalStateException" ∧ (mv = -1 ∨ rwL F = 0)) E ∧ rc = -5 ∧ w = (FW g x (lN SL) q u k (nI np) mv lm ch (lN F) d v f (nI cnt) (nI ll)))) := by
  refine Xw.of (cc := cL_does) (maxL := 3) (hh := [(0, 27, 28, 17), (0, 27, 32, 19)]) (by decide) rfl (Nat.le_of_ble_eq_true rfl) ?_
  intro p e s m args below meth c A Z hx hb hml hts hown hK hA hXk hNc htab hret H locs ls hP hD hS hl
  have hl : lv_has ls 3 [(0, .ref x), (1, .int (nI 2))] := hl
  refine lv_iload_n hx hb dL_does_0 rfl (lv_at hl 1 rfl) ?_
  refine lv_if_ne (tgt := 11) hx hb dL_does_1 (by decide) (fun _ => ?_) (fun c9 => absurd c9 (by decide))
  refine lv_iload_n hx hb dL_does_11 rfl (lv_at hl 1 rfl) ?_
  refine lv_iconst (v := nI 1) hx hb dL_does_12 (by decide) ?_
  refine lv_icmp_ne (tgt := 23) hx hb dL_does_13 (by decide) (fun _ => ?_) (fun c9 => absurd c9 (by decide))
  refine lv_aload_n hx hb dL_does_23 rfl (lv_at hl 0 rfl) ?_
  refine call_iX (As := []) (rest := []) (wr := []) ⟨hx, hb, hml, hown, hts⟩ (c_X4_challenge l hl0 g x q u d v SL k K np mv lm ch F f S cnt ll hSL hF hk hp hf hc hll hmv hlm) (cwV 0 hts gL_does_X4_challenge rfl rfl rfl (by decide +kernel) ⟨Nat.le_of_ble_eq_true rfl, Nat.le_of_ble_eq_true rfl⟩) hP hK hD hS hA hXk [0, 1, 2, 3, 4] [] rfl rfl (by decide) (by decide) (by decide) 0 rfl rfl rfl rfl hl.1 rfl (Nat.le_of_ble_eq_true rfl) dL_does_24 ⟨Nat.le_of_ble_eq_true rfl, Nat.le_of_ble_eq_true rfl⟩ (fun E ce q9 H locs hxp hP hD hS hcell hcv hcl => ?_) (fun r w H locs hw hP hD hS => ?_)
  · skip
    have hE := hxp.1
    subst hE
    have hcs : (Cond.castable "java/lang/IllegalStateException" "java/lang/IllegalStateException").before args s = true := xb_move (s := s) (a := #[]) (by decide +kernel) (State.WarmedH.refl s) (hXk.2.2.1 _ (by decide +kernel))
    have hpre : ∀ z ∈ ([⟨0, 27, 28, 17⟩] : List ExceptionTableEntry), covers z 24 = false ∨ (z.catchType ≠ 0 ∧ ∃ nm : String, (Cond.classLink RL z.catchType nm).before args s = true ∧ va_Nc "java/lang/IllegalStateException" nm s) := fun z hz => by
      rcases List.mem_singleton.mp hz with rfl
      exact Or.inr ⟨by decide, "java/lang/IllegalArgumentException", hts (.classLink RL 17 "java/lang/IllegalArgumentException") (by decide +kernel), hNc⟩
    refine vx_catch (own := RL) (name := "java/lang/IllegalStateException") hown [⟨0, 27, 28, 17⟩] ⟨0, 27, 32, 19⟩ [] (by rw [htab]; rfl) hpre (by decide) (by decide) (hts (.classLink RL 19 "java/lang/IllegalStateException") (by decide +kernel)) hcs hcell hcv hcl ?_
    refine lv_astore_n (lv' := [(2, .ref q9), (0, .ref x), (1, .int (nI 2))]) hx hb dL_does_32 rfl hl (by decide) rfl (fun ls hl => ?_)
    refine lv_bipush (v := -5) hx hb dL_does_33 (by decide) ?_
    exact hret (-5) (FW g x (lN SL) q u k (nI np) mv lm ch (lN F) d v f (nI cnt) (nI ll)) _ _ _ _ _ _ (by decide) (by decide) dL_does_35 (Or.inr ⟨_, hxp, rfl, rfl⟩) hP hD hS
  · skip
    exact hret r w _ _ _ _ _ _ (by decide) (by decide) dL_does_27 (Or.inl hw) hP hD hS
abbrev rm_L_at_copyWord : Room := { frames := 7, cells := 1, slots := 6, locals := 113 }
set_option maxHeartbeats 4000000 in
set_option maxRecDepth 100000 in
theorem c_L_at_copyWord (l : Launch) (hl0 : l.flags = flags0) (g : GG) (x q u d v : Nat) (SL : Nat) (k : Nat → Int32) (K : Nat → Nat) (np : Nat) (mv lm ch : Int32) (F : Nat) (f : Nat → Int64) (S : Nat → Nat) (cnt ll : Nat) (hSL : RV SL) (hF : RV F) (hk : GK k K) (hp : np ≤ 4) (hf : DR f S cnt) (hc : cnt ≤ 50) (hll : ll ≤ 10) (h2l : ∀ i, i < cnt → 2 ≤ rwL (S i)) (x0 : Int32) : Xw l yL_at wsL_at rm_L_at_copyWord g [.ref x, .int (nI 0), .int x0] (FW g x (lN SL) q u k (nI np) mv lm ch (lN F) d v f (nI cnt) (nI ll)) (fun rc w => (fun r w => ∃ j : Nat, j < cnt ∧ nI j = x0 ∧ r = nI (rwL (S j)) ∧ w = (FW g x (lN (S j)) q u k (nI np) mv lm ch (lN F) d v f (nI cnt) (nI ll))) rc w ∨ (∃ E, (fun E => E = "java/lang/IndexOutOfBoundsException" ∧ ¬ ∃ j : Nat, j < cnt ∧ nI j = x0) E ∧ rc = -5 ∧ w = (FW g x (lN SL) q u k (nI np) mv lm ch (lN F) d v f (nI cnt) (nI ll)))) := by
  refine Xw.of (cc := cL_at) (maxL := 4) (hh := [(0, 43, 44, 43)]) (by decide) rfl (Nat.le_of_ble_eq_true rfl) ?_
  intro p e s m args below meth c A Z hx hb hml hts hown hK hA hXk hNc htab hret H locs ls hP hD hS hl
  have hl : lv_has ls 4 [(0, .ref x), (1, .int (nI 0)), (2, .int x0)] := hl
  refine lv_iload_n hx hb dL_at_0 rfl (lv_at hl 1 rfl) ?_
  refine lv_if_ne (tgt := 12) hx hb dL_at_1 (by decide) (fun c9 => absurd (by decide) c9) (fun _ => ?_)
  refine lv_aload_n hx hb dL_at_4 rfl (lv_at hl 0 rfl) ?_
  refine lv_iload_n hx hb dL_at_5 rfl (lv_at hl 2 rfl) ?_
  refine call_iX (As := [.int x0]) (rest := []) (wr := []) ⟨hx, hb, hml, hown, hts⟩ (c_X4_copyWord l hl0 g x q u d v SL k K np mv lm ch F f S cnt ll hSL hF hk hp hf hc hll h2l x0) (cwV 1 hts gL_at_X4_copyWord rfl rfl rfl (by decide +kernel) ⟨Nat.le_of_ble_eq_true rfl, Nat.le_of_ble_eq_true rfl⟩) hP hK hD hS hA hXk [0, 1, 2, 3, 4] [] rfl rfl (by decide) (by decide) (by decide) 0 rfl rfl rfl rfl hl.1 rfl (Nat.le_of_ble_eq_true rfl) dL_at_6 ⟨Nat.le_of_ble_eq_true rfl, Nat.le_of_ble_eq_true rfl⟩ (fun E ce q9 H locs hxp hP hD hS hcell hcv hcl => ?_) (fun r w H locs hw hP hD hS => ?_)
  · skip
    have hE := hxp.1
    subst hE
    have hcs : (Cond.castable "java/lang/IndexOutOfBoundsException" "java/lang/IndexOutOfBoundsException").before args s = true := xb_move (s := s) (a := #[]) (by decide +kernel) (State.WarmedH.refl s) (hXk.2.2.1 _ (by decide +kernel))
    have hpre : ∀ z ∈ ([] : List ExceptionTableEntry), covers z 6 = false ∨ (z.catchType ≠ 0 ∧ ∃ nm : String, (Cond.classLink RL z.catchType nm).before args s = true ∧ va_Nc "java/lang/IndexOutOfBoundsException" nm s) := fun z hz => by cases hz
    refine vx_catch (own := RL) (name := "java/lang/IndexOutOfBoundsException") hown [] ⟨0, 43, 44, 43⟩ [] (by rw [htab]; rfl) hpre (by decide) (by decide) (hts (.classLink RL 43 "java/lang/IndexOutOfBoundsException") (by decide +kernel)) hcs hcell hcv hcl ?_
    refine lv_astore_n (lv' := [(3, .ref q9), (0, .ref x), (1, .int (nI 0)), (2, .int x0)]) hx hb dL_at_44 rfl hl (by decide) rfl (fun ls hl => ?_)
    refine lv_bipush (v := -5) hx hb dL_at_45 (by decide) ?_
    exact hret (-5) (FW g x (lN SL) q u k (nI np) mv lm ch (lN F) d v f (nI cnt) (nI ll)) _ _ _ _ _ _ (by decide) (by decide) dL_at_47 (Or.inr ⟨_, hxp, rfl, rfl⟩) hP hD hS
  · skip
    refine lv_goto (tgt := 43) hx hb dL_at_9 (by decide) ?_
    exact hret r w _ _ _ _ _ _ (by decide) (by decide) dL_at_43 (Or.inl hw) hP hD hS
abbrev rm_L_at_slipAt : Room := { frames := 7, cells := 1, slots := 6, locals := 112 }
set_option maxHeartbeats 4000000 in
set_option maxRecDepth 100000 in
theorem c_L_at_slipAt (l : Launch) (hl0 : l.flags = flags0) (g : GG) (x q u d v : Nat) (SL : Nat) (k : Nat → Int32) (K : Nat → Nat) (np : Nat) (mv lm ch : Int32) (F : Nat) (f : Nat → Int64) (S : Nat → Nat) (cnt ll : Nat) (hSL : RV SL) (hF : RV F) (hk : GK k K) (hp : np ≤ 4) (hf : DR f S cnt) (hc : cnt ≤ 50) (hll : ll ≤ 10) (x0 : Int32) : Xw l yL_at wsL_at rm_L_at_slipAt g [.ref x, .int (nI 1), .int x0] (FW g x (lN SL) q u k (nI np) mv lm ch (lN F) d v f (nI cnt) (nI ll)) (fun rc w => (fun r w => w = (FW g x (lN SL) q u k (nI np) mv lm ch (lN F) d v f (nI cnt) (nI ll)) ∧ ∃ j : Nat, j < rwL SL ∧ nI j = x0 ∧ r = nI (rwA SL j)) rc w ∨ (∃ E, (fun E => E = "java/lang/IndexOutOfBoundsException" ∧ ¬ ∃ j : Nat, j < rwL SL ∧ nI j = x0) E ∧ rc = -5 ∧ w = (FW g x (lN SL) q u k (nI np) mv lm ch (lN F) d v f (nI cnt) (nI ll)))) := by
  refine Xw.of (cc := cL_at) (maxL := 4) (hh := [(0, 43, 44, 43)]) (by decide) rfl (Nat.le_of_ble_eq_true rfl) ?_
  intro p e s m args below meth c A Z hx hb hml hts hown hK hA hXk hNc htab hret H locs ls hP hD hS hl
  have hl : lv_has ls 4 [(0, .ref x), (1, .int (nI 1)), (2, .int x0)] := hl
  refine lv_iload_n hx hb dL_at_0 rfl (lv_at hl 1 rfl) ?_
  refine lv_if_ne (tgt := 12) hx hb dL_at_1 (by decide) (fun _ => ?_) (fun c9 => absurd c9 (by decide))
  refine lv_iload_n hx hb dL_at_12 rfl (lv_at hl 1 rfl) ?_
  refine lv_iconst (v := nI 1) hx hb dL_at_13 (by decide) ?_
  refine lv_icmp_ne (tgt := 25) hx hb dL_at_14 (by decide) (fun c9 => absurd (by decide) c9) (fun _ => ?_)
  refine lv_aload_n hx hb dL_at_17 rfl (lv_at hl 0 rfl) ?_
  refine lv_iload_n hx hb dL_at_18 rfl (lv_at hl 2 rfl) ?_
  refine call_iX (As := [.int x0]) (rest := []) (wr := []) ⟨hx, hb, hml, hown, hts⟩ (c_X4_slipAt l hl0 g x q u d v SL k K np mv lm ch F f S cnt ll hSL hF hk hp hf hc hll x0) (cwV 1 hts gL_at_X4_slipAt rfl rfl rfl (by decide +kernel) ⟨Nat.le_of_ble_eq_true rfl, Nat.le_of_ble_eq_true rfl⟩) hP hK hD hS hA hXk [0, 1, 2, 3, 4] [] rfl rfl (by decide) (by decide) (by decide) 0 rfl rfl rfl rfl hl.1 rfl (Nat.le_of_ble_eq_true rfl) dL_at_19 ⟨Nat.le_of_ble_eq_true rfl, Nat.le_of_ble_eq_true rfl⟩ (fun E ce q9 H locs hxp hP hD hS hcell hcv hcl => ?_) (fun r w H locs hw hP hD hS => ?_)
  · skip
    have hE := hxp.1
    subst hE
    have hcs : (Cond.castable "java/lang/IndexOutOfBoundsException" "java/lang/IndexOutOfBoundsException").before args s = true := xb_move (s := s) (a := #[]) (by decide +kernel) (State.WarmedH.refl s) (hXk.2.2.1 _ (by decide +kernel))
    have hpre : ∀ z ∈ ([] : List ExceptionTableEntry), covers z 19 = false ∨ (z.catchType ≠ 0 ∧ ∃ nm : String, (Cond.classLink RL z.catchType nm).before args s = true ∧ va_Nc "java/lang/IndexOutOfBoundsException" nm s) := fun z hz => by cases hz
    refine vx_catch (own := RL) (name := "java/lang/IndexOutOfBoundsException") hown [] ⟨0, 43, 44, 43⟩ [] (by rw [htab]; rfl) hpre (by decide) (by decide) (hts (.classLink RL 43 "java/lang/IndexOutOfBoundsException") (by decide +kernel)) hcs hcell hcv hcl ?_
    refine lv_astore_n (lv' := [(3, .ref q9), (0, .ref x), (1, .int (nI 1)), (2, .int x0)]) hx hb dL_at_44 rfl hl (by decide) rfl (fun ls hl => ?_)
    refine lv_bipush (v := -5) hx hb dL_at_45 (by decide) ?_
    exact hret (-5) (FW g x (lN SL) q u k (nI np) mv lm ch (lN F) d v f (nI cnt) (nI ll)) _ _ _ _ _ _ (by decide) (by decide) dL_at_47 (Or.inr ⟨_, hxp, rfl, rfl⟩) hP hD hS
  · skip
    refine lv_goto (tgt := 43) hx hb dL_at_22 (by decide) ?_
    exact hret r w _ _ _ _ _ _ (by decide) (by decide) dL_at_43 (Or.inl hw) hP hD hS
abbrev rm_L_at_fragmentAt : Room := { frames := 7, cells := 1, slots := 6, locals := 112 }
set_option maxHeartbeats 4000000 in
set_option maxRecDepth 100000 in
theorem c_L_at_fragmentAt (l : Launch) (hl0 : l.flags = flags0) (g : GG) (x q u d v : Nat) (SL : Nat) (k : Nat → Int32) (K : Nat → Nat) (np : Nat) (mv lm ch : Int32) (F : Nat) (f : Nat → Int64) (S : Nat → Nat) (cnt ll : Nat) (hSL : RV SL) (hF : RV F) (hk : GK k K) (hp : np ≤ 4) (hf : DR f S cnt) (hc : cnt ≤ 50) (hll : ll ≤ 10) (x0 : Int32) : Xw l yL_at wsL_at rm_L_at_fragmentAt g [.ref x, .int (nI 2), .int x0] (FW g x (lN SL) q u k (nI np) mv lm ch (lN F) d v f (nI cnt) (nI ll)) (fun rc w => (fun r w => w = (FW g x (lN SL) q u k (nI np) mv lm ch (lN F) d v f (nI cnt) (nI ll)) ∧ ∃ j : Nat, j < rwL F ∧ nI j = x0 ∧ r = nI (rwA F j)) rc w ∨ (∃ E, (fun E => E = "java/lang/IndexOutOfBoundsException" ∧ ¬ ∃ j : Nat, j < rwL F ∧ nI j = x0) E ∧ rc = -5 ∧ w = (FW g x (lN SL) q u k (nI np) mv lm ch (lN F) d v f (nI cnt) (nI ll)))) := by
  refine Xw.of (cc := cL_at) (maxL := 4) (hh := [(0, 43, 44, 43)]) (by decide) rfl (Nat.le_of_ble_eq_true rfl) ?_
  intro p e s m args below meth c A Z hx hb hml hts hown hK hA hXk hNc htab hret H locs ls hP hD hS hl
  have hl : lv_has ls 4 [(0, .ref x), (1, .int (nI 2)), (2, .int x0)] := hl
  refine lv_iload_n hx hb dL_at_0 rfl (lv_at hl 1 rfl) ?_
  refine lv_if_ne (tgt := 12) hx hb dL_at_1 (by decide) (fun _ => ?_) (fun c9 => absurd c9 (by decide))
  refine lv_iload_n hx hb dL_at_12 rfl (lv_at hl 1 rfl) ?_
  refine lv_iconst (v := nI 1) hx hb dL_at_13 (by decide) ?_
  refine lv_icmp_ne (tgt := 25) hx hb dL_at_14 (by decide) (fun _ => ?_) (fun c9 => absurd c9 (by decide))
  refine lv_iload_n hx hb dL_at_25 rfl (lv_at hl 1 rfl) ?_
  refine lv_iconst (v := nI 2) hx hb dL_at_26 (by decide) ?_
  refine lv_icmp_ne (tgt := 38) hx hb dL_at_27 (by decide) (fun c9 => absurd (by decide) c9) (fun _ => ?_)
  refine lv_aload_n hx hb dL_at_30 rfl (lv_at hl 0 rfl) ?_
  refine lv_iload_n hx hb dL_at_31 rfl (lv_at hl 2 rfl) ?_
  refine call_iX (As := [.int x0]) (rest := []) (wr := []) ⟨hx, hb, hml, hown, hts⟩ (c_X4_fragmentAt l hl0 g x q u d v SL k K np mv lm ch F f S cnt ll hSL hF hk hp hf hc hll x0) (cwV 1 hts gL_at_X4_fragmentAt rfl rfl rfl (by decide +kernel) ⟨Nat.le_of_ble_eq_true rfl, Nat.le_of_ble_eq_true rfl⟩) hP hK hD hS hA hXk [0, 1, 2, 3, 4] [] rfl rfl (by decide) (by decide) (by decide) 0 rfl rfl rfl rfl hl.1 rfl (Nat.le_of_ble_eq_true rfl) dL_at_32 ⟨Nat.le_of_ble_eq_true rfl, Nat.le_of_ble_eq_true rfl⟩ (fun E ce q9 H locs hxp hP hD hS hcell hcv hcl => ?_) (fun r w H locs hw hP hD hS => ?_)
  · skip
    have hE := hxp.1
    subst hE
    have hcs : (Cond.castable "java/lang/IndexOutOfBoundsException" "java/lang/IndexOutOfBoundsException").before args s = true := xb_move (s := s) (a := #[]) (by decide +kernel) (State.WarmedH.refl s) (hXk.2.2.1 _ (by decide +kernel))
    have hpre : ∀ z ∈ ([] : List ExceptionTableEntry), covers z 32 = false ∨ (z.catchType ≠ 0 ∧ ∃ nm : String, (Cond.classLink RL z.catchType nm).before args s = true ∧ va_Nc "java/lang/IndexOutOfBoundsException" nm s) := fun z hz => by cases hz
    refine vx_catch (own := RL) (name := "java/lang/IndexOutOfBoundsException") hown [] ⟨0, 43, 44, 43⟩ [] (by rw [htab]; rfl) hpre (by decide) (by decide) (hts (.classLink RL 43 "java/lang/IndexOutOfBoundsException") (by decide +kernel)) hcs hcell hcv hcl ?_
    refine lv_astore_n (lv' := [(3, .ref q9), (0, .ref x), (1, .int (nI 2)), (2, .int x0)]) hx hb dL_at_44 rfl hl (by decide) rfl (fun ls hl => ?_)
    refine lv_bipush (v := -5) hx hb dL_at_45 (by decide) ?_
    exact hret (-5) (FW g x (lN SL) q u k (nI np) mv lm ch (lN F) d v f (nI cnt) (nI ll)) _ _ _ _ _ _ (by decide) (by decide) dL_at_47 (Or.inr ⟨_, hxp, rfl, rfl⟩) hP hD hS
  · skip
    refine lv_goto (tgt := 43) hx hb dL_at_35 (by decide) ?_
    exact hret r w _ _ _ _ _ _ (by decide) (by decide) dL_at_43 (Or.inl hw) hP hD hS
abbrev rm_L_at_strikes : Room := { frames := 7, cells := 1, slots := 6, locals := 112 }
set_option maxHeartbeats 4000000 in
set_option maxRecDepth 100000 in
theorem c_L_at_strikes (l : Launch) (hl0 : l.flags = flags0) (g : GG) (x q u d v : Nat) (SL : Nat) (k : Nat → Int32) (K : Nat → Nat) (np : Nat) (mv lm ch : Int32) (F : Nat) (f : Nat → Int64) (S : Nat → Nat) (cnt ll : Nat) (hSL : RV SL) (hF : RV F) (hk : GK k K) (hp : np ≤ 4) (hf : DR f S cnt) (hc : cnt ≤ 50) (hll : ll ≤ 10) (x0 : Int32) : Xw l yL_at wsL_at rm_L_at_strikes g [.ref x, .int (nI 3), .int x0] (FW g x (lN SL) q u k (nI np) mv lm ch (lN F) d v f (nI cnt) (nI ll)) (fun rc w => (fun r w => w = (FW g x (lN SL) q u k (nI np) mv lm ch (lN F) d v f (nI cnt) (nI ll)) ∧ ∃ j : Nat, j < np ∧ nI j = x0 ∧ r = nI (K j)) rc w ∨ (∃ E, (fun E => E = "java/lang/IndexOutOfBoundsException" ∧ ¬ ∃ j : Nat, j < np ∧ nI j = x0) E ∧ rc = -5 ∧ w = (FW g x (lN SL) q u k (nI np) mv lm ch (lN F) d v f (nI cnt) (nI ll)))) := by
  refine Xw.of (cc := cL_at) (maxL := 4) (hh := [(0, 43, 44, 43)]) (by decide) rfl (Nat.le_of_ble_eq_true rfl) ?_
  intro p e s m args below meth c A Z hx hb hml hts hown hK hA hXk hNc htab hret H locs ls hP hD hS hl
  have hl : lv_has ls 4 [(0, .ref x), (1, .int (nI 3)), (2, .int x0)] := hl
  refine lv_iload_n hx hb dL_at_0 rfl (lv_at hl 1 rfl) ?_
  refine lv_if_ne (tgt := 12) hx hb dL_at_1 (by decide) (fun _ => ?_) (fun c9 => absurd c9 (by decide))
  refine lv_iload_n hx hb dL_at_12 rfl (lv_at hl 1 rfl) ?_
  refine lv_iconst (v := nI 1) hx hb dL_at_13 (by decide) ?_
  refine lv_icmp_ne (tgt := 25) hx hb dL_at_14 (by decide) (fun _ => ?_) (fun c9 => absurd c9 (by decide))
  refine lv_iload_n hx hb dL_at_25 rfl (lv_at hl 1 rfl) ?_
  refine lv_iconst (v := nI 2) hx hb dL_at_26 (by decide) ?_
  refine lv_icmp_ne (tgt := 38) hx hb dL_at_27 (by decide) (fun _ => ?_) (fun c9 => absurd c9 (by decide))
  refine lv_aload_n hx hb dL_at_38 rfl (lv_at hl 0 rfl) ?_
  refine lv_iload_n hx hb dL_at_39 rfl (lv_at hl 2 rfl) ?_
  refine call_iX (As := [.int x0]) (rest := []) (wr := []) ⟨hx, hb, hml, hown, hts⟩ (c_X4_strikes l hl0 g x q u d v SL k K np mv lm ch F f S cnt ll hSL hF hk hp hf hc hll x0) (cwV 1 hts gL_at_X4_strikes rfl rfl rfl (by decide +kernel) ⟨Nat.le_of_ble_eq_true rfl, Nat.le_of_ble_eq_true rfl⟩) hP hK hD hS hA hXk [0, 1, 2, 3, 4] [] rfl rfl (by decide) (by decide) (by decide) 0 rfl rfl rfl rfl hl.1 rfl (Nat.le_of_ble_eq_true rfl) dL_at_40 ⟨Nat.le_of_ble_eq_true rfl, Nat.le_of_ble_eq_true rfl⟩ (fun E ce q9 H locs hxp hP hD hS hcell hcv hcl => ?_) (fun r w H locs hw hP hD hS => ?_)
  · skip
    have hE := hxp.1
    subst hE
    have hcs : (Cond.castable "java/lang/IndexOutOfBoundsException" "java/lang/IndexOutOfBoundsException").before args s = true := xb_move (s := s) (a := #[]) (by decide +kernel) (State.WarmedH.refl s) (hXk.2.2.1 _ (by decide +kernel))
    have hpre : ∀ z ∈ ([] : List ExceptionTableEntry), covers z 40 = false ∨ (z.catchType ≠ 0 ∧ ∃ nm : String, (Cond.classLink RL z.catchType nm).before args s = true ∧ va_Nc "java/lang/IndexOutOfBoundsException" nm s) := fun z hz => by cases hz
    refine vx_catch (own := RL) (name := "java/lang/IndexOutOfBoundsException") hown [] ⟨0, 43, 44, 43⟩ [] (by rw [htab]; rfl) hpre (by decide) (by decide) (hts (.classLink RL 43 "java/lang/IndexOutOfBoundsException") (by decide +kernel)) hcs hcell hcv hcl ?_
    refine lv_astore_n (lv' := [(3, .ref q9), (0, .ref x), (1, .int (nI 3)), (2, .int x0)]) hx hb dL_at_44 rfl hl (by decide) rfl (fun ls hl => ?_)
    refine lv_bipush (v := -5) hx hb dL_at_45 (by decide) ?_
    exact hret (-5) (FW g x (lN SL) q u k (nI np) mv lm ch (lN F) d v f (nI cnt) (nI ll)) _ _ _ _ _ _ (by decide) (by decide) dL_at_47 (Or.inr ⟨_, hxp, rfl, rfl⟩) hP hD hS
  · skip
    exact hret r w _ _ _ _ _ _ (by decide) (by decide) dL_at_43 (Or.inl hw) hP hD hS
abbrev rm_L_least_setLeastLength : Room := { frames := 7, cells := 1, slots := 6, locals := 111 }
set_option maxHeartbeats 4000000 in
set_option maxRecDepth 100000 in
theorem c_L_least_setLeastLength (l : Launch) (hl0 : l.flags = flags0) (g : GG) (x q u d v : Nat) (SL : Nat) (k : Nat → Int32) (K : Nat → Nat) (np : Nat) (mv lm ch : Int32) (F : Nat) (f : Nat → Int64) (S : Nat → Nat) (cnt ll : Nat) (hSL : RV SL) (hF : RV F) (hk : GK k K) (hp : np ≤ 4) (hf : DR f S cnt) (hc : cnt ≤ 50) (hll : ll ≤ 10) (x0 : Int32) : Xw l yL_least wsL_least rm_L_least_setLeastLength g [.ref x, .int x0] (FW g x (lN SL) q u k (nI np) mv lm ch (lN F) d v f (nI cnt) (nI ll)) (fun rc w => (fun r w => ∃ n0 : Nat, 2 ≤ n0 ∧ n0 ≤ 10 ∧ nI n0 = x0 ∧ r = nI ll ∧ w = (FW g x (lN SL) q u k (nI np) mv lm ch (lN F) d v f (nI cnt) (nI n0))) rc w ∨ (∃ E, (fun E => E = "java/lang/IllegalArgumentException" ∧ ¬ (∃ n0 : Nat, 2 ≤ n0 ∧ n0 ≤ 10 ∧ nI n0 = x0)) E ∧ rc = -5 ∧ w = (FW g x (lN SL) q u k (nI np) mv lm ch (lN F) d v f (nI cnt) (nI ll)))) := by
  refine Xw.of (cc := cL_least) (maxL := 3) (hh := [(0, 5, 6, 17)]) (by decide) rfl (Nat.le_of_ble_eq_true rfl) ?_
  intro p e s m args below meth c A Z hx hb hml hts hown hK hA hXk hNc htab hret H locs ls hP hD hS hl
  have hl : lv_has ls 3 [(0, .ref x), (1, .int x0)] := hl
  refine lv_aload_n hx hb dL_least_0 rfl (lv_at hl 0 rfl) ?_
  refine lv_iload_n hx hb dL_least_1 rfl (lv_at hl 1 rfl) ?_
  refine call_iX (As := [.int x0]) (rest := []) (wr := []) ⟨hx, hb, hml, hown, hts⟩ (c_X4_setLeastLength l hl0 g x q u d v SL k K np mv lm ch F f S cnt ll hSL hF hk hp hf hc hll x0) (cwV 1 hts gL_least_X4_setLeastLength rfl rfl rfl (by decide +kernel) ⟨Nat.le_of_ble_eq_true rfl, Nat.le_of_ble_eq_true rfl⟩) hP hK hD hS hA hXk [0, 1, 2, 3, 4] [] rfl rfl (by decide) (by decide) (by decide) 0 rfl rfl rfl rfl hl.1 rfl (Nat.le_of_ble_eq_true rfl) dL_least_2 ⟨Nat.le_of_ble_eq_true rfl, Nat.le_of_ble_eq_true rfl⟩ (fun E ce q9 H locs hxp hP hD hS hcell hcv hcl => ?_) (fun r w H locs hw hP hD hS => ?_)
  · skip
    have hE := hxp.1
    subst hE
    have hcs : (Cond.castable "java/lang/IllegalArgumentException" "java/lang/IllegalArgumentException").before args s = true := xb_move (s := s) (a := #[]) (by decide +kernel) (State.WarmedH.refl s) (hXk.2.2.1 _ (by decide +kernel))
    have hpre : ∀ z ∈ ([] : List ExceptionTableEntry), covers z 2 = false ∨ (z.catchType ≠ 0 ∧ ∃ nm : String, (Cond.classLink RL z.catchType nm).before args s = true ∧ va_Nc "java/lang/IllegalArgumentException" nm s) := fun z hz => by cases hz
    refine vx_catch (own := RL) (name := "java/lang/IllegalArgumentException") hown [] ⟨0, 5, 6, 17⟩ [] (by rw [htab]; rfl) hpre (by decide) (by decide) (hts (.classLink RL 17 "java/lang/IllegalArgumentException") (by decide +kernel)) hcs hcell hcv hcl ?_
    refine lv_astore_n (lv' := [(2, .ref q9), (0, .ref x), (1, .int x0)]) hx hb dL_least_6 rfl hl (by decide) rfl (fun ls hl => ?_)
    refine lv_bipush (v := -5) hx hb dL_least_7 (by decide) ?_
    exact hret (-5) (FW g x (lN SL) q u k (nI np) mv lm ch (lN F) d v f (nI cnt) (nI ll)) _ _ _ _ _ _ (by decide) (by decide) dL_least_9 (Or.inr ⟨_, hxp, rfl, rfl⟩) hP hD hS
  · skip
    exact hret r w _ _ _ _ _ _ (by decide) (by decide) dL_least_5 (Or.inl hw) hP hD hS
abbrev rm_L_starts_start : Room := { frames := 7, cells := 1, slots := 6, locals := 111 }
set_option maxHeartbeats 4000000 in
set_option maxRecDepth 100000 in
theorem c_L_starts_start (l : Launch) (hl0 : l.flags = flags0) (g : GG) (x q u d v : Nat) (SL : Nat) (k : Nat → Int32) (K : Nat → Nat) (np : Nat) (mv lm ch : Int32) (F : Nat) (f : Nat → Int64) (S : Nat → Nat) (cnt ll : Nat) (hSL : RV SL) (hF : RV F) (hk : GK k K) (hp : np ≤ 4) (hf : DR f S cnt) (hc : cnt ≤ 50) (hll : ll ≤ 10) (x0 : Int32) : Xw l yL_starts wsL_starts rm_L_starts_start g [.ref x, .int x0] (FW g x (lN SL) q u k (nI np) mv lm ch (lN F) d v f (nI cnt) (nI ll)) (fun rc w => (rc = nI 1 ∧ (fun w => ∃ (n0 : Nat) (k9 : Nat → Int32), 2 ≤ n0 ∧ n0 ≤ 4 ∧ nI n0 = x0 ∧ GK k9 (fun _ => 0) ∧ w = (FW g x (lN SL) q u k9 (nI n0) (nI 0) (-1) (-1) (lN 0) d v f (nI cnt) (nI ll))) w) ∨ (∃ E, (fun E => E = "java/lang/IllegalArgumentException" ∧ ¬ (∃ n0 : Nat, 2 ≤ n0 ∧ n0 ≤ 4 ∧ nI n0 = x0)) E ∧ rc = nI 0 ∧ w = (FW g x (lN SL) q u k (nI np) mv lm ch (lN F) d v f (nI cnt) (nI ll)))) := by
  refine Xw.ofZ (cc := cL_starts) (maxL := 3) (hh := [(0, 5, 8, 17)]) (by decide) rfl (Nat.le_of_ble_eq_true rfl) ?_
  intro p e s m args below meth c A Z hx hb hml hts hown hK hA hXk hNc htab hret H locs ls hP hD hS hl
  have hl : lv_has ls 3 [(0, .ref x), (1, .int x0)] := hl
  refine lv_aload_n hx hb dL_starts_0 rfl (lv_at hl 0 rfl) ?_
  refine lv_iload_n hx hb dL_starts_1 rfl (lv_at hl 1 rfl) ?_
  refine call_vX (As := [.int x0]) (rest := []) (wr := []) ⟨hx, hb, hml, hown, hts⟩ (c_X4_start l hl0 g x q u d v SL k K np mv lm ch F f S cnt ll hSL hF hk hp hf hc hll x0) (cwV 1 hts gL_starts_X4_start rfl rfl rfl (by decide +kernel) ⟨Nat.le_of_ble_eq_true rfl, Nat.le_of_ble_eq_true rfl⟩) hP hK hD hS hA hXk [0, 1, 2, 3, 4] [] rfl rfl (by decide) (by decide) (by decide) 0 rfl rfl rfl rfl hl.1 rfl (Nat.le_of_ble_eq_true rfl) dL_starts_2 ⟨Nat.le_of_ble_eq_true rfl, Nat.le_of_ble_eq_true rfl⟩ (fun E ce q9 H locs hxp hP hD hS hcell hcv hcl => ?_) (fun w H locs hw hP hD hS => ?_)
  · skip
    have hE := hxp.1
    subst hE
    have hcs : (Cond.castable "java/lang/IllegalArgumentException" "java/lang/IllegalArgumentException").before args s = true := xb_move (s := s) (a := #[]) (by decide +kernel) (State.WarmedH.refl s) (hXk.2.2.1 _ (by decide +kernel))
    have hpre : ∀ z ∈ ([] : List ExceptionTableEntry), covers z 2 = false ∨ (z.catchType ≠ 0 ∧ ∃ nm : String, (Cond.classLink RL z.catchType nm).before args s = true ∧ va_Nc "java/lang/IllegalArgumentException" nm s) := fun z hz => by cases hz
    refine vx_catch (own := RL) (name := "java/lang/IllegalArgumentException") hown [] ⟨0, 5, 8, 17⟩ [] (by rw [htab]; rfl) hpre (by decide) (by decide) (hts (.classLink RL 17 "java/lang/IllegalArgumentException") (by decide +kernel)) hcs hcell hcv hcl ?_
    refine lv_astore_n (lv' := [(2, .ref q9), (0, .ref x), (1, .int x0)]) hx hb dL_starts_8 rfl hl (by decide) rfl (fun ls hl => ?_)
    refine lv_iconst (v := nI 0) hx hb dL_starts_9 (by decide) ?_
    exact hret (nI 0) (FW g x (lN SL) q u k (nI np) mv lm ch (lN F) d v f (nI cnt) (nI ll)) _ _ _ _ _ _ (by decide) (by decide) dL_starts_10 (Or.inl rfl) (Or.inr ⟨_, hxp, rfl, rfl⟩) hP hD hS
  · skip
    refine lv_goto (tgt := 11) hx hb dL_starts_5 (by decide) ?_
    refine lv_iconst (v := nI 1) hx hb dL_starts_11 (by decide) ?_
    exact hret (nI 1) w _ _ _ _ _ _ (by decide) (by decide) dL_starts_12 (Or.inr rfl) (Or.inl ⟨rfl, hw⟩) hP hD hS
