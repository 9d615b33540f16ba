section LAWB
def nNc : Prop := True
def Pwy (g : GG) (wd : va_W) (sz : Nat) (U : State) : Prop := Pwx g wd sz U ∧ va_Nc "java/lang/IllegalStateException" "java/lang/IllegalArgumentException" U
theorem Pwy.blind (g : GG) (av : List Value) (wd : va_W) (sz : Nat) : FrameBlind (va_Pc av (Pwy g wd sz)) := fun a U gg mk q => by
  obtain ⟨q0, q1, q2⟩ := q
  have h := Pwx.blind g av wd sz a U gg mk ⟨q0, q1⟩
  exact ⟨h.1, h.2, va_Nc.moved (u := U) (U := U.calling gg mk a) (Vm.Alike.refl U.vm) q2⟩
/-- a method of the law that catches all that its callee throws -/
def Xw (l : Launch) (y : MethodName) (ws : List Cond) (rm : Room) (g : GG) (av : List Value) (wd : va_W) (post : Int32 → va_W → Prop) : Prop := ∀ sz : Nat, vx_Met l y ws rm (va_Pc av (Pwy g wd sz)) (va_Qi post (fun w t => Bw g (va_A wd sz) w t) (va_A wd sz)) (vx_X (fun _ : Unit => False) (fun _ _ _ => True) (va_A wd sz)) 1 6 (va_A wd sz)
theorem Xw.of {l : Launch} {y : MethodName} {ws ws' : List Cond} {rm : Room} {g : GG} {av : List Value} {wd : va_W} {cc : ByteArray} {maxL : Nat} {hh : List (Nat × Nat × Nat × Nat)} {post : Int32 → va_W → Prop} (hy : plainName y.cls = true) (hw : ws = Cond.codeWith y cc maxL (some .int) hh :: ws') (hn : (lg_sl av).length ≤ maxL)
    (body : ∀ (p : Program) (e : Env) (s : State) (m : MethodId) (args : Array Value) (below : List Frame) (meth : Method) (c : Code) (A : Nat → Prop) (Z : State → Prop),
      p.tables.exec = Jvm.exec → c.code = cc → c.maxLocals = maxL → (∀ w ∈ ws, w.before args s = true) → s.vm.findClass y.cls = some m.cls → va_K g.1 vwCl (tyG g) s → (∀ q, s.heap.size ≤ q → A q) → Xk A s → va_Nc "java/lang/IllegalStateException" "java/lang/IllegalArgumentException" s → c.exceptionTable.toList = tableOf hh →
      (∀ (r : Int32) (w : va_W) (H : Heap) (locs : List Loc) (ls : Array Slot) (pc cells slots : Nat), cells ≤ 1 → slots ≤ 6 → decode cc pc = .ok (.ireturn, 1) → post r w → va_P g.1 vwCl w H → va_D A w → va_S A s.heap H locs → W p l e rm s m args below meth c H locs cells slots Z (F0 m pc ls [.int r])) →
      ∀ (H : Heap) (locs : List Loc) (ls : Array Slot), va_P g.1 vwCl wd H → va_D A wd → va_S A s.heap H locs → lv_has ls maxL (lv_args 0 av) → W p l e rm s m args below meth c H locs 0 0 Z (F0 m 0 ls [])) : Xw l y ws rm g av wd post := by
  intro sz
  refine vx_ofWH (cc := cc) (maxL := maxL) (ret := some .int) (hh := hh) hy hw ?_
  intro p e s m args below meth c s₁ B hml hv
  obtain ⟨rfl, ⟨⟨hsz, hP, hK, hD0⟩, hXk⟩, hNc⟩ := hv
  have hx := B.exec
  have hb := B.bytes
  have hr := B.returns
  have hts := atoms_spec (ws := ws) B.pre
  have hown : s.vm.findClass y.cls = some m.cls := findClass_of_methodNamed B.named
  have hlocks := B.notSynchronized
  have htab := vx_table (x := y) B (hts _ (by rw [hw]; exact List.mem_cons_self))
  subst hsz
  have hD := hD0.self (sz := s.heap.size)
  generalize hAe : va_A wd s.heap.size = A at hD hXk ⊢
  have hA : ∀ q : Nat, s.heap.size ≤ q → A q := fun q h => by rw [← hAe]; exact Or.inr h
  have hl := lv_entry av (n := maxL) hn
  rw [lg_entry_eq]
  exact body p e s m av.toArray below meth c A _ hx hb hml hts hown hK hA hXk hNc htab (fun r w H locs ls pc cells slots h1 h6 hd hp hP hD hS =>
    W.widen (k := 1) (n := 6) h1 h6 (vx_ret (W.iret (v := r) hx hb hr (fun t ht hW => ⟨⟨r, w, rfl, hp, by rw [ht]; exact hP, va_K.moved hW.alike hK, hD⟩, hS.F ht⟩) hS.2.2 hd))) _ _ _ hP hD va_S.rf hl
variable {p : Program} {l : Launch} {e : Env} {R : Room} {s : State} {m : MethodId} {args : Array Value} {below : List Frame} {meth : Method} {c : Code} {H : Heap} {locs : List Loc} {cells slots : Nat} {Q : State → Prop}
variable {cc : ByteArray} {nL maxL n index pc : Nat} {Ts ws : List Cond} {own C : String} {y : MethodName} {bytes : ByteArray} {ret : Option FieldType} {hh : List (Nat × Nat × Nat × Nat)} {rm : Room} {g : GG} {As rest st0 : List Value} {b : Nat} {wd wc wr : va_W} {A : Nat → Prop} {ls : Array Slot} {xp : String → Prop}
theorem call_iX {post : Int32 → va_W → Prop} (S : CallFix p m c cc nL s args Ts own) (hC : Xi l y ws rm g (.ref b :: As) wc post xp) (cw : CallW R s args own C index y bytes maxL ret ws rm 1 6 n)
    (hP : va_P g.1 vwCl wd H) (hK : va_K g.1 vwCl (tyG g) s) (hD : va_D A wd) (hS : va_S A s.heap H locs) (hA : ∀ q, s.heap.size ≤ q → A q) (hXk : Xk A s) (isC isR : List Nat) (hc : isC.map (fun i => wd[i]?) = wc.map some) (hr : isR.map (fun i => wd[i]?) = wr.map some) (hnC : va_nd isC = true) (hnR : va_nd isR = true) (hdis : ∀ i ∈ isR, i ∉ isC)
    (q0 : Nat) {ci : Nat} {q : vw_C} {fs : List Value} (he : wc[q0]? = some (b, .inr (ci, fs))) (hci : vwCl[ci]? = some q) (hqC : q.1 = C) (hn : As.length = n) (hsz : ls.size = nL) (hst : st0 = As.reverse ++ .ref b :: rest) (hrm : (rest.map fun v => v.category).sum ≤ 8) (hdg : decode cc pc = .ok (.invokevirtual index, 3)) (hf : cells + 1 ≤ R.cells ∧ slots + 6 ≤ R.slots)
    (kx : ∀ (E : String) (ce : Cell) (q9 : Addr) (H1 : Heap) (locs1 : List Loc), xp E → va_P g.1 vwCl (wr ++ wc) H1 → va_D A (wr ++ wc) → va_S A s.heap H1 locs1 → H1[q9]? = some ce → ce.vm = .none → s.vm.findClass E = some ce.cls → vx_W p l e R s m args below meth c H1 locs1 (cells + 1) (slots + 6) Q (F0 m pc ls rest) q9)
    (kk : ∀ (r : Int32) (w : va_W) (H1 : Heap) (locs1 : List Loc), post r w → va_P g.1 vwCl (wr ++ w) H1 → va_D A (wr ++ w) → va_S A s.heap H1 locs1 → W p l e R s m args below meth c H1 locs1 (cells + 1) (slots + 6) Q (F0 m (pc + 3) ls (.int r :: rest))) : W p l e R s m args below meth c H locs cells slots Q (F0 m pc ls st0) := by
  subst hst
  have hPc : va_P g.1 vwCl wc H := hP.sub isC (fm_of (wc := wc) hc)
  have hDc : va_D A wc := hD.sub isC hnC hc
  have hFc := va_free (wc := wc) hD hS hA isC hc
  refine vx_calli (vx_runV (As := As) (rest := rest) S (hC H.size) cw ⟨Pwx.blind g (.ref b :: As) wc H.size, (by subst hqC; exact va_recv hK hPc hci he), fun U hU hW => ⟨rfl, ⟨by rw [hU], by rw [hU]; exact hPc, va_K.moved hW.alike hK, hDc.weaken (fun _ _ _ _ => trivial)⟩, Xk.move hW hU hS hFc hXk⟩⟩ rfl hn hsz rfl (lv_room hrm) hdg hf) hS (fun q _ h => hFc q h) hFc (fun q _ h => hFc q h) (fun E ce q9 u t H1 locs1 ht hvm _ hB hz1 hk1 hS1 hcell hcv hcl => ?_) (fun r w t H1 locs1 ht hvm hw hB hz1 hk1 hS1 => ?_)
  · obtain ⟨hxp, hP1, hK1, hD1⟩ := hB
    rw [ht] at hP1
    obtain ⟨hP2, hD2⟩ := va_join (wr := wr) (w1 := wc) hP hD isC isR hc hr hnR hdis hk1 hFc hP1 hD1
    exact kx E ce q9 H1 locs1 hxp hP2 hD2 hS1 hcell hcv hcl
  · obtain ⟨hP1, hK1, hD1⟩ := hB
    rw [ht] at hP1
    obtain ⟨hP2, hD2⟩ := va_join (wr := wr) (w1 := w) hP hD isC isR hc hr hnR hdis hk1 hFc hP1 hD1
    exact kk r w H1 locs1 hw hP2 hD2 hS1
theorem call_vX {post : va_W → Prop} (S : CallFix p m c cc nL s args Ts own) (hC : Xv l y ws rm g (.ref b :: As) wc post xp) (cw : CallW R s args own C index y bytes maxL ret ws rm 1 6 n)
    (hP : va_P g.1 vwCl wd H) (hK : va_K g.1 vwCl (tyG g) s) (hD : va_D A wd) (hS : va_S A s.heap H locs) (hA : ∀ q, s.heap.size ≤ q → A q) (hXk : Xk A s) (isC isR : List Nat) (hc : isC.map (fun i => wd[i]?) = wc.map some) (hr : isR.map (fun i => wd[i]?) = wr.map some) (hnC : va_nd isC = true) (hnR : va_nd isR = true) (hdis : ∀ i ∈ isR, i ∉ isC)
    (q0 : Nat) {ci : Nat} {q : vw_C} {fs : List Value} (he : wc[q0]? = some (b, .inr (ci, fs))) (hci : vwCl[ci]? = some q) (hqC : q.1 = C) (hn : As.length = n) (hsz : ls.size = nL) (hst : st0 = As.reverse ++ .ref b :: rest) (hrm : (rest.map fun v => v.category).sum ≤ 8) (hdg : decode cc pc = .ok (.invokevirtual index, 3)) (hf : cells + 1 ≤ R.cells ∧ slots + 6 ≤ R.slots)
    (kx : ∀ (E : String) (ce : Cell) (q9 : Addr) (H1 : Heap) (locs1 : List Loc), xp E → va_P g.1 vwCl (wr ++ wc) H1 → va_D A (wr ++ wc) → va_S A s.heap H1 locs1 → H1[q9]? = some ce → ce.vm = .none → s.vm.findClass E = some ce.cls → vx_W p l e R s m args below meth c H1 locs1 (cells + 1) (slots + 6) Q (F0 m pc ls rest) q9)
    (kk : ∀ (w : va_W) (H1 : Heap) (locs1 : List Loc), post w → va_P g.1 vwCl (wr ++ w) H1 → va_D A (wr ++ w) → va_S A s.heap H1 locs1 → W p l e R s m args below meth c H1 locs1 (cells + 1) (slots + 6) Q (F0 m (pc + 3) ls rest)) : W p l e R s m args below meth c H locs cells slots Q (F0 m pc ls st0) := by
  subst hst
  have hPc : va_P g.1 vwCl wc H := hP.sub isC (fm_of (wc := wc) hc)
  have hDc : va_D A wc := hD.sub isC hnC hc
  have hFc := va_free (wc := wc) hD hS hA isC hc
  refine vx_callv (vx_runV (As := As) (rest := rest) S (hC H.size) cw ⟨Pwx.blind g (.ref b :: As) wc H.size, (by subst hqC; exact va_recv hK hPc hci he), fun U hU hW => ⟨rfl, ⟨by rw [hU], by rw [hU]; exact hPc, va_K.moved hW.alike hK, hDc.weaken (fun _ _ _ _ => trivial)⟩, Xk.move hW hU hS hFc hXk⟩⟩ rfl hn hsz rfl (lv_room hrm) hdg hf) hS (fun q _ h => hFc q h) hFc (fun q _ h => hFc q h) (fun E ce q9 u t H1 locs1 ht hvm _ hB hz1 hk1 hS1 hcell hcv hcl => ?_) (fun w t H1 locs1 ht hvm hw hB hz1 hk1 hS1 => ?_)
  · obtain ⟨hxp, hP1, hK1, hD1⟩ := hB
    rw [ht] at hP1
    obtain ⟨hP2, hD2⟩ := va_join (wr := wr) (w1 := wc) hP hD isC isR hc hr hnR hdis hk1 hFc hP1 hD1
    exact kx E ce q9 H1 locs1 hxp hP2 hD2 hS1 hcell hcv hcl
  · obtain ⟨hP1, hK1, hD1⟩ := hB
    rw [ht] at hP1
    obtain ⟨hP2, hD2⟩ := va_join (wr := wr) (w1 := w) hP hD isC isR hc hr hnR hdis hk1 hFc hP1 hD1
    exact kk w H1 locs1 hw hP2 hD2 hS1
theorem call_wX {post : Int32 → va_W → Prop} (S : CallFix p m c cc nL s args Ts own) (hC : Xw l y ws rm g As wc post) (cw : vx_CSW R s args own index y bytes maxL ret hh ws rm 1 6 n)
    (hP : va_P g.1 vwCl wd H) (hK : va_K g.1 vwCl (tyG g) s) (hD : va_D A wd) (hS : va_S A s.heap H locs) (hA : ∀ q, s.heap.size ≤ q → A q) (hXk : Xk A s) (hNc : va_Nc "java/lang/IllegalStateException" "java/lang/IllegalArgumentException" s) (isC isR : List Nat) (hc : isC.map (fun i => wd[i]?) = wc.map some) (hr : isR.map (fun i => wd[i]?) = wr.map some) (hnC : va_nd isC = true) (hnR : va_nd isR = true) (hdis : ∀ i ∈ isR, i ∉ isC)
    (hn : As.length = n) (hsz : ls.size = nL) (hst : st0 = As.reverse ++ rest) (hrm : (rest.map fun v => v.category).sum ≤ 8) (hdg : decode cc pc = .ok (.invokestatic index, 3)) (hf : cells + 1 ≤ R.cells ∧ slots + 6 ≤ R.slots)
    (kk : ∀ (r : Int32) (w : va_W) (H1 : Heap) (locs1 : List Loc), post r w → va_P g.1 vwCl (wr ++ w) H1 → va_D A (wr ++ w) → va_S A s.heap H1 locs1 → W p l e R s m args below meth c H1 locs1 (cells + 1) (slots + 6) Q (F0 m (pc + 3) ls (.int r :: rest))) : W p l e R s m args below meth c H locs cells slots Q (F0 m pc ls st0) := by
  subst hst
  have hPc : va_P g.1 vwCl wc H := hP.sub isC (fm_of (wc := wc) hc)
  have hDc : va_D A wc := hD.sub isC hnC hc
  have hFc := va_free (wc := wc) hD hS hA isC hc
  refine vx_calli (vx_runSX (As := As) (rest := rest) S (hC H.size) cw ⟨Pwy.blind g As wc H.size, fun U hU hW => ⟨rfl, ⟨⟨by rw [hU], by rw [hU]; exact hPc, va_K.moved hW.alike hK, hDc.weaken (fun _ _ _ _ => trivial)⟩, Xk.move hW hU hS hFc hXk⟩, hNc.moved hW.alike⟩⟩ rfl hn hsz rfl (lv_room hrm) hdg hf) hS (fun q _ h => hFc q h) hFc (fun q _ h => hFc q h) (fun E ce q9 u t H1 locs1 ht hvm hF _ hz1 hk1 hS1 hcell hcv hcl => hF.elim) (fun r w t H1 locs1 ht hvm hw hB hz1 hk1 hS1 => ?_)
  obtain ⟨hP1, hK1, hD1⟩ := hB
  rw [ht] at hP1
  obtain ⟨hP2, hD2⟩ := va_join (wr := wr) (w1 := w) hP hD isC isR hc hr hnR hdis hk1 hFc hP1 hD1
  exact kk r w H1 locs1 hw hP2 hD2 hS1
end LAWB

abbrev rm_L_write : Room := { frames := 7, cells := 1, slots := 6, locals := 111 }
set_option maxHeartbeats 4000000 in
set_option maxRecDepth 100000 in
theorem c_L_write (l : Launch) (hl0 : l.flags = flags0) (g : GG) (x q u d v : Nat) (SL : Nat) (k : Nat → Int32) (K : Nat → Nat) (np : Nat) (mv lm ch : Int32) (F : Nat) (f : Nat → Int64) (S : Nat → Nat) (cnt ll : Nat) (hSL : RV SL) (hF : RV F) (hk : GK k K) (hp : np ≤ 4) (hf : DR f S cnt) (hc : cnt ≤ 50) (hll : ll ≤ 10) (x0 : Int32) (o : Nat) (fo : Nat → Int64) : Xw l yL_write wsL_write rm_L_write g [.ref x, .int x0, .ref o] [OC g o fo, (x, .inr (2, [.ref (d), .ref (q), .long (lN (SL))])), (q, .inr (1, [.ref (u), .int (nI (np)), .int (mv), .int (lm), .int (ch), .long (lN (F))])), (u, .inl (g.2.1, 4, .inl (k))), (d, .inr (0, [.ref (v), .int (nI (cnt)), .int (nI (ll))])), (v, .inl (g.2.2.1, 50, .inr (.inl (f))))] (fun rc w => (rc = nI 0 ∧ ∃ (r : Int32) (w1 : va_W), (fun r w => ∃ a : Nat, a < 26 ∧ nI a = x0 ∧ rwL SL < 10 ∧ r = nI (rwL SL + 1) ∧ w = (FW g x (lN (rwX SL a)) q u k (nI np) mv lm ch (lN F) d v f (nI cnt) (nI ll))) r w1 ∧ w = OC g o (vp_updL fo 0 r.toInt64) :: w1) ∨ (∃ E, (fun E => (E = "java/lang/IllegalArgumentException" ∧ ¬ (∃ a : Nat, a < 26 ∧ nI a = x0)) ∨ (E = "java/lang/IllegalStateException" ∧ (∃ a : Nat, a < 26 ∧ nI a = x0) ∧ 10 ≤ rwL SL)) E ∧ ((E = "java/lang/IllegalArgumentException" ∧ rc = nI 1) ∨ (E = "java/lang/IllegalStateException" ∧ rc = nI 2)) ∧ w = OC g o fo :: (FW g x (lN SL) q u k (nI np) mv lm ch (lN F) d v f (nI cnt) (nI ll)))) := by
  refine Xw.of (cc := cL_write) (maxL := 4) (hh := [(0, 9, 12, 13), (0, 9, 15, 15)]) (by decide) rfl (Nat.le_of_ble_eq_true rfl) ?_
  intro p e s m args below meth c A Z hx hb hml hts hown hK hA hXk hNc htab hret H locs ls hP hD hS hl
  have hl : lv_has ls 4 [(0, .ref x), (1, .int x0), (2, .ref o)] := hl
  refine lv_aload_n hx hb dL_write_0 rfl (lv_at hl 2 rfl) ?_
  refine lv_iconst (v := nI 0) hx hb dL_write_1 (by decide) ?_
  refine lv_aload_n hx hb dL_write_2 rfl (lv_at hl 0 rfl) ?_
  refine lv_iload_n hx hb dL_write_3 rfl (lv_at hl 1 rfl) ?_
  refine call_iX (As := [.int x0]) (rest := [.int (nI 0), .ref o]) (wr := [OC g o fo]) ⟨hx, hb, hml, hown, hts⟩ (c_X4_write l hl0 g x q u d v SL k K np mv lm ch F f S cnt ll hSL hF hk hp hf hc hll x0) (cwV 1 hts gL_write_X4_write rfl rfl rfl (by decide +kernel) ⟨Nat.le_of_ble_eq_true rfl, Nat.le_of_ble_eq_true rfl⟩) hP hK hD hS hA hXk [1, 2, 3, 4, 5] [0] rfl rfl (by decide) (by decide) (by decide) 0 rfl rfl rfl rfl hl.1 rfl (Nat.le_of_ble_eq_true rfl) dL_write_4 ⟨Nat.le_of_ble_eq_true rfl, Nat.le_of_ble_eq_true rfl⟩ (fun E ce q9 H locs hxp hP hD hS hcell hcv hcl => ?_) (fun r w H locs hw hP hD hS => ?_)
  · skip
    have hE : E = "java/lang/IllegalArgumentException" ∨ E = "java/lang/IllegalStateException" := by
      rcases hxp with h | h
      · exact Or.inl h.1
      · exact Or.inr h.1
    rcases hE with rfl | rfl
    · skip
      have hcs : (Cond.castable "java/lang/IllegalArgumentException" "java/lang/IllegalArgumentException").before args s = true := xb_move (s := s) (a := #[]) (by decide +kernel) (State.WarmedH.refl s) (hXk.2.2.1 _ (by decide +kernel))
      have hpre : ∀ z ∈ ([] : List ExceptionTableEntry), covers z 4 = false ∨ (z.catchType ≠ 0 ∧ ∃ nm : String, (Cond.classLink RL z.catchType nm).before args s = true ∧ va_Nc "java/lang/IllegalArgumentException" nm s) := fun z hz => by cases hz
      refine vx_catch (own := RL) (name := "java/lang/IllegalArgumentException") hown [] ⟨0, 9, 12, 13⟩ [⟨0, 9, 15, 15⟩] (by rw [htab]; rfl) hpre (by decide) (by decide) (hts (.classLink RL 13 "java/lang/IllegalArgumentException") (by decide +kernel)) hcs hcell hcv hcl ?_
      refine lv_astore_n (lv' := [(3, .ref q9), (0, .ref x), (1, .int x0), (2, .ref o)]) hx hb dL_write_12 rfl hl (by decide) rfl (fun ls hl => ?_)
      refine lv_iconst (v := nI 1) hx hb dL_write_13 (by decide) ?_
      exact hret (nI 1) (OC g o fo :: (FW g x (lN SL) q u k (nI np) mv lm ch (lN F) d v f (nI cnt) (nI ll))) _ _ _ _ _ _ (by decide) (by decide) dL_write_14 (Or.inr ⟨_, hxp, Or.inl ⟨rfl, rfl⟩, rfl⟩) hP hD hS
    · skip
      have hcs : (Cond.castable "java/lang/IllegalStateException" "java/lang/IllegalStateException").before args s = true := xb_move (s := s) (a := #[]) (by decide +kernel) (State.WarmedH.refl s) (hXk.2.2.1 _ (by decide +kernel))
      have hpre : ∀ z ∈ ([⟨0, 9, 12, 13⟩] : List ExceptionTableEntry), covers z 4 = false ∨ (z.catchType ≠ 0 ∧ ∃ nm : String, (Cond.classLink RL z.catchType nm).before args s = true ∧ va_Nc "java/lang/IllegalStateException" nm s) := fun z hz => by
        rcases List.mem_singleton.mp hz with rfl
        exact Or.inr ⟨by decide, "java/lang/IllegalArgumentException", hts (.classLink RL 13 "java/lang/IllegalArgumentException") (by decide +kernel), hNc⟩
      refine vx_catch (own := RL) (name := "java/lang/IllegalStateException") hown [⟨0, 9, 12, 13⟩] ⟨0, 9, 15, 15⟩ [] (by rw [htab]; rfl) hpre (by decide) (by decide) (hts (.classLink RL 15 "java/lang/IllegalStateException") (by decide +kernel)) hcs hcell hcv hcl ?_
      refine lv_astore_n (lv' := [(3, .ref q9), (0, .ref x), (1, .int x0), (2, .ref o)]) hx hb dL_write_15 rfl hl (by decide) rfl (fun ls hl => ?_)
      refine lv_iconst (v := nI 2) hx hb dL_write_16 (by decide) ?_
      exact hret (nI 2) (OC g o fo :: (FW g x (lN SL) q u k (nI np) mv lm ch (lN F) d v f (nI cnt) (nI ll))) _ _ _ _ _ _ (by decide) (by decide) dL_write_17 (Or.inr ⟨_, hxp, Or.inr ⟨rfl, rfl⟩, rfl⟩) hP hD hS
  · skip
    refine lv_i2l (v := r.toInt64) hx hb dL_write_7 rfl ?_
    refine va_last (n := 1) (f := fo) hx hb hK hP hD hS 0 1 rfl rfl (vp_in_nI (n := 0) (by decide) (by decide)) dL_write_8 (fun H locs hP hD hS => ?_)
    rw [nI_clamp (n := 0) (by decide)] at hP hD
    have hP : va_P g.1 vwCl (OC g o (vp_updL fo 0 r.toInt64) :: w) H := hP
    have hD : va_D A (OC g o (vp_updL fo 0 r.toInt64) :: w) := hD
    refine lv_goto (tgt := 18) hx hb dL_write_9 (by decide) ?_
    refine lv_iconst (v := nI 0) hx hb dL_write_18 (by decide) ?_
    exact hret (nI 0) (OC g o (vp_updL fo 0 r.toInt64) :: w) _ _ _ _ _ _ (by decide) (by decide) dL_write_19 (Or.inl ⟨rfl, r, w, hw, rfl⟩) hP hD hS
abbrev rm_L_slipAt : Room := { frames := 7, cells := 1, slots := 6, locals := 112 }
set_option maxHeartbeats 4000000 in
set_option maxRecDepth 100000 in
theorem c_L_slipAt (l : Launch) (hl0 : l.flags = flags0) (g : GG) (x q u d v : Nat) (SL : Nat) (k : Nat → Int32) (K : Nat → Nat) (np : Nat) (mv lm ch : Int32) (F : Nat) (f : Nat → Int64) (S : Nat → Nat) (cnt ll : Nat) (hSL : RV SL) (hF : RV F) (hk : GK k K) (hp : np ≤ 4) (hf : DR f S cnt) (hc : cnt ≤ 50) (hll : ll ≤ 10) (x0 : Int32) (o : Nat) (fo : Nat → Int64) : Xw l yL_slipAt wsL_slipAt rm_L_slipAt g [.ref x, .int x0, .ref o] [OC g o fo, (x, .inr (2, [.ref (d), .ref (q), .long (lN (SL))])), (q, .inr (1, [.ref (u), .int (nI (np)), .int (mv), .int (lm), .int (ch), .long (lN (F))])), (u, .inl (g.2.1, 4, .inl (k))), (d, .inr (0, [.ref (v), .int (nI (cnt)), .int (nI (ll))])), (v, .inl (g.2.2.1, 50, .inr (.inl (f))))] (fun rc w => (rc = nI 0 ∧ ∃ (r : Int32) (w1 : va_W), (fun r w => w = (FW g x (lN SL) q u k (nI np) mv lm ch (lN F) d v f (nI cnt) (nI ll)) ∧ ∃ j : Nat, j < rwL SL ∧ nI j = x0 ∧ r = nI (rwA SL j)) r w1 ∧ w = OC g o (vp_updL fo 0 r.toInt64) :: w1) ∨ (∃ E, (fun E => E = "java/lang/IndexOutOfBoundsException" ∧ ¬ ∃ j : Nat, j < rwL SL ∧ nI j = x0) E ∧ ((E = "java/lang/IndexOutOfBoundsException" ∧ rc = nI 1)) ∧ w = OC g o fo :: (FW g x (lN SL) q u k (nI np) mv lm ch (lN F) d v f (nI cnt) (nI ll)))) := by
  refine Xw.of (cc := cL_slipAt) (maxL := 4) (hh := [(0, 9, 12, 20)]) (by decide) rfl (Nat.le_of_ble_eq_true rfl) ?_
  intro p e s m args below meth c A Z hx hb hml hts hown hK hA hXk hNc htab hret H locs ls hP hD hS hl
  have hl : lv_has ls 4 [(0, .ref x), (1, .int x0), (2, .ref o)] := hl
  refine lv_aload_n hx hb dL_slipAt_0 rfl (lv_at hl 2 rfl) ?_
  refine lv_iconst (v := nI 0) hx hb dL_slipAt_1 (by decide) ?_
  refine lv_aload_n hx hb dL_slipAt_2 rfl (lv_at hl 0 rfl) ?_
  refine lv_iload_n hx hb dL_slipAt_3 rfl (lv_at hl 1 rfl) ?_
  refine call_iX (As := [.int x0]) (rest := [.int (nI 0), .ref o]) (wr := [OC g o fo]) ⟨hx, hb, hml, hown, hts⟩ (c_X4_slipAt l hl0 g x q u d v SL k K np mv lm ch F f S cnt ll hSL hF hk hp hf hc hll x0) (cwV 1 hts gL_slipAt_X4_slipAt rfl rfl rfl (by decide +kernel) ⟨Nat.le_of_ble_eq_true rfl, Nat.le_of_ble_eq_true rfl⟩) hP hK hD hS hA hXk [1, 2, 3, 4, 5] [0] rfl rfl (by decide) (by decide) (by decide) 0 rfl rfl rfl rfl hl.1 rfl (Nat.le_of_ble_eq_true rfl) dL_slipAt_4 ⟨Nat.le_of_ble_eq_true rfl, Nat.le_of_ble_eq_true rfl⟩ (fun E ce q9 H locs hxp hP hD hS hcell hcv hcl => ?_) (fun r w H locs hw hP hD hS => ?_)
  · skip
    have hE := hxp.1
    subst hE
    have hcs : (Cond.castable "java/lang/IndexOutOfBoundsException" "java/lang/IndexOutOfBoundsException").before args s = true := xb_move (s := s) (a := #[]) (by decide +kernel) (State.WarmedH.refl s) (hXk.2.2.1 _ (by decide +kernel))
    have hpre : ∀ z ∈ ([] : List ExceptionTableEntry), covers z 4 = false ∨ (z.catchType ≠ 0 ∧ ∃ nm : String, (Cond.classLink RL z.catchType nm).before args s = true ∧ va_Nc "java/lang/IndexOutOfBoundsException" nm s) := fun z hz => by cases hz
    refine vx_catch (own := RL) (name := "java/lang/IndexOutOfBoundsException") hown [] ⟨0, 9, 12, 20⟩ [] (by rw [htab]; rfl) hpre (by decide) (by decide) (hts (.classLink RL 20 "java/lang/IndexOutOfBoundsException") (by decide +kernel)) hcs hcell hcv hcl ?_
    refine lv_astore_n (lv' := [(3, .ref q9), (0, .ref x), (1, .int x0), (2, .ref o)]) hx hb dL_slipAt_12 rfl hl (by decide) rfl (fun ls hl => ?_)
    refine lv_iconst (v := nI 1) hx hb dL_slipAt_13 (by decide) ?_
    exact hret (nI 1) (OC g o fo :: (FW g x (lN SL) q u k (nI np) mv lm ch (lN F) d v f (nI cnt) (nI ll))) _ _ _ _ _ _ (by decide) (by decide) dL_slipAt_14 (Or.inr ⟨_, hxp, ⟨rfl, rfl⟩, rfl⟩) hP hD hS
  · skip
    refine lv_i2l (v := r.toInt64) hx hb dL_slipAt_7 rfl ?_
    refine va_last (n := 1) (f := fo) hx hb hK hP hD hS 0 1 rfl rfl (vp_in_nI (n := 0) (by decide) (by decide)) dL_slipAt_8 (fun H locs hP hD hS => ?_)
    rw [nI_clamp (n := 0) (by decide)] at hP hD
    have hP : va_P g.1 vwCl (OC g o (vp_updL fo 0 r.toInt64) :: w) H := hP
    have hD : va_D A (OC g o (vp_updL fo 0 r.toInt64) :: w) := hD
    refine lv_goto (tgt := 15) hx hb dL_slipAt_9 (by decide) ?_
    refine lv_iconst (v := nI 0) hx hb dL_slipAt_15 (by decide) ?_
    exact hret (nI 0) (OC g o (vp_updL fo 0 r.toInt64) :: w) _ _ _ _ _ _ (by decide) (by decide) dL_slipAt_16 (Or.inl ⟨rfl, r, w, hw, rfl⟩) hP hD hS
abbrev rm_L_addWord : Room := { frames := 7, cells := 1, slots := 6, locals := 110 }
set_option maxHeartbeats 4000000 in
set_option maxRecDepth 100000 in
theorem c_L_addWord (l : Launch) (hl0 : l.flags = flags0) (g : GG) (x q u d v : Nat) (SL : Nat) (k : Nat → Int32) (K : Nat → Nat) (np : Nat) (mv lm ch : Int32) (F : Nat) (f : Nat → Int64) (S : Nat → Nat) (cnt ll : Nat) (hSL : RV SL) (hF : RV F) (hk : GK k K) (hp : np ≤ 4) (hf : DR f S cnt) (hc : cnt ≤ 50) (hll : ll ≤ 10) (o : Nat) (fo : Nat → Int64) : Xw l yL_addWord wsL_addWord rm_L_addWord g [.ref x, .ref o] [OC g o fo, (x, .inr (2, [.ref (d), .ref (q), .long (lN (SL))])), (q, .inr (1, [.ref (u), .int (nI (np)), .int (mv), .int (lm), .int (ch), .long (lN (F))])), (u, .inl (g.2.1, 4, .inl (k))), (d, .inr (0, [.ref (v), .int (nI (cnt)), .int (nI (ll))])), (v, .inl (g.2.2.1, 50, .inr (.inl (f))))] (fun rc w => (rc = nI 0 ∧ ∃ (r : Int32) (w1 : va_W), (fun r w => 2 ≤ rwL SL ∧ cnt < 50 ∧ ¬ inS S cnt SL ∧ r = nI (cnt + 1) ∧ ∃ (f9 : Nat → Int64) (S9 : Nat → Nat) (t : Nat), w = FW g x (lN SL) q u k (nI np) mv lm ch (lN F) d v f9 (nI (cnt + 1)) (nI ll) ∧ DR f9 S9 (cnt + 1) ∧ InsAt S cnt t SL S9) r w1 ∧ w = OC g o (vp_updL fo 0 r.toInt64) :: w1) ∨ (∃ E, (fun E => (E = "java/lang/IllegalArgumentException" ∧ ¬ 2 ≤ rwL SL) ∨ (E = "java/lang/IllegalStateException" ∧ 2 ≤ rwL SL ∧ (50 ≤ cnt ∨ inS S cnt SL))) E ∧ ((E = "java/lang/IllegalArgumentException" ∧ rc = nI 1) ∨ (E = "java/lang/IllegalStateException" ∧ rc = nI 2)) ∧ w = OC g o fo :: (FW g x (lN SL) q u k (nI np) mv lm ch (lN F) d v f (nI cnt) (nI ll)))) := by
  refine Xw.of (cc := cL_addWord) (maxL := 3) (hh := [(0, 8, 11, 13), (0, 8, 14, 15)]) (by decide) rfl (Nat.le_of_ble_eq_true rfl) ?_
  intro p e s m args below meth c A Z hx hb hml hts hown hK hA hXk hNc htab hret H locs ls hP hD hS hl
  have hl : lv_has ls 3 [(0, .ref x), (1, .ref o)] := hl
  refine lv_aload_n hx hb dL_addWord_0 rfl (lv_at hl 1 rfl) ?_
  refine lv_iconst (v := nI 0) hx hb dL_addWord_1 (by decide) ?_
  refine lv_aload_n hx hb dL_addWord_2 rfl (lv_at hl 0 rfl) ?_
  refine call_iX (As := []) (rest := [.int (nI 0), .ref o]) (wr := [OC g o fo]) ⟨hx, hb, hml, hown, hts⟩ (c_X4_addWord l hl0 g x q u d v SL k K np mv lm ch F f S cnt ll hSL hF hk hp hf hc hll) (cwV 0 hts gL_addWord_X4_addWord rfl rfl rfl (by decide +kernel) ⟨Nat.le_of_ble_eq_true rfl, Nat.le_of_ble_eq_true rfl⟩) hP hK hD hS hA hXk [1, 2, 3, 4, 5] [0] rfl rfl (by decide) (by decide) (by decide) 0 rfl rfl rfl rfl hl.1 rfl (Nat.le_of_ble_eq_true rfl) dL_addWord_3 ⟨Nat.le_of_ble_eq_true rfl, Nat.le_of_ble_eq_true rfl⟩ (fun E ce q9 H locs hxp hP hD hS hcell hcv hcl => ?_) (fun r w H locs hw hP hD hS => ?_)
  · skip
    have hE : E = "java/lang/IllegalArgumentException" ∨ E = "java/lang/IllegalStateException" := by
      rcases hxp with h | h
      · exact Or.inl h.1
      · exact Or.inr h.1
    rcases hE with rfl | rfl
    · skip
      have hcs : (Cond.castable "java/lang/IllegalArgumentException" "java/lang/IllegalArgumentException").before args s = true := xb_move (s := s) (a := #[]) (by decide +kernel) (State.WarmedH.refl s) (hXk.2.2.1 _ (by decide +kernel))
      have hpre : ∀ z ∈ ([] : List ExceptionTableEntry), covers z 3 = false ∨ (z.catchType ≠ 0 ∧ ∃ nm : String, (Cond.classLink RL z.catchType nm).before args s = true ∧ va_Nc "java/lang/IllegalArgumentException" nm s) := fun z hz => by cases hz
      refine vx_catch (own := RL) (name := "java/lang/IllegalArgumentException") hown [] ⟨0, 8, 11, 13⟩ [⟨0, 8, 14, 15⟩] (by rw [htab]; rfl) hpre (by decide) (by decide) (hts (.classLink RL 13 "java/lang/IllegalArgumentException") (by decide +kernel)) hcs hcell hcv hcl ?_
      refine lv_astore_n (lv' := [(2, .ref q9), (0, .ref x), (1, .ref o)]) hx hb dL_addWord_11 rfl hl (by decide) rfl (fun ls hl => ?_)
      refine lv_iconst (v := nI 1) hx hb dL_addWord_12 (by decide) ?_
      exact hret (nI 1) (OC g o fo :: (FW g x (lN SL) q u k (nI np) mv lm ch (lN F) d v f (nI cnt) (nI ll))) _ _ _ _ _ _ (by decide) (by decide) dL_addWord_13 (Or.inr ⟨_, hxp, Or.inl ⟨rfl, rfl⟩, rfl⟩) hP hD hS
    · skip
      have hcs : (Cond.castable "java/lang/IllegalStateException" "java/lang/IllegalStateException").before args s = true := xb_move (s := s) (a := #[]) (by decide +kernel) (State.WarmedH.refl s) (hXk.2.2.1 _ (by decide +kernel))
      have hpre : ∀ z ∈ ([⟨0, 8, 11, 13⟩] : List ExceptionTableEntry), covers z 3 = false ∨ (z.catchType ≠ 0 ∧ ∃ nm : String, (Cond.classLink RL z.catchType nm).before args s = true ∧ va_Nc "java/lang/IllegalStateException" nm s) := fun z hz => by
        rcases List.mem_singleton.mp hz with rfl
        exact Or.inr ⟨by decide, "java/lang/IllegalArgumentException", hts (.classLink RL 13 "java/lang/IllegalArgumentException") (by decide +kernel), hNc⟩
      refine vx_catch (own := RL) (name := "java/lang/IllegalStateException") hown [⟨0, 8, 11, 13⟩] ⟨0, 8, 14, 15⟩ [] (by rw [htab]; rfl) hpre (by decide) (by decide) (hts (.classLink RL 15 "java/lang/IllegalStateException") (by decide +kernel)) hcs hcell hcv hcl ?_
      refine lv_astore_n (lv' := [(2, .ref q9), (0, .ref x), (1, .ref o)]) hx hb dL_addWord_14 rfl hl (by decide) rfl (fun ls hl => ?_)
      refine lv_iconst (v := nI 2) hx hb dL_addWord_15 (by decide) ?_
      exact hret (nI 2) (OC g o fo :: (FW g x (lN SL) q u k (nI np) mv lm ch (lN F) d v f (nI cnt) (nI ll))) _ _ _ _ _ _ (by decide) (by decide) dL_addWord_16 (Or.inr ⟨_, hxp, Or.inr ⟨rfl, rfl⟩, rfl⟩) hP hD hS
  · skip
    refine lv_i2l (v := r.toInt64) hx hb dL_addWord_6 rfl ?_
    refine va_last (n := 1) (f := fo) hx hb hK hP hD hS 0 1 rfl rfl (vp_in_nI (n := 0) (by decide) (by decide)) dL_addWord_7 (fun H locs hP hD hS => ?_)
    rw [nI_clamp (n := 0) (by decide)] at hP hD
    have hP : va_P g.1 vwCl (OC g o (vp_updL fo 0 r.toInt64) :: w) H := hP
    have hD : va_D A (OC g o (vp_updL fo 0 r.toInt64) :: w) := hD
    refine lv_goto (tgt := 17) hx hb dL_addWord_8 (by decide) ?_
    refine lv_iconst (v := nI 0) hx hb dL_addWord_17 (by decide) ?_
    exact hret (nI 0) (OC g o (vp_updL fo 0 r.toInt64) :: w) _ _ _ _ _ _ (by decide) (by decide) dL_addWord_18 (Or.inl ⟨rfl, r, w, hw, rfl⟩) hP hD hS
abbrev rm_L_removeWord : Room := { frames := 7, cells := 1, slots := 6, locals := 110 }
set_option maxHeartbeats 4000000 in
set_option maxRecDepth 100000 in
theorem c_L_removeWord (l : Launch) (hl0 : l.flags = flags0) (g : GG) (x q u d v : Nat) (SL : Nat) (k : Nat → Int32) (K : Nat → Nat) (np : Nat) (mv lm ch : Int32) (F : Nat) (f : Nat → Int64) (S : Nat → Nat) (cnt ll : Nat) (hSL : RV SL) (hF : RV F) (hk : GK k K) (hp : np ≤ 4) (hf : DR f S cnt) (hc : cnt ≤ 50) (hll : ll ≤ 10) (o : Nat) (fo : Nat → Int64) : Xw l yL_removeWord wsL_removeWord rm_L_removeWord g [.ref x, .ref o] [OC g o fo, (x, .inr (2, [.ref (d), .ref (q), .long (lN (SL))])), (q, .inr (1, [.ref (u), .int (nI (np)), .int (mv), .int (lm), .int (ch), .long (lN (F))])), (u, .inl (g.2.1, 4, .inl (k))), (d, .inr (0, [.ref (v), .int (nI (cnt)), .int (nI (ll))])), (v, .inl (g.2.2.1, 50, .inr (.inl (f))))] (fun rc w => (rc = nI 0 ∧ ∃ (r : Int32) (w1 : va_W), (fun r w => r = nI (cnt - 1) ∧ ∃ (f9 : Nat → Int64) (S9 : Nat → Nat) (t : Nat), w = FW g x (lN SL) q u k (nI np) mv lm ch (lN F) d v f9 (nI (cnt - 1)) (nI ll) ∧ S t = SL ∧ DR f9 S9 (cnt - 1) ∧ RemAt S cnt t S9) r w1 ∧ w = OC g o (vp_updL fo 0 r.toInt64) :: w1) ∨ (∃ E, (fun E => E = "java/lang/IllegalStateException" ∧ ¬ inS S cnt SL) E ∧ ((E = "java/lang/IllegalStateException" ∧ rc = nI 1)) ∧ w = OC g o fo :: (FW g x (lN SL) q u k (nI np) mv lm ch (lN F) d v f (nI cnt) (nI ll)))) := by
  refine Xw.of (cc := cL_removeWord) (maxL := 3) (hh := [(0, 8, 11, 15)]) (by decide) rfl (Nat.le_of_ble_eq_true rfl) ?_
  intro p e s m args below meth c A Z hx hb hml hts hown hK hA hXk hNc htab hret H locs ls hP hD hS hl
  have hl : lv_has ls 3 [(0, .ref x), (1, .ref o)] := hl
  refine lv_aload_n hx hb dL_removeWord_0 rfl (lv_at hl 1 rfl) ?_
  refine lv_iconst (v := nI 0) hx hb dL_removeWord_1 (by decide) ?_
  refine lv_aload_n hx hb dL_removeWord_2 rfl (lv_at hl 0 rfl) ?_
  refine call_iX (As := []) (rest := [.int (nI 0), .ref o]) (wr := [OC g o fo]) ⟨hx, hb, hml, hown, hts⟩ (c_X4_removeWord l hl0 g x q u d v SL k K np mv lm ch F f S cnt ll hSL hF hk hp hf hc hll) (cwV 0 hts gL_removeWord_X4_removeWord rfl rfl rfl (by decide +kernel) ⟨Nat.le_of_ble_eq_true rfl, Nat.le_of_ble_eq_true rfl⟩) hP hK hD hS hA hXk [1, 2, 3, 4, 5] [0] rfl rfl (by decide) (by decide) (by decide) 0 rfl rfl rfl rfl hl.1 rfl (Nat.le_of_ble_eq_true rfl) dL_removeWord_3 ⟨Nat.le_of_ble_eq_true rfl, Nat.le_of_ble_eq_true rfl⟩ (fun E ce q9 H locs hxp hP hD hS hcell hcv hcl => ?_) (fun r w H locs hw hP hD hS => ?_)
  · skip
    have hE := hxp.1
    subst hE
    have hcs : (Cond.castable "java/lang/IllegalStateException" "java/lang/IllegalStateException").before args s = true := xb_move (s := s) (a := #[]) (by decide +kernel) (State.WarmedH.refl s) (hXk.2.2.1 _ (by decide +kernel))
    have hpre : ∀ z ∈ ([] : List ExceptionTableEntry), covers z 3 = false ∨ (z.catchType ≠ 0 ∧ ∃ nm : String, (Cond.classLink RL z.catchType nm).before args s = true ∧ va_Nc "java/lang/IllegalStateException" nm s) := fun z hz => by cases hz
    refine vx_catch (own := RL) (name := "java/lang/IllegalStateException") hown [] ⟨0, 8, 11, 15⟩ [] (by rw [htab]; rfl) hpre (by decide) (by decide) (hts (.classLink RL 15 "java/lang/IllegalStateException") (by decide +kernel)) hcs hcell hcv hcl ?_
    refine lv_astore_n (lv' := [(2, .ref q9), (0, .ref x), (1, .ref o)]) hx hb dL_removeWord_11 rfl hl (by decide) rfl (fun ls hl => ?_)
    refine lv_iconst (v := nI 1) hx hb dL_removeWord_12 (by decide) ?_
    exact hret (nI 1) (OC g o fo :: (FW g x (lN SL) q u k (nI np) mv lm ch (lN F) d v f (nI cnt) (nI ll))) _ _ _ _ _ _ (by decide) (by decide) dL_removeWord_13 (Or.inr ⟨_, hxp, ⟨rfl, rfl⟩, rfl⟩) hP hD hS
  · skip
    refine lv_i2l (v := r.toInt64) hx hb dL_removeWord_6 rfl ?_
    refine va_last (n := 1) (f := fo) hx hb hK hP hD hS 0 1 rfl rfl (vp_in_nI (n := 0) (by decide) (by decide)) dL_removeWord_7 (fun H locs hP hD hS => ?_)
    rw [nI_clamp (n := 0) (by decide)] at hP hD
    have hP : va_P g.1 vwCl (OC g o (vp_updL fo 0 r.toInt64) :: w) H := hP
    have hD : va_D A (OC g o (vp_updL fo 0 r.toInt64) :: w) := hD
    refine lv_goto (tgt := 14) hx hb dL_removeWord_8 (by decide) ?_
    refine lv_iconst (v := nI 0) hx hb dL_removeWord_14 (by decide) ?_
    exact hret (nI 0) (OC g o (vp_updL fo 0 r.toInt64) :: w) _ _ _ _ _ _ (by decide) (by decide) dL_removeWord_15 (Or.inl ⟨rfl, r, w, hw, rfl⟩) hP hD hS
abbrev rm_L_copyWord : Room := { frames := 7, cells := 1, slots := 6, locals := 113 }
set_option maxHeartbeats 4000000 in
set_option maxRecDepth 100000 in
theorem c_L_copyWord (l : Launch) (hl0 : l.flags = flags0) (g : GG) (x q u d v : Nat) (SL : Nat) (k : Nat → Int32) (K : Nat → Nat) (np : Nat) (mv lm ch : Int32) (F : Nat) (f : Nat → Int64) (S : Nat → Nat) (cnt ll : Nat) (hSL : RV SL) (hF : RV F) (hk : GK k K) (hp : np ≤ 4) (hf : DR f S cnt) (hc : cnt ≤ 50) (hll : ll ≤ 10) (h2l : ∀ i, i < cnt → 2 ≤ rwL (S i)) (x0 : Int32) (o : Nat) (fo : Nat → Int64) : Xw l yL_copyWord wsL_copyWord rm_L_copyWord g [.ref x, .int x0, .ref o] [OC g o fo, (x, .inr (2, [.ref (d), .ref (q), .long (lN (SL))])), (q, .inr (1, [.ref (u), .int (nI (np)), .int (mv), .int (lm), .int (ch), .long (lN (F))])), (u, .inl (g.2.1, 4, .inl (k))), (d, .inr (0, [.ref (v), .int (nI (cnt)), .int (nI (ll))])), (v, .inl (g.2.2.1, 50, .inr (.inl (f))))] (fun rc w => (rc = nI 0 ∧ ∃ (r : Int32) (w1 : va_W), (fun r w => ∃ j : Nat, j < cnt ∧ nI j = x0 ∧ r = nI (rwL (S j)) ∧ w = (FW g x (lN (S j)) q u k (nI np) mv lm ch (lN F) d v f (nI cnt) (nI ll))) r w1 ∧ w = OC g o (vp_updL fo 0 r.toInt64) :: w1) ∨ (∃ E, (fun E => E = "java/lang/IndexOutOfBoundsException" ∧ ¬ ∃ j : Nat, j < cnt ∧ nI j = x0) E ∧ ((E = "java/lang/IndexOutOfBoundsException" ∧ rc = nI 1)) ∧ w = OC g o fo :: (FW g x (lN SL) q u k (nI np) mv lm ch (lN F) d v f (nI cnt) (nI ll)))) := by
  refine Xw.of (cc := cL_copyWord) (maxL := 4) (hh := [(0, 9, 12, 20)]) (by decide) rfl (Nat.le_of_ble_eq_true rfl) ?_
  intro p e s m args below meth c A Z hx hb hml hts hown hK hA hXk hNc htab hret H locs ls hP hD hS hl
  have hl : lv_has ls 4 [(0, .ref x), (1, .int x0), (2, .ref o)] := hl
  refine lv_aload_n hx hb dL_copyWord_0 rfl (lv_at hl 2 rfl) ?_
  refine lv_iconst (v := nI 0) hx hb dL_copyWord_1 (by decide) ?_
  refine lv_aload_n hx hb dL_copyWord_2 rfl (lv_at hl 0 rfl) ?_
  refine lv_iload_n hx hb dL_copyWord_3 rfl (lv_at hl 1 rfl) ?_
  refine call_iX (As := [.int x0]) (rest := [.int (nI 0), .ref o]) (wr := [OC g o fo]) ⟨hx, hb, hml, hown, hts⟩ (c_X4_copyWord l hl0 g x q u d v SL k K np mv lm ch F f S cnt ll hSL hF hk hp hf hc hll h2l x0) (cwV 1 hts gL_copyWord_X4_copyWord rfl rfl rfl (by decide +kernel) ⟨Nat.le_of_ble_eq_true rfl, Nat.le_of_ble_eq_true rfl⟩) hP hK hD hS hA hXk [1, 2, 3, 4, 5] [0] rfl rfl (by decide) (by decide) (by decide) 0 rfl rfl rfl rfl hl.1 rfl (Nat.le_of_ble_eq_true rfl) dL_copyWord_4 ⟨Nat.le_of_ble_eq_true rfl, Nat.le_of_ble_eq_true rfl⟩ (fun E ce q9 H locs hxp hP hD hS hcell hcv hcl => ?_) (fun r w H locs hw hP hD hS => ?_)
  · skip
    have hE := hxp.1
    subst hE
    have hcs : (Cond.castable "java/lang/IndexOutOfBoundsException" "java/lang/IndexOutOfBoundsException").before args s = true := xb_move (s := s) (a := #[]) (by decide +kernel) (State.WarmedH.refl s) (hXk.2.2.1 _ (by decide +kernel))
    have hpre : ∀ z ∈ ([] : List ExceptionTableEntry), covers z 4 = false ∨ (z.catchType ≠ 0 ∧ ∃ nm : String, (Cond.classLink RL z.catchType nm).before args s = true ∧ va_Nc "java/lang/IndexOutOfBoundsException" nm s) := fun z hz => by cases hz
    refine vx_catch (own := RL) (name := "java/lang/IndexOutOfBoundsException") hown [] ⟨0, 9, 12, 20⟩ [] (by rw [htab]; rfl) hpre (by decide) (by decide) (hts (.classLink RL 20 "java/lang/IndexOutOfBoundsException") (by decide +kernel)) hcs hcell hcv hcl ?_
    refine lv_astore_n (lv' := [(3, .ref q9), (0, .ref x), (1, .int x0), (2, .ref o)]) hx hb dL_copyWord_12 rfl hl (by decide) rfl (fun ls hl => ?_)
    refine lv_iconst (v := nI 1) hx hb dL_copyWord_13 (by decide) ?_
    exact hret (nI 1) (OC g o fo :: (FW g x (lN SL) q u k (nI np) mv lm ch (lN F) d v f (nI cnt) (nI ll))) _ _ _ _ _ _ (by decide) (by decide) dL_copyWord_14 (Or.inr ⟨_, hxp, ⟨rfl, rfl⟩, rfl⟩) hP hD hS
  · skip
    refine lv_i2l (v := r.toInt64) hx hb dL_copyWord_7 rfl ?_
    refine va_last (n := 1) (f := fo) hx hb hK hP hD hS 0 1 rfl rfl (vp_in_nI (n := 0) (by decide) (by decide)) dL_copyWord_8 (fun H locs hP hD hS => ?_)
    rw [nI_clamp (n := 0) (by decide)] at hP hD
    have hP : va_P g.1 vwCl (OC g o (vp_updL fo 0 r.toInt64) :: w) H := hP
    have hD : va_D A (OC g o (vp_updL fo 0 r.toInt64) :: w) := hD
    refine lv_goto (tgt := 15) hx hb dL_copyWord_9 (by decide) ?_
    refine lv_iconst (v := nI 0) hx hb dL_copyWord_15 (by decide) ?_
    exact hret (nI 0) (OC g o (vp_updL fo 0 r.toInt64) :: w) _ _ _ _ _ _ (by decide) (by decide) dL_copyWord_16 (Or.inl ⟨rfl, r, w, hw, rfl⟩) hP hD hS
abbrev rm_L_setLeastLength : Room := { frames := 7, cells := 1, slots := 6, locals := 111 }
set_option maxHeartbeats 4000000 in
set_option maxRecDepth 100000 in
theorem c_L_setLeastLength (l : Launch) (hl0 : l.flags = flags0) (g : GG) (x q u d v : Nat) (SL : Nat) (k : Nat → Int32) (K : Nat → Nat) (np : Nat) (mv lm ch : Int32) (F : Nat) (f : Nat → Int64) (S : Nat → Nat) (cnt ll : Nat) (hSL : RV SL) (hF : RV F) (hk : GK k K) (hp : np ≤ 4) (hf : DR f S cnt) (hc : cnt ≤ 50) (hll : ll ≤ 10) (x0 : Int32) (o : Nat) (fo : Nat → Int64) : Xw l yL_setLeastLength wsL_setLeastLength rm_L_setLeastLength g [.ref x, .int x0, .ref o] [OC g o fo, (x, .inr (2, [.ref (d), .ref (q), .long (lN (SL))])), (q, .inr (1, [.ref (u), .int (nI (np)), .int (mv), .int (lm), .int (ch), .long (lN (F))])), (u, .inl (g.2.1, 4, .inl (k))), (d, .inr (0, [.ref (v), .int (nI (cnt)), .int (nI (ll))])), (v, .inl (g.2.2.1, 50, .inr (.inl (f))))] (fun rc w => (rc = nI 0 ∧ ∃ (r : Int32) (w1 : va_W), (fun r w => ∃ n0 : Nat, 2 ≤ n0 ∧ n0 ≤ 10 ∧ nI n0 = x0 ∧ r = nI ll ∧ w = (FW g x (lN SL) q u k (nI np) mv lm ch (lN F) d v f (nI cnt) (nI n0))) r w1 ∧ w = OC g o (vp_updL fo 0 r.toInt64) :: w1) ∨ (∃ E, (fun E => E = "java/lang/IllegalArgumentException" ∧ ¬ (∃ n0 : Nat, 2 ≤ n0 ∧ n0 ≤ 10 ∧ nI n0 = x0)) E ∧ ((E = "java/lang/IllegalArgumentException" ∧ rc = nI 1)) ∧ w = OC g o fo :: (FW g x (lN SL) q u k (nI np) mv lm ch (lN F) d v f (nI cnt) (nI ll)))) := by
  refine Xw.of (cc := cL_setLeastLength) (maxL := 4) (hh := [(0, 9, 12, 13)]) (by decide) rfl (Nat.le_of_ble_eq_true rfl) ?_
  intro p e s m args below meth c A Z hx hb hml hts hown hK hA hXk hNc htab hret H locs ls hP hD hS hl
  have hl : lv_has ls 4 [(0, .ref x), (1, .int x0), (2, .ref o)] := hl
  refine lv_aload_n hx hb dL_setLeastLength_0 rfl (lv_at hl 2 rfl) ?_
  refine lv_iconst (v := nI 0) hx hb dL_setLeastLength_1 (by decide) ?_
  refine lv_aload_n hx hb dL_setLeastLength_2 rfl (lv_at hl 0 rfl) ?_
  refine lv_iload_n hx hb dL_setLeastLength_3 rfl (lv_at hl 1 rfl) ?_
  refine call_iX (As := [.int x0]) (rest := [.int (nI 0), .ref o]) (wr := [OC g o fo]) ⟨hx, hb, hml, hown, hts⟩ (c_X4_setLeastLength l hl0 g x q u d v SL k K np mv lm ch F f S cnt ll hSL hF hk hp hf hc hll x0) (cwV 1 hts gL_setLeastLength_X4_setLeastLength rfl rfl rfl (by decide +kernel) ⟨Nat.le_of_ble_eq_true rfl, Nat.le_of_ble_eq_true rfl⟩) hP hK hD hS hA hXk [1, 2, 3, 4, 5] [0] rfl rfl (by decide) (by decide) (by decide) 0 rfl rfl rfl rfl hl.1 rfl (Nat.le_of_ble_eq_true rfl) dL_setLeastLength_4 ⟨Nat.le_of_ble_eq_true rfl, Nat.le_of_ble_eq_true rfl⟩ (fun E ce q9 H locs hxp hP hD hS hcell hcv hcl => ?_) (fun r w H locs hw hP hD hS => ?_)
  · skip
    have hE := hxp.1
    subst hE
    have hcs : (Cond.castable "java/lang/IllegalArgumentException" "java/lang/IllegalArgumentException").before args s = true := xb_move (s := s) (a := #[]) (by decide +kernel) (State.WarmedH.refl s) (hXk.2.2.1 _ (by decide +kernel))
    have hpre : ∀ z ∈ ([] : List ExceptionTableEntry), covers z 4 = false ∨ (z.catchType ≠ 0 ∧ ∃ nm : String, (Cond.classLink RL z.catchType nm).before args s = true ∧ va_Nc "java/lang/IllegalArgumentException" nm s) := fun z hz => by cases hz
    refine vx_catch (own := RL) (name := "java/lang/IllegalArgumentException") hown [] ⟨0, 9, 12, 13⟩ [] (by rw [htab]; rfl) hpre (by decide) (by decide) (hts (.classLink RL 13 "java/lang/IllegalArgumentException") (by decide +kernel)) hcs hcell hcv hcl ?_
    refine lv_astore_n (lv' := [(3, .ref q9), (0, .ref x), (1, .int x0), (2, .ref o)]) hx hb dL_setLeastLength_12 rfl hl (by decide) rfl (fun ls hl => ?_)
    refine lv_iconst (v := nI 1) hx hb dL_setLeastLength_13 (by decide) ?_
    exact hret (nI 1) (OC g o fo :: (FW g x (lN SL) q u k (nI np) mv lm ch (lN F) d v f (nI cnt) (nI ll))) _ _ _ _ _ _ (by decide) (by decide) dL_setLeastLength_14 (Or.inr ⟨_, hxp, ⟨rfl, rfl⟩, rfl⟩) hP hD hS
  · skip
    refine lv_i2l (v := r.toInt64) hx hb dL_setLeastLength_7 rfl ?_
    refine va_last (n := 1) (f := fo) hx hb hK hP hD hS 0 1 rfl rfl (vp_in_nI (n := 0) (by decide) (by decide)) dL_setLeastLength_8 (fun H locs hP hD hS => ?_)
    rw [nI_clamp (n := 0) (by decide)] at hP hD
    have hP : va_P g.1 vwCl (OC g o (vp_updL fo 0 r.toInt64) :: w) H := hP
    have hD : va_D A (OC g o (vp_updL fo 0 r.toInt64) :: w) := hD
    refine lv_goto (tgt := 15) hx hb dL_setLeastLength_9 (by decide) ?_
    refine lv_iconst (v := nI 0) hx hb dL_setLeastLength_15 (by decide) ?_
    exact hret (nI 0) (OC g o (vp_updL fo 0 r.toInt64) :: w) _ _ _ _ _ _ (by decide) (by decide) dL_setLeastLength_16 (Or.inl ⟨rfl, r, w, hw, rfl⟩) hP hD hS
abbrev rm_L_start : Room := { frames := 7, cells := 1, slots := 6, locals := 111 }
set_option maxHeartbeats 4000000 in
set_option maxRecDepth 100000 in
theorem c_L_start (l : Launch) (hl0 : l.flags = flags0) (g : GG) (x q u d v : Nat) (SL : Nat) (k : Nat → Int32) (K : Nat → Nat) (np : Nat) (mv lm ch : Int32) (F : Nat) (f : Nat → Int64) (S : Nat → Nat) (cnt ll : Nat) (hSL : RV SL) (hF : RV F) (hk : GK k K) (hp : np ≤ 4) (hf : DR f S cnt) (hc : cnt ≤ 50) (hll : ll ≤ 10) (x0 : Int32) : Xw l yL_start wsL_start rm_L_start g [.ref x, .int x0] (FW g x (lN SL) q u k (nI np) mv lm ch (lN F) d v f (nI cnt) (nI ll)) (fun rc w => (rc = nI 0 ∧ (fun w => ∃ (n0 : Nat) (k9 : Nat → Int32), 2 ≤ n0 ∧ n0 ≤ 4 ∧ nI n0 = x0 ∧ GK k9 (fun _ => 0) ∧ w = (FW g x (lN SL) q u k9 (nI n0) (nI 0) (-1) (-1) (lN 0) d v f (nI cnt) (nI ll))) w) ∨ (∃ E, (fun E => E = "java/lang/IllegalArgumentException" ∧ ¬ (∃ n0 : Nat, 2 ≤ n0 ∧ n0 ≤ 4 ∧ nI n0 = x0)) E ∧ ((E = "java/lang/IllegalArgumentException" ∧ rc = nI 1)) ∧ w = (FW g x (lN SL) q u k (nI np) mv lm ch (lN F) d v f (nI cnt) (nI ll)))) := by
  refine Xw.of (cc := cL_start) (maxL := 3) (hh := [(0, 5, 8, 13)]) (by decide) rfl (Nat.le_of_ble_eq_true rfl) ?_
  intro p e s m args below meth c A Z hx hb hml hts hown hK hA hXk hNc htab hret H locs ls hP hD hS hl
  have hl : lv_has ls 3 [(0, .ref x), (1, .int x0)] := hl
  refine lv_aload_n hx hb dL_start_0 rfl (lv_at hl 0 rfl) ?_
  refine lv_iload_n hx hb dL_start_1 rfl (lv_at hl 1 rfl) ?_
  refine call_vX (As := [.int x0]) (rest := []) (wr := []) ⟨hx, hb, hml, hown, hts⟩ (c_X4_start l hl0 g x q u d v SL k K np mv lm ch F f S cnt ll hSL hF hk hp hf hc hll x0) (cwV 1 hts gL_start_X4_start rfl rfl rfl (by decide +kernel) ⟨Nat.le_of_ble_eq_true rfl, Nat.le_of_ble_eq_true rfl⟩) hP hK hD hS hA hXk [0, 1, 2, 3, 4] [] rfl rfl (by decide) (by decide) (by decide) 0 rfl rfl rfl rfl hl.1 rfl (Nat.le_of_ble_eq_true rfl) dL_start_2 ⟨Nat.le_of_ble_eq_true rfl, Nat.le_of_ble_eq_true rfl⟩ (fun E ce q9 H locs hxp hP hD hS hcell hcv hcl => ?_) (fun w H locs hw hP hD hS => ?_)
  · skip
    have hE := hxp.1
    subst hE
    have hcs : (Cond.castable "java/lang/IllegalArgumentException" "java/lang/IllegalArgumentException").before args s = true := xb_move (s := s) (a := #[]) (by decide +kernel) (State.WarmedH.refl s) (hXk.2.2.1 _ (by decide +kernel))
    have hpre : ∀ z ∈ ([] : List ExceptionTableEntry), covers z 2 = false ∨ (z.catchType ≠ 0 ∧ ∃ nm : String, (Cond.classLink RL z.catchType nm).before args s = true ∧ va_Nc "java/lang/IllegalArgumentException" nm s) := fun z hz => by cases hz
    refine vx_catch (own := RL) (name := "java/lang/IllegalArgumentException") hown [] ⟨0, 5, 8, 13⟩ [] (by rw [htab]; rfl) hpre (by decide) (by decide) (hts (.classLink RL 13 "java/lang/IllegalArgumentException") (by decide +kernel)) hcs hcell hcv hcl ?_
    refine lv_astore_n (lv' := [(2, .ref q9), (0, .ref x), (1, .int x0)]) hx hb dL_start_8 rfl hl (by decide) rfl (fun ls hl => ?_)
    refine lv_iconst (v := nI 1) hx hb dL_start_9 (by decide) ?_
    exact hret (nI 1) (FW g x (lN SL) q u k (nI np) mv lm ch (lN F) d v f (nI cnt) (nI ll)) _ _ _ _ _ _ (by decide) (by decide) dL_start_10 (Or.inr ⟨_, hxp, ⟨rfl, rfl⟩, rfl⟩) hP hD hS
  · skip
    refine lv_goto (tgt := 11) hx hb dL_start_5 (by decide) ?_
    refine lv_iconst (v := nI 0) hx hb dL_start_11 (by decide) ?_
    exact hret (nI 0) w _ _ _ _ _ _ (by decide) (by decide) dL_start_12 (Or.inl ⟨rfl, hw⟩) hP hD hS
abbrev rm_L_play : Room := { frames := 7, cells := 1, slots := 6, locals := 150 }
set_option maxHeartbeats 4000000 in
set_option maxRecDepth 100000 in
theorem c_L_play (l : Launch) (hl0 : l.flags = flags0) (g : GG) (x q u d v : Nat) (SL : Nat) (k : Nat → Int32) (K : Nat → Nat) (np : Nat) (mv lm ch : Int32) (F : Nat) (f : Nat → Int64) (S : Nat → Nat) (cnt ll : Nat) (hSL : RV SL) (hF : RV F) (hk : GK k K) (hp : np ≤ 4) (hf : DR f S cnt) (hc : cnt ≤ 50) (hll : ll ≤ 10) (hmv : mv = -1 ∨ ∃ j, mv = nI j ∧ j < np ∧ K j < 5) (x0 : Int32) (o : Nat) (fo : Nat → Int64) : Xw l yL_play wsL_play rm_L_play g [.ref x, .int x0, .ref o] [OC g o fo, (x, .inr (2, [.ref (d), .ref (q), .long (lN (SL))])), (q, .inr (1, [.ref (u), .int (nI (np)), .int (mv), .int (lm), .int (ch), .long (lN (F))])), (u, .inl (g.2.1, 4, .inl (k))), (d, .inr (0, [.ref (v), .int (nI (cnt)), .int (nI (ll))])), (v, .inl (g.2.2.1, 50, .inr (.inl (f))))] (fun rc w => (rc = nI 0 ∧ ∃ (r : Int32) (w1 : va_W), (fun r w => ∃ a j : Nat, a < 26 ∧ nI a = x0 ∧ mv = nI j ∧ j < np ∧ K j < 5 ∧ rwL F < 10 ∧ (((ll ≤ rwL (rwX F a) ∧ inS S cnt (rwX F a)) ∧ r = nI j ∧ w = (FW g x (lN SL) q u (upd k j (nI (K j + 1))) (nI np) (erM K np j) lm (erC K np j ch) (lN 0) d v f (nI cnt) (nI ll))) ∨ (¬ (ll ≤ rwL (rwX F a) ∧ inS S cnt (rwX F a)) ∧ r = -1 ∧ w = (FW g x (lN SL) q u k (nI np) (oI (nxF K np np j)) (nI j) ch (lN (rwX F a)) d v f (nI cnt) (nI ll))))) r w1 ∧ w = OC g o (vp_updL fo 0 r.toInt64) :: w1) ∨ (∃ E, (fun E => (E = "java/lang/IllegalArgumentException" ∧ ¬ (∃ a : Nat, a < 26 ∧ nI a = x0)) ∨ (E = "java/lang/IllegalStateException" ∧ (∃ a : Nat, a < 26 ∧ nI a = x0) ∧ (mv = -1 ∨ 10 ≤ rwL F))) E ∧ ((E = "java/lang/IllegalArgumentException" ∧ rc = nI 1) ∨ (E = "java/lang/IllegalStateException" ∧ rc = nI 2)) ∧ w = OC g o fo :: (FW g x (lN SL) q u k (nI np) mv lm ch (lN F) d v f (nI cnt) (nI ll)))) := by
  refine Xw.of (cc := cL_play) (maxL := 4) (hh := [(0, 9, 12, 13), (0, 9, 15, 15)]) (by decide) rfl (Nat.le_of_ble_eq_true rfl) ?_
  intro p e s m args below meth c A Z hx hb hml hts hown hK hA hXk hNc htab hret H locs ls hP hD hS hl
  have hl : lv_has ls 4 [(0, .ref x), (1, .int x0), (2, .ref o)] := hl
  refine lv_aload_n hx hb dL_play_0 rfl (lv_at hl 2 rfl) ?_
  refine lv_iconst (v := nI 0) hx hb dL_play_1 (by decide) ?_
  refine lv_aload_n hx hb dL_play_2 rfl (lv_at hl 0 rfl) ?_
  refine lv_iload_n hx hb dL_play_3 rfl (lv_at hl 1 rfl) ?_
  refine call_iX (As := [.int x0]) (rest := [.int (nI 0), .ref o]) (wr := [OC g o fo]) ⟨hx, hb, hml, hown, hts⟩ (c_X4_play l hl0 g x q u d v SL k K np mv lm ch F f S cnt ll hSL hF hk hp hf hc hll hmv x0) (cwV 1 hts gL_play_X4_play rfl rfl rfl (by decide +kernel) ⟨Nat.le_of_ble_eq_true rfl, Nat.le_of_ble_eq_true rfl⟩) hP hK hD hS hA hXk [1, 2, 3, 4, 5] [0] rfl rfl (by decide) (by decide) (by decide) 0 rfl rfl rfl rfl hl.1 rfl (Nat.le_of_ble_eq_true rfl) dL_play_4 ⟨Nat.le_of_ble_eq_true rfl, Nat.le_of_ble_eq_true rfl⟩ (fun E ce q9 H locs hxp hP hD hS hcell hcv hcl => ?_) (fun r w H locs hw hP hD hS => ?_)
  · skip
    have hE : E = "java/lang/IllegalArgumentException" ∨ E = "java/lang/IllegalStateException" := by
      rcases hxp with h | h
      · exact Or.inl h.1
      · exact Or.inr h.1
    rcases hE with rfl | rfl
    · skip
      have hcs : (Cond.castable "java/lang/IllegalArgumentException" "java/lang/IllegalArgumentException").before args s = true := xb_move (s := s) (a := #[]) (by decide +kernel) (State.WarmedH.refl s) (hXk.2.2.1 _ (by decide +kernel))
      have hpre : ∀ z ∈ ([] : List ExceptionTableEntry), covers z 4 = false ∨ (z.catchType ≠ 0 ∧ ∃ nm : String, (Cond.classLink RL z.catchType nm).before args s = true ∧ va_Nc "java/lang/IllegalArgumentException" nm s) := fun z hz => by cases hz
      refine vx_catch (own := RL) (name := "java/lang/IllegalArgumentException") hown [] ⟨0, 9, 12, 13⟩ [⟨0, 9, 15, 15⟩] (by rw [htab]; rfl) hpre (by decide) (by decide) (hts (.classLink RL 13 "java/lang/IllegalArgumentException") (by decide +kernel)) hcs hcell hcv hcl ?_
      refine lv_astore_n (lv' := [(3, .ref q9), (0, .ref x), (1, .int x0), (2, .ref o)]) hx hb dL_play_12 rfl hl (by decide) rfl (fun ls hl => ?_)
      refine lv_iconst (v := nI 1) hx hb dL_play_13 (by decide) ?_
      exact hret (nI 1) (OC g o fo :: (FW g x (lN SL) q u k (nI np) mv lm ch (lN F) d v f (nI cnt) (nI ll))) _ _ _ _ _ _ (by decide) (by decide) dL_play_14 (Or.inr ⟨_, hxp, Or.inl ⟨rfl, rfl⟩, rfl⟩) hP hD hS
    · skip
      have hcs : (Cond.castable "java/lang/IllegalStateException" "java/lang/IllegalStateException").before args s = true := xb_move (s := s) (a := #[]) (by decide +kernel) (State.WarmedH.refl s) (hXk.2.2.1 _ (by decide +kernel))
      have hpre : ∀ z ∈ ([⟨0, 9, 12, 13⟩] : List ExceptionTableEntry), covers z 4 = false ∨ (z.catchType ≠ 0 ∧ ∃ nm : String, (Cond.classLink RL z.catchType nm).before args s = true ∧ va_Nc "java/lang/IllegalStateException" nm s) := fun z hz => by
        rcases List.mem_singleton.mp hz with rfl
        exact Or.inr ⟨by decide, "java/lang/IllegalArgumentException", hts (.classLink RL 13 "java/lang/IllegalArgumentException") (by decide +kernel), hNc⟩
      refine vx_catch (own := RL) (name := "java/lang/IllegalStateException") hown [⟨0, 9, 12, 13⟩] ⟨0, 9, 15, 15⟩ [] (by rw [htab]; rfl) hpre (by decide) (by decide) (hts (.classLink RL 15 "java/lang/IllegalStateException") (by decide +kernel)) hcs hcell hcv hcl ?_
      refine lv_astore_n (lv' := [(3, .ref q9), (0, .ref x), (1, .int x0), (2, .ref o)]) hx hb dL_play_15 rfl hl (by decide) rfl (fun ls hl => ?_)
      refine lv_iconst (v := nI 2) hx hb dL_play_16 (by decide) ?_
      exact hret (nI 2) (OC g o fo :: (FW g x (lN SL) q u k (nI np) mv lm ch (lN F) d v f (nI cnt) (nI ll))) _ _ _ _ _ _ (by decide) (by decide) dL_play_17 (Or.inr ⟨_, hxp, Or.inr ⟨rfl, rfl⟩, rfl⟩) hP hD hS
  · skip
    refine lv_i2l (v := r.toInt64) hx hb dL_play_7 rfl ?_
    refine va_last (n := 1) (f := fo) hx hb hK hP hD hS 0 1 rfl rfl (vp_in_nI (n := 0) (by decide) (by decide)) dL_play_8 (fun H locs hP hD hS => ?_)
    rw [nI_clamp (n := 0) (by decide)] at hP hD
    have hP : va_P g.1 vwCl (OC g o (vp_updL fo 0 r.toInt64) :: w) H := hP
    have hD : va_D A (OC g o (vp_updL fo 0 r.toInt64) :: w) := hD
    refine lv_goto (tgt := 18) hx hb dL_play_9 (by decide) ?_
    refine lv_iconst (v := nI 0) hx hb dL_play_18 (by decide) ?_
    exact hret (nI 0) (OC g o (vp_updL fo 0 r.toInt64) :: w) _ _ _ _ _ _ (by decide) (by decide) dL_play_19 (Or.inl ⟨rfl, r, w, hw, rfl⟩) hP hD hS
abbrev rm_L_challenge : Room := { frames := 7, cells := 1, slots := 6, locals := 148 }
set_option maxHeartbeats 4000000 in
set_option maxRecDepth 100000 in
theorem c_L_challenge (l : Launch) (hl0 : l.flags = flags0) (g : GG) (x q u d v : Nat) (SL : Nat) (k : Nat → Int32) (K : Nat → Nat) (np : Nat) (mv lm ch : Int32) (F : Nat) (f : Nat → Int64) (S : Nat → Nat) (cnt ll : Nat) (hSL : RV SL) (hF : RV F) (hk : GK k K) (hp : np ≤ 4) (hf : DR f S cnt) (hc : cnt ≤ 50) (hll : ll ≤ 10) (hmv : mv = -1 ∨ ∃ j, mv = nI j ∧ j < np ∧ K j < 5) (hlm : 0 < rwL F → ∃ j, lm = nI j ∧ j < np ∧ K j < 5) (o : Nat) (fo : Nat → Int64) : Xw l yL_challenge wsL_challenge rm_L_challenge g [.ref x, .ref o] [OC g o fo, (x, .inr (2, [.ref (d), .ref (q), .long (lN (SL))])), (q, .inr (1, [.ref (u), .int (nI (np)), .int (mv), .int (lm), .int (ch), .long (lN (F))])), (u, .inl (g.2.1, 4, .inl (k))), (d, .inr (0, [.ref (v), .int (nI (cnt)), .int (nI (ll))])), (v, .inl (g.2.2.1, 50, .inr (.inl (f))))] (fun rc w => (rc = nI 0 ∧ ∃ (r : Int32) (w1 : va_W), (fun r w => ∃ j j2 : Nat, mv = nI j ∧ lm = nI j2 ∧ j < np ∧ K j < 5 ∧ j2 < np ∧ K j2 < 5 ∧ 0 < rwL F ∧ (((∃ i, i < cnt ∧ ll ≤ rwL (S i) ∧ bgP (S i) F) ∧ r = nI j ∧ w = (FW g x (lN SL) q u (upd k j (nI (K j + 1))) (nI np) (erM K np j) (nI j2) (erC K np j ch) (lN 0) d v f (nI cnt) (nI ll))) ∨ (¬ (∃ i, i < cnt ∧ ll ≤ rwL (S i) ∧ bgP (S i) F) ∧ r = nI j2 ∧ w = (FW g x (lN SL) q u (upd k j2 (nI (K j2 + 1))) (nI np) (erM K np j2) (nI j2) (erC K np j2 ch) (lN 0) d v f (nI cnt) (nI ll))))) r w1 ∧ w = OC g o (vp_updL fo 0 r.toInt64) :: w1) ∨ (∃ E, (fun E => E = "java/lang/IllegalStateException" ∧ (mv = -1 ∨ rwL F = 0)) E ∧ ((E = "java/lang/IllegalStateException" ∧ rc = nI 1)) ∧ w = OC g o fo :: (FW g x (lN SL) q u k (nI np) mv lm ch (lN F) d v f (nI cnt) (nI ll)))) := by
  refine Xw.of (cc := cL_challenge) (maxL := 3) (hh := [(0, 8, 11, 15)]) (by decide) rfl (Nat.le_of_ble_eq_true rfl) ?_
  intro p e s m args below meth c A Z hx hb hml hts hown hK hA hXk hNc htab hret H locs ls hP hD hS hl
  have hl : lv_has ls 3 [(0, .ref x), (1, .ref o)] := hl
  refine lv_aload_n hx hb dL_challenge_0 rfl (lv_at hl 1 rfl) ?_
  refine lv_iconst (v := nI 0) hx hb dL_challenge_1 (by decide) ?_
  refine lv_aload_n hx hb dL_challenge_2 rfl (lv_at hl 0 rfl) ?_
  refine call_iX (As := []) (rest := [.int (nI 0), .ref o]) (wr := [OC g o fo]) ⟨hx, hb, hml, hown, hts⟩ (c_X4_challenge l hl0 g x q u d v SL k K np mv lm ch F f S cnt ll hSL hF hk hp hf hc hll hmv hlm) (cwV 0 hts gL_challenge_X4_challenge rfl rfl rfl (by decide +kernel) ⟨Nat.le_of_ble_eq_true rfl, Nat.le_of_ble_eq_true rfl⟩) hP hK hD hS hA hXk [1, 2, 3, 4, 5] [0] rfl rfl (by decide) (by decide) (by decide) 0 rfl rfl rfl rfl hl.1 rfl (Nat.le_of_ble_eq_true rfl) dL_challenge_3 ⟨Nat.le_of_ble_eq_true rfl, Nat.le_of_ble_eq_true rfl⟩ (fun E ce q9 H locs hxp hP hD hS hcell hcv hcl => ?_) (fun r w H locs hw hP hD hS => ?_)
  · skip
    have hE := hxp.1
    subst hE
    have hcs : (Cond.castable "java/lang/IllegalStateException" "java/lang/IllegalStateException").before args s = true := xb_move (s := s) (a := #[]) (by decide +kernel) (State.WarmedH.refl s) (hXk.2.2.1 _ (by decide +kernel))
    have hpre : ∀ z ∈ ([] : List ExceptionTableEntry), covers z 3 = false ∨ (z.catchType ≠ 0 ∧ ∃ nm : String, (Cond.classLink RL z.catchType nm).before args s = true ∧ va_Nc "java/lang/IllegalStateException" nm s) := fun z hz => by cases hz
    refine vx_catch (own := RL) (name := "java/lang/IllegalStateException") hown [] ⟨0, 8, 11, 15⟩ [] (by rw [htab]; rfl) hpre (by decide) (by decide) (hts (.classLink RL 15 "java/lang/IllegalStateException") (by decide +kernel)) hcs hcell hcv hcl ?_
    refine lv_astore_n (lv' := [(2, .ref q9), (0, .ref x), (1, .ref o)]) hx hb dL_challenge_11 rfl hl (by decide) rfl (fun ls hl => ?_)
    refine lv_iconst (v := nI 1) hx hb dL_challenge_12 (by decide) ?_
    exact hret (nI 1) (OC g o fo :: (FW g x (lN SL) q u k (nI np) mv lm ch (lN F) d v f (nI cnt) (nI ll))) _ _ _ _ _ _ (by decide) (by decide) dL_challenge_13 (Or.inr ⟨_, hxp, ⟨rfl, rfl⟩, rfl⟩) hP hD hS
  · skip
    refine lv_i2l (v := r.toInt64) hx hb dL_challenge_6 rfl ?_
    refine va_last (n := 1) (f := fo) hx hb hK hP hD hS 0 1 rfl rfl (vp_in_nI (n := 0) (by decide) (by decide)) dL_challenge_7 (fun H locs hP hD hS => ?_)
    rw [nI_clamp (n := 0) (by decide)] at hP hD
    have hP : va_P g.1 vwCl (OC g o (vp_updL fo 0 r.toInt64) :: w) H := hP
    have hD : va_D A (OC g o (vp_updL fo 0 r.toInt64) :: w) := hD
    refine lv_goto (tgt := 14) hx hb dL_challenge_8 (by decide) ?_
    refine lv_iconst (v := nI 0) hx hb dL_challenge_14 (by decide) ?_
    exact hret (nI 0) (OC g o (vp_updL fo 0 r.toInt64) :: w) _ _ _ _ _ _ (by decide) (by decide) dL_challenge_15 (Or.inl ⟨rfl, r, w, hw, rfl⟩) hP hD hS
abbrev rm_L_strikes : Room := { frames := 7, cells := 1, slots := 6, locals := 112 }
set_option maxHeartbeats 4000000 in
set_option maxRecDepth 100000 in
theorem c_L_strikes (l : Launch) (hl0 : l.flags = flags0) (g : GG) (x q u d v : Nat) (SL : Nat) (k : Nat → Int32) (K : Nat → Nat) (np : Nat) (mv lm ch : Int32) (F : Nat) (f : Nat → Int64) (S : Nat → Nat) (cnt ll : Nat) (hSL : RV SL) (hF : RV F) (hk : GK k K) (hp : np ≤ 4) (hf : DR f S cnt) (hc : cnt ≤ 50) (hll : ll ≤ 10) (x0 : Int32) (o : Nat) (fo : Nat → Int64) : Xw l yL_strikes wsL_strikes rm_L_strikes g [.ref x, .int x0, .ref o] [OC g o fo, (x, .inr (2, [.ref (d), .ref (q), .long (lN (SL))])), (q, .inr (1, [.ref (u), .int (nI (np)), .int (mv), .int (lm), .int (ch), .long (lN (F))])), (u, .inl (g.2.1, 4, .inl (k))), (d, .inr (0, [.ref (v), .int (nI (cnt)), .int (nI (ll))])), (v, .inl (g.2.2.1, 50, .inr (.inl (f))))] (fun rc w => (rc = nI 0 ∧ ∃ (r : Int32) (w1 : va_W), (fun r w => w = (FW g x (lN SL) q u k (nI np) mv lm ch (lN F) d v f (nI cnt) (nI ll)) ∧ ∃ j : Nat, j < np ∧ nI j = x0 ∧ r = nI (K j)) r w1 ∧ w = OC g o (vp_updL fo 0 r.toInt64) :: w1) ∨ (∃ E, (fun E => E = "java/lang/IndexOutOfBoundsException" ∧ ¬ ∃ j : Nat, j < np ∧ nI j = x0) E ∧ ((E = "java/lang/IndexOutOfBoundsException" ∧ rc = nI 1)) ∧ w = OC g o fo :: (FW g x (lN SL) q u k (nI np) mv lm ch (lN F) d v f (nI cnt) (nI ll)))) := by
  refine Xw.of (cc := cL_strikes) (maxL := 4) (hh := [(0, 9, 12, 20)]) (by decide) rfl (Nat.le_of_ble_eq_true rfl) ?_
  intro p e s m args below meth c A Z hx hb hml hts hown hK hA hXk hNc htab hret H locs ls hP hD hS hl
  have hl : lv_has ls 4 [(0, .ref x), (1, .int x0), (2, .ref o)] := hl
  refine lv_aload_n hx hb dL_strikes_0 rfl (lv_at hl 2 rfl) ?_
  refine lv_iconst (v := nI 0) hx hb dL_strikes_1 (by decide) ?_
  refine lv_aload_n hx hb dL_strikes_2 rfl (lv_at hl 0 rfl) ?_
  refine lv_iload_n hx hb dL_strikes_3 rfl (lv_at hl 1 rfl) ?_
  refine call_iX (As := [.int x0]) (rest := [.int (nI 0), .ref o]) (wr := [OC g o fo]) ⟨hx, hb, hml, hown, hts⟩ (c_X4_strikes l hl0 g x q u d v SL k K np mv lm ch F f S cnt ll hSL hF hk hp hf hc hll x0) (cwV 1 hts gL_strikes_X4_strikes rfl rfl rfl (by decide +kernel) ⟨Nat.le_of_ble_eq_true rfl, Nat.le_of_ble_eq_true rfl⟩) hP hK hD hS hA hXk [1, 2, 3, 4, 5] [0] rfl rfl (by decide) (by decide) (by decide) 0 rfl rfl rfl rfl hl.1 rfl (Nat.le_of_ble_eq_true rfl) dL_strikes_4 ⟨Nat.le_of_ble_eq_true rfl, Nat.le_of_ble_eq_true rfl⟩ (fun E ce q9 H locs hxp hP hD hS hcell hcv hcl => ?_) (fun r w H locs hw hP hD hS => ?_)
  · skip
    have hE := hxp.1
    subst hE
    have hcs : (Cond.castable "java/lang/IndexOutOfBoundsException" "java/lang/IndexOutOfBoundsException").before args s = true := xb_move (s := s) (a := #[]) (by decide +kernel) (State.WarmedH.refl s) (hXk.2.2.1 _ (by decide +kernel))
    have hpre : ∀ z ∈ ([] : List ExceptionTableEntry), covers z 4 = false ∨ (z.catchType ≠ 0 ∧ ∃ nm : String, (Cond.classLink RL z.catchType nm).before args s = true ∧ va_Nc "java/lang/IndexOutOfBoundsException" nm s) := fun z hz => by cases hz
    refine vx_catch (own := RL) (name := "java/lang/IndexOutOfBoundsException") hown [] ⟨0, 9, 12, 20⟩ [] (by rw [htab]; rfl) hpre (by decide) (by decide) (hts (.classLink RL 20 "java/lang/IndexOutOfBoundsException") (by decide +kernel)) hcs hcell hcv hcl ?_
    refine lv_astore_n (lv' := [(3, .ref q9), (0, .ref x), (1, .int x0), (2, .ref o)]) hx hb dL_strikes_12 rfl hl (by decide) rfl (fun ls hl => ?_)
    refine lv_iconst (v := nI 1) hx hb dL_strikes_13 (by decide) ?_
    exact hret (nI 1) (OC g o fo :: (FW g x (lN SL) q u k (nI np) mv lm ch (lN F) d v f (nI cnt) (nI ll))) _ _ _ _ _ _ (by decide) (by decide) dL_strikes_14 (Or.inr ⟨_, hxp, ⟨rfl, rfl⟩, rfl⟩) hP hD hS
  · skip
    refine lv_i2l (v := r.toInt64) hx hb dL_strikes_7 rfl ?_
    refine va_last (n := 1) (f := fo) hx hb hK hP hD hS 0 1 rfl rfl (vp_in_nI (n := 0) (by decide) (by decide)) dL_strikes_8 (fun H locs hP hD hS => ?_)
    rw [nI_clamp (n := 0) (by decide)] at hP hD
    have hP : va_P g.1 vwCl (OC g o (vp_updL fo 0 r.toInt64) :: w) H := hP
    have hD : va_D A (OC g o (vp_updL fo 0 r.toInt64) :: w) := hD
    refine lv_goto (tgt := 15) hx hb dL_strikes_9 (by decide) ?_
    refine lv_iconst (v := nI 0) hx hb dL_strikes_15 (by decide) ?_
    exact hret (nI 0) (OC g o (vp_updL fo 0 r.toInt64) :: w) _ _ _ _ _ _ (by decide) (by decide) dL_strikes_16 (Or.inl ⟨rfl, r, w, hw, rfl⟩) hP hD hS
abbrev rm_L_fragmentAt : Room := { frames := 7, cells := 1, slots := 6, locals := 112 }
set_option maxHeartbeats 4000000 in
set_option maxRecDepth 100000 in
theorem c_L_fragmentAt (l : Launch) (hl0 : l.flags = flags0) (g : GG) (x q u d v : Nat) (SL : Nat) (k : Nat → Int32) (K : Nat → Nat) (np : Nat) (mv lm ch : Int32) (F : Nat) (f : Nat → Int64) (S : Nat → Nat) (cnt ll : Nat) (hSL : RV SL) (hF : RV F) (hk : GK k K) (hp : np ≤ 4) (hf : DR f S cnt) (hc : cnt ≤ 50) (hll : ll ≤ 10) (x0 : Int32) (o : Nat) (fo : Nat → Int64) : Xw l yL_fragmentAt wsL_fragmentAt rm_L_fragmentAt g [.ref x, .int x0, .ref o] [OC g o fo, (x, .inr (2, [.ref (d), .ref (q), .long (lN (SL))])), (q, .inr (1, [.ref (u), .int (nI (np)), .int (mv), .int (lm), .int (ch), .long (lN (F))])), (u, .inl (g.2.1, 4, .inl (k))), (d, .inr (0, [.ref (v), .int (nI (cnt)), .int (nI (ll))])), (v, .inl (g.2.2.1, 50, .inr (.inl (f))))] (fun rc w => (rc = nI 0 ∧ ∃ (r : Int32) (w1 : va_W), (fun r w => w = (FW g x (lN SL) q u k (nI np) mv lm ch (lN F) d v f (nI cnt) (nI ll)) ∧ ∃ j : Nat, j < rwL F ∧ nI j = x0 ∧ r = nI (rwA F j)) r w1 ∧ w = OC g o (vp_updL fo 0 r.toInt64) :: w1) ∨ (∃ E, (fun E => E = "java/lang/IndexOutOfBoundsException" ∧ ¬ ∃ j : Nat, j < rwL F ∧ nI j = x0) E ∧ ((E = "java/lang/IndexOutOfBoundsException" ∧ rc = nI 1)) ∧ w = OC g o fo :: (FW g x (lN SL) q u k (nI np) mv lm ch (lN F) d v f (nI cnt) (nI ll)))) := by
  refine Xw.of (cc := cL_fragmentAt) (maxL := 4) (hh := [(0, 9, 12, 20)]) (by decide) rfl (Nat.le_of_ble_eq_true rfl) ?_
  intro p e s m args below meth c A Z hx hb hml hts hown hK hA hXk hNc htab hret H locs ls hP hD hS hl
  have hl : lv_has ls 4 [(0, .ref x), (1, .int x0), (2, .ref o)] := hl
  refine lv_aload_n hx hb dL_fragmentAt_0 rfl (lv_at hl 2 rfl) ?_
  refine lv_iconst (v := nI 0) hx hb dL_fragmentAt_1 (by decide) ?_
  refine lv_aload_n hx hb dL_fragmentAt_2 rfl (lv_at hl 0 rfl) ?_
  refine lv_iload_n hx hb dL_fragmentAt_3 rfl (lv_at hl 1 rfl) ?_
  refine call_iX (As := [.int x0]) (rest := [.int (nI 0), .ref o]) (wr := [OC g o fo]) ⟨hx, hb, hml, hown, hts⟩ (c_X4_fragmentAt l hl0 g x q u d v SL k K np mv lm ch F f S cnt ll hSL hF hk hp hf hc hll x0) (cwV 1 hts gL_fragmentAt_X4_fragmentAt rfl rfl rfl (by decide +kernel) ⟨Nat.le_of_ble_eq_true rfl, Nat.le_of_ble_eq_true rfl⟩) hP hK hD hS hA hXk [1, 2, 3, 4, 5] [0] rfl rfl (by decide) (by decide) (by decide) 0 rfl rfl rfl rfl hl.1 rfl (Nat.le_of_ble_eq_true rfl) dL_fragmentAt_4 ⟨Nat.le_of_ble_eq_true rfl, Nat.le_of_ble_eq_true rfl⟩ (fun E ce q9 H locs hxp hP hD hS hcell hcv hcl => ?_) (fun r w H locs hw hP hD hS => ?_)
  · skip
    have hE := hxp.1
    subst hE
    have hcs : (Cond.castable "java/lang/IndexOutOfBoundsException" "java/lang/IndexOutOfBoundsException").before args s = true := xb_move (s := s) (a := #[]) (by decide +kernel) (State.WarmedH.refl s) (hXk.2.2.1 _ (by decide +kernel))
    have hpre : ∀ z ∈ ([] : List ExceptionTableEntry), covers z 4 = false ∨ (z.catchType ≠ 0 ∧ ∃ nm : String, (Cond.classLink RL z.catchType nm).before args s = true ∧ va_Nc "java/lang/IndexOutOfBoundsException" nm s) := fun z hz => by cases hz
    refine vx_catch (own := RL) (name := "java/lang/IndexOutOfBoundsException") hown [] ⟨0, 9, 12, 20⟩ [] (by rw [htab]; rfl) hpre (by decide) (by decide) (hts (.classLink RL 20 "java/lang/IndexOutOfBoundsException") (by decide +kernel)) hcs hcell hcv hcl ?_
    refine lv_astore_n (lv' := [(3, .ref q9), (0, .ref x), (1, .int x0), (2, .ref o)]) hx hb dL_fragmentAt_12 rfl hl (by decide) rfl (fun ls hl => ?_)
    refine lv_iconst (v := nI 1) hx hb dL_fragmentAt_13 (by decide) ?_
    exact hret (nI 1) (OC g o fo :: (FW g x (lN SL) q u k (nI np) mv lm ch (lN F) d v f (nI cnt) (nI ll))) _ _ _ _ _ _ (by decide) (by decide) dL_fragmentAt_14 (Or.inr ⟨_, hxp, ⟨rfl, rfl⟩, rfl⟩) hP hD hS
  · skip
    refine lv_i2l (v := r.toInt64) hx hb dL_fragmentAt_7 rfl ?_
    refine va_last (n := 1) (f := fo) hx hb hK hP hD hS 0 1 rfl rfl (vp_in_nI (n := 0) (by decide) (by decide)) dL_fragmentAt_8 (fun H locs hP hD hS => ?_)
    rw [nI_clamp (n := 0) (by decide)] at hP hD
    have hP : va_P g.1 vwCl (OC g o (vp_updL fo 0 r.toInt64) :: w) H := hP
    have hD : va_D A (OC g o (vp_updL fo 0 r.toInt64) :: w) := hD
    refine lv_goto (tgt := 15) hx hb dL_fragmentAt_9 (by decide) ?_
    refine lv_iconst (v := nI 0) hx hb dL_fragmentAt_15 (by decide) ?_
    exact hret (nI 0) (OC g o (vp_updL fo 0 r.toInt64) :: w) _ _ _ _ _ _ (by decide) (by decide) dL_fragmentAt_16 (Or.inl ⟨rfl, r, w, hw, rfl⟩) hP hD hS
