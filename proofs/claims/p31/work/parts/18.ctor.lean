section CTOR
/-- a constructor: it makes mc cells of ms slots -/
def Cn (l : Launch) (y : MethodName) (ws : List Cond) (rm : Room) (g : GG) (av : List Value) (wd : va_W) (mc ms : Nat) (post : va_W → Prop) : Prop := ∀ sz : Nat, Met l y ws rm (va_Pc av (Pw g wd sz)) (va_Qv post (fun w t => Bw g (va_A wd sz) w t) (va_A wd sz)) mc ms (va_A wd sz)
theorem Cn.of {l : Launch} {y : MethodName} {ws ws' : List Cond} {rm : Room} {g : GG} {av : List Value} {wd : va_W} {cc : ByteArray} {maxL mc ms : Nat} {post : va_W → Prop} (hy : plainName y.cls = true) (hyn : y.name = "<init>") (hw : ws = Cond.code y cc maxL none :: ws') (hn : (lg_sl av).length ≤ maxL)
    (body : ∀ (p : Program) (e : Env) (s : State) (m : MethodId) (args : Array Value) (below : List Frame) (meth : Method) (c : Code) (A : Nat → Prop) (Z : State → Prop),
      p.tables.exec = Jvm.exec → c.code = cc → c.maxLocals = maxL → (∀ w ∈ ws, w.before args s = true) → s.vm.findClass y.cls = some m.cls → va_K g.1 vwCl (tyG g) s → (∀ q, s.heap.size ≤ q → A q) → meth.name = "<init>" →
      (∀ (w : va_W) (H : Heap) (locs : List Loc) (ls : Array Slot) (pc : Nat), decode cc pc = .ok (.return_, 1) → post w → va_P g.1 vwCl w H → va_D A w → va_S A s.heap H locs → W p l e rm s m args below meth c H locs mc ms Z (F0 m pc ls [])) →
      ∀ (H : Heap) (locs : List Loc) (ls : Array Slot), va_P g.1 vwCl wd H → va_D A wd → va_S A s.heap H locs → lv_has ls maxL (lv_args 0 av) → W p l e rm s m args below meth c H locs 0 0 Z (F0 m 0 ls [])) : Cn l y ws rm g av wd mc ms post := by
  intro sz
  refine Met.ofW (cc := cc) (maxL := maxL) (ret := none) hy hw ?_
  intro p e s m args below meth c s₁ B hml hv
  obtain ⟨rfl, hsz, hP, hK, hD0⟩ := hv
  have hx := B.exec
  have hb := B.bytes
  have hr := B.returns
  have hts := atoms_spec (ws := ws) B.pre
  have hown : s.vm.findClass y.cls = some m.cls := findClass_of_methodNamed B.named
  have hin : meth.name = "<init>" := (name_of_methodNamed B.named B.method).1.trans hyn
  have hlocks := B.notSynchronized
  subst hsz
  have hD := hD0.self (sz := s.heap.size)
  generalize hAe : va_A wd s.heap.size = A at hD ⊢
  have hA : ∀ q : Nat, s.heap.size ≤ q → A q := fun q h => by rw [← hAe]; exact Or.inr h
  have hl := lv_entry av (n := maxL) hn
  rw [lg_entry_eq]
  exact body p e s m av.toArray below meth c A _ hx hb hml hts hown hK hA hin (fun w H locs ls pc hd hp hP hD hS =>
    W.vret hx hb hr (fun t ht hW => ⟨⟨w, rfl, hp, by rw [ht]; exact hP, va_K.moved hW.alike hK, hD⟩, hS.F ht⟩) hS.2.2 hd) _ _ _ hP hD va_S.rf hl
variable {p : Program} {l : Launch} {e : Env} {R : Room} {s : State} {m : MethodId} {args : Array Value} {below : List Frame} {meth : Method} {c : Code} {H : Heap} {locs : List Loc} {cells slots : Nat} {Q : State → Prop}
variable {cc : ByteArray} {nL maxL n index pc mc ms : Nat} {Ts ws : List Cond} {own : String} {y : MethodName} {bytes : ByteArray} {rm : Room} {g : GG} {As rest st0 : List Value} {b : Nat} {wd wc wr : va_W} {A : Nat → Prop} {H0 : Heap} {ls : Array Slot}
theorem call_nI {post : va_W → Prop} (S : CallFix p m c cc nL s args Ts own) (hC : Cn l y ws rm g (.ref b :: As) wc mc ms post) (cw : CallB R s args own index y bytes maxL none ws rm mc ms n ∧ y.name = "<init>" ∧ (Cond.instanceMethod y).before args s = true)
    (hP : va_P g.1 vwCl wd H) (hK : va_K g.1 vwCl (tyG g) s) (hD : va_D A wd) (hS : va_S A H0 H locs) (hA : ∀ q, H0.size ≤ q → A q) (isC isR : List Nat) (hc : isC.map (fun i => wd[i]?) = wc.map some) (hr : isR.map (fun i => wd[i]?) = wr.map some) (hnC : va_nd isC = true) (hnR : va_nd isR = true) (hdis : ∀ i ∈ isR, i ∉ isC)
    (hn : As.length = n) (hsz : ls.size = nL) (hst : st0 = As.reverse ++ .ref b :: rest) (hrm : (rest.map fun v => v.category).sum ≤ 8) (hdg : decode cc pc = .ok (.invokespecial index, 3)) (hf : cells + mc ≤ R.cells ∧ slots + ms ≤ R.slots)
    (kk : ∀ (w : va_W) (H1 : Heap) (locs1 : List Loc), post w → va_P g.1 vwCl (wr ++ w) H1 → va_D A (wr ++ w) → va_S A H0 H1 locs1 → W p l e R s m args below meth c H1 locs1 (cells + mc) (slots + ms) Q (F0 m (pc + 3) ls rest)) : W p l e R s m args below meth c H locs cells slots Q (F0 m pc ls st0) := by
  subst hst
  have hPc : va_P g.1 vwCl wc H := hP.sub isC (fm_of (wc := wc) hc)
  have hDc : va_D A wc := hD.sub isC hnC hc
  have hFc := va_free (wc := wc) hD hS hA isC hc
  refine va_callv (va_runI (As := As) (rest := rest) S (hC H.size) cw ⟨Pw.blind g (.ref b :: As) wc H.size, fun U hU hW => ⟨rfl, by rw [hU], by rw [hU]; exact hPc, va_K.moved hW.alike hK, hDc.weaken (fun _ _ _ _ => trivial)⟩⟩ rfl hn hsz rfl (lv_room hrm) hdg hf) hS (fun q _ h => hFc q h) hFc (fun w t H1 locs1 ht hvm hw hB hz1 hk1 hS1 => ?_)
  obtain ⟨hP1, hK1, hD1⟩ := hB
  rw [ht] at hP1
  obtain ⟨hP2, hD2⟩ := va_join (wr := wr) (w1 := w) hP hD isC isR hc hr hnR hdis hk1 hFc hP1 hD1
  exact kk w H1 locs1 hw hP2 hD2 hS1
theorem na_i (hexec : p.tables.exec = Jvm.exec) (hb : c.code = cc) (harr : (Cond.arrayClass .int).before args s = true) (hK : va_K g.1 vwCl (tyG g) s) (hP : va_P g.1 vwCl wd H) (hD : va_D A wd) (hS : va_S A H0 H locs) (hA : ∀ q, H0.size ≤ q → A q)
    {n0 : Int32} {N : Nat} (hn : ¬ n0 < 0) (hN : n0.toNatClampNeg = N) (hbytes : N * componentBytes .int ≤ 536870912) (hcells : cells + 1 ≤ R.cells) (hslots : slots + N ≤ R.slots) (hdg : decode cc pc = .ok (.newarray .int, 2))
    (kk : ∀ (q : Nat) (H1 : Heap), va_P g.1 vwCl (wd ++ [(q, .inl (g.2.1, N, .inl (fun _ => 0)))]) H1 → va_D A (wd ++ [(q, .inl (g.2.1, N, .inl (fun _ => 0)))]) → va_S A H0 H1 locs →
      W p l e R s m args below meth c H1 locs (cells + 1) (slots + N) Q (F0 m (pc + 2) ls (.ref q :: rest))) : W p l e R s m args below meth c H locs cells slots Q (F0 m pc ls (.int n0 :: rest)) := by
  refine va_newa (atype := .int) hexec hb harr (ty := .int) rfl hK hP hD hS hA (N' := N) (a0 := (N, .inl (fun _ => 0))) (fun cA => rfl) hn hN hbytes hcells hslots hdg (fun q cA H1 hK1 hP1 hD1 hS1 => ?_)
  have e1 := va_nm_int (hK1.2 2 (cA, .int) rfl).2
  have e2 := va_nm_int (hK.2 0 (g.2.1, .int) rfl).2
  have e : cA = g.2.1 := Option.some.inj (e1.symm.trans e2)
  subst e
  exact kk q H1 hP1 hD1 hS1
theorem na_j (hexec : p.tables.exec = Jvm.exec) (hb : c.code = cc) (harr : (Cond.arrayClass .long).before args s = true) (hK : va_K g.1 vwCl (tyG g) s) (hP : va_P g.1 vwCl wd H) (hD : va_D A wd) (hS : va_S A H0 H locs) (hA : ∀ q, H0.size ≤ q → A q)
    {n0 : Int32} {N : Nat} (hn : ¬ n0 < 0) (hN : n0.toNatClampNeg = N) (hbytes : N * componentBytes .long ≤ 536870912) (hcells : cells + 1 ≤ R.cells) (hslots : slots + N ≤ R.slots) (hdg : decode cc pc = .ok (.newarray .long, 2))
    (kk : ∀ (q : Nat) (H1 : Heap), va_P g.1 vwCl (wd ++ [(q, .inl (g.2.2.1, N, .inr (.inl (fun _ => 0))))]) H1 → va_D A (wd ++ [(q, .inl (g.2.2.1, N, .inr (.inl (fun _ => 0))))]) → va_S A H0 H1 locs →
      W p l e R s m args below meth c H1 locs (cells + 1) (slots + N) Q (F0 m (pc + 2) ls (.ref q :: rest))) : W p l e R s m args below meth c H locs cells slots Q (F0 m pc ls (.int n0 :: rest)) := by
  refine va_newa (atype := .long) hexec hb harr (ty := .long) rfl hK hP hD hS hA (N' := N) (a0 := (N, .inr (.inl (fun _ => 0)))) (fun cA => rfl) hn hN hbytes hcells hslots hdg (fun q cA H1 hK1 hP1 hD1 hS1 => ?_)
  have e1 := va_nm_long (hK1.2 2 (cA, .long) rfl).2
  have e2 := va_nm_long (hK.2 1 (g.2.2.1, .long) rfl).2
  have e : cA = g.2.2.1 := Option.some.inj (e1.symm.trans e2)
  subst e
  exact kk q H1 hP1 hD1 hS1
end CTOR

abbrev rm_X0_init : Room := { frames := 1, cells := 1, slots := 50, locals := 12 }
set_option maxHeartbeats 4000000 in
set_option maxRecDepth 100000 in
theorem c_X0_init (l : Launch) (g : GG) (d : Nat) : Cn l yX0_init wsX0_init rm_X0_init g [.ref d] [(d, .inr (0, [.null, .int 0, .int 0]))] 1 50 (fun w => ∃ v, w = DW g d v (fun _ => 0) (nI 0) (nI 3)) := by
  refine Cn.of (cc := cX0_init) (maxL := 1) (by decide) rfl rfl (Nat.le_of_ble_eq_true rfl) ?_
  intro p e s m args below meth c A Z hx hb hml hts hown hK hA hin hret H locs ls hP hD hS hl
  have hl : lv_has ls 1 [(0, .ref d)] := hl
  have hi_0 : ∀ w ∈ wsX00, w ∈ wsX0_init := by decide +kernel
  refine lv_aload_n hx hb dX0_init_0 rfl (lv_at hl 0 rfl) ?_
  refine W.objInit hx hb hown (hts (.methodLink RX0 3 objectInit) (by decide +kernel)) (hts (.instanceMethod objectInit) (by decide +kernel)) (hts _ (List.mem_cons_of_mem _ (List.mem_append_left _ (List.mem_of_getElem? (i := 2) rfl)))) rfl (by rw [hml]; exact hl.1) rfl dX0_init_1 (Nat.le_of_ble_eq_true rfl) (Nat.le_of_ble_eq_true rfl) ?_
  refine W.eq (g2 := F0 m 4 ls []) rfl ?_
  refine lv_aload_n hx hb dX0_init_4 rfl (lv_at hl 0 rfl) ?_
  refine lv_bipush (v := nI 50) hx hb dX0_init_5 (by decide +kernel) ?_
  refine na_j (N := 50) hx hb (hts (.arrayClass .long) (by decide +kernel)) hK hP hD hS hA (nI_pos (n := 50) (by omega)) (nI_clamp (n := 50) (by omega)) (Nat.le_of_ble_eq_true rfl) (Nat.le_of_ble_eq_true rfl) (Nat.le_of_ble_eq_true rfl) dX0_init_7 (fun q7 H hP hD hS => ?_)
  have hP : va_P g.1 vwCl [(d, .inr (0, [.null, .int 0, .int 0])), (q7, .inl (g.2.2.1, 50, .inr (.inl (fun _ => 0))))] H := hP
  have hD : va_D A [(d, .inr (0, [.null, .int 0, .int 0])), (q7, .inl (g.2.2.1, 50, .inr (.inl (fun _ => 0))))] := hD
  refine va_putF (D := g.1) (ci := 0) (v := .ref q7) (ty := .array .long) (C := RX0) (T := TX0) (N := 3) hx hb hts hi_0 tyX0 tyX0_ok nmX0 hown hK hP hD hS 0 rfl rfl 0 (by decide) (hts (.fieldLink RX0 9 "GhostGame$Dictionary" "words" "[J") (by decide +kernel)) (fun _ h9 => h9) rfl hin rfl (by decide +kernel) rfl rfl (Nat.le_of_ble_eq_true rfl) dX0_init_9 (fun H locs hP hD hS => ?_)
  have hP : va_P g.1 vwCl [(d, .inr (0, [.ref q7, .int 0, .int 0])), (q7, .inl (g.2.2.1, 50, .inr (.inl (fun _ => 0))))] H := hP
  have hD : va_D A [(d, .inr (0, [.ref q7, .int 0, .int 0])), (q7, .inl (g.2.2.1, 50, .inr (.inl (fun _ => 0))))] := hD
  refine lv_aload_n hx hb dX0_init_12 rfl (lv_at hl 0 rfl) ?_
  refine lv_iconst (v := nI 0) hx hb dX0_init_13 (by decide +kernel) ?_
  refine va_put (D := g.1) (ci := 0) (v := .int (nI 0)) (ty := .int) (C := RX0) (T := TX0) (N := 3) hx hb hts hi_0 tyX0 tyX0_ok nmX0 hown hK hP hD hS 0 rfl rfl 1 (by decide) (hts (.fieldLink RX0 15 "GhostGame$Dictionary" "count" "I") (by decide +kernel)) (fun _ h9 => h9) rfl (by decide +kernel) rfl rfl (Nat.le_of_ble_eq_true rfl) dX0_init_14 (fun H locs hP hD hS => ?_)
  have hP : va_P g.1 vwCl [(d, .inr (0, [.ref q7, .int (nI 0), .int 0])), (q7, .inl (g.2.2.1, 50, .inr (.inl (fun _ => 0))))] H := hP
  have hD : va_D A [(d, .inr (0, [.ref q7, .int (nI 0), .int 0])), (q7, .inl (g.2.2.1, 50, .inr (.inl (fun _ => 0))))] := hD
  refine lv_aload_n hx hb dX0_init_17 rfl (lv_at hl 0 rfl) ?_
  refine lv_iconst (v := nI 3) hx hb dX0_init_18 (by decide +kernel) ?_
  refine va_put (D := g.1) (ci := 0) (v := .int (nI 3)) (ty := .int) (C := RX0) (T := TX0) (N := 3) hx hb hts hi_0 tyX0 tyX0_ok nmX0 hown hK hP hD hS 0 rfl rfl 2 (by decide) (hts (.fieldLink RX0 19 "GhostGame$Dictionary" "leastLength" "I") (by decide +kernel)) (fun _ h9 => h9) rfl (by decide +kernel) rfl rfl (Nat.le_of_ble_eq_true rfl) dX0_init_19 (fun H locs hP hD hS => ?_)
  have hP : va_P g.1 vwCl [(d, .inr (0, [.ref q7, .int (nI 0), .int (nI 3)])), (q7, .inl (g.2.2.1, 50, .inr (.inl (fun _ => 0))))] H := hP
  have hD : va_D A [(d, .inr (0, [.ref q7, .int (nI 0), .int (nI 3)])), (q7, .inl (g.2.2.1, 50, .inr (.inl (fun _ => 0))))] := hD
  exact hret [(d, .inr (0, [.ref q7, .int (nI 0), .int (nI 3)])), (q7, .inl (g.2.2.1, 50, .inr (.inl (fun _ => 0))))] _ _ _ _ dX0_init_22 (⟨q7, rfl⟩) hP hD hS
abbrev rm_X1_init : Room := { frames := 1, cells := 1, slots := 4, locals := 12 }
set_option maxHeartbeats 4000000 in
set_option maxRecDepth 100000 in
theorem c_X1_init (l : Launch) (g : GG) (q : Nat) : Cn l yX1_init wsX1_init rm_X1_init g [.ref q] [(q, .inr (1, [.null, .int 0, .int 0, .int 0, .int 0, .long 0]))] 1 4 (fun w => ∃ u, w = QW g q u (fun _ => 0) (nI 0) (-1) (-1) (-1) (lN 0)) := by
  refine Cn.of (cc := cX1_init) (maxL := 1) (by decide) rfl rfl (Nat.le_of_ble_eq_true rfl) ?_
  intro p e s m args below meth c A Z hx hb hml hts hown hK hA hin hret H locs ls hP hD hS hl
  have hl : lv_has ls 1 [(0, .ref q)] := hl
  have hi_1 : ∀ w ∈ wsX10, w ∈ wsX1_init := by decide +kernel
  refine lv_aload_n hx hb dX1_init_0 rfl (lv_at hl 0 rfl) ?_
  refine W.objInit hx hb hown (hts (.methodLink RX1 3 objectInit) (by decide +kernel)) (hts (.instanceMethod objectInit) (by decide +kernel)) (hts _ (List.mem_cons_of_mem _ (List.mem_append_left _ (List.mem_of_getElem? (i := 2) rfl)))) rfl (by rw [hml]; exact hl.1) rfl dX1_init_1 (Nat.le_of_ble_eq_true rfl) (Nat.le_of_ble_eq_true rfl) ?_
  refine W.eq (g2 := F0 m 4 ls []) rfl ?_
  refine lv_aload_n hx hb dX1_init_4 rfl (lv_at hl 0 rfl) ?_
  refine lv_iconst (v := nI 4) hx hb dX1_init_5 (by decide +kernel) ?_
  refine na_i (N := 4) hx hb (hts (.arrayClass .int) (by decide +kernel)) hK hP hD hS hA (nI_pos (n := 4) (by omega)) (nI_clamp (n := 4) (by omega)) (Nat.le_of_ble_eq_true rfl) (Nat.le_of_ble_eq_true rfl) (Nat.le_of_ble_eq_true rfl) dX1_init_6 (fun q6 H hP hD hS => ?_)
  have hP : va_P g.1 vwCl [(q, .inr (1, [.null, .int 0, .int 0, .int 0, .int 0, .long 0])), (q6, .inl (g.2.1, 4, .inl (fun _ => 0)))] H := hP
  have hD : va_D A [(q, .inr (1, [.null, .int 0, .int 0, .int 0, .int 0, .long 0])), (q6, .inl (g.2.1, 4, .inl (fun _ => 0)))] := hD
  refine va_putF (D := g.1) (ci := 1) (v := .ref q6) (ty := .array .int) (C := RX1) (T := TX1) (N := 6) hx hb hts hi_1 tyX1 tyX1_ok nmX1 hown hK hP hD hS 0 rfl rfl 0 (by decide) (hts (.fieldLink RX1 9 "GhostGame$Game" "strikes" "[I") (by decide +kernel)) (fun _ h9 => h9) rfl hin rfl (by decide +kernel) rfl rfl (Nat.le_of_ble_eq_true rfl) dX1_init_8 (fun H locs hP hD hS => ?_)
  have hP : va_P g.1 vwCl [(q, .inr (1, [.ref q6, .int 0, .int 0, .int 0, .int 0, .long 0])), (q6, .inl (g.2.1, 4, .inl (fun _ => 0)))] H := hP
  have hD : va_D A [(q, .inr (1, [.ref q6, .int 0, .int 0, .int 0, .int 0, .long 0])), (q6, .inl (g.2.1, 4, .inl (fun _ => 0)))] := hD
  refine lv_aload_n hx hb dX1_init_11 rfl (lv_at hl 0 rfl) ?_
  refine lv_iconst (v := nI 0) hx hb dX1_init_12 (by decide +kernel) ?_
  refine va_put (D := g.1) (ci := 1) (v := .int (nI 0)) (ty := .int) (C := RX1) (T := TX1) (N := 6) hx hb hts hi_1 tyX1 tyX1_ok nmX1 hown hK hP hD hS 0 rfl rfl 1 (by decide) (hts (.fieldLink RX1 15 "GhostGame$Game" "playerCount" "I") (by decide +kernel)) (fun _ h9 => h9) rfl (by decide +kernel) rfl rfl (Nat.le_of_ble_eq_true rfl) dX1_init_13 (fun H locs hP hD hS => ?_)
  have hP : va_P g.1 vwCl [(q, .inr (1, [.ref q6, .int (nI 0), .int 0, .int 0, .int 0, .long 0])), (q6, .inl (g.2.1, 4, .inl (fun _ => 0)))] H := hP
  have hD : va_D A [(q, .inr (1, [.ref q6, .int (nI 0), .int 0, .int 0, .int 0, .long 0])), (q6, .inl (g.2.1, 4, .inl (fun _ => 0)))] := hD
  refine lv_aload_n hx hb dX1_init_16 rfl (lv_at hl 0 rfl) ?_
  refine lv_iconst (v := -1) hx hb dX1_init_17 (by decide +kernel) ?_
  refine va_put (D := g.1) (ci := 1) (v := .int (-1)) (ty := .int) (C := RX1) (T := TX1) (N := 6) hx hb hts hi_1 tyX1 tyX1_ok nmX1 hown hK hP hD hS 0 rfl rfl 2 (by decide) (hts (.fieldLink RX1 19 "GhostGame$Game" "mover" "I") (by decide +kernel)) (fun _ h9 => h9) rfl (by decide +kernel) rfl rfl (Nat.le_of_ble_eq_true rfl) dX1_init_18 (fun H locs hP hD hS => ?_)
  have hP : va_P g.1 vwCl [(q, .inr (1, [.ref q6, .int (nI 0), .int (-1), .int 0, .int 0, .long 0])), (q6, .inl (g.2.1, 4, .inl (fun _ => 0)))] H := hP
  have hD : va_D A [(q, .inr (1, [.ref q6, .int (nI 0), .int (-1), .int 0, .int 0, .long 0])), (q6, .inl (g.2.1, 4, .inl (fun _ => 0)))] := hD
  refine lv_aload_n hx hb dX1_init_21 rfl (lv_at hl 0 rfl) ?_
  refine lv_iconst (v := -1) hx hb dX1_init_22 (by decide +kernel) ?_
  refine va_put (D := g.1) (ci := 1) (v := .int (-1)) (ty := .int) (C := RX1) (T := TX1) (N := 6) hx hb hts hi_1 tyX1 tyX1_ok nmX1 hown hK hP hD hS 0 rfl rfl 3 (by decide) (hts (.fieldLink RX1 22 "GhostGame$Game" "lastMover" "I") (by decide +kernel)) (fun _ h9 => h9) rfl (by decide +kernel) rfl rfl (Nat.le_of_ble_eq_true rfl) dX1_init_23 (fun H locs hP hD hS => ?_)
  have hP : va_P g.1 vwCl [(q, .inr (1, [.ref q6, .int (nI 0), .int (-1), .int (-1), .int 0, .long 0])), (q6, .inl (g.2.1, 4, .inl (fun _ => 0)))] H := hP
  have hD : va_D A [(q, .inr (1, [.ref q6, .int (nI 0), .int (-1), .int (-1), .int 0, .long 0])), (q6, .inl (g.2.1, 4, .inl (fun _ => 0)))] := hD
  refine lv_aload_n hx hb dX1_init_26 rfl (lv_at hl 0 rfl) ?_
  refine lv_iconst (v := -1) hx hb dX1_init_27 (by decide +kernel) ?_
  refine va_put (D := g.1) (ci := 1) (v := .int (-1)) (ty := .int) (C := RX1) (T := TX1) (N := 6) hx hb hts hi_1 tyX1 tyX1_ok nmX1 hown hK hP hD hS 0 rfl rfl 4 (by decide) (hts (.fieldLink RX1 25 "GhostGame$Game" "champion" "I") (by decide +kernel)) (fun _ h9 => h9) rfl (by decide +kernel) rfl rfl (Nat.le_of_ble_eq_true rfl) dX1_init_28 (fun H locs hP hD hS => ?_)
  have hP : va_P g.1 vwCl [(q, .inr (1, [.ref q6, .int (nI 0), .int (-1), .int (-1), .int (-1), .long 0])), (q6, .inl (g.2.1, 4, .inl (fun _ => 0)))] H := hP
  have hD : va_D A [(q, .inr (1, [.ref q6, .int (nI 0), .int (-1), .int (-1), .int (-1), .long 0])), (q6, .inl (g.2.1, 4, .inl (fun _ => 0)))] := hD
  refine lv_aload_n hx hb dX1_init_31 rfl (lv_at hl 0 rfl) ?_
  refine lv_lconst (v := lN 0) hx hb dX1_init_32 (by decide +kernel) ?_
  refine va_put (D := g.1) (ci := 1) (v := .long (lN 0)) (ty := .long) (C := RX1) (T := TX1) (N := 6) hx hb hts hi_1 tyX1 tyX1_ok nmX1 hown hK hP hD hS 0 rfl rfl 5 (by decide) (hts (.fieldLink RX1 30 "GhostGame$Game" "fragment" "J") (by decide +kernel)) (fun _ h9 => h9) rfl (by decide +kernel) rfl rfl (Nat.le_of_ble_eq_true rfl) dX1_init_33 (fun H locs hP hD hS => ?_)
  have hP : va_P g.1 vwCl [(q, .inr (1, [.ref q6, .int (nI 0), .int (-1), .int (-1), .int (-1), .long (lN 0)])), (q6, .inl (g.2.1, 4, .inl (fun _ => 0)))] H := hP
  have hD : va_D A [(q, .inr (1, [.ref q6, .int (nI 0), .int (-1), .int (-1), .int (-1), .long (lN 0)])), (q6, .inl (g.2.1, 4, .inl (fun _ => 0)))] := hD
  exact hret [(q, .inr (1, [.ref q6, .int (nI 0), .int (-1), .int (-1), .int (-1), .long (lN 0)])), (q6, .inl (g.2.1, 4, .inl (fun _ => 0)))] _ _ _ _ dX1_init_36 (⟨q6, rfl⟩) hP hD hS
abbrev rm_X4_init : Room := { frames := 2, cells := 4, slots := 63, locals := 32 }
set_option maxHeartbeats 4000000 in
set_option maxRecDepth 100000 in
theorem c_X4_init (l : Launch) (g : GG) (x : Nat) : Cn l yX4_init wsX4_init rm_X4_init g [.ref x] [(x, .inr (2, [.null, .null, .long 0]))] 4 63 (fun w => ∃ q u d v : Nat, w = [(x, .inr (2, [.ref d, .ref q, .long (lN 0)])), (d, .inr (0, [.ref v, .int (nI 0), .int (nI 3)])), (v, .inl (g.2.2.1, 50, .inr (.inl (fun _ => 0)))), (q, .inr (1, [.ref u, .int (nI 0), .int (-1), .int (-1), .int (-1), .long (lN 0)])), (u, .inl (g.2.1, 4, .inl (fun _ => 0)))]) := by
  refine Cn.of (cc := cX4_init) (maxL := 1) (by decide) rfl rfl (Nat.le_of_ble_eq_true rfl) ?_
  intro p e s m args below meth c A Z hx hb hml hts hown hK hA hin hret H locs ls hP hD hS hl
  have hl : lv_has ls 1 [(0, .ref x)] := hl
  have hi_2 : ∀ w ∈ wsX40, w ∈ wsX4_init := by decide +kernel
  refine lv_aload_n hx hb dX4_init_0 rfl (lv_at hl 0 rfl) ?_
  refine W.objInit hx hb hown (hts (.methodLink RX4 1 objectInit) (by decide +kernel)) (hts (.instanceMethod objectInit) (by decide +kernel)) (hts _ (List.mem_cons_of_mem _ (List.mem_append_left _ (List.mem_append_left _ (List.mem_append_left _ (List.mem_append_left _ (List.mem_of_getElem? (i := 2) rfl))))))) rfl (by rw [hml]; exact hl.1) rfl dX4_init_1 (Nat.le_of_ble_eq_true rfl) (Nat.le_of_ble_eq_true rfl) ?_
  refine W.eq (g2 := F0 m 4 ls []) rfl ?_
  refine lv_aload_n hx hb dX4_init_4 rfl (lv_at hl 0 rfl) ?_
  have hi_0 : ∀ w ∈ wsX00, w ∈ wsX4_init := by decide +kernel
  refine va_new (ci := 0) (fs := [.null, .int 0, .int 0]) (C := RX0) (T := TX0) (N := 3) hx hb hts hi_0 tyX0 tyX0_ok hown (hts (.classLink RX4 7 RX0) (by decide +kernel)) (hts (.instantiable RX0 3) (by decide +kernel)) (hts (.initialized RX0) (by decide +kernel)) hK hP hD hS hA rfl (fun j hj => by rcases (show j = 0 ∨ j = 1 ∨ j = 2 by omega) with rfl | rfl | rfl <;> rfl) (Nat.le_of_ble_eq_true rfl) (Nat.le_of_ble_eq_true rfl) dX4_init_5 (fun q5 H hP hD hS => ?_)
  have hP : va_P g.1 vwCl [(x, .inr (2, [.null, .null, .long 0])), (q5, .inr (0, [.null, .int 0, .int 0]))] H := hP
  have hD : va_D A [(x, .inr (2, [.null, .null, .long 0])), (q5, .inr (0, [.null, .int 0, .int 0]))] := hD
  refine lv_dup hx hb dX4_init_8 rfl ?_
  refine call_nI (As := []) (rest := [.ref q5, .ref x]) (wr := [(x, .inr (2, [.null, .null, .long 0]))]) ⟨hx, hb, hml, hown, hts⟩ (c_X0_init l g q5) (cwI 0 hts gX4_init_X0_init rfl rfl rfl (hts (.initialized RX0) (by decide +kernel)) (hts (.methodLink RX4 9 yX0_init) (by decide +kernel)) (hts (.instanceMethod yX0_init) (by decide +kernel)) rfl (by decide +kernel) ⟨Nat.le_of_ble_eq_true rfl, Nat.le_of_ble_eq_true rfl⟩) hP hK hD hS hA [1] [0] rfl rfl (by decide) (by decide) (by decide) rfl hl.1 rfl (Nat.le_of_ble_eq_true rfl) dX4_init_9 ⟨Nat.le_of_ble_eq_true rfl, Nat.le_of_ble_eq_true rfl⟩ (fun w H locs hw hP hD hS => ?_)
  obtain ⟨v9, rfl⟩ := hw
  have hP : va_P g.1 vwCl [(x, .inr (2, [.null, .null, .long 0])), (q5, .inr (0, [.ref v9, .int (nI 0), .int (nI 3)])), (v9, .inl (g.2.2.1, 50, .inr (.inl (fun _ => 0))))] H := hP
  have hD : va_D A [(x, .inr (2, [.null, .null, .long 0])), (q5, .inr (0, [.ref v9, .int (nI 0), .int (nI 3)])), (v9, .inl (g.2.2.1, 50, .inr (.inl (fun _ => 0))))] := hD
  refine va_putF (D := g.1) (ci := 2) (v := .ref q5) (ty := .object "GhostGame$Dictionary") (C := RX4) (T := TX4) (N := 3) hx hb hts hi_2 tyX4 tyX4_ok nmX4 hown hK hP hD hS 0 rfl rfl 0 (by decide) (hts (.fieldLink RX4 10 "GhostGame" "dictionary" "LGhostGame$Dictionary;") (by decide +kernel)) (fun _ h9 => h9) rfl hin rfl (by decide +kernel) rfl rfl (Nat.le_of_ble_eq_true rfl) dX4_init_12 (fun H locs hP hD hS => ?_)
  have hP : va_P g.1 vwCl [(x, .inr (2, [.ref q5, .null, .long 0])), (q5, .inr (0, [.ref v9, .int (nI 0), .int (nI 3)])), (v9, .inl (g.2.2.1, 50, .inr (.inl (fun _ => 0))))] H := hP
  have hD : va_D A [(x, .inr (2, [.ref q5, .null, .long 0])), (q5, .inr (0, [.ref v9, .int (nI 0), .int (nI 3)])), (v9, .inl (g.2.2.1, 50, .inr (.inl (fun _ => 0))))] := hD
  refine lv_aload_n hx hb dX4_init_15 rfl (lv_at hl 0 rfl) ?_
  have hi_1 : ∀ w ∈ wsX10, w ∈ wsX4_init := by decide +kernel
  refine va_new (ci := 1) (fs := [.null, .int 0, .int 0, .int 0, .int 0, .long 0]) (C := RX1) (T := TX1) (N := 6) hx hb hts hi_1 tyX1 tyX1_ok hown (hts (.classLink RX4 16 RX1) (by decide +kernel)) (hts (.instantiable RX1 6) (by decide +kernel)) (hts (.initialized RX1) (by decide +kernel)) hK hP hD hS hA rfl (fun j hj => by rcases (show j = 0 ∨ j = 1 ∨ j = 2 ∨ j = 3 ∨ j = 4 ∨ j = 5 by omega) with rfl | rfl | rfl | rfl | rfl | rfl <;> rfl) (Nat.le_of_ble_eq_true rfl) (Nat.le_of_ble_eq_true rfl) dX4_init_16 (fun q16 H hP hD hS => ?_)
  have hP : va_P g.1 vwCl [(x, .inr (2, [.ref q5, .null, .long 0])), (q5, .inr (0, [.ref v9, .int (nI 0), .int (nI 3)])), (v9, .inl (g.2.2.1, 50, .inr (.inl (fun _ => 0)))), (q16, .inr (1, [.null, .int 0, .int 0, .int 0, .int 0, .long 0]))] H := hP
  have hD : va_D A [(x, .inr (2, [.ref q5, .null, .long 0])), (q5, .inr (0, [.ref v9, .int (nI 0), .int (nI 3)])), (v9, .inl (g.2.2.1, 50, .inr (.inl (fun _ => 0)))), (q16, .inr (1, [.null, .int 0, .int 0, .int 0, .int 0, .long 0]))] := hD
  refine lv_dup hx hb dX4_init_19 rfl ?_
  refine call_nI (As := []) (rest := [.ref q16, .ref x]) (wr := [(x, .inr (2, [.ref q5, .null, .long 0])), (q5, .inr (0, [.ref v9, .int (nI 0), .int (nI 3)])), (v9, .inl (g.2.2.1, 50, .inr (.inl (fun _ => 0))))]) ⟨hx, hb, hml, hown, hts⟩ (c_X1_init l g q16) (cwI 0 hts gX4_init_X1_init rfl rfl rfl (hts (.initialized RX1) (by decide +kernel)) (hts (.methodLink RX4 18 yX1_init) (by decide +kernel)) (hts (.instanceMethod yX1_init) (by decide +kernel)) rfl (by decide +kernel) ⟨Nat.le_of_ble_eq_true rfl, Nat.le_of_ble_eq_true rfl⟩) hP hK hD hS hA [3] [0, 1, 2] rfl rfl (by decide) (by decide) (by decide) rfl hl.1 rfl (Nat.le_of_ble_eq_true rfl) dX4_init_20 ⟨Nat.le_of_ble_eq_true rfl, Nat.le_of_ble_eq_true rfl⟩ (fun w H locs hw hP hD hS => ?_)
  obtain ⟨v20, rfl⟩ := hw
  have hP : va_P g.1 vwCl [(x, .inr (2, [.ref q5, .null, .long 0])), (q5, .inr (0, [.ref v9, .int (nI 0), .int (nI 3)])), (v9, .inl (g.2.2.1, 50, .inr (.inl (fun _ => 0)))), (q16, .inr (1, [.ref v20, .int (nI 0), .int (-1), .int (-1), .int (-1), .long (lN 0)])), (v20, .inl (g.2.1, 4, .inl (fun _ => 0)))] H := hP
  have hD : va_D A [(x, .inr (2, [.ref q5, .null, .long 0])), (q5, .inr (0, [.ref v9, .int (nI 0), .int (nI 3)])), (v9, .inl (g.2.2.1, 50, .inr (.inl (fun _ => 0)))), (q16, .inr (1, [.ref v20, .int (nI 0), .int (-1), .int (-1), .int (-1), .long (lN 0)])), (v20, .inl (g.2.1, 4, .inl (fun _ => 0)))] := hD
  refine va_putF (D := g.1) (ci := 2) (v := .ref q16) (ty := .object "GhostGame$Game") (C := RX4) (T := TX4) (N := 3) hx hb hts hi_2 tyX4 tyX4_ok nmX4 hown hK hP hD hS 0 rfl rfl 1 (by decide) (hts (.fieldLink RX4 19 "GhostGame" "game" "LGhostGame$Game;") (by decide +kernel)) (fun _ h9 => h9) rfl hin rfl (by decide +kernel) rfl rfl (Nat.le_of_ble_eq_true rfl) dX4_init_23 (fun H locs hP hD hS => ?_)
  have hP : va_P g.1 vwCl [(x, .inr (2, [.ref q5, .ref q16, .long 0])), (q5, .inr (0, [.ref v9, .int (nI 0), .int (nI 3)])), (v9, .inl (g.2.2.1, 50, .inr (.inl (fun _ => 0)))), (q16, .inr (1, [.ref v20, .int (nI 0), .int (-1), .int (-1), .int (-1), .long (lN 0)])), (v20, .inl (g.2.1, 4, .inl (fun _ => 0)))] H := hP
  have hD : va_D A [(x, .inr (2, [.ref q5, .ref q16, .long 0])), (q5, .inr (0, [.ref v9, .int (nI 0), .int (nI 3)])), (v9, .inl (g.2.2.1, 50, .inr (.inl (fun _ => 0)))), (q16, .inr (1, [.ref v20, .int (nI 0), .int (-1), .int (-1), .int (-1), .long (lN 0)])), (v20, .inl (g.2.1, 4, .inl (fun _ => 0)))] := hD
  refine lv_aload_n hx hb dX4_init_26 rfl (lv_at hl 0 rfl) ?_
  refine lv_lconst (v := lN 0) hx hb dX4_init_27 (by decide +kernel) ?_
  refine va_put (D := g.1) (ci := 2) (v := .long (lN 0)) (ty := .long) (C := RX4) (T := TX4) (N := 3) hx hb hts hi_2 tyX4 tyX4_ok nmX4 hown hK hP hD hS 0 rfl rfl 2 (by decide) (hts (.fieldLink RX4 25 "GhostGame" "slip" "J") (by decide +kernel)) (fun _ h9 => h9) rfl (by decide +kernel) rfl rfl (Nat.le_of_ble_eq_true rfl) dX4_init_28 (fun H locs hP hD hS => ?_)
  have hP : va_P g.1 vwCl [(x, .inr (2, [.ref q5, .ref q16, .long (lN 0)])), (q5, .inr (0, [.ref v9, .int (nI 0), .int (nI 3)])), (v9, .inl (g.2.2.1, 50, .inr (.inl (fun _ => 0)))), (q16, .inr (1, [.ref v20, .int (nI 0), .int (-1), .int (-1), .int (-1), .long (lN 0)])), (v20, .inl (g.2.1, 4, .inl (fun _ => 0)))] H := hP
  have hD : va_D A [(x, .inr (2, [.ref q5, .ref q16, .long (lN 0)])), (q5, .inr (0, [.ref v9, .int (nI 0), .int (nI 3)])), (v9, .inl (g.2.2.1, 50, .inr (.inl (fun _ => 0)))), (q16, .inr (1, [.ref v20, .int (nI 0), .int (-1), .int (-1), .int (-1), .long (lN 0)])), (v20, .inl (g.2.1, 4, .inl (fun _ => 0)))] := hD
  exact hret [(x, .inr (2, [.ref q5, .ref q16, .long (lN 0)])), (q5, .inr (0, [.ref v9, .int (nI 0), .int (nI 3)])), (v9, .inl (g.2.2.1, 50, .inr (.inl (fun _ => 0)))), (q16, .inr (1, [.ref v20, .int (nI 0), .int (-1), .int (-1), .int (-1), .long (lN 0)])), (v20, .inl (g.2.1, 4, .inl (fun _ => 0)))] _ _ _ _ dX4_init_31 (⟨q16, v20, q5, v9, rfl⟩) hP hD hS
