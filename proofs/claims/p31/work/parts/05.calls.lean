section CALLS
variable {p : Program} {l : Launch} {e : Env} {R : Room} {s : State} {m : MethodId} {args : Array Value} {below : List Frame} {meth : Method} {c : Code} {H : Heap} {locs : List Loc} {cells slots : Nat} {Q : State → Prop}
variable {cc : ByteArray} {nL maxL n index pc : Nat} {Ts ws : List Cond} {own C : String} {y : MethodName} {bytes : ByteArray} {ret : Option FieldType} {rm : Room} {g : GG} {As rest st0 : List Value} {b : Nat} {wd wc wr : va_W} {A : Nat → Prop} {H0 : Heap} {ls : Array Slot}
theorem call_iV {post : Int32 → va_W → Prop} (S : CallFix p m c cc nL s args Ts own) (hC : Ci l y ws rm g (.ref b :: As) wc post) (cw : CallW R s args own C index y bytes maxL ret ws rm 0 0 n)
    (hP : va_P g.1 vwCl wd H) (hK : va_K g.1 vwCl (tyG g) s) (hD : va_D A wd) (hS : va_S A H0 H locs) (hA : ∀ q, H0.size ≤ q → A q) (isC isR : List Nat) (hc : isC.map (fun i => wd[i]?) = wc.map some) (hr : isR.map (fun i => wd[i]?) = wr.map some) (hnC : va_nd isC = true) (hnR : va_nd isR = true) (hdis : ∀ i ∈ isR, i ∉ isC)
    (q0 : Nat) {ci : Nat} {q : vw_C} {fs : List Value} (he : wc[q0]? = some (b, .inr (ci, fs))) (hci : vwCl[ci]? = some q) (hqC : q.1 = C) (hn : As.length = n) (hsz : ls.size = nL) (hst : st0 = As.reverse ++ .ref b :: rest) (hrm : (rest.map fun v => v.category).sum ≤ 8) (hdg : decode cc pc = .ok (.invokevirtual index, 3)) (hf : cells + 0 ≤ R.cells ∧ slots + 0 ≤ R.slots)
    (kk : ∀ (r : Int32) (w : va_W) (H1 : Heap) (locs1 : List Loc), post r w → va_P g.1 vwCl (wr ++ w) H1 → va_D A (wr ++ w) → va_S A H0 H1 locs1 → W p l e R s m args below meth c H1 locs1 cells slots Q (F0 m (pc + 3) ls (.int r :: rest))) : W p l e R s m args below meth c H locs cells slots Q (F0 m pc ls st0) := by
  subst hst
  have hPc : va_P g.1 vwCl wc H := hP.sub isC (fm_of (wc := wc) hc)
  have hDc : va_D A wc := hD.sub isC hnC hc
  have hFc := va_free (wc := wc) hD hS hA isC hc
  refine va_calli (va_runV (As := As) (rest := rest) S (hC H.size) cw ⟨Pw.blind g (.ref b :: As) wc H.size, (by subst hqC; exact va_recv hK hPc hci he), fun U hU hW => ⟨rfl, by rw [hU], by rw [hU]; exact hPc, va_K.moved hW.alike hK, hDc.weaken (fun _ _ _ _ => trivial)⟩⟩ rfl hn hsz rfl (lv_room hrm) hdg hf) hS (fun q _ h => hFc q h) hFc (fun r w t H1 locs1 ht hvm hw hB hz1 hk1 hS1 => ?_)
  obtain ⟨hP1, hK1, hD1⟩ := hB
  rw [ht] at hP1
  obtain ⟨hP2, hD2⟩ := va_join (wr := wr) (w1 := w) hP hD isC isR hc hr hnR hdis hk1 hFc hP1 hD1
  exact kk r w H1 locs1 hw hP2 hD2 hS1
theorem call_iS {post : Int32 → va_W → Prop} (S : CallFix p m c cc nL s args Ts own) (hC : Ci l y ws rm g As wc post) (cw : CallB R s args own index y bytes maxL ret ws rm 0 0 n ∧ (Cond.static y).before args s = true)
    (hP : va_P g.1 vwCl wd H) (hK : va_K g.1 vwCl (tyG g) s) (hD : va_D A wd) (hS : va_S A H0 H locs) (hA : ∀ q, H0.size ≤ q → A q) (isC isR : List Nat) (hc : isC.map (fun i => wd[i]?) = wc.map some) (hr : isR.map (fun i => wd[i]?) = wr.map some) (hnC : va_nd isC = true) (hnR : va_nd isR = true) (hdis : ∀ i ∈ isR, i ∉ isC)
    (hn : As.length = n) (hsz : ls.size = nL) (hst : st0 = As.reverse ++ rest) (hrm : (rest.map fun v => v.category).sum ≤ 8) (hdg : decode cc pc = .ok (.invokestatic index, 3)) (hf : cells + 0 ≤ R.cells ∧ slots + 0 ≤ R.slots)
    (kk : ∀ (r : Int32) (w : va_W) (H1 : Heap) (locs1 : List Loc), post r w → va_P g.1 vwCl (wr ++ w) H1 → va_D A (wr ++ w) → va_S A H0 H1 locs1 → W p l e R s m args below meth c H1 locs1 cells slots Q (F0 m (pc + 3) ls (.int r :: rest))) : W p l e R s m args below meth c H locs cells slots Q (F0 m pc ls st0) := by
  subst hst
  have hPc : va_P g.1 vwCl wc H := hP.sub isC (fm_of (wc := wc) hc)
  have hDc : va_D A wc := hD.sub isC hnC hc
  have hFc := va_free (wc := wc) hD hS hA isC hc
  refine va_calli (va_runS (As := As) (rest := rest) S (hC H.size) cw ⟨Pw.blind g As wc H.size, fun U hU hW => ⟨rfl, by rw [hU], by rw [hU]; exact hPc, va_K.moved hW.alike hK, hDc.weaken (fun _ _ _ _ => trivial)⟩⟩ rfl hn hsz rfl (lv_room hrm) hdg hf) hS (fun q _ h => hFc q h) hFc (fun r w t H1 locs1 ht hvm hw hB hz1 hk1 hS1 => ?_)
  obtain ⟨hP1, hK1, hD1⟩ := hB
  rw [ht] at hP1
  obtain ⟨hP2, hD2⟩ := va_join (wr := wr) (w1 := w) hP hD isC isR hc hr hnR hdis hk1 hFc hP1 hD1
  exact kk r w H1 locs1 hw hP2 hD2 hS1
theorem call_lV {post : Int64 → va_W → Prop} (S : CallFix p m c cc nL s args Ts own) (hC : Cl l y ws rm g (.ref b :: As) wc post) (cw : CallW R s args own C index y bytes maxL ret ws rm 0 0 n)
    (hP : va_P g.1 vwCl wd H) (hK : va_K g.1 vwCl (tyG g) s) (hD : va_D A wd) (hS : va_S A H0 H locs) (hA : ∀ q, H0.size ≤ q → A q) (isC isR : List Nat) (hc : isC.map (fun i => wd[i]?) = wc.map some) (hr : isR.map (fun i => wd[i]?) = wr.map some) (hnC : va_nd isC = true) (hnR : va_nd isR = true) (hdis : ∀ i ∈ isR, i ∉ isC)
    (q0 : Nat) {ci : Nat} {q : vw_C} {fs : List Value} (he : wc[q0]? = some (b, .inr (ci, fs))) (hci : vwCl[ci]? = some q) (hqC : q.1 = C) (hn : As.length = n) (hsz : ls.size = nL) (hst : st0 = As.reverse ++ .ref b :: rest) (hrm : (rest.map fun v => v.category).sum ≤ 8) (hdg : decode cc pc = .ok (.invokevirtual index, 3)) (hf : cells + 0 ≤ R.cells ∧ slots + 0 ≤ R.slots)
    (kk : ∀ (r : Int64) (w : va_W) (H1 : Heap) (locs1 : List Loc), post r w → va_P g.1 vwCl (wr ++ w) H1 → va_D A (wr ++ w) → va_S A H0 H1 locs1 → W p l e R s m args below meth c H1 locs1 cells slots Q (F0 m (pc + 3) ls (.long r :: rest))) : W p l e R s m args below meth c H locs cells slots Q (F0 m pc ls st0) := by
  subst hst
  have hPc : va_P g.1 vwCl wc H := hP.sub isC (fm_of (wc := wc) hc)
  have hDc : va_D A wc := hD.sub isC hnC hc
  have hFc := va_free (wc := wc) hD hS hA isC hc
  refine va_calll (va_runV (As := As) (rest := rest) S (hC H.size) cw ⟨Pw.blind g (.ref b :: As) wc H.size, (by subst hqC; exact va_recv hK hPc hci he), fun U hU hW => ⟨rfl, by rw [hU], by rw [hU]; exact hPc, va_K.moved hW.alike hK, hDc.weaken (fun _ _ _ _ => trivial)⟩⟩ rfl hn hsz rfl (lv_room hrm) hdg hf) hS (fun q _ h => hFc q h) hFc (fun r w t H1 locs1 ht hvm hw hB hz1 hk1 hS1 => ?_)
  obtain ⟨hP1, hK1, hD1⟩ := hB
  rw [ht] at hP1
  obtain ⟨hP2, hD2⟩ := va_join (wr := wr) (w1 := w) hP hD isC isR hc hr hnR hdis hk1 hFc hP1 hD1
  exact kk r w H1 locs1 hw hP2 hD2 hS1
theorem call_lS {post : Int64 → va_W → Prop} (S : CallFix p m c cc nL s args Ts own) (hC : Cl l y ws rm g As wc post) (cw : CallB R s args own index y bytes maxL ret ws rm 0 0 n ∧ (Cond.static y).before args s = true)
    (hP : va_P g.1 vwCl wd H) (hK : va_K g.1 vwCl (tyG g) s) (hD : va_D A wd) (hS : va_S A H0 H locs) (hA : ∀ q, H0.size ≤ q → A q) (isC isR : List Nat) (hc : isC.map (fun i => wd[i]?) = wc.map some) (hr : isR.map (fun i => wd[i]?) = wr.map some) (hnC : va_nd isC = true) (hnR : va_nd isR = true) (hdis : ∀ i ∈ isR, i ∉ isC)
    (hn : As.length = n) (hsz : ls.size = nL) (hst : st0 = As.reverse ++ rest) (hrm : (rest.map fun v => v.category).sum ≤ 8) (hdg : decode cc pc = .ok (.invokestatic index, 3)) (hf : cells + 0 ≤ R.cells ∧ slots + 0 ≤ R.slots)
    (kk : ∀ (r : Int64) (w : va_W) (H1 : Heap) (locs1 : List Loc), post r w → va_P g.1 vwCl (wr ++ w) H1 → va_D A (wr ++ w) → va_S A H0 H1 locs1 → W p l e R s m args below meth c H1 locs1 cells slots Q (F0 m (pc + 3) ls (.long r :: rest))) : W p l e R s m args below meth c H locs cells slots Q (F0 m pc ls st0) := by
  subst hst
  have hPc : va_P g.1 vwCl wc H := hP.sub isC (fm_of (wc := wc) hc)
  have hDc : va_D A wc := hD.sub isC hnC hc
  have hFc := va_free (wc := wc) hD hS hA isC hc
  refine va_calll (va_runS (As := As) (rest := rest) S (hC H.size) cw ⟨Pw.blind g As wc H.size, fun U hU hW => ⟨rfl, by rw [hU], by rw [hU]; exact hPc, va_K.moved hW.alike hK, hDc.weaken (fun _ _ _ _ => trivial)⟩⟩ rfl hn hsz rfl (lv_room hrm) hdg hf) hS (fun q _ h => hFc q h) hFc (fun r w t H1 locs1 ht hvm hw hB hz1 hk1 hS1 => ?_)
  obtain ⟨hP1, hK1, hD1⟩ := hB
  rw [ht] at hP1
  obtain ⟨hP2, hD2⟩ := va_join (wr := wr) (w1 := w) hP hD isC isR hc hr hnR hdis hk1 hFc hP1 hD1
  exact kk r w H1 locs1 hw hP2 hD2 hS1
theorem call_vV {post : va_W → Prop} (S : CallFix p m c cc nL s args Ts own) (hC : Cv l y ws rm g (.ref b :: As) wc post) (cw : CallW R s args own C index y bytes maxL ret ws rm 0 0 n)
    (hP : va_P g.1 vwCl wd H) (hK : va_K g.1 vwCl (tyG g) s) (hD : va_D A wd) (hS : va_S A H0 H locs) (hA : ∀ q, H0.size ≤ q → A q) (isC isR : List Nat) (hc : isC.map (fun i => wd[i]?) = wc.map some) (hr : isR.map (fun i => wd[i]?) = wr.map some) (hnC : va_nd isC = true) (hnR : va_nd isR = true) (hdis : ∀ i ∈ isR, i ∉ isC)
    (q0 : Nat) {ci : Nat} {q : vw_C} {fs : List Value} (he : wc[q0]? = some (b, .inr (ci, fs))) (hci : vwCl[ci]? = some q) (hqC : q.1 = C) (hn : As.length = n) (hsz : ls.size = nL) (hst : st0 = As.reverse ++ .ref b :: rest) (hrm : (rest.map fun v => v.category).sum ≤ 8) (hdg : decode cc pc = .ok (.invokevirtual index, 3)) (hf : cells + 0 ≤ R.cells ∧ slots + 0 ≤ R.slots)
    (kk : ∀ (w : va_W) (H1 : Heap) (locs1 : List Loc), post w → va_P g.1 vwCl (wr ++ w) H1 → va_D A (wr ++ w) → va_S A H0 H1 locs1 → W p l e R s m args below meth c H1 locs1 cells slots Q (F0 m (pc + 3) ls rest)) : W p l e R s m args below meth c H locs cells slots Q (F0 m pc ls st0) := by
  subst hst
  have hPc : va_P g.1 vwCl wc H := hP.sub isC (fm_of (wc := wc) hc)
  have hDc : va_D A wc := hD.sub isC hnC hc
  have hFc := va_free (wc := wc) hD hS hA isC hc
  refine va_callv (va_runV (As := As) (rest := rest) S (hC H.size) cw ⟨Pw.blind g (.ref b :: As) wc H.size, (by subst hqC; exact va_recv hK hPc hci he), fun U hU hW => ⟨rfl, by rw [hU], by rw [hU]; exact hPc, va_K.moved hW.alike hK, hDc.weaken (fun _ _ _ _ => trivial)⟩⟩ rfl hn hsz rfl (lv_room hrm) hdg hf) hS (fun q _ h => hFc q h) hFc (fun w t H1 locs1 ht hvm hw hB hz1 hk1 hS1 => ?_)
  obtain ⟨hP1, hK1, hD1⟩ := hB
  rw [ht] at hP1
  obtain ⟨hP2, hD2⟩ := va_join (wr := wr) (w1 := w) hP hD isC isR hc hr hnR hdis hk1 hFc hP1 hD1
  exact kk w H1 locs1 hw hP2 hD2 hS1
theorem call_vS {post : va_W → Prop} (S : CallFix p m c cc nL s args Ts own) (hC : Cv l y ws rm g As wc post) (cw : CallB R s args own index y bytes maxL ret ws rm 0 0 n ∧ (Cond.static y).before args s = true)
    (hP : va_P g.1 vwCl wd H) (hK : va_K g.1 vwCl (tyG g) s) (hD : va_D A wd) (hS : va_S A H0 H locs) (hA : ∀ q, H0.size ≤ q → A q) (isC isR : List Nat) (hc : isC.map (fun i => wd[i]?) = wc.map some) (hr : isR.map (fun i => wd[i]?) = wr.map some) (hnC : va_nd isC = true) (hnR : va_nd isR = true) (hdis : ∀ i ∈ isR, i ∉ isC)
    (hn : As.length = n) (hsz : ls.size = nL) (hst : st0 = As.reverse ++ rest) (hrm : (rest.map fun v => v.category).sum ≤ 8) (hdg : decode cc pc = .ok (.invokestatic index, 3)) (hf : cells + 0 ≤ R.cells ∧ slots + 0 ≤ R.slots)
    (kk : ∀ (w : va_W) (H1 : Heap) (locs1 : List Loc), post w → va_P g.1 vwCl (wr ++ w) H1 → va_D A (wr ++ w) → va_S A H0 H1 locs1 → W p l e R s m args below meth c H1 locs1 cells slots Q (F0 m (pc + 3) ls rest)) : W p l e R s m args below meth c H locs cells slots Q (F0 m pc ls st0) := by
  subst hst
  have hPc : va_P g.1 vwCl wc H := hP.sub isC (fm_of (wc := wc) hc)
  have hDc : va_D A wc := hD.sub isC hnC hc
  have hFc := va_free (wc := wc) hD hS hA isC hc
  refine va_callv (va_runS (As := As) (rest := rest) S (hC H.size) cw ⟨Pw.blind g As wc H.size, fun U hU hW => ⟨rfl, by rw [hU], by rw [hU]; exact hPc, va_K.moved hW.alike hK, hDc.weaken (fun _ _ _ _ => trivial)⟩⟩ rfl hn hsz rfl (lv_room hrm) hdg hf) hS (fun q _ h => hFc q h) hFc (fun w t H1 locs1 ht hvm hw hB hz1 hk1 hS1 => ?_)
  obtain ⟨hP1, hK1, hD1⟩ := hB
  rw [ht] at hP1
  obtain ⟨hP2, hD2⟩ := va_join (wr := wr) (w1 := w) hP hD isC isR hc hr hnR hdis hk1 hFc hP1 hD1
  exact kk w H1 locs1 hw hP2 hD2 hS1
theorem call_iP {post : Int32 → Prop} (S : CallFix p m c cc nL s args Ts own) (hC : Pi l y ws rm As post) (cw : CallB R s args own index y bytes maxL ret ws rm 0 0 n ∧ (Cond.static y).before args s = true)
    (hP : va_P g.1 vwCl wd H) (hK : va_K g.1 vwCl (tyG g) s) (hD : va_D A wd) (hS : va_S A H0 H locs) (hA : ∀ q, H0.size ≤ q → A q)
    (hn : As.length = n) (hsz : ls.size = nL) (hst : st0 = As.reverse ++ rest) (hrm : (rest.map fun v => v.category).sum ≤ 8) (hdg : decode cc pc = .ok (.invokestatic index, 3)) (hf : cells + 0 ≤ R.cells ∧ slots + 0 ≤ R.slots)
    (kk : ∀ (r : Int32) (H1 : Heap) (locs1 : List Loc), post r → va_P g.1 vwCl wd H1 → va_D A wd → va_S A H0 H1 locs1 → W p l e R s m args below meth c H1 locs1 cells slots Q (F0 m (pc + 3) ls (.int r :: rest))) : W p l e R s m args below meth c H locs cells slots Q (F0 m pc ls st0) := by
  refine call_iS (wr := wd) S (hC g) cw hP hK hD hS hA [] (List.range wd.length) rfl (rng_map wd) rfl (nd_of List.nodup_range) (fun i _ h => by cases h) hn hsz hst hrm hdg hf (fun r w H1 locs1 hw hP hD hS => ?_)
  obtain ⟨rfl, hw⟩ := hw
  rw [List.append_nil] at hP hD
  exact kk r H1 locs1 hw hP hD hS
theorem call_lP {post : Int64 → Prop} (S : CallFix p m c cc nL s args Ts own) (hC : Pl l y ws rm As post) (cw : CallB R s args own index y bytes maxL ret ws rm 0 0 n ∧ (Cond.static y).before args s = true)
    (hP : va_P g.1 vwCl wd H) (hK : va_K g.1 vwCl (tyG g) s) (hD : va_D A wd) (hS : va_S A H0 H locs) (hA : ∀ q, H0.size ≤ q → A q)
    (hn : As.length = n) (hsz : ls.size = nL) (hst : st0 = As.reverse ++ rest) (hrm : (rest.map fun v => v.category).sum ≤ 8) (hdg : decode cc pc = .ok (.invokestatic index, 3)) (hf : cells + 0 ≤ R.cells ∧ slots + 0 ≤ R.slots)
    (kk : ∀ (r : Int64) (H1 : Heap) (locs1 : List Loc), post r → va_P g.1 vwCl wd H1 → va_D A wd → va_S A H0 H1 locs1 → W p l e R s m args below meth c H1 locs1 cells slots Q (F0 m (pc + 3) ls (.long r :: rest))) : W p l e R s m args below meth c H locs cells slots Q (F0 m pc ls st0) := by
  refine call_lS (wr := wd) S (hC g) cw hP hK hD hS hA [] (List.range wd.length) rfl (rng_map wd) rfl (nd_of List.nodup_range) (fun i _ h => by cases h) hn hsz hst hrm hdg hf (fun r w H1 locs1 hw hP hD hS => ?_)
  obtain ⟨rfl, hw⟩ := hw
  rw [List.append_nil] at hP hD
  exact kk r H1 locs1 hw hP hD hS
end CALLS
section CALLSW
variable {p : Program} {l : Launch} {e : Env} {R : Room} {s : State} {m : MethodId} {args : Array Value} {below : List Frame} {meth : Method} {c : Code} {H : Heap} {locs : List Loc} {cells slots : Nat} {Q : State → Prop}
variable {cc : ByteArray} {nL maxL n index pc : Nat} {Ts ws : List Cond} {own C : String} {y : MethodName} {bytes : ByteArray} {ret : Option FieldType} {rm : Room} {g : GG} {As rest st0 : List Value} {b : Nat} {wd : va_W} {A : Nat → Prop} {H0 : Heap} {ls : Array Slot}
theorem call_iVW {post : Int32 → va_W → Prop} (S : CallFix p m c cc nL s args Ts own) (hC : Ci l y ws rm g (.ref b :: As) wd post) (cw : CallW R s args own C index y bytes maxL ret ws rm 0 0 n)
    (hP : va_P g.1 vwCl wd H) (hK : va_K g.1 vwCl (tyG g) s) (hD : va_D A wd) (hS : va_S A H0 H locs) (hA : ∀ q, H0.size ≤ q → A q)
    (q0 : Nat) {ci : Nat} {q : vw_C} {fs : List Value} (he : wd[q0]? = some (b, .inr (ci, fs))) (hci : vwCl[ci]? = some q) (hqC : q.1 = C) (hn : As.length = n) (hsz : ls.size = nL) (hst : st0 = As.reverse ++ .ref b :: rest) (hrm : (rest.map fun v => v.category).sum ≤ 8) (hdg : decode cc pc = .ok (.invokevirtual index, 3)) (hf : cells + 0 ≤ R.cells ∧ slots + 0 ≤ R.slots)
    (kk : ∀ (r : Int32) (w : va_W) (H1 : Heap) (locs1 : List Loc), post r w → va_P g.1 vwCl w H1 → va_D A w → va_S A H0 H1 locs1 → W p l e R s m args below meth c H1 locs1 cells slots Q (F0 m (pc + 3) ls (.int r :: rest))) : W p l e R s m args below meth c H locs cells slots Q (F0 m pc ls st0) :=
  call_iV (wr := []) S hC cw hP hK hD hS hA (List.range wd.length) [] (rng_map wd) rfl (nd_of List.nodup_range) rfl (fun i h => by cases h) q0 he hci hqC hn hsz hst hrm hdg hf (fun r w H1 locs1 hw hP hD hS => kk r w H1 locs1 hw hP hD hS)
theorem call_iSW {post : Int32 → va_W → Prop} (S : CallFix p m c cc nL s args Ts own) (hC : Ci l y ws rm g As wd post) (cw : CallB R s args own index y bytes maxL ret ws rm 0 0 n ∧ (Cond.static y).before args s = true)
    (hP : va_P g.1 vwCl wd H) (hK : va_K g.1 vwCl (tyG g) s) (hD : va_D A wd) (hS : va_S A H0 H locs) (hA : ∀ q, H0.size ≤ q → A q)
    (hn : As.length = n) (hsz : ls.size = nL) (hst : st0 = As.reverse ++ rest) (hrm : (rest.map fun v => v.category).sum ≤ 8) (hdg : decode cc pc = .ok (.invokestatic index, 3)) (hf : cells + 0 ≤ R.cells ∧ slots + 0 ≤ R.slots)
    (kk : ∀ (r : Int32) (w : va_W) (H1 : Heap) (locs1 : List Loc), post r w → va_P g.1 vwCl w H1 → va_D A w → va_S A H0 H1 locs1 → W p l e R s m args below meth c H1 locs1 cells slots Q (F0 m (pc + 3) ls (.int r :: rest))) : W p l e R s m args below meth c H locs cells slots Q (F0 m pc ls st0) :=
  call_iS (wr := []) S hC cw hP hK hD hS hA (List.range wd.length) [] (rng_map wd) rfl (nd_of List.nodup_range) rfl (fun i h => by cases h) hn hsz hst hrm hdg hf (fun r w H1 locs1 hw hP hD hS => kk r w H1 locs1 hw hP hD hS)
theorem call_lVW {post : Int64 → va_W → Prop} (S : CallFix p m c cc nL s args Ts own) (hC : Cl l y ws rm g (.ref b :: As) wd post) (cw : CallW R s args own C index y bytes maxL ret ws rm 0 0 n)
    (hP : va_P g.1 vwCl wd H) (hK : va_K g.1 vwCl (tyG g) s) (hD : va_D A wd) (hS : va_S A H0 H locs) (hA : ∀ q, H0.size ≤ q → A q)
    (q0 : Nat) {ci : Nat} {q : vw_C} {fs : List Value} (he : wd[q0]? = some (b, .inr (ci, fs))) (hci : vwCl[ci]? = some q) (hqC : q.1 = C) (hn : As.length = n) (hsz : ls.size = nL) (hst : st0 = As.reverse ++ .ref b :: rest) (hrm : (rest.map fun v => v.category).sum ≤ 8) (hdg : decode cc pc = .ok (.invokevirtual index, 3)) (hf : cells + 0 ≤ R.cells ∧ slots + 0 ≤ R.slots)
    (kk : ∀ (r : Int64) (w : va_W) (H1 : Heap) (locs1 : List Loc), post r w → va_P g.1 vwCl w H1 → va_D A w → va_S A H0 H1 locs1 → W p l e R s m args below meth c H1 locs1 cells slots Q (F0 m (pc + 3) ls (.long r :: rest))) : W p l e R s m args below meth c H locs cells slots Q (F0 m pc ls st0) :=
  call_lV (wr := []) S hC cw hP hK hD hS hA (List.range wd.length) [] (rng_map wd) rfl (nd_of List.nodup_range) rfl (fun i h => by cases h) q0 he hci hqC hn hsz hst hrm hdg hf (fun r w H1 locs1 hw hP hD hS => kk r w H1 locs1 hw hP hD hS)
theorem call_lSW {post : Int64 → va_W → Prop} (S : CallFix p m c cc nL s args Ts own) (hC : Cl l y ws rm g As wd post) (cw : CallB R s args own index y bytes maxL ret ws rm 0 0 n ∧ (Cond.static y).before args s = true)
    (hP : va_P g.1 vwCl wd H) (hK : va_K g.1 vwCl (tyG g) s) (hD : va_D A wd) (hS : va_S A H0 H locs) (hA : ∀ q, H0.size ≤ q → A q)
    (hn : As.length = n) (hsz : ls.size = nL) (hst : st0 = As.reverse ++ rest) (hrm : (rest.map fun v => v.category).sum ≤ 8) (hdg : decode cc pc = .ok (.invokestatic index, 3)) (hf : cells + 0 ≤ R.cells ∧ slots + 0 ≤ R.slots)
    (kk : ∀ (r : Int64) (w : va_W) (H1 : Heap) (locs1 : List Loc), post r w → va_P g.1 vwCl w H1 → va_D A w → va_S A H0 H1 locs1 → W p l e R s m args below meth c H1 locs1 cells slots Q (F0 m (pc + 3) ls (.long r :: rest))) : W p l e R s m args below meth c H locs cells slots Q (F0 m pc ls st0) :=
  call_lS (wr := []) S hC cw hP hK hD hS hA (List.range wd.length) [] (rng_map wd) rfl (nd_of List.nodup_range) rfl (fun i h => by cases h) hn hsz hst hrm hdg hf (fun r w H1 locs1 hw hP hD hS => kk r w H1 locs1 hw hP hD hS)
theorem call_vVW {post : va_W → Prop} (S : CallFix p m c cc nL s args Ts own) (hC : Cv l y ws rm g (.ref b :: As) wd post) (cw : CallW R s args own C index y bytes maxL ret ws rm 0 0 n)
    (hP : va_P g.1 vwCl wd H) (hK : va_K g.1 vwCl (tyG g) s) (hD : va_D A wd) (hS : va_S A H0 H locs) (hA : ∀ q, H0.size ≤ q → A q)
    (q0 : Nat) {ci : Nat} {q : vw_C} {fs : List Value} (he : wd[q0]? = some (b, .inr (ci, fs))) (hci : vwCl[ci]? = some q) (hqC : q.1 = C) (hn : As.length = n) (hsz : ls.size = nL) (hst : st0 = As.reverse ++ .ref b :: rest) (hrm : (rest.map fun v => v.category).sum ≤ 8) (hdg : decode cc pc = .ok (.invokevirtual index, 3)) (hf : cells + 0 ≤ R.cells ∧ slots + 0 ≤ R.slots)
    (kk : ∀ (w : va_W) (H1 : Heap) (locs1 : List Loc), post w → va_P g.1 vwCl w H1 → va_D A w → va_S A H0 H1 locs1 → W p l e R s m args below meth c H1 locs1 cells slots Q (F0 m (pc + 3) ls rest)) : W p l e R s m args below meth c H locs cells slots Q (F0 m pc ls st0) :=
  call_vV (wr := []) S hC cw hP hK hD hS hA (List.range wd.length) [] (rng_map wd) rfl (nd_of List.nodup_range) rfl (fun i h => by cases h) q0 he hci hqC hn hsz hst hrm hdg hf (fun w H1 locs1 hw hP hD hS => kk w H1 locs1 hw hP hD hS)
theorem call_vSW {post : va_W → Prop} (S : CallFix p m c cc nL s args Ts own) (hC : Cv l y ws rm g As wd post) (cw : CallB R s args own index y bytes maxL ret ws rm 0 0 n ∧ (Cond.static y).before args s = true)
    (hP : va_P g.1 vwCl wd H) (hK : va_K g.1 vwCl (tyG g) s) (hD : va_D A wd) (hS : va_S A H0 H locs) (hA : ∀ q, H0.size ≤ q → A q)
    (hn : As.length = n) (hsz : ls.size = nL) (hst : st0 = As.reverse ++ rest) (hrm : (rest.map fun v => v.category).sum ≤ 8) (hdg : decode cc pc = .ok (.invokestatic index, 3)) (hf : cells + 0 ≤ R.cells ∧ slots + 0 ≤ R.slots)
    (kk : ∀ (w : va_W) (H1 : Heap) (locs1 : List Loc), post w → va_P g.1 vwCl w H1 → va_D A w → va_S A H0 H1 locs1 → W p l e R s m args below meth c H1 locs1 cells slots Q (F0 m (pc + 3) ls rest)) : W p l e R s m args below meth c H locs cells slots Q (F0 m pc ls st0) :=
  call_vS (wr := []) S hC cw hP hK hD hS hA (List.range wd.length) [] (rng_map wd) rfl (nd_of List.nodup_range) rfl (fun i h => by cases h) hn hsz hst hrm hdg hf (fun w H1 locs1 hw hP hD hS => kk w H1 locs1 hw hP hD hS)
end CALLSW
section TOPS
variable {p : Program} {l : Launch} {e : Env} {R : Room} {s : State} {m : MethodId} {args : Array Value} {below : List Frame} {meth : Method} {c : Code} {H : Heap} {locs : List Loc} {cells slots : Nat} {Q : State → Prop} {pc : Nat} {ls : Array Slot} {rest : List Value}
theorem tp_i {a b : Int32} (h : a = b) (k : W p l e R s m args below meth c H locs cells slots Q (F0 m pc ls (.int b :: rest))) : W p l e R s m args below meth c H locs cells slots Q (F0 m pc ls (.int a :: rest)) := h ▸ k
theorem tp_l {a b : Int64} (h : a = b) (k : W p l e R s m args below meth c H locs cells slots Q (F0 m pc ls (.long b :: rest))) : W p l e R s m args below meth c H locs cells slots Q (F0 m pc ls (.long a :: rest)) := h ▸ k
theorem tp_2 {a b : Int32} {v : Value} (h : a = b) (k : W p l e R s m args below meth c H locs cells slots Q (F0 m pc ls (v :: .int b :: rest))) : W p l e R s m args below meth c H locs cells slots Q (F0 m pc ls (v :: .int a :: rest)) := h ▸ k
end TOPS
/-- a truth value on the stack -/
def Bv (x : Int32) (P : Prop) : Prop := (x = 1 ∧ P) ∨ (x = 0 ∧ ¬ P)
theorem Bv.t {x : Int32} {P : Prop} (h : Bv x P) (c : ¬ x = 0) : P := by
  rcases h with ⟨-, h⟩ | ⟨h, -⟩
  · exact h
  · exact absurd h c
theorem Bv.f {x : Int32} {P : Prop} (h : Bv x P) (c : x = 0) : ¬ P := by
  rcases h with ⟨h, -⟩ | ⟨-, h⟩
  · rw [c] at h; exact absurd h (by decide)
  · exact h
theorem Bv.yes {P : Prop} (h : P) : Bv 1 P := Or.inl ⟨rfl, h⟩
theorem Bv.no {P : Prop} (h : ¬ P) : Bv 0 P := Or.inr ⟨rfl, h⟩
theorem Bv.z {x : Int32} {P : Prop} (h : Bv x P) : x = 0 ∨ x = 1 := by
  rcases h with ⟨h, -⟩ | ⟨h, -⟩
  · exact Or.inr h
  · exact Or.inl h
theorem Bv.iff {x : Int32} {P P' : Prop} (h : Bv x P) (e : P ↔ P') : Bv x P' := by
  rcases h with ⟨h, a⟩ | ⟨h, a⟩
  · exact Or.inl ⟨h, e.mp a⟩
  · exact Or.inr ⟨h, fun q => a (e.mpr q)⟩
