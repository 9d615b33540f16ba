/-! THE CLAIM OUT OF ONE WALK OF THE LAW'S BODY. Your part is whole_start (and what it stands on); all else here is the same for every law, but numbers. -/
def R_law : String := "GhostGameLaw"
def lw_P (b : Addr) (xs : List Int32) (args : Array Value) (s : State) : Prop := args = #[.ref b] ∧ s.IntsAt b xs ∧ xs.length ≤ 1024 ∧ (Jvm.Cond.and given_1 narrow_1).before args s = true
def lw_Q (_ : Array Value) (s : State) (o : Outcome) (t : State) : Prop := o = .returned (some (.int 1)) ∧ Framed s o t [] 601024 7293034
def lw_Z (below : List Frame) (a : Array Value) (s : State) : State → Prop := fun t => ∃ o, t.status = .running ∧ Ended t below o ∧ lw_Q a s o t
/-- the law's own end, with 1 on the stack, nothing written that was there before, its room as the claim has it -/
theorem lw_ret {p : Program} {l : Launch} {e : Env} {s : State} {m : MethodId} {below : List Frame} {meth : Method} {c : Code} {b : Nat} (hx : p.tables.exec = Jvm.exec) (hb : c.code = code) (hr : meth.sig.returnType = ret) (hlocks : meth.locks = false) {pc : Nat} {H : Heap} {ls : Array Slot} (hdg : decode code pc = .ok (.ireturn, 1)) : W p l e room_1 s m #[Value.ref b] below meth c H [] 601024 7293034 (lw_Z below #[Value.ref b] s) (F0 m pc ls [.int 1]) := by
  intro T hT X
  obtain ⟨fs, hret, hrun, hended, hW, hframe⟩ := X.leave (v := some (.int 1)) (hlocks := hlocks) (fun h => by rw [hr] at h; cases h)
  have hmeth' : T.vm.method? m = some meth := X.method'
  refine ⟨T.setFrames fs, ?_, .returned (some (.int 1)), hrun, hended, rfl, ⟨_, rfl⟩, hW, hframe⟩
  jvm_step X.here [X.here.top, hx, hb, hdg, hmeth', hr, ret, narrow_b1]
  (try refine ⟨rfl, ?_⟩); (try refine ⟨rfl, ?_⟩)
  first | (intro acts; rw [hret _ acts rfl rfl rfl]) | rw [hret _ _ rfl rfl rfl]
  exact Steps.refl _
/-- what holds at the law's entry: the machine, the code, the tables' words (any of lw_tbl by 'hts w (by decide +kernel)'), the script of L ints xs at the cell b, what the Statement gives of the start (any of its parts by flat_of_before) -/
def lw_At (p : Program) (s : State) (m : MethodId) (meth : Method) (c : Code) (b L : Nat) (xs : Nat → Int32) : Prop :=
  p.tables.exec = Jvm.exec ∧ c.code = code ∧ meth.sig.returnType = ret ∧ c.maxLocals = 7 ∧ s.vm.findClass R_law = some m.cls ∧ (∀ w ∈ lw_tbl, w.before #[Value.ref b] s = true) ∧ va_X b L xs s s.heap ∧ b < s.heap.size ∧ meth.locks = false ∧ (Jvm.Cond.and given_1 narrow_1).before #[Value.ref b] s = true
theorem law_exit {p : Program} {l : Launch} {e : Env} {s : State} {m : MethodId} {below : List Frame} {meth : Method} {c : Code} {b L : Nat} {xs : Nat → Int32} {g : GG} {A : Nat → Prop} (C : LC p l s m c b L xs g A) (hA2 : ∀ q, A q → s.heap.size ≤ q) (hr : meth.sig.returnType = ret) (hlocks : meth.locks = false) {H : Heap} {locs : List Loc} {ls : Array Slot} {cells slots : Nat} (hS : va_S A s.heap H locs) (hce : cells ≤ 601024) (hsl : slots ≤ 7293034) : W p l e room_1 s m #[Value.ref b] below meth c H locs cells slots (lw_Z below #[Value.ref b] s) (F0 m 951 ls []) := by
  obtain ⟨hx, hb, hml, hown, hts, hK, hA, hAb, hXk, hNc, hX, hbl, hfl⟩ := C
  refine W.widen (k := 601024) (n := 7293034) hce hsl ?_
  refine va_forget (fun q hq => hA2 _ (hS.2.2 q hq)) ?_
  refine lv_iconst (v := 1) hx hb dL_law_951 (by decide) ?_
  exact lw_ret hx hb hr hlocks dL_law_952
theorem len_sub {L : Nat} (h : 2 ≤ L) : nI L - nI 2 = nI (L - 2) := by
  have e : L = (L - 2) + 2 := by omega
  rw [e, ← nI_add, Int32.add_sub_cancel, Nat.add_sub_cancel]
theorem len_gt {L i : Nat} (hL : L ≤ 1024) (hi : i ≤ 4000) (h : L < i + 2) : nI L - nI 2 < nI i := by
  by_cases h2 : 2 ≤ L
  · rw [len_sub h2]
    exact nI_lt (by omega) (by omega)
  · have h0 : (0 : Int32) ≤ nI i := nI_pos' (by omega)
    rcases (show L = 0 ∨ L = 1 by omega) with rfl | rfl
    · exact Int32.lt_of_lt_of_le (by decide +kernel) h0
    · exact Int32.lt_of_lt_of_le (by decide +kernel) h0
set_option maxHeartbeats 4000000 in
set_option maxRecDepth 100000 in
theorem law_loop {p : Program} {l : Launch} {e : Env} {s : State} {m : MethodId} {below : List Frame} {meth : Method} {c : Code} {b L : Nat} {xs : Nat → Int32} {g : GG} {A : Nat → Prop} (C : LC p l s m c b L xs g A) (hA2 : ∀ q, A q → s.heap.size ≤ q) (hr : meth.sig.returnType = ret) (hlocks : meth.locks = false) (hL : L ≤ 1024) {x h o : Nat} : ∀ (n it : Nat), it + n = 514 → ∀ (fo : Nat → Int64) (wF wM : va_W) (th : Int32) (H : Heap) (locs : List Loc) (ls : Array Slot), IV g x h wF wM th → va_P g.1 vwCl ((OC g o fo :: wF) ++ wM) H → va_D A ((OC g o fo :: wF) ++ wM) → va_S A s.heap H locs → lv_has ls 7 (LV b x h o (2 * it)) → W p l e room_1 s m #[Value.ref b] below meth c H locs (17 + it) (3410 + 6 * it) (lw_Z below #[Value.ref b] s) (F0 m 23 ls []) := by
  intro n
  induction n with
  | zero =>
    intro it hit fo wF wM th H locs ls hI hP hD hS hl
    obtain ⟨hx, hb, hml, hown, hts, hK, hA, hAb, hXk, hNc, hX, hbl, hfl⟩ := C
    refine lv_iload hx hb dL_law_23 (lv_at hl 4 rfl) ?_
    refine lv_aload_n hx hb dL_law_25 rfl (lv_at hl 0 rfl) ?_
    refine va_slen hx hb hX hbl hAb hS dL_law_26 ?_
    refine lv_iconst (v := nI 2) hx hb dL_law_27 (by decide) ?_
    refine lv_isub hx hb dL_law_28 ?_
    refine lv_icmp_gt (tgt := 951) hx hb dL_law_29 (by decide) (fun _ => ?_) (fun c9 => absurd (len_gt (i := 2 * it) hL (by omega) (by omega)) c9)
    exact law_exit ⟨hx, hb, hml, hown, hts, hK, hA, hAb, hXk, hNc, hX, hbl, hfl⟩ hA2 hr hlocks hS (by omega) (by omega)
  | succ n ih =>
    intro it hit fo wF wM th H locs ls hI hP hD hS hl
    have C9 := C
    obtain ⟨hx, hb, hml, hown, hts, hK, hA, hAb, hXk, hNc, hX, hbl, hfl⟩ := C9
    refine lv_iload hx hb dL_law_23 (lv_at hl 4 rfl) ?_
    refine lv_aload_n hx hb dL_law_25 rfl (lv_at hl 0 rfl) ?_
    refine va_slen hx hb hX hbl hAb hS dL_law_26 ?_
    refine lv_iconst (v := nI 2) hx hb dL_law_27 (by decide) ?_
    refine lv_isub hx hb dL_law_28 ?_
    by_cases hc : 2 * it + 1 < L
    case neg =>
      refine lv_icmp_gt (tgt := 951) hx hb dL_law_29 (by decide) (fun _ => ?_) (fun c9 => absurd (len_gt (i := 2 * it) hL (by omega) (by omega)) c9)
      exact law_exit C hA2 hr hlocks hS (by omega) (by omega)
    refine lv_icmp_gt (tgt := 951) hx hb dL_law_29 (by decide) (fun c9 => absurd c9 (by show ¬ nI L - nI 2 < nI (2 * it); rw [len_sub (by omega)]; exact nI_nlt (by omega) (by omega))) (fun _ => ?_)
    refine lv_aload_n hx hb dL_law_32 rfl (lv_at hl 0 rfl) ?_
    refine lv_iload hx hb dL_law_33 (lv_at hl 4 rfl) ?_
    refine va_sld hx hb hX hbl hAb hS (i := nI (2 * it)) (vp_in_nI (by omega) (by omega)) dL_law_35 ?_
    refine lv_bipush (v := nI 31) hx hb dL_law_36 (by decide +kernel) ?_
    refine lv_iand hx hb dL_law_38 ?_
    have tail : ∀ (fo : Nat → Int64) (wF wM : va_W) (th : Int32) (H : Heap) (locs : List Loc) (ls : Array Slot), IV g x h wF wM th → va_P g.1 vwCl ((OC g o fo :: wF) ++ wM) H → va_D A ((OC g o fo :: wF) ++ wM) → va_S A s.heap H locs → lv_has ls 7 (LV b x h o (2 * it)) → W p l e room_1 s m #[Value.ref b] below meth c H locs (17 + it + 1) (3410 + 6 * it + 6) (lw_Z below #[Value.ref b] s) (F0 m 945 ls []) := by
      intro fo wF wM th H locs ls hI hP hD hS hl
      refine lv_iinc (k := 4) (v := nI (2 * it + 2)) (lv' := [(4, .int (nI (2 * it + 2))), (0, .ref b), (1, .ref x), (2, .ref h), (3, .ref o)]) hx hb dL_law_945 hl rfl (by rw [show Int32.ofInt 2 = nI 2 from by decide +kernel, nI_add]) (by decide) rfl (fun ls hl => ?_)
      refine lv_goto (tgt := 23) hx hb dL_law_948 (by decide) ?_
      refine W.widen (k := 17 + (it + 1)) (n := 3410 + 6 * (it + 1)) (by omega) (by omega) ?_
      exact ih (it + 1) (by omega) fo wF wM th H locs ls hI hP hD hS (lv_sub hl [1, 2, 3, 4, 0] rfl)
    obtain ⟨j, hj, ej⟩ := pk_andE (xs (nI (2 * it)).toNatClampNeg) (m := nI 31) 5 (by decide +kernel)
    rw [ej]
    rcases (show j = 0 ∨ j = 1 ∨ j = 2 ∨ j = 3 ∨ j = 4 ∨ j = 5 ∨ j = 6 ∨ j = 7 ∨ j = 8 ∨ j = 9 ∨ j = 10 ∨ j = 11 ∨ j = 12 ∨ j = 13 ∨ j = 14 ∨ j = 15 ∨ j = 16 ∨ j = 17 ∨ j = 18 ∨ j = 19 ∨ j = 20 ∨ j = 21 ∨ j = 22 ∨ j = 23 ∨ j = 24 ∨ j = 25 ∨ j = 26 ∨ j = 27 ∨ 28 ≤ j by omega) with rfl | rfl | rfl | rfl | rfl | rfl | rfl | rfl | rfl | rfl | rfl | rfl | rfl | rfl | rfl | rfl | rfl | rfl | rfl | rfl | rfl | rfl | rfl | rfl | rfl | rfl | rfl | rfl | h28
    · refine lv_tableIn (tgt := 164) (off := 125) hx hb dL_law_39 (by decide +kernel) (by decide +kernel) (by decide +kernel) (by decide) ?_
      exact op_write C hI hP hD hS hc hL hl (by omega) (by omega) tail
    · refine lv_tableIn (tgt := 220) (off := 181) hx hb dL_law_39 (by decide +kernel) (by decide +kernel) (by decide +kernel) (by decide) ?_
      exact op_wipe C hI hP hD hS hc hL hl (by omega) (by omega) tail
    · refine lv_tableIn (tgt := 233) (off := 194) hx hb dL_law_39 (by decide +kernel) (by decide +kernel) (by decide +kernel) (by decide) ?_
      exact op_slipLength C hI hP hD hS hc hL hl (by omega) (by omega) tail
    · refine lv_tableIn (tgt := 246) (off := 207) hx hb dL_law_39 (by decide +kernel) (by decide +kernel) (by decide +kernel) (by decide) ?_
      exact op_slipAt C hI hP hD hS hc hL hl (by omega) (by omega) tail
    · refine lv_tableIn (tgt := 302) (off := 263) hx hb dL_law_39 (by decide +kernel) (by decide +kernel) (by decide +kernel) (by decide) ?_
      exact op_addWord C hI hP hD hS hc hL hl (by omega) (by omega) tail
    · refine lv_tableIn (tgt := 346) (off := 307) hx hb dL_law_39 (by decide +kernel) (by decide +kernel) (by decide +kernel) (by decide) ?_
      exact op_removeWord C hI hP hD hS hc hL hl (by omega) (by omega) tail
    · refine lv_tableIn (tgt := 390) (off := 351) hx hb dL_law_39 (by decide +kernel) (by decide +kernel) (by decide +kernel) (by decide) ?_
      exact op_isWord C hI hP hD hS hc hL hl (by omega) (by omega) tail
    · refine lv_tableIn (tgt := 403) (off := 364) hx hb dL_law_39 (by decide +kernel) (by decide +kernel) (by decide +kernel) (by decide) ?_
      exact op_words C hI hP hD hS hc hL hl (by omega) (by omega) tail
    · refine lv_tableIn (tgt := 416) (off := 377) hx hb dL_law_39 (by decide +kernel) (by decide +kernel) (by decide +kernel) (by decide) ?_
      exact op_wordsFromSlip C hI hP hD hS hc hL hl (by omega) (by omega) tail
    · refine lv_tableIn (tgt := 429) (off := 390) hx hb dL_law_39 (by decide +kernel) (by decide +kernel) (by decide +kernel) (by decide) ?_
      exact op_beginnings C hI hP hD hS hc hL hl (by omega) (by omega) tail
    · refine lv_tableIn (tgt := 442) (off := 403) hx hb dL_law_39 (by decide +kernel) (by decide +kernel) (by decide +kernel) (by decide) ?_
      exact op_copyWord C hI hP hD hS hc hL hl (by omega) (by omega) tail
    · refine lv_tableIn (tgt := 498) (off := 459) hx hb dL_law_39 (by decide +kernel) (by decide +kernel) (by decide +kernel) (by decide) ?_
      exact op_setLeastLength C hI hP hD hS hc hL hl (by omega) (by omega) tail
    · refine lv_tableIn (tgt := 554) (off := 515) hx hb dL_law_39 (by decide +kernel) (by decide +kernel) (by decide +kernel) (by decide) ?_
      exact op_start C hI hP hD hS hc hL hl (by omega) (by omega) tail
    · refine lv_tableIn (tgt := 590) (off := 551) hx hb dL_law_39 (by decide +kernel) (by decide +kernel) (by decide +kernel) (by decide) ?_
      exact op_play C hI hP hD hS hc hL hl (by omega) (by omega) tail
    · refine lv_tableIn (tgt := 646) (off := 607) hx hb dL_law_39 (by decide +kernel) (by decide +kernel) (by decide +kernel) (by decide) ?_
      exact op_challenge C hI hP hD hS hc hL hl (by omega) (by omega) tail
    · refine lv_tableIn (tgt := 690) (off := 651) hx hb dL_law_39 (by decide +kernel) (by decide +kernel) (by decide +kernel) (by decide) ?_
      exact op_turn C hI hP hD hS hc hL hl (by omega) (by omega) tail
    · refine lv_tableIn (tgt := 703) (off := 664) hx hb dL_law_39 (by decide +kernel) (by decide +kernel) (by decide +kernel) (by decide) ?_
      exact op_winner C hI hP hD hS hc hL hl (by omega) (by omega) tail
    · refine lv_tableIn (tgt := 716) (off := 677) hx hb dL_law_39 (by decide +kernel) (by decide +kernel) (by decide +kernel) (by decide) ?_
      exact op_players C hI hP hD hS hc hL hl (by omega) (by omega) tail
    · refine lv_tableIn (tgt := 729) (off := 690) hx hb dL_law_39 (by decide +kernel) (by decide +kernel) (by decide +kernel) (by decide) ?_
      exact op_strikes C hI hP hD hS hc hL hl (by omega) (by omega) tail
    · refine lv_tableIn (tgt := 785) (off := 746) hx hb dL_law_39 (by decide +kernel) (by decide +kernel) (by decide +kernel) (by decide) ?_
      exact op_fragmentLength C hI hP hD hS hc hL hl (by omega) (by omega) tail
    · refine lv_tableIn (tgt := 798) (off := 759) hx hb dL_law_39 (by decide +kernel) (by decide +kernel) (by decide +kernel) (by decide) ?_
      exact op_fragmentAt C hI hP hD hS hc hL hl (by omega) (by omega) tail
    · refine lv_tableIn (tgt := 854) (off := 815) hx hb dL_law_39 (by decide +kernel) (by decide +kernel) (by decide +kernel) (by decide) ?_
      exact op_openLetters C hI hP hD hS hc hL hl (by omega) (by omega) tail
    · refine lv_tableIn (tgt := 867) (off := 828) hx hb dL_law_39 (by decide +kernel) (by decide +kernel) (by decide +kernel) (by decide) ?_
      exact op_winningLetters C hI hP hD hS hc hL hl (by omega) (by omega) tail
    · refine lv_tableIn (tgt := 880) (off := 841) hx hb dL_law_39 (by decide +kernel) (by decide +kernel) (by decide +kernel) (by decide) ?_
      exact op_canWin C hI hP hD hS hc hL hl (by omega) (by omega) tail
    · refine lv_tableIn (tgt := 893) (off := 854) hx hb dL_law_39 (by decide +kernel) (by decide +kernel) (by decide +kernel) (by decide) ?_
      exact op_end C hI hP hD hS hc hL hl (by omega) (by omega) tail
    · refine lv_tableIn (tgt := 906) (off := 867) hx hb dL_law_39 (by decide +kernel) (by decide +kernel) (by decide +kernel) (by decide) ?_
      exact op_bestLetter C hI hP hD hS hc hL hl (by omega) (by omega) tail
    · refine lv_tableIn (tgt := 919) (off := 880) hx hb dL_law_39 (by decide +kernel) (by decide +kernel) (by decide +kernel) (by decide) ?_
      exact op_waysToPlay C hI hP hD hS hc hL hl (by omega) (by omega) tail
    · refine lv_tableIn (tgt := 932) (off := 893) hx hb dL_law_39 (by decide +kernel) (by decide +kernel) (by decide +kernel) (by decide) ?_
      exact op_waysToWin C hI hP hD hS hc hL hl (by omega) (by omega) tail
    · refine lv_tableOut (tgt := 945) hx hb dL_law_39 (Or.inr (by rw [nI_toInt (by omega)]; omega)) (by decide) ?_
      exact W.widen (k := 17 + it + 1) (n := 3410 + 6 * it + 6) (by omega) (by omega) (tail fo wF wM th H locs ls hI hP hD hS hl)
theorem iv_start (g : GG) (x h q u d v : Nat) (a : Nat → Nat) : IV g x h (FW g x (lN 0) q u (fun _ => 0) (nI 0) (-1) (-1) (-1) (lN 0) d v (fun _ => 0) (nI 0) (nI 3)) (MW g h a (nI 0) (nI 0) (nI 3) (nI 0) (nI 0) (nI 0) (-1) (nI 0) (nI 0) (fun _ => 0) (fun _ => 0) (fun _ => 0) (fun _ => 0) (fun _ => 0) (fun _ => 0) (fun _ => 0) (fun _ => 0) (fun _ => 0) (fun _ => 0)) (nI 0) := by
  have hk : GK (fun _ => 0) (fun _ => 0) := fun i hi => ⟨nI_0.symm, Nat.zero_le _⟩
  refine IV.of (SL := 0) (F := 0) (K := fun _ => 0) (S := fun _ => 0) (D := fun _ => 0) rfl rfl (by rw [rwL0]) (by rw [rwL0]) ⟨RV.zero, RV.zero, hk, by omega, fun i hi => absurd hi (Nat.not_lt_zero _), by omega, by omega, fun i hi => absurd hi (Nat.not_lt_zero _), MRw.nil _, MRw.nil _, hk, ⟨fun _ => rfl, fun i j _ hj => absurd hj (Nat.not_lt_zero _), fun i hi => absurd hi (Nat.not_lt_zero _)⟩, GR.none⟩
set_option maxHeartbeats 4000000 in
set_option maxRecDepth 100000 in
theorem law_begin {p : Program} {l : Launch} {e : Env} {s : State} {m : MethodId} {below : List Frame} {meth : Method} {c : Code} {b L : Nat} {xs : Nat → Int32} {g : GG} {A : Nat → Prop} (C : LC p l s m c b L xs g A) (hA2 : ∀ q, A q → s.heap.size ≤ q) (hr : meth.sig.returnType = ret) (hlocks : meth.locks = false) (hL : L ≤ 1024) {ls : Array Slot} (hl : lv_has ls 7 [(0, .ref b)]) : W p l e room_1 s m #[Value.ref b] below meth c s.heap [] 0 0 (lw_Z below #[Value.ref b] s) (F0 m 0 ls []) := by
  have C9 := C
  obtain ⟨hx, hb, hml, hown, hts, hK, hA, hAb, hXk, hNc, hX, hbl, hfl⟩ := C9
  have hP : va_P g.1 vwCl [] s.heap := fun k q h9 => by
    have h8 : (none : Option (Nat × va_E)) = some q := h9
    cases h8
  have hD : va_D A [] := by
    refine ⟨fun i j p q h9 _ => ?_, fun k q h9 => ?_⟩
    · have h8 : (none : Option (Nat × va_E)) = some p := h9
      cases h8
    · have h8 : (none : Option (Nat × va_E)) = some q := h9
      cases h8
  have hS : va_S A s.heap s.heap [] := va_S.rf
  refine va_new (ci := 2) (fs := [.null, .null, .long 0]) (C := RX4) (T := TX4) (N := 3) hx hb hts inX4 tyX4 tyX4_ok hown (hts (.classLink RL 8 RX4) (List.mem_of_getElem? (i := 39) (by decide +kernel))) (hts (.instantiable RX4 3) (List.mem_of_getElem? (i := 40) (by decide +kernel))) (hts (.initialized RX4) (List.mem_of_getElem? (i := 26) (by decide +kernel))) hK hP hD hS hA rfl (fun j hj => by rcases (show j = 0 ∨ j = 1 ∨ j = 2 by omega) with rfl | rfl | rfl <;> rfl) (Nat.le_of_ble_eq_true rfl) (Nat.le_of_ble_eq_true rfl) dL_law_0 (fun x H hP hD hS => ?_)
  have hP : va_P g.1 vwCl [(x, .inr (2, [.null, .null, .long 0]))] H := hP
  have hD : va_D A [(x, .inr (2, [.null, .null, .long 0]))] := hD
  refine lv_dup hx hb dL_law_3 rfl ?_
  refine call_nI (As := []) (rest := [.ref x]) (wr := []) ⟨hx, hb, hml, hown, hts⟩ (c_X4_init l g x) (cwI 0 hts gT_X4_init rfl rfl rfl (hts (.initialized RX4) (List.mem_of_getElem? (i := 26) (by decide +kernel))) (hts (.methodLink RL 51 yX4_init) (List.mem_of_getElem? (i := 41) (by decide +kernel))) (hts (.instanceMethod yX4_init) (List.mem_of_getElem? (i := 42) (by decide +kernel))) rfl (by decide +kernel) ⟨Nat.le_of_ble_eq_true rfl, Nat.le_of_ble_eq_true rfl⟩) hP hK hD hS hA [0] [] rfl rfl (by decide) (by decide) (by decide) rfl hl.1 rfl (Nat.le_of_ble_eq_true rfl) dL_law_4 ⟨Nat.le_of_ble_eq_true rfl, Nat.le_of_ble_eq_true rfl⟩ (fun w H locs hw hP hD hS => ?_)
  obtain ⟨q, u, d, v, rfl⟩ := hw
  have hP : va_P g.1 vwCl [(x, .inr (2, [.ref d, .ref q, .long (lN 0)])), (d, .inr (0, [.ref v, .int (nI 0), .int (nI 3)])), (v, .inl (g.2.2.1, 50, .inr (.inl (fun _ => 0)))), (q, .inr (1, [.ref u, .int (nI 0), .int (-1), .int (-1), .int (-1), .long (lN 0)])), (u, .inl (g.2.1, 4, .inl (fun _ => 0)))] H := hP
  have hD : va_D A [(x, .inr (2, [.ref d, .ref q, .long (lN 0)])), (d, .inr (0, [.ref v, .int (nI 0), .int (nI 3)])), (v, .inl (g.2.2.1, 50, .inr (.inl (fun _ => 0)))), (q, .inr (1, [.ref u, .int (nI 0), .int (-1), .int (-1), .int (-1), .long (lN 0)])), (u, .inl (g.2.1, 4, .inl (fun _ => 0)))] := hD
  refine lv_astore_n (lv' := [(1, .ref x), (0, .ref b)]) hx hb dL_law_7 rfl hl (by decide) rfl (fun ls hl => ?_)
  refine va_new (ci := 3) (fs := [.null, .int 0, .null, .null, .int 0, .int 0, .int 0, .null, .int 0, .int 0, .int 0, .null, .int 0, .null, .null, .null, .null, .null, .int 0]) (C := RX5) (T := TX5) (N := 19) hx hb hts inX5 tyX5 tyX5_ok hown (hts (.classLink RL 52 RX5) (List.mem_of_getElem? (i := 559) (by decide +kernel))) (hts (.instantiable RX5 19) (List.mem_of_getElem? (i := 560) (by decide +kernel))) (hts (.initialized RX5) (List.mem_of_getElem? (i := 29) (by decide +kernel))) hK hP hD hS hA rfl (fun j hj => by rcases (show j = 0 ∨ j = 1 ∨ j = 2 ∨ j = 3 ∨ j = 4 ∨ j = 5 ∨ j = 6 ∨ j = 7 ∨ j = 8 ∨ j = 9 ∨ j = 10 ∨ j = 11 ∨ j = 12 ∨ j = 13 ∨ j = 14 ∨ j = 15 ∨ j = 16 ∨ j = 17 ∨ j = 18 by omega) with rfl | rfl | rfl | rfl | rfl | rfl | rfl | rfl | rfl | rfl | rfl | rfl | rfl | rfl | rfl | rfl | rfl | rfl | rfl <;> rfl) (Nat.le_of_ble_eq_true rfl) (Nat.le_of_ble_eq_true rfl) dL_law_8 (fun h H hP hD hS => ?_)
  refine lv_dup hx hb dL_law_11 rfl ?_
  refine call_nI (As := []) (rest := [.ref h]) (wr := [(x, .inr (2, [.ref d, .ref q, .long (lN 0)])), (d, .inr (0, [.ref v, .int (nI 0), .int (nI 3)])), (v, .inl (g.2.2.1, 50, .inr (.inl (fun _ => 0)))), (q, .inr (1, [.ref u, .int (nI 0), .int (-1), .int (-1), .int (-1), .long (lN 0)])), (u, .inl (g.2.1, 4, .inl (fun _ => 0)))]) ⟨hx, hb, hml, hown, hts⟩ (c_X5_init l g h) (cwI 0 hts gT_X5_init rfl rfl rfl (hts (.initialized RX5) (List.mem_of_getElem? (i := 29) (by decide +kernel))) (hts (.methodLink RL 54 yX5_init) (List.mem_of_getElem? (i := 561) (by decide +kernel))) (hts (.instanceMethod yX5_init) (List.mem_of_getElem? (i := 562) (by decide +kernel))) rfl (by decide +kernel) ⟨Nat.le_of_ble_eq_true rfl, Nat.le_of_ble_eq_true rfl⟩) hP hK hD hS hA [5] [0, 1, 2, 3, 4] rfl rfl (by decide) (by decide) (by decide) rfl hl.1 rfl (Nat.le_of_ble_eq_true rfl) dL_law_12 ⟨Nat.le_of_ble_eq_true rfl, Nat.le_of_ble_eq_true rfl⟩ (fun w H locs hw hP hD hS => ?_)
  obtain ⟨a, rfl⟩ := hw
  refine lv_astore_n (lv' := [(2, .ref h), (1, .ref x), (0, .ref b)]) hx hb dL_law_15 rfl hl (by decide) rfl (fun ls hl => ?_)
  refine lv_iconst (v := nI 1) hx hb dL_law_16 (by decide) ?_
  refine na_j (N := 1) hx hb (hts (.arrayClass .long) (List.mem_of_getElem? (i := 63) (by decide +kernel))) hK hP hD hS hA (nI_pos (n := 1) (by omega)) (nI_clamp (n := 1) (by omega)) (Nat.le_of_ble_eq_true rfl) (Nat.le_of_ble_eq_true rfl) (Nat.le_of_ble_eq_true rfl) dL_law_17 (fun o H hP hD hS => ?_)
  refine lv_astore_n (lv' := [(3, .ref o), (2, .ref h), (1, .ref x), (0, .ref b)]) hx hb dL_law_19 rfl hl (by decide) rfl (fun ls hl => ?_)
  refine lv_iconst (v := nI 0) hx hb dL_law_20 (by decide) ?_
  refine lv_istore (lv' := [(4, .int (nI 0)), (3, .ref o), (2, .ref h), (1, .ref x), (0, .ref b)]) hx hb dL_law_21 hl (by decide) rfl (fun ls hl => ?_)
  have hP : va_P g.1 vwCl ((OC g o (fun _ => 0) :: (FW g x (lN 0) q u (fun _ => 0) (nI 0) (-1) (-1) (-1) (lN 0) d v (fun _ => 0) (nI 0) (nI 3))) ++ (MW g h a (nI 0) (nI 0) (nI 3) (nI 0) (nI 0) (nI 0) (-1) (nI 0) (nI 0) (fun _ => 0) (fun _ => 0) (fun _ => 0) (fun _ => 0) (fun _ => 0) (fun _ => 0) (fun _ => 0) (fun _ => 0) (fun _ => 0) (fun _ => 0))) H := hP.sub [16, 0, 3, 4, 1, 2, 5, 6, 7, 8, 9, 10, 11, 12, 13, 14, 15] rfl
  have hD : va_D A ((OC g o (fun _ => 0) :: (FW g x (lN 0) q u (fun _ => 0) (nI 0) (-1) (-1) (-1) (lN 0) d v (fun _ => 0) (nI 0) (nI 3))) ++ (MW g h a (nI 0) (nI 0) (nI 3) (nI 0) (nI 0) (nI 0) (-1) (nI 0) (nI 0) (fun _ => 0) (fun _ => 0) (fun _ => 0) (fun _ => 0) (fun _ => 0) (fun _ => 0) (fun _ => 0) (fun _ => 0) (fun _ => 0) (fun _ => 0))) := hD.sub [16, 0, 3, 4, 1, 2, 5, 6, 7, 8, 9, 10, 11, 12, 13, 14, 15] (by decide) rfl
  refine W.widen (k := 17 + 0) (n := 3410 + 6 * 0) (by decide) (by decide) ?_
  exact law_loop C hA2 hr hlocks hL 514 0 rfl _ _ _ _ _ _ _ (iv_start g x h q u d v a) hP hD hS (lv_sub hl [4, 3, 2, 1, 0] rfl)
theorem xB_in : ∀ w ∈ xBw, w ∈ lw_tbl := lw_pl _ [319, 321, 323, 317, 386, 412] (by decide +kernel)
theorem xT_in : ∀ w ∈ xTx.map (fun q => Cond.stringRef RX4 q.1 q.2), w ∈ lw_tbl := lw_pl _ [356, 393, 419, 433, 438, 450, 459, 467, 479, 495, 533, 550, 558] (by decide +kernel)
theorem fC_of {s : State} {ag : Array Value} {C : String} {N : Nat} (h : (Cond.instantiable C N).before ag s = true) : ∃ cC, s.vm.findClass C = some cC := by
  obtain ⟨cC, kC, hfc, -⟩ := Cond.instantiable_spec h
  exact ⟨cC, hfc⟩
theorem arr_of {s : State} {ag : Array Value} {ty : FieldType} (h : (Cond.arrayClass ty).before ag s = true) : ∃ cA, s.vm.findClass ("[" ++ ty.toString) = some cA ∧ ArrOfT s cA ty := by
  obtain ⟨cA, kA, comp, h1, h2, h3⟩ := Cond.arrayClass_spec h
  exact ⟨cA, h1, fun n z => ⟨fun k h9 => (by cases h9), kA, h2, comp, h3⟩⟩
set_option maxHeartbeats 4000000 in
set_option maxRecDepth 100000 in
theorem whole_start {p : Program} {e : Env} {s : State} {m : MethodId} {below : List Frame} {meth : Method} {c : Code} (l : Launch) (hflags : l.flags = flags0) {b L : Nat} {xs : Nat → Int32} (hL : L ≤ 1024) (C0 : lw_At p s m meth c b L xs) : W p l e room_1 s m #[Value.ref b] below meth c s.heap [] 0 0 (lw_Z below #[Value.ref b] s) (entryFrame m ([Value.ref b] : List Value).toArray 7) := by
  obtain ⟨hx, hb, hr, hml, hown0, hts, hX, hbl, hlocks, hgv⟩ := C0
  have hs := flat_of_before _ hgv
  have hown : s.vm.findClass RL = some m.cls := hown0
  obtain ⟨c0, i0, k0⟩ := u_known (C := RX0) (T := TX0) (N := 3) hts inX0 (hts (.instantiable RX0 3) (List.mem_of_getElem? (i := 48) (by decide +kernel)))
  obtain ⟨c1, i1, k1⟩ := u_known (C := RX1) (T := TX1) (N := 6) hts inX1 (hts (.instantiable RX1 6) (List.mem_of_getElem? (i := 65) (by decide +kernel)))
  obtain ⟨c4, i4, k4⟩ := u_known (C := RX4) (T := TX4) (N := 3) hts inX4 (hts (.instantiable RX4 3) (List.mem_of_getElem? (i := 40) (by decide +kernel)))
  obtain ⟨c5, i5, k5⟩ := u_known (C := RX5) (T := TX5) (N := 19) hts inX5 (hts (.instantiable RX5 19) (List.mem_of_getElem? (i := 560) (by decide +kernel)))
  obtain ⟨cI, nI1, aI⟩ := arr_of (hts (.arrayClass .int) (List.mem_of_getElem? (i := 89) (by decide +kernel)))
  obtain ⟨cJ, nJ1, aJ⟩ := arr_of (hts (.arrayClass .long) (List.mem_of_getElem? (i := 63) (by decide +kernel)))
  obtain ⟨cZ, nZ1, aZ⟩ := arr_of (hts (.arrayClass .boolean) (List.mem_of_getElem? (i := 623) (by decide +kernel)))
  have hK : va_K ((fun k => match k with | 0 => c0 | 1 => c1 | 2 => c4 | _ => c5), (fun k => match k with | 0 => i0 | 1 => i1 | 2 => i4 | _ => i5)) vwCl [(cI, .int), (cJ, .long), (cZ, .boolean)] s := by
    refine ⟨fun k q hq => ?_, fun k q hk => ?_⟩
    · rcases k with _ | _ | _ | _ | k
      · cases hq; exact k0
      · cases hq; exact k1
      · cases hq; exact k4
      · cases hq; exact k5
      · have h9 : (none : Option vw_C) = some q := hq
        cases h9
    · rcases k with _ | _ | _ | k
      · cases hk; exact ⟨aI, nI1⟩
      · cases hk; exact ⟨aJ, nJ1⟩
      · cases hk; exact ⟨aZ, nZ1⟩
      · have h9 : (none : Option (ClassId × FieldType)) = some q := hk
        cases h9
  have hfc4 : s.vm.findClass RX4 = some c4 := by
    obtain ⟨cC, hc⟩ := fC_of (hts (.instantiable RX4 3) (List.mem_of_getElem? (i := 40) (by decide +kernel)))
    rw [hc, ← hc]
    exact k4.2.1
  have hXk : Xk (fun q => s.heap.size ≤ q) s := by
    refine ⟨vx_Zqof (args := #[Value.ref b]) (hts (.laysStatic Bundle.tN "UNASSIGNED_STACK" Bundle.steD) (List.mem_of_getElem? (i := 342) (by decide +kernel))) (hts (.initialized Bundle.tN) (List.mem_of_getElem? (i := 30) (by decide +kernel))) (hs (Cond.isRef (.static "java/lang/Throwable" "UNASSIGNED_STACK" "[Ljava/lang/StackTraceElement;")) (by decide +kernel)) (fun q9 h9 => Nat.not_le.mpr h9), vx_Zqof (args := #[Value.ref b]) (hts (.laysStatic Bundle.tN "SUPPRESSED_SENTINEL" Bundle.listD) (List.mem_of_getElem? (i := 344) (by decide +kernel))) (hts (.initialized Bundle.tN) (List.mem_of_getElem? (i := 30) (by decide +kernel))) (hs (Cond.isRef (.static "java/lang/Throwable" "SUPPRESSED_SENTINEL" "Ljava/util/List;")) (by decide +kernel)) (fun q9 h9 => Nat.not_le.mpr h9), fun w hw => xb_move hw (State.WarmedH.refl s) (hts w (xB_in w hw)), fun q hq => ?_⟩
    have h1 := hts _ (xT_in _ (List.mem_map.mpr ⟨q, hq, rfl⟩))
    obtain ⟨kc, cf, ic, sa, -, -, -, -, -, h2⟩ := Cond.stringRef_spec hfc4 h1
    exact ⟨sa, vk_R.of h1 h2⟩
  have C : LC p l s m c b L xs (((fun k => match k with | 0 => c0 | 1 => c1 | 2 => c4 | _ => c5), (fun k => match k with | 0 => i0 | 1 => i1 | 2 => i4 | _ => i5)), (cI, cJ, cZ)) (fun q => s.heap.size ≤ q) := ⟨hx, hb, hml, hown, hts, hK, fun q h => h, Nat.not_le.mpr hbl, hXk, va_Nc.of (hs (Cond.not (.castable "java/lang/IllegalStateException" "java/lang/IllegalArgumentException")) (by decide +kernel)), hX, hbl, hflags⟩
  rw [lg_entry_eq]
  exact law_begin C (fun q h => h) hr hlocks hL (lv_entry [Value.ref b] (n := 7) (Nat.le_of_ble_eq_true rfl))
set_option maxHeartbeats 4000000 in
theorem lw_walk (l : Launch) (hflags : l.flags = flags0) (b : Addr) (xs : List Int32) : MetFree l x (headSpec (Jvm.Cond.code x code maxLocals ret :: tables_1) room_1) (lw_P b xs) (fun _ _ _ _ _ => True) lw_Q := by
  refine MetFree.of_bodyS (code := code) (maxLocals := maxLocals) (ret := ret) (by decide) ?_ ?_
  · intro args s m h hn
    obtain ⟨meth, c, h1, h2, h3, h4, h5, h6, -, -⟩ := Cond.code_spec hn (atoms_spec (ws := Jvm.Cond.code x code maxLocals ret :: tables_1) h _ List.mem_cons_self)
    exact ⟨meth, c, h1, h2, h3, h4, h5, h6⟩
  · intro p e s m args below meth c s₁ B hml0 hP _
    obtain ⟨rfl, hx, hbd, hgv⟩ := hP
    obtain ⟨scr, harrAt, hlist, hof, hsmall⟩ := hx
    obtain ⟨hcb, hkn, -, -⟩ := State.arrayAt?_spec harrAt
    have hown : s.vm.findClass R_law = some m.cls := findClass_of_methodNamed B.named
    have hts0 : ∀ c ∈ (Jvm.Cond.code x code maxLocals ret :: tables_1), c.before #[Value.ref b] s = true := atoms_spec (ws := Jvm.Cond.code x code maxLocals ret :: tables_1) B.pre
    have hts : ∀ w ∈ lw_tbl, w.before #[Value.ref b] s = true := k2_hts_sels lw_privs (fun w hw => hts0 w (List.mem_cons_of_mem _ hw)) lw_privs_ok
    have hml : c.maxLocals = 7 := B.maxLocals_eq (hts0 _ List.mem_cons_self)
    have X₀ : Stand p l e room_1 s m #[Value.ref b] below meth c s₁ [] 0 0 := Stand.of_body B
    have hh0 : s₁.heap = s.heap := by rw [B.state]; rfl
    have hsz : scr.slots.size = xs.length := by rw [← Array.length_toList, hlist, List.length_map]
    have hval : ∀ j : Nat, j < xs.length → scr.slots[j]? = some (.int (xs.getD j 0)) := fun j hj => by
      rw [← Array.getElem?_toList, hlist]
      simp [hj]
    have hbl : b < s.heap.size := (Array.getElem?_eq_some_iff.mp hcb).1
    have hX : va_X b xs.length (fun j => xs.getD j 0) s s.heap := ⟨scr, hcb, hof, hkn, hsz, hval⟩
    have K : W p l e room_1 s m #[Value.ref b] below meth c s₁.heap [] 0 0 (lw_Z below #[Value.ref b] s) (entryFrame m ([Value.ref b] : List Value).toArray 7) := by
      rw [hh0]
      exact whole_start l hflags hbd ⟨B.exec, B.bytes, B.returns, hml, hown, hts, hX, hbl, B.notSynchronized, hgv⟩
    obtain ⟨t, a1, o, b1, b2, b3⟩ := K s₁ rfl X₀
    exact ⟨t, o, a1, b1, b2, b3⟩
theorem lw_pre_spec {args : Array Value} {s : State} (h : (Jvm.Cond.and given_1 narrow_1).before args s = true) (hr : rest_1_c.before args s = true) : ∃ (b : Addr) (xs : List Int32), lw_P b xs args s := by
  have hs := flat_of_before _ h
  have hq := flat_of_before _ hr
  have hc : (Cond.count 1).before args s = true := hs _ (by decide +kernel)
  have harr : (Cond.arrayOf (.arg 0) .int).before args s = true := hs _ (by decide +kernel)
  have hle : (Cond.le (.length (.arg 0)) (.int 1024)).before args s = true := hs _ (by decide +kernel)
  have hlen : (Cond.isInt (.length (.arg 0))).before args s = true := hq _ (by decide +kernel)
  have hall : (Cond.all (.arg 0) (.isInt (.elem (.arg 0) (.index 0)))).before args s = true := hq _ (by decide +kernel)
  obtain ⟨b, xs, hb, hx⟩ := State.ints_of_pre rfl harr hlen hall
  have hsm : xs.length < 2 ^ 31 := hx.choose_spec.2.2.2
  have hev : (Term.length (.arg 0)).eval args s none [] s = some (.int xs.length.toInt32) := hx.length_eval hb
  have hv := Cond.le_ints hev (show (Term.int 1024).eval args s none [] s = some (.int 1024) from rfl)
  have hd : xs.length.toInt32 ≤ 1024 := by
    simpa [Cond.before, Cond.holds, hv] using hle
  have hN : xs.length ≤ 1024 := (Int32.ofNat_le_ofNat hsm (by decide)).mp (show Int32.ofNat xs.length ≤ Int32.ofNat 1024 from hd)
  exact ⟨b, xs, Cond.one_arg hc (show args[0]? = some (.ref b) from hb), hx, hN, h⟩
theorem lw_comes (l : Launch) (hflags : l.flags = flags0) : Comes l x (Jvm.Cond.code x code maxLocals ret :: tables_1) room_1 (fun tb e args s => Calls_1 tb e args s ∧ rest_1 tb e args s ∧ Pre_1 tb e args s)
    (fun _ _ args s o t => lw_Q args s o t) := by
  intro p e ha hc hk s m args below hf hfit hheap happ hpre
  obtain ⟨b, xs, hP⟩ := lw_pre_spec hpre.2.2 hpre.2.1
  obtain ⟨k, o, h1, h2, h3, hQ⟩ := lw_walk l hflags b xs p e ha hc hk s m args below hf ((Spec.applies_iff_loose hf).mp happ).1 hP trivial
  exact ⟨k, o, h1, h2, h3, hQ⟩
theorem lw_frame {s t : State} {o : Outcome} {args : Array Value} (h : Framed s o t [] 601024 7293034) :
    Framed s o t (fieldLocs frame_1_writes args s ++ arrayLocs frame_1_arrays args s ++ staticLocs frame_1_statics s) 601024 7293034 := h
theorem lw_limb (L : Cond) (hL : ∀ (args : Array Value) (s t : State), L.after args s (.returned (some (.int 1))) t = true) :
    ArmFor flags0 classFile x code maxLocals ret World_1 tables_1 room_1 Calls_1 rest_1 Pre_1
      (fun tb e a s o t => postC L tb e a s o t ∧ Framed s o t (fieldLocs frame_1_writes a s ++ arrayLocs frame_1_arrays a s ++ staticLocs frame_1_statics s) 601024 7293034) := by
  intro l hflags _ _ p e ha hc hk s m args below hf hfit hheap happ hpre
  obtain ⟨k, o, h1, h2, h3, rfl, hF⟩ := lw_comes l hflags p e ha hc hk s m args below hf hfit hheap happ hpre
  exact ⟨k, _, h1, h2, h3, hL args s _, lw_frame hF⟩
theorem i_vc : Claimed_1_1 ∧ Claimed_1_2 := ⟨lw_limb limb_1_1 (fun args s t => by simp [limb_1_1, Cond.after, Cond.holds, Cond.value]), lw_limb limb_1_2 (fun args s t => Cond.after_iff.mpr (by
  first | (rw [show limb_1_2 = Cond.eq .result (.int 1) from rfl, Cond.eq_ints (x := 1) (y := 1) rfl rfl]; simp; done) | (simp [limb_1_2, Cond.value, Term.eval]; done)))⟩
