/-! THE CLAIM OUT OF ONE WALK OF THE LAW'S BODY. Your part is whole_start (and what it stands on); all else here is the same for every law, but numbers. -/
def R_law : String := "GhostGameLaw"
def lw_P (b : Addr) (xs : List Int32) (args : Array Value) (s : State) : Prop := args = #[.ref b] ∧ s.IntsAt b xs ∧ xs.length ≤ 260 ∧ (Jvm.Cond.and given_1 narrow_1).before args s = true
def lw_Q (_ : Array Value) (s : State) (o : Outcome) (t : State) : Prop := o = .returned (some (.int 1)) ∧ Framed s o t [] 676567 7070986
def lw_Z (below : List Frame) (a : Array Value) (s : State) : State → Prop := fun t => ∃ o, t.status = .running ∧ Ended t below o ∧ lw_Q a s o t
/-- the law's own end, with 1 on the stack, nothing written that was there before, its room as the claim has it -/
theorem lw_ret {p : Program} {l : Launch} {e : Env} {s : State} {m : MethodId} {below : List Frame} {meth : Method} {c : Code} {b : Nat} (hx : p.tables.exec = Jvm.exec) (hb : c.code = code) (hr : meth.sig.returnType = ret) (hlocks : meth.locks = false) {pc : Nat} {H : Heap} {ls : Array Slot} (hdg : decode code pc = .ok (.ireturn, 1)) : W p l e room_1 s m #[Value.ref b] below meth c H [] 676567 7070986 (lw_Z below #[Value.ref b] s) (F0 m pc ls [.int 1]) := by
  intro T hT X
  obtain ⟨fs, hret, hrun, hended, hW, hframe⟩ := X.leave (v := some (.int 1)) (hlocks := hlocks) (fun h => by rw [hr] at h; cases h)
  have hmeth' : T.vm.method? m = some meth := X.method'
  refine ⟨T.setFrames fs, ?_, .returned (some (.int 1)), hrun, hended, rfl, ⟨_, rfl⟩, hW, hframe⟩
  jvm_step X.here [X.here.top, hx, hb, hdg, hmeth', hr, ret, narrow_b1]
  (try refine ⟨rfl, ?_⟩); (try refine ⟨rfl, ?_⟩)
  first | (intro acts; rw [hret _ acts rfl rfl rfl]) | rw [hret _ _ rfl rfl rfl]
  exact Steps.refl _
/-- what holds at the law's entry: the machine, the code, the tables' words (any of lw_tbl by 'hts w (by decide +kernel)'), the script of L ints xs at the cell b, what the Statement gives of the start (any of its parts by flat_of_before) -/
def lw_At (p : Program) (s : State) (m : MethodId) (meth : Method) (c : Code) (b L : Nat) (xs : Nat → Int32) : Prop :=
  p.tables.exec = Jvm.exec ∧ c.code = code ∧ meth.sig.returnType = ret ∧ c.maxLocals = 10 ∧ s.vm.findClass R_law = some m.cls ∧ (∀ w ∈ lw_tbl, w.before #[Value.ref b] s = true) ∧ va_X b L xs s s.heap ∧ b < s.heap.size ∧ meth.locks = false ∧ (Jvm.Cond.and given_1 narrow_1).before #[Value.ref b] s = true
theorem zb {n0 it : Nat} (h : n0 < 2147483648) (hi : it < 180) : n0 / (1 + it / 60) + 3 * (it / 60) < 2147483648 := by
  rcases (show it / 60 = 0 ∨ it / 60 = 1 ∨ it / 60 = 2 by omega) with e | e | e <;> rw [e]
  · show n0 / 1 + 3 * 0 < _; omega
  · show n0 / 2 + 3 * 1 < _; omega
  · show n0 / 3 + 3 * 2 < _; omega
set_option maxHeartbeats 4000000 in
set_option maxRecDepth 100000 in
theorem law_tail {p : Program} {l : Launch} {e : Env} {s : State} {m0 : MethodId} {below : List Frame} {meth : Method} {c : Code} {b L : Nat} {xs : Nat → Int32} {g : GG} {A : Nat → Prop} (C : LC p l s m0 c b L xs g A) {m x y : Nat} {wa wb : va_W} (hI : AB g m x y wa wb) {H : Heap} {locs : List Loc} {ls : Array Slot} (hP : va_P g.1 vwCl (wa ++ wb) H) (hD : va_D A (wa ++ wb)) (hS : va_S A s.heap H locs) {it z kd vv lt : Nat} (hl : lv_has ls 10 (LV b x y m it z kd vv lt)) {cells slots : Nat} {Q : State → Prop} (hce : cells + 80 ≤ 676567) (hsl : slots + 480 ≤ 7070986)
    (kk : ∀ (H : Heap) (locs : List Loc) (ls : Array Slot), va_P g.1 vwCl (wa ++ wb) H → va_D A (wa ++ wb) → va_S A s.heap H locs → lv_has ls 10 [(0, .ref b), (1, .ref x), (2, .ref y), (3, .int (nI m)), (4, .int (nI 1)), (5, .int (nI (it + 1)))] → W p l e room_1 s m0 #[Value.ref b] below meth c H locs (cells + 80) (slots + 480) Q (F0 m0 67 ls [])) : W p l e room_1 s m0 #[Value.ref b] below meth c H locs cells slots Q (F0 m0 409 ls []) := by
  obtain ⟨hx, hb, hml, hown, hts, hK, hA, hAb, hXk, hNc, hX, hbl, hfl⟩ := C
  have hl : lv_has ls 10 [(0, .ref b), (1, .ref x), (2, .ref y), (3, .int (nI m)), (4, .int (nI 1)), (5, .int (nI it)), (6, .int (nI z)), (7, .int (nI kd)), (8, .int (nI vv)), (9, .int (nI lt))] := hl
  refine lv_iload hx hb dL_law_409 (lv_at hl 4 rfl) ?_
  refine lv_if_eq (tgt := 427) hx hb dL_law_411 (by decide) (fun c9 => absurd c9 (by decide)) (fun _ => ?_)
  refine lv_aload_n hx hb dL_law_414 rfl (lv_at hl 1 rfl) ?_
  refine lv_aload_n hx hb dL_law_415 rfl (lv_at hl 2 rfl) ?_
  refine lv_iload_n hx hb dL_law_416 rfl (lv_at hl 3 rfl) ?_
  refine call_yS (As := [.ref x, .ref y, .int (nI m)]) (rest := []) ⟨hx, hb, hml, hown, hts⟩ (c_L_areAlike l hfl g m x y wa wb hI) (va_cwS 3 hts gT_L_areAlike rfl rfl rfl (by decide +kernel) ⟨Nat.le_of_ble_eq_true rfl, Nat.le_of_ble_eq_true rfl⟩) hP hK hD hS hA hXk hNc rfl hl.1 rfl (Nat.le_of_ble_eq_true rfl) dL_law_417 ⟨by show cells + 80 ≤ 676567; omega, by show slots + 480 ≤ 7070986; omega⟩ (fun r w H locs hw hP hD hS => ?_)
  obtain ⟨rfl, rfl⟩ := hw
  refine lv_if_eq (tgt := 427) hx hb dL_law_420 (by decide) (fun c9 => absurd c9 (by decide)) (fun _ => ?_)
  refine lv_iconst (v := nI 1) hx hb dL_law_423 (by decide) ?_
  refine lv_goto (tgt := 428) hx hb dL_law_424 (by decide) ?_
  refine lv_istore (lv' := [(4, .int (nI 1)), (0, .ref b), (1, .ref x), (2, .ref y), (3, .int (nI m)), (5, .int (nI it)), (6, .int (nI z)), (7, .int (nI kd)), (8, .int (nI vv)), (9, .int (nI lt))]) hx hb dL_law_428 hl (by decide) rfl (fun ls hl => ?_)
  refine lv_iinc (k := 5) (v := nI (it + 1)) (lv' := [(5, .int (nI (it + 1))), (4, .int (nI 1)), (0, .ref b), (1, .ref x), (2, .ref y), (3, .int (nI m)), (6, .int (nI z)), (7, .int (nI kd)), (8, .int (nI vv)), (9, .int (nI lt))]) hx hb dL_law_430 hl rfl (by rw [show Int32.ofInt 1 = nI 1 from by decide +kernel, nI_add]) (by decide) rfl (fun ls hl => ?_)
  refine lv_goto (tgt := 67) hx hb dL_law_433 (by decide) ?_
  exact kk _ _ _ hP hD hS (lv_sub hl [2, 3, 4, 5, 1, 0] rfl)
set_option maxHeartbeats 4000000 in
set_option maxRecDepth 100000 in
theorem law_loop {p : Program} {l : Launch} {e : Env} {s : State} {m0 : MethodId} {below : List Frame} {meth : Method} {c : Code} {b L : Nat} {xs : Nat → Int32} {g : GG} {A : Nat → Prop} (C : LC p l s m0 c b L xs g A) (hA2 : ∀ q, A q → s.heap.size ≤ q) (hr : meth.sig.returnType = ret) (hlocks : meth.locks = false) (hL : L ≤ 260) {m x y : Nat} : ∀ (n it : Nat), it + n = 180 → 2 ≤ it → ∀ (wa wb : va_W) (H : Heap) (locs : List Loc) (ls : Array Slot), AB g m x y wa wb → va_P g.1 vwCl (wa ++ wb) H → va_D A (wa ++ wb) → va_S A s.heap H locs → lv_has ls 10 [(0, .ref b), (1, .ref x), (2, .ref y), (3, .int (nI m)), (4, .int (nI 1)), (5, .int (nI it))] → W p l e room_1 s m0 #[Value.ref b] below meth c H locs (20 + 100 * it) (200 + 600 * it) (lw_Z below #[Value.ref b] s) (F0 m0 67 ls []) := by
  intro n
  induction n with
  | zero =>
    intro it hit h2 wa wb H locs ls hI hP hD hS hl
    obtain rfl : it = 180 := by omega
    obtain ⟨hx, hb, hml, hown, hts, hK, hA, hAb, hXk, hNc, hX, hbl, hfl⟩ := C
    refine lv_iload hx hb dL_law_67 (lv_at hl 5 rfl) ?_
    refine lv_sipush (v := nI 180) hx hb dL_law_69 (by decide) ?_
    refine lv_icmp_ge (tgt := 436) hx hb dL_law_72 (by decide) (fun _ => ?_) (fun c9 => absurd (by decide) c9)
    refine W.widen (k := 676567) (n := 7070986) (by omega) (by omega) ?_
    refine va_forget (fun q hq => hA2 _ (hS.2.2 q hq)) ?_
    refine lv_iload hx hb dL_law_436 (lv_at hl 4 rfl) ?_
    refine tp_i (b := 1) (by decide) ?_
    exact lw_ret hx hb hr hlocks dL_law_438
  | succ n ih =>
    intro it hit h2 wa wb H locs ls hI hP hD hS hl
    have C9 := C
    obtain ⟨hx, hb, hml, hown, hts, hK, hA, hAb, hXk, hNc, hX, hbl, hfl⟩ := C9
    have hit9 : it < 180 := by omega
    refine lv_iload hx hb dL_law_67 (lv_at hl 5 rfl) ?_
    refine lv_sipush (v := nI 180) hx hb dL_law_69 (by decide) ?_
    refine lv_icmp_ge (tgt := 436) hx hb dL_law_72 (by decide) (fun c9 => absurd ((nI_leI (a := 180) (b := it) (by omega) (by omega)).mp c9) (by omega)) (fun _ => ?_)
    refine lv_iload hx hb dL_law_75 (lv_at hl 4 rfl) ?_
    refine lv_if_eq (tgt := 436) hx hb dL_law_77 (by decide) (fun c9 => absurd c9 (by decide)) (fun _ => ?_)
    refine lv_aload_n hx hb dL_law_80 rfl (lv_at hl 0 rfl) ?_
    refine lv_iload hx hb dL_law_81 (lv_at hl 5 rfl) ?_
    refine lv_bipush (v := nI 60) hx hb dL_law_83 (by decide) ?_
    refine lv_irem hx hb dL_law_85 (by decide) ?_
    refine tp_i (b := nI (it % 60)) (pk_rem (by omega) (by omega) (by omega)) ?_
    refine call_dS (bs := b) (L := L) (k := it % 60) (xs := xs) (rest := []) ⟨hx, hb, hml, hown, hts⟩ (c_L_drawn l g b L (it % 60) xs hL (by omega)) (va_cwS 2 hts gT_L_drawn rfl rfl rfl (by decide +kernel) ⟨Nat.le_of_ble_eq_true rfl, Nat.le_of_ble_eq_true rfl⟩) hP hK hD hS hA hX hbl hAb hl.1 rfl (Nat.le_of_ble_eq_true rfl) dL_law_86 ⟨by show 20 + 100 * it + 0 ≤ 676567; omega, by show 200 + 600 * it + 0 ≤ 7070986; omega⟩ (fun H locs hP hD hS => ?_)
    obtain ⟨n0, hn0, en⟩ := dr_ex L xs (it % 60)
    refine tp_i en ?_
    refine lv_iconst (v := nI 1) hx hb dL_law_89 (by decide) ?_
    refine lv_iload hx hb dL_law_90 (lv_at hl 5 rfl) ?_
    refine lv_bipush (v := nI 60) hx hb dL_law_92 (by decide) ?_
    refine lv_idiv hx hb dL_law_94 (by decide) ?_
    refine tp_i (b := nI (it / 60)) (pk_div (by omega) (by omega) (by omega)) ?_
    refine lv_iadd hx hb dL_law_95 ?_
    refine tp_i (nI_add 1 (it / 60)) ?_
    refine lv_idiv hx hb dL_law_96 (fun q9 => by have := (nI_eq (a := 1 + (it / 60)) (b := 0) (by omega) (by omega)).mp q9; omega) ?_
    refine tp_i (b := nI (n0 / (1 + (it / 60)))) (pk_div (by omega) (by omega) (by omega)) ?_
    refine lv_iconst (v := nI 3) hx hb dL_law_97 (by decide) ?_
    refine lv_iload hx hb dL_law_98 (lv_at hl 5 rfl) ?_
    refine lv_bipush (v := nI 60) hx hb dL_law_100 (by decide) ?_
    refine lv_idiv hx hb dL_law_102 (by decide) ?_
    refine tp_i (b := nI (it / 60)) (pk_div (by omega) (by omega) (by omega)) ?_
    refine lv_imul hx hb dL_law_103 ?_
    refine tp_i (pk_mul 3 (it / 60)) ?_
    refine lv_iadd hx hb dL_law_104 ?_
    refine tp_i (nI_add (n0 / (1 + (it / 60))) (3 * (it / 60))) ?_
    obtain ⟨z, ez, hz⟩ : ∃ z : Nat, (n0 / (1 + (it / 60))) + (3 * (it / 60)) = z ∧ z < 2147483648 := ⟨_, rfl, zb hn0 hit9⟩
    refine tp_i (congrArg nI ez) ?_
    refine lv_istore (lv' := [(6, .int (nI z)), (0, .ref b), (1, .ref x), (2, .ref y), (3, .int (nI m)), (4, .int (nI 1)), (5, .int (nI it))]) hx hb dL_law_105 hl (by decide) rfl (fun ls hl => ?_)
    refine lv_iload hx hb dL_law_107 (lv_at hl 0 rfl) ?_
    refine lv_bipush (v := nI 12) hx hb dL_law_109 (by decide) ?_
    refine lv_irem hx hb dL_law_111 (by decide) ?_
    refine tp_i (b := nI (z % 12)) (pk_rem (by omega) (by omega) (by omega)) ?_
    refine lv_istore (lv' := [(7, .int (nI (z % 12))), (6, .int (nI z)), (0, .ref b), (1, .ref x), (2, .ref y), (3, .int (nI m)), (4, .int (nI 1)), (5, .int (nI it))]) hx hb dL_law_112 hl (by decide) rfl (fun ls hl => ?_)
    refine lv_iload hx hb dL_law_114 (lv_at hl 1 rfl) ?_
    refine lv_bipush (v := nI 12) hx hb dL_law_116 (by decide) ?_
    refine lv_idiv hx hb dL_law_118 (by decide) ?_
    refine tp_i (b := nI (z / 12)) (pk_div (by omega) (by omega) (by omega)) ?_
    refine lv_istore (lv' := [(8, .int (nI (z / 12))), (7, .int (nI (z % 12))), (6, .int (nI z)), (0, .ref b), (1, .ref x), (2, .ref y), (3, .int (nI m)), (4, .int (nI 1)), (5, .int (nI it))]) hx hb dL_law_119 hl (by decide) rfl (fun ls hl => ?_)
    refine lv_iload hx hb dL_law_121 (lv_at hl 0 rfl) ?_
    refine lv_iconst (v := nI 4) hx hb dL_law_123 (by decide) ?_
    refine lv_irem hx hb dL_law_124 (by decide) ?_
    refine tp_i (b := nI ((z / 12) % 4)) (pk_rem (by omega) (by omega) (by omega)) ?_
    refine lv_istore (lv' := [(9, .int (nI ((z / 12) % 4))), (8, .int (nI (z / 12))), (7, .int (nI (z % 12))), (6, .int (nI z)), (0, .ref b), (1, .ref x), (2, .ref y), (3, .int (nI m)), (4, .int (nI 1)), (5, .int (nI it))]) hx hb dL_law_125 hl (by decide) rfl (fun ls hl => ?_)
    have hl : lv_has ls 10 (LV b x y m it z (z % 12) (z / 12) (z / 12 % 4)) := lv_sub hl [4, 5, 6, 7, 8, 9, 3, 2, 1, 0] rfl
    have tail : ∀ (wa wb : va_W) (H : Heap) (locs : List Loc) (ls : Array Slot), AB g m x y wa wb → va_P g.1 vwCl (wa ++ wb) H → va_D A (wa ++ wb) → va_S A s.heap H locs → lv_has ls 10 (LV b x y m it z (z % 12) (z / 12) (z / 12 % 4)) → W p l e room_1 s m0 #[Value.ref b] below meth c H locs (20 + 100 * it + 2) (200 + 600 * it + 12) (lw_Z below #[Value.ref b] s) (F0 m0 409 ls []) := by
      intro wa wb H locs ls hI hP hD hS hl
      refine law_tail C hI hP hD hS hl (by omega) (by omega) (fun H locs ls hP hD hS hl => ?_)
      refine W.widen (k := 20 + 100 * (it + 1)) (n := 200 + 600 * (it + 1)) (by omega) (by omega) ?_
      exact ih (it + 1) (by omega) (by omega) _ _ _ _ _ hI hP hD hS hl
    have hvv : z / 12 < 2147483648 := by omega
    have hlt : z / 12 % 4 < 4 := by omega
    have hl9 : lv_has ls 10 [(0, .ref b), (1, .ref x), (2, .ref y), (3, .int (nI m)), (4, .int (nI 1)), (5, .int (nI it)), (6, .int (nI z)), (7, .int (nI (z % 12))), (8, .int (nI (z / 12))), (9, .int (nI (z / 12 % 4)))] := hl
    refine lv_iload hx hb dL_law_127 (lv_at hl9 7 rfl) ?_
    refine lv_iconst (v := nI 4) hx hb dL_law_129 (by decide) ?_
    refine lv_icmp_ge (tgt := 162) hx hb dL_law_130 (by decide) (fun _ => ?_) (fun _ => ?_)
    rotate_left
    · exact op_write C hI hP hD hS hvv hlt hl (by omega) (by omega) tail
    refine lv_iload hx hb dL_law_162 (lv_at hl9 7 rfl) ?_
    refine lv_bipush (v := nI 6) hx hb dL_law_164 (by decide) ?_
    refine lv_icmp_ge (tgt := 210) hx hb dL_law_166 (by decide) (fun _ => ?_) (fun _ => ?_)
    rotate_left
    · exact op_addWord C hI hP hD hS hvv hlt hl (by omega) (by omega) tail
    refine lv_iload hx hb dL_law_210 (lv_at hl9 7 rfl) ?_
    refine lv_bipush (v := nI 6) hx hb dL_law_212 (by decide) ?_
    refine lv_icmp_ne (tgt := 247) hx hb dL_law_214 (by decide) (fun _ => ?_) (fun _ => ?_)
    rotate_left
    · exact op_removeWord C hI hP hD hS hvv hlt hl (by omega) (by omega) tail
    refine lv_iload hx hb dL_law_247 (lv_at hl9 7 rfl) ?_
    refine lv_bipush (v := nI 7) hx hb dL_law_249 (by decide) ?_
    refine lv_icmp_ne (tgt := 287) hx hb dL_law_251 (by decide) (fun _ => ?_) (fun _ => ?_)
    rotate_left
    · exact op_copyWord C hI hP hD hS hvv hlt hl (by omega) (by omega) tail
    refine lv_iload hx hb dL_law_287 (lv_at hl9 7 rfl) ?_
    refine lv_bipush (v := nI 8) hx hb dL_law_289 (by decide) ?_
    refine lv_icmp_ne (tgt := 327) hx hb dL_law_291 (by decide) (fun _ => ?_) (fun _ => ?_)
    rotate_left
    · exact op_least C hI hP hD hS hvv hlt hl (by omega) (by omega) tail
    refine lv_iload hx hb dL_law_327 (lv_at hl9 7 rfl) ?_
    refine lv_bipush (v := nI 11) hx hb dL_law_329 (by decide) ?_
    refine lv_icmp_ge (tgt := 363) hx hb dL_law_331 (by decide) (fun _ => ?_) (fun _ => ?_)
    rotate_left
    · exact op_play C hI hP hD hS hvv hlt hl (by omega) (by omega) tail
    exact op_challenge C hI hP hD hS hvv hlt hl (by omega) (by omega) tail
set_option maxHeartbeats 4000000 in
set_option maxRecDepth 100000 in
theorem law_begin {p : Program} {l : Launch} {e : Env} {s : State} {m0 : MethodId} {below : List Frame} {meth : Method} {c : Code} {b L : Nat} {xs : Nat → Int32} {g : GG} {A : Nat → Prop} (C : LC p l s m0 c b L xs g A) (hA2 : ∀ q, A q → s.heap.size ≤ q) (hr : meth.sig.returnType = ret) (hlocks : meth.locks = false) (hL : L ≤ 260) {ls : Array Slot} (hl : lv_has ls 10 [(0, .ref b)]) : W p l e room_1 s m0 #[Value.ref b] below meth c s.heap [] 0 0 (lw_Z below #[Value.ref b] s) (F0 m0 0 ls []) := by
  have C9 := C
  obtain ⟨hx, hb, hml, hown, hts, hK, hA, hAb, hXk, hNc, hX, hbl, hfl⟩ := C9
  have hP : va_P g.1 vwCl [] s.heap := fun k q h9 => by
    have h8 : (none : Option (Nat × va_E)) = some q := h9
    cases h8
  have hD : va_D A [] := by
    refine ⟨fun i j p q h9 _ => ?_, fun k q h9 => ?_⟩
    · have h8 : (none : Option (Nat × va_E)) = some p := h9
      cases h8
    · have h8 : (none : Option (Nat × va_E)) = some q := h9
      cases h8
  have hS : va_S A s.heap s.heap [] := va_S.rf
  refine va_new (ci := 2) (fs := [.null, .null, .long 0]) (C := RX4) (T := TX4) (N := 3) hx hb hts inX4 tyX4 tyX4_ok hown (hts (.classLink RL 9 RX4) (List.mem_of_getElem? (i := 21) (by decide +kernel))) (hts (.instantiable RX4 3) (List.mem_of_getElem? (i := 22) (by decide +kernel))) (hts (.initialized RX4) (List.mem_of_getElem? (i := 9) (by decide +kernel))) hK hP hD hS hA rfl (fun j hj => by rcases (show j = 0 ∨ j = 1 ∨ j = 2 by omega) with rfl | rfl | rfl <;> rfl) (Nat.le_of_ble_eq_true rfl) (Nat.le_of_ble_eq_true rfl) dL_law_0 (fun x H hP hD hS => ?_)
  have hP : va_P g.1 vwCl [(x, .inr (2, [.null, .null, .long 0]))] H := hP
  have hD : va_D A [(x, .inr (2, [.null, .null, .long 0]))] := hD
  refine lv_dup hx hb dL_law_3 rfl ?_
  refine call_nI (As := []) (rest := [.ref x]) (wr := []) ⟨hx, hb, hml, hown, hts⟩ (c_X4_init l g x) (cwI 0 hts gT_X4_init rfl rfl rfl (hts (.initialized RX4) (List.mem_of_getElem? (i := 9) (by decide +kernel))) (hts (.methodLink RL 107 yX4_init) (List.mem_of_getElem? (i := 23) (by decide +kernel))) (hts (.instanceMethod yX4_init) (List.mem_of_getElem? (i := 24) (by decide +kernel))) rfl (by decide +kernel) ⟨Nat.le_of_ble_eq_true rfl, Nat.le_of_ble_eq_true rfl⟩) hP hK hD hS hA [0] [] rfl rfl (by decide) (by decide) (by decide) rfl hl.1 rfl (Nat.le_of_ble_eq_true rfl) dL_law_4 ⟨Nat.le_of_ble_eq_true rfl, Nat.le_of_ble_eq_true rfl⟩ (fun w H locs hw hP hD hS => ?_)
  obtain ⟨q, u, d, v, rfl⟩ := hw
  have hP : va_P g.1 vwCl [(x, .inr (2, [.ref d, .ref q, .long (lN 0)])), (d, .inr (0, [.ref v, .int (nI 0), .int (nI 3)])), (v, .inl (g.2.2.1, 50, .inr (.inl (fun _ => 0)))), (q, .inr (1, [.ref u, .int (nI 0), .int (-1), .int (-1), .int (-1), .long (lN 0)])), (u, .inl (g.2.1, 4, .inl (fun _ => 0)))] H := hP
  have hD : va_D A [(x, .inr (2, [.ref d, .ref q, .long (lN 0)])), (d, .inr (0, [.ref v, .int (nI 0), .int (nI 3)])), (v, .inl (g.2.2.1, 50, .inr (.inl (fun _ => 0)))), (q, .inr (1, [.ref u, .int (nI 0), .int (-1), .int (-1), .int (-1), .long (lN 0)])), (u, .inl (g.2.1, 4, .inl (fun _ => 0)))] := hD
  refine lv_astore_n (lv' := [(1, .ref x), (0, .ref b)]) hx hb dL_law_7 rfl hl (by decide) rfl (fun ls hl => ?_)
  refine va_new (ci := 2) (fs := [.null, .null, .long 0]) (C := RX4) (T := TX4) (N := 3) hx hb hts inX4 tyX4 tyX4_ok hown (hts (.classLink RL 9 RX4) (List.mem_of_getElem? (i := 21) (by decide +kernel))) (hts (.instantiable RX4 3) (List.mem_of_getElem? (i := 22) (by decide +kernel))) (hts (.initialized RX4) (List.mem_of_getElem? (i := 9) (by decide +kernel))) hK hP hD hS hA rfl (fun j hj => by rcases (show j = 0 ∨ j = 1 ∨ j = 2 by omega) with rfl | rfl | rfl <;> rfl) (Nat.le_of_ble_eq_true rfl) (Nat.le_of_ble_eq_true rfl) dL_law_8 (fun y H hP hD hS => ?_)
  have hP : va_P g.1 vwCl [(x, .inr (2, [.ref d, .ref q, .long (lN 0)])), (d, .inr (0, [.ref v, .int (nI 0), .int (nI 3)])), (v, .inl (g.2.2.1, 50, .inr (.inl (fun _ => 0)))), (q, .inr (1, [.ref u, .int (nI 0), .int (-1), .int (-1), .int (-1), .long (lN 0)])), (u, .inl (g.2.1, 4, .inl (fun _ => 0))), (y, .inr (2, [.null, .null, .long 0]))] H := hP
  have hD : va_D A [(x, .inr (2, [.ref d, .ref q, .long (lN 0)])), (d, .inr (0, [.ref v, .int (nI 0), .int (nI 3)])), (v, .inl (g.2.2.1, 50, .inr (.inl (fun _ => 0)))), (q, .inr (1, [.ref u, .int (nI 0), .int (-1), .int (-1), .int (-1), .long (lN 0)])), (u, .inl (g.2.1, 4, .inl (fun _ => 0))), (y, .inr (2, [.null, .null, .long 0]))] := hD
  refine lv_dup hx hb dL_law_11 rfl ?_
  refine call_nI (As := []) (rest := [.ref y]) (wr := [(x, .inr (2, [.ref d, .ref q, .long (lN 0)])), (d, .inr (0, [.ref v, .int (nI 0), .int (nI 3)])), (v, .inl (g.2.2.1, 50, .inr (.inl (fun _ => 0)))), (q, .inr (1, [.ref u, .int (nI 0), .int (-1), .int (-1), .int (-1), .long (lN 0)])), (u, .inl (g.2.1, 4, .inl (fun _ => 0)))]) ⟨hx, hb, hml, hown, hts⟩ (c_X4_init l g y) (cwI 0 hts gT_X4_init rfl rfl rfl (hts (.initialized RX4) (List.mem_of_getElem? (i := 9) (by decide +kernel))) (hts (.methodLink RL 107 yX4_init) (List.mem_of_getElem? (i := 23) (by decide +kernel))) (hts (.instanceMethod yX4_init) (List.mem_of_getElem? (i := 24) (by decide +kernel))) rfl (by decide +kernel) ⟨Nat.le_of_ble_eq_true rfl, Nat.le_of_ble_eq_true rfl⟩) hP hK hD hS hA [5] [0, 1, 2, 3, 4] rfl rfl (by decide) (by decide) (by decide) rfl hl.1 rfl (Nat.le_of_ble_eq_true rfl) dL_law_12 ⟨Nat.le_of_ble_eq_true rfl, Nat.le_of_ble_eq_true rfl⟩ (fun w H locs hw hP hD hS => ?_)
  obtain ⟨q', u', d', v', rfl⟩ := hw
  have hP : va_P g.1 vwCl ((FW g x (lN 0) q u (fun _ => 0) (nI 0) (-1) (-1) (-1) (lN 0) d v (fun _ => 0) (nI 0) (nI 3)) ++ (FW g y (lN 0) q' u' (fun _ => 0) (nI 0) (-1) (-1) (-1) (lN 0) d' v' (fun _ => 0) (nI 0) (nI 3))) H := hP.sub [0, 3, 4, 1, 2, 5, 8, 9, 6, 7] rfl
  have hD : va_D A ((FW g x (lN 0) q u (fun _ => 0) (nI 0) (-1) (-1) (-1) (lN 0) d v (fun _ => 0) (nI 0) (nI 3)) ++ (FW g y (lN 0) q' u' (fun _ => 0) (nI 0) (-1) (-1) (-1) (lN 0) d' v' (fun _ => 0) (nI 0) (nI 3))) := hD.sub [0, 3, 4, 1, 2, 5, 8, 9, 6, 7] (by decide) rfl
  refine lv_astore_n (lv' := [(2, .ref y), (1, .ref x), (0, .ref b)]) hx hb dL_law_15 rfl hl (by decide) rfl (fun ls hl => ?_)
  refine W.widen (k := 10) (n := 132) (by decide) (by decide) ?_
  refine lv_aload_n hx hb dL_law_16 rfl (lv_at hl 2 rfl) ?_
  refine lv_iconst (v := nI 0) hx hb dL_law_17 (by decide) ?_
  refine call_dS (bs := b) (L := L) (k := 0) (xs := xs) (rest := []) ⟨hx, hb, hml, hown, hts⟩ (c_L_drawn l g b L (0) xs hL (by decide)) (va_cwS 2 hts gT_L_drawn rfl rfl rfl (by decide +kernel) ⟨Nat.le_of_ble_eq_true rfl, Nat.le_of_ble_eq_true rfl⟩) hP hK hD hS hA hX hbl hAb hl.1 rfl (Nat.le_of_ble_eq_true rfl) dL_law_18 ⟨by show 10 + 0 ≤ 676567; omega, by show 132 + 0 ≤ 7070986; omega⟩ (fun H locs hP hD hS => ?_)
  obtain ⟨n0, hn0, en⟩ := dr_ex L xs 0
  refine tp_i en ?_
  refine lv_bipush (v := nI 22) hx hb dL_law_21 (by decide) ?_
  refine lv_irem hx hb dL_law_23 (by decide) ?_
  refine tp_i (b := nI (n0 % 22)) (pk_rem (by omega) (by omega) (by omega)) ?_
  obtain ⟨m, em, hm⟩ : ∃ m : Nat, n0 % 22 = m ∧ m ≤ 21 := ⟨_, rfl, by omega⟩
  refine tp_i (congrArg nI em) ?_
  refine lv_istore_n (lv' := [(3, .int (nI m)), (2, .ref y), (1, .ref x), (0, .ref b)]) hx hb dL_law_24 rfl hl (by decide) rfl (fun ls hl => ?_)
  obtain ⟨n1, hn1, en1⟩ := dr_ex L xs 1
  obtain ⟨k2, ek2, hk2⟩ : ∃ k2 : Nat, 2 + n1 % 3 = k2 ∧ (2 ≤ k2 ∧ k2 ≤ 4) := ⟨_, rfl, by omega⟩
  have hk0 : GK (fun _ => 0) (fun _ => 0) := fun i hi => ⟨(by decide : (0 : Int32) = nI 0), Nat.zero_le _⟩
  have L0 : AI m 0 0 (fun _ => 0) (fun _ => 0) (fun _ => 0) 0 (-1) (-1) 0 0 (fun _ => 0) (fun _ => 0) (fun _ => 0) (fun _ => 0) 0 3 := ⟨SR.zero m, SR.zero m, hk0, hk0, by omega, fun i hi => absurd hi (Nat.not_lt_zero _), fun i hi => absurd hi (Nat.not_lt_zero _), by omega, by omega, fun i hi => absurd hi (Nat.not_lt_zero _), fun i j _ hj => absurd hj (Nat.not_lt_zero _), fun i hi => absurd hi (Nat.not_lt_zero _), GS.none, hm⟩
  have L9 := L0
  obtain ⟨hSL, hF, hk, hk3, hp, hf, hf2, hc, hll, hW, hI, h2l, hG, hm9⟩ := L9
  refine lv_aload_n hx hb dL_law_25 rfl (lv_at hl 2 rfl) ?_
  refine lv_iconst (v := nI 2) hx hb dL_law_26 (by decide) ?_
  refine lv_aload_n hx hb dL_law_27 rfl (lv_at hl 3 rfl) ?_
  refine lv_iconst (v := nI 1) hx hb dL_law_28 (by decide) ?_
  refine call_dS (bs := b) (L := L) (k := 1) (xs := xs) (rest := [.int (nI 2), .ref x]) ⟨hx, hb, hml, hown, hts⟩ (c_L_drawn l g b L (1) xs hL (by decide)) (va_cwS 2 hts gT_L_drawn rfl rfl rfl (by decide +kernel) ⟨Nat.le_of_ble_eq_true rfl, Nat.le_of_ble_eq_true rfl⟩) hP hK hD hS hA hX hbl hAb hl.1 rfl (Nat.le_of_ble_eq_true rfl) dL_law_29 ⟨by show 10 + 0 ≤ 676567; omega, by show 132 + 0 ≤ 7070986; omega⟩ (fun H locs hP hD hS => ?_)
  refine tp_i en1 ?_
  refine lv_iconst (v := nI 3) hx hb dL_law_32 (by decide) ?_
  refine lv_irem hx hb dL_law_33 (by decide) ?_
  refine tp_i (b := nI (n1 % 3)) (pk_rem (by omega) (by omega) (by omega)) ?_
  refine lv_iadd hx hb dL_law_34 ?_
  refine tp_i (nI_add 2 (n1 % 3)) ?_
  refine tp_i (congrArg nI ek2) ?_
  refine call_wX (As := [.ref x, .int (nI k2)]) (rest := []) (wr := (FW g y (lN 0) q' u' (fun _ => 0) (nI 0) (-1) (-1) (-1) (lN 0) d' v' (fun _ => 0) (nI 0) (nI 3))) ⟨hx, hb, hml, hown, hts⟩ (c_L_starts_start l hfl g x q u d v 0 (fun _ => 0) (fun _ => 0) 0 (-1) (-1) (-1) 0 (fun _ => 0) (fun _ => 0) 0 3 hSL.1 hF.1 hk hp hf hc hll (nI k2)) (vx_cwSW 2 hts gT_L_starts rfl rfl rfl ⟨by decide +kernel, by decide +kernel, by decide +kernel⟩ ⟨Nat.le_of_ble_eq_true rfl, Nat.le_of_ble_eq_true rfl⟩) hP hK hD hS hA hXk hNc [0, 1, 2, 3, 4] [5, 6, 7, 8, 9] rfl rfl (by decide) (by decide) (by decide) rfl hl.1 rfl (Nat.le_of_ble_eq_true rfl) dL_law_35 ⟨by decide, by decide⟩ (fun r1 w1 H locs h_r1 hP hD hS => ?_)
  have e1 : r1 = nI 1 := by
    rcases h_r1 with ⟨q9, -⟩ | ⟨E, ⟨-, q9⟩, -⟩
    · exact q9
    · exact absurd ⟨k2, hk2.1, hk2.2, rfl⟩ q9
  refine tp_i e1 ?_
  refine lv_if_eq (tgt := 61) hx hb dL_law_38 (by decide) (fun c9 => absurd c9 (by decide)) (fun _ => ?_)
  refine lv_aload_n hx hb dL_law_41 rfl (lv_at hl 1 rfl) ?_
  refine lv_iconst (v := nI 2) hx hb dL_law_42 (by decide) ?_
  refine lv_aload_n hx hb dL_law_43 rfl (lv_at hl 3 rfl) ?_
  refine lv_iconst (v := nI 1) hx hb dL_law_44 (by decide) ?_
  refine call_dS (bs := b) (L := L) (k := 1) (xs := xs) (rest := [.int (nI 2), .ref y]) ⟨hx, hb, hml, hown, hts⟩ (c_L_drawn l g b L (1) xs hL (by decide)) (va_cwS 2 hts gT_L_drawn rfl rfl rfl (by decide +kernel) ⟨Nat.le_of_ble_eq_true rfl, Nat.le_of_ble_eq_true rfl⟩) hP hK hD hS hA hX hbl hAb hl.1 rfl (Nat.le_of_ble_eq_true rfl) dL_law_45 ⟨by show 11 + 0 ≤ 676567; omega, by show 138 + 0 ≤ 7070986; omega⟩ (fun H locs hP hD hS => ?_)
  refine tp_i en1 ?_
  refine lv_iconst (v := nI 3) hx hb dL_law_48 (by decide) ?_
  refine lv_irem hx hb dL_law_49 (by decide) ?_
  refine tp_i (b := nI (n1 % 3)) (pk_rem (by omega) (by omega) (by omega)) ?_
  refine lv_iadd hx hb dL_law_50 ?_
  refine tp_i (nI_add 2 (n1 % 3)) ?_
  refine tp_i (congrArg nI ek2) ?_
  refine call_wX (As := [.ref y, .int (nI k2)]) (rest := []) (wr := w1) ⟨hx, hb, hml, hown, hts⟩ (c_L_starts_start l hfl g y q' u' d' v' 0 (fun _ => 0) (fun _ => 0) 0 (-1) (-1) (-1) 0 (fun _ => 0) (fun _ => 0) 0 3 hSL.2.1 hF.2.1 hk3 hp hf2 hc hll (nI k2)) (vx_cwSW 2 hts gT_L_starts rfl rfl rfl ⟨by decide +kernel, by decide +kernel, by decide +kernel⟩ ⟨Nat.le_of_ble_eq_true rfl, Nat.le_of_ble_eq_true rfl⟩) hP hK hD hS hA hXk hNc [0, 1, 2, 3, 4] ((List.range w1.length).map (fun i => i + 5)) rfl (tl_map (u := (FW g y (lN 0) q' u' (fun _ => 0) (nI 0) (-1) (-1) (-1) (lN 0) d' v' (fun _ => 0) (nI 0) (nI 3))) rfl w1) (by decide) (tl_nd _ _) (tl_dis (by decide)) rfl hl.1 rfl (Nat.le_of_ble_eq_true rfl) dL_law_51 ⟨by decide, by decide⟩ (fun r2 w2 H locs h_r2 hP hD hS => ?_)
  obtain ⟨hI9, e9⟩ := o_start (x := x) (y := y) L0 hk2.1 hk2.2 h_r1 h_r2
  refine tp_i (e9.symm.trans e1) ?_
  refine lv_if_eq (tgt := 61) hx hb dL_law_54 (by decide) (fun c9 => absurd c9 (by decide)) (fun _ => ?_)
  refine lv_iconst (v := nI 1) hx hb dL_law_57 (by decide) ?_
  refine lv_goto (tgt := 62) hx hb dL_law_58 (by decide) ?_
  refine lv_istore (lv' := [(4, .int (nI 1)), (3, .int (nI m)), (2, .ref y), (1, .ref x), (0, .ref b)]) hx hb dL_law_62 hl (by decide) rfl (fun ls hl => ?_)
  refine lv_iconst (v := nI 2) hx hb dL_law_64 (by decide) ?_
  refine lv_istore (lv' := [(5, .int (nI 2)), (4, .int (nI 1)), (3, .int (nI m)), (2, .ref y), (1, .ref x), (0, .ref b)]) hx hb dL_law_65 hl (by decide) rfl (fun ls hl => ?_)
  refine W.widen (k := 20 + 100 * 2) (n := 200 + 600 * 2) (by decide) (by decide) ?_
  exact law_loop C hA2 hr hlocks hL 178 2 rfl (Nat.le_refl _) _ _ _ _ _ hI9 hP hD hS (lv_sub hl [5, 4, 3, 2, 1, 0] rfl)
theorem xB_in : ∀ w ∈ xBw, w ∈ lw_tbl := lw_pl _ [109, 111, 113, 107, 179, 315] (by decide +kernel)
theorem xT_in : ∀ w ∈ xTx.map (fun q => Cond.stringRef RX4 q.1 q.2), w ∈ lw_tbl := lw_pl _ [146, 186, 336, 266, 271, 284, 322, 355, 367, 212, 289, 347, 341] (by decide +kernel)
theorem fC_of {s : State} {ag : Array Value} {C : String} {N : Nat} (h : (Cond.instantiable C N).before ag s = true) : ∃ cC, s.vm.findClass C = some cC := by
  obtain ⟨cC, kC, hfc, -⟩ := Cond.instantiable_spec h
  exact ⟨cC, hfc⟩
theorem arr_of {s : State} {ag : Array Value} {ty : FieldType} (h : (Cond.arrayClass ty).before ag s = true) : ∃ cA, s.vm.findClass ("[" ++ ty.toString) = some cA ∧ ArrOfT s cA ty := by
  obtain ⟨cA, kA, comp, h1, h2, h3⟩ := Cond.arrayClass_spec h
  exact ⟨cA, h1, fun n z => ⟨fun k h9 => (by cases h9), kA, h2, comp, h3⟩⟩
set_option maxHeartbeats 4000000 in
set_option maxRecDepth 100000 in
theorem whole_start {p : Program} {e : Env} {s : State} {m : MethodId} {below : List Frame} {meth : Method} {c : Code} (l : Launch) (hflags : l.flags = flags0) {b L : Nat} {xs : Nat → Int32} (hL : L ≤ 260) (C0 : lw_At p s m meth c b L xs) : W p l e room_1 s m #[Value.ref b] below meth c s.heap [] 0 0 (lw_Z below #[Value.ref b] s) (entryFrame m ([Value.ref b] : List Value).toArray 10) := by
  obtain ⟨hx, hb, hr, hml, hown0, hts, hX, hbl, hlocks, hgv⟩ := C0
  have hs := flat_of_before _ hgv
  have hown : s.vm.findClass RL = some m.cls := hown0
  obtain ⟨c0, i0, k0⟩ := u_known (C := RX0) (T := TX0) (N := 3) hts inX0 (hts (.instantiable RX0 3) (List.mem_of_getElem? (i := 30) (by decide +kernel)))
  obtain ⟨c1, i1, k1⟩ := u_known (C := RX1) (T := TX1) (N := 6) hts inX1 (hts (.instantiable RX1 6) (List.mem_of_getElem? (i := 47) (by decide +kernel)))
  obtain ⟨c4, i4, k4⟩ := u_known (C := RX4) (T := TX4) (N := 3) hts inX4 (hts (.instantiable RX4 3) (List.mem_of_getElem? (i := 22) (by decide +kernel)))
  obtain ⟨cI, nI1, aI⟩ := arr_of (hts (.arrayClass .int) (List.mem_of_getElem? (i := 71) (by decide +kernel)))
  obtain ⟨cJ, nJ1, aJ⟩ := arr_of (hts (.arrayClass .long) (List.mem_of_getElem? (i := 45) (by decide +kernel)))
  have hK : va_K ((fun k => match k with | 0 => c0 | 1 => c1 | _ => c4), (fun k => match k with | 0 => i0 | 1 => i1 | _ => i4)) vwCl [(cI, .int), (cJ, .long)] s := by
    refine ⟨fun k q hq => ?_, fun k q hk => ?_⟩
    · rcases k with _ | _ | _ | k
      · cases hq; exact k0
      · cases hq; exact k1
      · cases hq; exact k4
      · have h9 : (none : Option vw_C) = some q := hq
        cases h9
    · rcases k with _ | _ | k
      · cases hk; exact ⟨aI, nI1⟩
      · cases hk; exact ⟨aJ, nJ1⟩
      · have h9 : (none : Option (ClassId × FieldType)) = some q := hk
        cases h9
  have hfc4 : s.vm.findClass RX4 = some c4 := by
    obtain ⟨cC, hc⟩ := fC_of (hts (.instantiable RX4 3) (List.mem_of_getElem? (i := 22) (by decide +kernel)))
    rw [hc, ← hc]
    exact k4.2.1
  have hXk : Xk (fun q => s.heap.size ≤ q) s := by
    refine ⟨vx_Zqof (args := #[Value.ref b]) (hts (.laysStatic Bundle.tN "UNASSIGNED_STACK" Bundle.steD) (List.mem_of_getElem? (i := 132) (by decide +kernel))) (hts (.initialized Bundle.tN) (List.mem_of_getElem? (i := 12) (by decide +kernel))) (hs (Cond.isRef (.static "java/lang/Throwable" "UNASSIGNED_STACK" "[Ljava/lang/StackTraceElement;")) (by decide +kernel)) (fun q9 h9 => Nat.not_le.mpr h9), vx_Zqof (args := #[Value.ref b]) (hts (.laysStatic Bundle.tN "SUPPRESSED_SENTINEL" Bundle.listD) (List.mem_of_getElem? (i := 134) (by decide +kernel))) (hts (.initialized Bundle.tN) (List.mem_of_getElem? (i := 12) (by decide +kernel))) (hs (Cond.isRef (.static "java/lang/Throwable" "SUPPRESSED_SENTINEL" "Ljava/util/List;")) (by decide +kernel)) (fun q9 h9 => Nat.not_le.mpr h9), fun w hw => xb_move hw (State.WarmedH.refl s) (hts w (xB_in w hw)), fun q hq => ?_⟩
    have h1 := hts _ (xT_in _ (List.mem_map.mpr ⟨q, hq, rfl⟩))
    obtain ⟨kc, cf, ic, sa, -, -, -, -, -, h2⟩ := Cond.stringRef_spec hfc4 h1
    exact ⟨sa, vk_R.of h1 h2⟩
  have C : LC p l s m c b L xs (((fun k => match k with | 0 => c0 | 1 => c1 | _ => c4), (fun k => match k with | 0 => i0 | 1 => i1 | _ => i4)), (cI, cJ, cJ)) (fun q => s.heap.size ≤ q) := ⟨hx, hb, hml, hown, hts, hK, fun q h => h, Nat.not_le.mpr hbl, hXk, va_Nc.of (hs (Cond.not (.castable "java/lang/IllegalStateException" "java/lang/IllegalArgumentException")) (by decide +kernel)), hX, hbl, hflags⟩
  rw [lg_entry_eq]
  exact law_begin C (fun q h => h) hr hlocks hL (lv_entry [Value.ref b] (n := 10) (Nat.le_of_ble_eq_true rfl))
set_option maxHeartbeats 4000000 in
theorem lw_walk (l : Launch) (hflags : l.flags = flags0) (b : Addr) (xs : List Int32) : MetFree l x (headSpec (Jvm.Cond.code x code maxLocals ret :: tables_1) room_1) (lw_P b xs) (fun _ _ _ _ _ => True) lw_Q := by
  refine MetFree.of_bodyS (code := code) (maxLocals := maxLocals) (ret := ret) (by decide) ?_ ?_
  · intro args s m h hn
    obtain ⟨meth, c, h1, h2, h3, h4, h5, h6, -, -⟩ := Cond.code_spec hn (atoms_spec (ws := Jvm.Cond.code x code maxLocals ret :: tables_1) h _ List.mem_cons_self)
    exact ⟨meth, c, h1, h2, h3, h4, h5, h6⟩
  · intro p e s m args below meth c s₁ B hml0 hP _
    obtain ⟨rfl, hx, hbd, hgv⟩ := hP
    obtain ⟨scr, harrAt, hlist, hof, hsmall⟩ := hx
    obtain ⟨hcb, hkn, -, -⟩ := State.arrayAt?_spec harrAt
    have hown : s.vm.findClass R_law = some m.cls := findClass_of_methodNamed B.named
    have hts0 : ∀ c ∈ (Jvm.Cond.code x code maxLocals ret :: tables_1), c.before #[Value.ref b] s = true := atoms_spec (ws := Jvm.Cond.code x code maxLocals ret :: tables_1) B.pre
    have hts : ∀ w ∈ lw_tbl, w.before #[Value.ref b] s = true := k2_hts_sels lw_privs (fun w hw => hts0 w (List.mem_cons_of_mem _ hw)) lw_privs_ok
    have hml : c.maxLocals = 10 := B.maxLocals_eq (hts0 _ List.mem_cons_self)
    have X₀ : Stand p l e room_1 s m #[Value.ref b] below meth c s₁ [] 0 0 := Stand.of_body B
    have hh0 : s₁.heap = s.heap := by rw [B.state]; rfl
    have hsz : scr.slots.size = xs.length := by rw [← Array.length_toList, hlist, List.length_map]
    have hval : ∀ j : Nat, j < xs.length → scr.slots[j]? = some (.int (xs.getD j 0)) := fun j hj => by
      rw [← Array.getElem?_toList, hlist]
      simp [hj]
    have hbl : b < s.heap.size := (Array.getElem?_eq_some_iff.mp hcb).1
    have hX : va_X b xs.length (fun j => xs.getD j 0) s s.heap := ⟨scr, hcb, hof, hkn, hsz, hval⟩
    have K : W p l e room_1 s m #[Value.ref b] below meth c s₁.heap [] 0 0 (lw_Z below #[Value.ref b] s) (entryFrame m ([Value.ref b] : List Value).toArray 10) := by
      rw [hh0]
      exact whole_start l hflags hbd ⟨B.exec, B.bytes, B.returns, hml, hown, hts, hX, hbl, B.notSynchronized, hgv⟩
    obtain ⟨t, a1, o, b1, b2, b3⟩ := K s₁ rfl X₀
    exact ⟨t, o, a1, b1, b2, b3⟩
theorem lw_pre_spec {args : Array Value} {s : State} (h : (Jvm.Cond.and given_1 narrow_1).before args s = true) (hr : rest_1_c.before args s = true) : ∃ (b : Addr) (xs : List Int32), lw_P b xs args s := by
  have hs := flat_of_before _ h
  have hq := flat_of_before _ hr
  have hc : (Cond.count 1).before args s = true := hs _ (by decide +kernel)
  have harr : (Cond.arrayOf (.arg 0) .int).before args s = true := hs _ (by decide +kernel)
  have hle : (Cond.le (.length (.arg 0)) (.int 260)).before args s = true := hs _ (by decide +kernel)
  have hlen : (Cond.isInt (.length (.arg 0))).before args s = true := hq _ (by decide +kernel)
  have hall : (Cond.all (.arg 0) (.isInt (.elem (.arg 0) (.index 0)))).before args s = true := hq _ (by decide +kernel)
  obtain ⟨b, xs, hb, hx⟩ := State.ints_of_pre rfl harr hlen hall
  have hsm : xs.length < 2 ^ 31 := hx.choose_spec.2.2.2
  have hev : (Term.length (.arg 0)).eval args s none [] s = some (.int xs.length.toInt32) := hx.length_eval hb
  have hv := Cond.le_ints hev (show (Term.int 260).eval args s none [] s = some (.int 260) from rfl)
  have hd : xs.length.toInt32 ≤ 260 := by
    simpa [Cond.before, Cond.holds, hv] using hle
  have hN : xs.length ≤ 260 := (Int32.ofNat_le_ofNat hsm (by decide)).mp (show Int32.ofNat xs.length ≤ Int32.ofNat 260 from hd)
  exact ⟨b, xs, Cond.one_arg hc (show args[0]? = some (.ref b) from hb), hx, hN, h⟩
theorem lw_comes (l : Launch) (hflags : l.flags = flags0) : Comes l x (Jvm.Cond.code x code maxLocals ret :: tables_1) room_1 (fun tb e args s => Calls_1 tb e args s ∧ rest_1 tb e args s ∧ Pre_1 tb e args s)
    (fun _ _ args s o t => lw_Q args s o t) := by
  intro p e ha hc hk s m args below hf hfit hheap happ hpre
  obtain ⟨b, xs, hP⟩ := lw_pre_spec hpre.2.2 hpre.2.1
  obtain ⟨k, o, h1, h2, h3, hQ⟩ := lw_walk l hflags b xs p e ha hc hk s m args below hf ((Spec.applies_iff_loose hf).mp happ).1 hP trivial
  exact ⟨k, o, h1, h2, h3, hQ⟩
theorem lw_frame {s t : State} {o : Outcome} {args : Array Value} (h : Framed s o t [] 676567 7070986) :
    Framed s o t (fieldLocs frame_1_writes args s ++ arrayLocs frame_1_arrays args s ++ staticLocs frame_1_statics s) 676567 7070986 := h
theorem lw_limb (L : Cond) (hL : ∀ (args : Array Value) (s t : State), L.after args s (.returned (some (.int 1))) t = true) :
    ArmFor flags0 classFile x code maxLocals ret World_1 tables_1 room_1 Calls_1 rest_1 Pre_1
      (fun tb e a s o t => postC L tb e a s o t ∧ Framed s o t (fieldLocs frame_1_writes a s ++ arrayLocs frame_1_arrays a s ++ staticLocs frame_1_statics s) 676567 7070986) := by
  intro l hflags _ _ p e ha hc hk s m args below hf hfit hheap happ hpre
  obtain ⟨k, o, h1, h2, h3, rfl, hF⟩ := lw_comes l hflags p e ha hc hk s m args below hf hfit hheap happ hpre
  exact ⟨k, _, h1, h2, h3, hL args s _, lw_frame hF⟩
theorem i_vc : Claimed_1_1 ∧ Claimed_1_2 := ⟨lw_limb limb_1_1 (fun args s t => by simp [limb_1_1, Cond.after, Cond.holds, Cond.value]), lw_limb limb_1_2 (fun args s t => Cond.after_iff.mpr (by
  first | (rw [show limb_1_2 = Cond.eq .result (.int 1) from rfl, Cond.eq_ints (x := 1) (y := 1) rfl rfl]; simp; done) | (simp [limb_1_2, Cond.value, Term.eval]; done)))⟩
