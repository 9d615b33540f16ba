section LAWL
/-- what the law's walk stands on -/
def LC (p : Program) (l : Launch) (s : State) (m0 : MethodId) (c : Code) (b L : Nat) (xs : Nat → Int32) (g : GG) (A : Nat → Prop) : Prop := p.tables.exec = Jvm.exec ∧ c.code = cL_law ∧ c.maxLocals = 10 ∧ s.vm.findClass RL = some m0.cls ∧ (∀ w ∈ lw_tbl, w.before #[Value.ref b] s = true) ∧ va_K g.1 vwCl (tyG g) s ∧ (∀ q, s.heap.size ≤ q → A q) ∧ ¬ A b ∧ Xk A s ∧ va_Nc "java/lang/IllegalStateException" "java/lang/IllegalArgumentException" s ∧ va_X b L xs s s.heap ∧ b < s.heap.size ∧ l.flags = flags0
def LV (b x y m it z kd vv lt : Nat) : List (Nat × Value) := [(0, .ref b), (1, .ref x), (2, .ref y), (3, .int (nI m)), (4, .int (nI 1)), (5, .int (nI it)), (6, .int (nI z)), (7, .int (nI kd)), (8, .int (nI vv)), (9, .int (nI lt))]
theorem tl_map {u : va_W} {n : Nat} (hn : u.length = n) (w : va_W) : ((List.range w.length).map (fun i => i + n)).map (fun i => (u ++ w)[i]?) = w.map some := by
  subst hn
  rw [← rng_map w, List.map_map]
  refine List.map_congr_left (fun i _ => ?_)
  show (u ++ w)[i + u.length]? = w[i]?
  rw [List.getElem?_append_right (by omega), Nat.add_sub_cancel]
theorem tl_nd (n k : Nat) : va_nd ((List.range k).map (fun i => i + n)) = true := nd_of (List.Pairwise.map (fun i => i + n) (fun _ _ h e => h (Nat.add_right_cancel e)) List.nodup_range)
theorem tl_dis {n k : Nat} {l : List Nat} (h : ∀ i ∈ l, i < n) : ∀ i ∈ (List.range k).map (fun i => i + n), i ∉ l := fun i hi hl => by
  obtain ⟨j, -, rfl⟩ := List.mem_map.mp hi
  have := h _ hl
  omega
end LAWL
set_option maxHeartbeats 4000000 in
set_option maxRecDepth 100000 in
theorem op_write {p : Program} {l : Launch} {e : Env} {s : State} {m0 : MethodId} {below : List Frame} {meth : Method} {c : Code} {b L : Nat} {xs : Nat → Int32} {g : GG} {A : Nat → Prop} (C : LC p l s m0 c b L xs g A) {m x y : Nat} {wa wb : va_W} (hI : AB g m x y wa wb) {H : Heap} {locs : List Loc} {ls : Array Slot} (hP : va_P g.1 vwCl (wa ++ wb) H) (hD : va_D A (wa ++ wb)) (hS : va_S A s.heap H locs) {it z kd vv lt : Nat} (hvv : vv < 2147483648) (hlt : lt < 4) (hl : lv_has ls 10 (LV b x y m it z kd vv lt)) {cells slots : Nat} {Q : State → Prop} (hce : cells + 2 ≤ 676567) (hsl : slots + 12 ≤ 7070986)
    (kk : ∀ (wa wb : va_W) (H : Heap) (locs : List Loc) (ls : Array Slot), AB g m x y wa wb → va_P g.1 vwCl (wa ++ wb) H → va_D A (wa ++ wb) → va_S A s.heap H locs → lv_has ls 10 (LV b x y m it z kd vv lt) → W p l e room_1 s m0 #[Value.ref b] below meth c H locs (cells + 2) (slots + 12) Q (F0 m0 409 ls [])) : W p l e room_1 s m0 #[Value.ref b] below meth c H locs cells slots Q (F0 m0 133 ls []) := by
  obtain ⟨hx, hb, hml, hown, hts, hK, hA, hAb, hXk, hNc, hX, hbl, hfl⟩ := C
  obtain ⟨q, u, d, v, q', u', d', v', SL, SL', k, k', K, np, mv, lm, ch, F, F', f, f', S, S', cnt, ll, rfl, rfl, L⟩ := hI
  have L9 := L
  obtain ⟨hSL, hF, hk, hk2, hp, hf, hf2, hc, hll, hW, hI, h2l, hG, hm⟩ := L9
  have hl : lv_has ls 10 [(0, .ref b), (1, .ref x), (2, .ref y), (3, .int (nI m)), (4, .int (nI 1)), (5, .int (nI it)), (6, .int (nI z)), (7, .int (nI kd)), (8, .int (nI vv)), (9, .int (nI lt))] := hl
  refine lv_aload_n hx hb dL_law_133 rfl (lv_at hl 1 rfl) ?_
  refine lv_iconst (v := nI 1) hx hb dL_law_134 (by decide) ?_
  refine lv_iload hx hb dL_law_135 (lv_at hl 9 rfl) ?_
  refine call_wX (As := [.ref x, .int (nI 1), .int (nI lt)]) (rest := []) (wr := (FW g y (lN SL') q' u' k' (nI np) mv lm ch (lN F') d' v' f' (nI cnt) (nI ll))) ⟨hx, hb, hml, hown, hts⟩ (c_L_with_write l hfl g x q u d v SL k K np mv lm ch F f S cnt ll hSL.1 hF.1 hk hp hf hc hll (nI lt)) (vx_cwSW 3 hts gT_L_with rfl rfl rfl ⟨by decide +kernel, by decide +kernel, by decide +kernel⟩ ⟨Nat.le_of_ble_eq_true rfl, Nat.le_of_ble_eq_true rfl⟩) hP hK hD hS hA hXk hNc [0, 1, 2, 3, 4] [5, 6, 7, 8, 9] rfl rfl (by decide) (by decide) (by decide) rfl hl.1 rfl (Nat.le_of_ble_eq_true rfl) dL_law_137 ⟨by show cells + 1 ≤ 676567; omega, by show slots + 6 ≤ 7070986; omega⟩ (fun r1 w1 H locs h_r1 hP hD hS => ?_)
  refine lv_aload_n hx hb dL_law_140 rfl (lv_at hl 2 rfl) ?_
  refine lv_iconst (v := nI 1) hx hb dL_law_141 (by decide) ?_
  refine lv_iload hx hb dL_law_142 (lv_at hl 9 rfl) ?_
  refine lv_iload_n hx hb dL_law_144 rfl (lv_at hl 3 rfl) ?_
  refine lv_iadd hx hb dL_law_145 ?_
  refine tp_i (nI_add lt m) ?_
  refine call_wX (As := [.ref y, .int (nI 1), .int (nI (lt + m))]) (rest := [.int r1]) (wr := w1) ⟨hx, hb, hml, hown, hts⟩ (c_L_with_write l hfl g y q' u' d' v' SL' k' K np mv lm ch F' f' S' cnt ll hSL.2.1 hF.2.1 hk2 hp hf2 hc hll (nI (lt + m))) (vx_cwSW 3 hts gT_L_with rfl rfl rfl ⟨by decide +kernel, by decide +kernel, by decide +kernel⟩ ⟨Nat.le_of_ble_eq_true rfl, Nat.le_of_ble_eq_true rfl⟩) hP hK hD hS hA hXk hNc [0, 1, 2, 3, 4] ((List.range w1.length).map (fun i => i + 5)) rfl (tl_map (u := (FW g y (lN SL') q' u' k' (nI np) mv lm ch (lN F') d' v' f' (nI cnt) (nI ll))) rfl w1) (by decide) (tl_nd _ _) (tl_dis (by decide)) rfl hl.1 rfl (Nat.le_of_ble_eq_true rfl) dL_law_146 ⟨by show cells + 1 + 1 ≤ 676567; omega, by show slots + 6 + 6 ≤ 7070986; omega⟩ (fun r2 w2 H locs h_r2 hP hD hS => ?_)
  obtain ⟨hI9, e9⟩ := o_write L (c := lt) hlt h_r1 h_r2
  refine lv_icmp_ne (tgt := 156) hx hb dL_law_149 (by decide) (fun c9 => absurd (e9) c9) (fun _ => ?_)
  refine lv_iconst (v := nI 1) hx hb dL_law_152 (by decide) ?_
  refine lv_goto (tgt := 157) hx hb dL_law_153 (by decide) ?_
  refine lv_istore (lv' := [(4, .int (nI 1)), (0, .ref b), (1, .ref x), (2, .ref y), (3, .int (nI m)), (5, .int (nI it)), (6, .int (nI z)), (7, .int (nI kd)), (8, .int (nI vv)), (9, .int (nI lt))]) hx hb dL_law_157 hl (by decide) rfl (fun ls hl => ?_)
  refine lv_goto (tgt := 409) hx hb dL_law_159 (by decide) ?_
  exact kk w1 w2 _ _ _ hI9 hP hD hS (lv_sub hl [1, 2, 3, 4, 0, 5, 6, 7, 8, 9] rfl)
set_option maxHeartbeats 4000000 in
set_option maxRecDepth 100000 in
theorem op_addWord {p : Program} {l : Launch} {e : Env} {s : State} {m0 : MethodId} {below : List Frame} {meth : Method} {c : Code} {b L : Nat} {xs : Nat → Int32} {g : GG} {A : Nat → Prop} (C : LC p l s m0 c b L xs g A) {m x y : Nat} {wa wb : va_W} (hI : AB g m x y wa wb) {H : Heap} {locs : List Loc} {ls : Array Slot} (hP : va_P g.1 vwCl (wa ++ wb) H) (hD : va_D A (wa ++ wb)) (hS : va_S A s.heap H locs) {it z kd vv lt : Nat} (hvv : vv < 2147483648) (hlt : lt < 4) (hl : lv_has ls 10 (LV b x y m it z kd vv lt)) {cells slots : Nat} {Q : State → Prop} (hce : cells + 2 ≤ 676567) (hsl : slots + 12 ≤ 7070986)
    (kk : ∀ (wa wb : va_W) (H : Heap) (locs : List Loc) (ls : Array Slot), AB g m x y wa wb → va_P g.1 vwCl (wa ++ wb) H → va_D A (wa ++ wb) → va_S A s.heap H locs → lv_has ls 10 (LV b x y m it z kd vv lt) → W p l e room_1 s m0 #[Value.ref b] below meth c H locs (cells + 2) (slots + 12) Q (F0 m0 409 ls [])) : W p l e room_1 s m0 #[Value.ref b] below meth c H locs cells slots Q (F0 m0 169 ls []) := by
  obtain ⟨hx, hb, hml, hown, hts, hK, hA, hAb, hXk, hNc, hX, hbl, hfl⟩ := C
  obtain ⟨q, u, d, v, q', u', d', v', SL, SL', k, k', K, np, mv, lm, ch, F, F', f, f', S, S', cnt, ll, rfl, rfl, L⟩ := hI
  have L9 := L
  obtain ⟨hSL, hF, hk, hk2, hp, hf, hf2, hc, hll, hW, hI, h2l, hG, hm⟩ := L9
  have hl : lv_has ls 10 [(0, .ref b), (1, .ref x), (2, .ref y), (3, .int (nI m)), (4, .int (nI 1)), (5, .int (nI it)), (6, .int (nI z)), (7, .int (nI kd)), (8, .int (nI vv)), (9, .int (nI lt))] := hl
  refine lv_aload_n hx hb dL_law_169 rfl (lv_at hl 1 rfl) ?_
  refine lv_iconst (v := nI 0) hx hb dL_law_170 (by decide) ?_
  refine call_wX (As := [.ref x, .int (nI 0)]) (rest := []) (wr := (FW g y (lN SL') q' u' k' (nI np) mv lm ch (lN F') d' v' f' (nI cnt) (nI ll))) ⟨hx, hb, hml, hown, hts⟩ (c_L_does_addWord l hfl g x q u d v SL k K np mv lm ch F f S cnt ll hSL.1 hF.1 hk hp hf hc hll) (vx_cwSW 2 hts gT_L_does rfl rfl rfl ⟨by decide +kernel, by decide +kernel, by decide +kernel⟩ ⟨Nat.le_of_ble_eq_true rfl, Nat.le_of_ble_eq_true rfl⟩) hP hK hD hS hA hXk hNc [0, 1, 2, 3, 4] [5, 6, 7, 8, 9] rfl rfl (by decide) (by decide) (by decide) rfl hl.1 rfl (Nat.le_of_ble_eq_true rfl) dL_law_171 ⟨by show cells + 1 ≤ 676567; omega, by show slots + 6 ≤ 7070986; omega⟩ (fun r1 w1 H locs h_r1 hP hD hS => ?_)
  refine lv_aload_n hx hb dL_law_174 rfl (lv_at hl 2 rfl) ?_
  refine lv_iconst (v := nI 0) hx hb dL_law_175 (by decide) ?_
  refine call_wX (As := [.ref y, .int (nI 0)]) (rest := [.int r1]) (wr := w1) ⟨hx, hb, hml, hown, hts⟩ (c_L_does_addWord l hfl g y q' u' d' v' SL' k' K np mv lm ch F' f' S' cnt ll hSL.2.1 hF.2.1 hk2 hp hf2 hc hll) (vx_cwSW 2 hts gT_L_does rfl rfl rfl ⟨by decide +kernel, by decide +kernel, by decide +kernel⟩ ⟨Nat.le_of_ble_eq_true rfl, Nat.le_of_ble_eq_true rfl⟩) hP hK hD hS hA hXk hNc [0, 1, 2, 3, 4] ((List.range w1.length).map (fun i => i + 5)) rfl (tl_map (u := (FW g y (lN SL') q' u' k' (nI np) mv lm ch (lN F') d' v' f' (nI cnt) (nI ll))) rfl w1) (by decide) (tl_nd _ _) (tl_dis (by decide)) rfl hl.1 rfl (Nat.le_of_ble_eq_true rfl) dL_law_176 ⟨by show cells + 1 + 1 ≤ 676567; omega, by show slots + 6 + 6 ≤ 7070986; omega⟩ (fun r2 w2 H locs h_r2 hP hD hS => ?_)
  obtain ⟨hI9, e9⟩ := o_addWord L h_r1 h_r2
  refine lv_icmp_ne (tgt := 204) hx hb dL_law_179 (by decide) (fun c9 => absurd (e9) c9) (fun _ => ?_)
  refine lv_iload hx hb dL_law_182 (lv_at hl 8 rfl) ?_
  refine lv_iconst (v := nI 3) hx hb dL_law_184 (by decide) ?_
  refine lv_irem hx hb dL_law_185 (by decide) ?_
  refine tp_i (b := nI (vv % 3)) (pk_rem (by omega) (by omega) (by omega)) ?_
  refine lv_if_gt (tgt := 200) hx hb dL_law_186 (by decide) (fun _ => ?_) (fun _ => ?_)
  · skip
    refine lv_iconst (v := nI 1) hx hb dL_law_200 (by decide) ?_
    refine lv_goto (tgt := 205) hx hb dL_law_201 (by decide) ?_
    refine lv_istore (lv' := [(4, .int (nI 1)), (0, .ref b), (1, .ref x), (2, .ref y), (3, .int (nI m)), (5, .int (nI it)), (6, .int (nI z)), (7, .int (nI kd)), (8, .int (nI vv)), (9, .int (nI lt))]) hx hb dL_law_205 hl (by decide) rfl (fun ls hl => ?_)
    refine lv_goto (tgt := 409) hx hb dL_law_207 (by decide) ?_
    exact kk w1 w2 _ _ _ hI9 hP hD hS (lv_sub hl [1, 2, 3, 4, 0, 5, 6, 7, 8, 9] rfl)
  · skip
    obtain ⟨q, u, d, v, q', u', d', v', SL, SL', k, k', K, np, mv, lm, ch, F, F', f, f', S, S', cnt, ll, rfl, rfl, L⟩ := hI9
    have L9 := L
    obtain ⟨hSL, hF, hk, hk2, hp, hf, hf2, hc, hll, hW, hI, h2l, hG, hm⟩ := L9
    refine lv_aload_n hx hb dL_law_189 rfl (lv_at hl 1 rfl) ?_
    refine call_iV (As := []) (rest := []) (wr := (FW g y (lN SL') q' u' k' (nI np) mv lm ch (lN F') d' v' f' (nI cnt) (nI ll))) ⟨hx, hb, hml, hown, hts⟩ (c_X4_wipe l g x q u d v SL k K np mv lm ch F f S cnt ll hSL.1 hF.1 hk hp hf hc hll) (cwV 0 hts gT_X4_wipe rfl rfl rfl (by decide +kernel) ⟨Nat.le_of_ble_eq_true rfl, Nat.le_of_ble_eq_true rfl⟩) hP hK hD hS hA [0, 1, 2, 3, 4] [5, 6, 7, 8, 9] rfl rfl (by decide) (by decide) (by decide) 0 rfl rfl rfl rfl hl.1 rfl (Nat.le_of_ble_eq_true rfl) dL_law_190 ⟨by show cells + 1 + 1 + 0 ≤ 676567; omega, by show slots + 6 + 6 + 0 ≤ 7070986; omega⟩ (fun r3 w1 H locs h_r3 hP hD hS => ?_)
    refine lv_aload_n hx hb dL_law_193 rfl (lv_at hl 2 rfl) ?_
    refine call_iV (As := []) (rest := [.int r3]) (wr := w1) ⟨hx, hb, hml, hown, hts⟩ (c_X4_wipe l g y q' u' d' v' SL' k' K np mv lm ch F' f' S' cnt ll hSL.2.1 hF.2.1 hk2 hp hf2 hc hll) (cwV 0 hts gT_X4_wipe rfl rfl rfl (by decide +kernel) ⟨Nat.le_of_ble_eq_true rfl, Nat.le_of_ble_eq_true rfl⟩) hP hK hD hS hA [0, 1, 2, 3, 4] ((List.range w1.length).map (fun i => i + 5)) rfl (tl_map (u := (FW g y (lN SL') q' u' k' (nI np) mv lm ch (lN F') d' v' f' (nI cnt) (nI ll))) rfl w1) (by decide) (tl_nd _ _) (tl_dis (by decide)) 0 rfl rfl rfl rfl hl.1 rfl (Nat.le_of_ble_eq_true rfl) dL_law_194 ⟨by show cells + 1 + 1 + 0 ≤ 676567; omega, by show slots + 6 + 6 + 0 ≤ 7070986; omega⟩ (fun r4 w2 H locs h_r4 hP hD hS => ?_)
    obtain ⟨hI9, e9⟩ := o_wipe L h_r3 h_r4
    refine lv_icmp_ne (tgt := 204) hx hb dL_law_197 (by decide) (fun c9 => absurd (e9) c9) (fun _ => ?_)
    refine lv_iconst (v := nI 1) hx hb dL_law_200 (by decide) ?_
    refine lv_goto (tgt := 205) hx hb dL_law_201 (by decide) ?_
    refine lv_istore (lv' := [(4, .int (nI 1)), (0, .ref b), (1, .ref x), (2, .ref y), (3, .int (nI m)), (5, .int (nI it)), (6, .int (nI z)), (7, .int (nI kd)), (8, .int (nI vv)), (9, .int (nI lt))]) hx hb dL_law_205 hl (by decide) rfl (fun ls hl => ?_)
    refine lv_goto (tgt := 409) hx hb dL_law_207 (by decide) ?_
    exact W.widen (k := cells + 2) (n := slots + 12) (by omega) (by omega) (kk w1 w2 _ _ _ hI9 hP hD hS (lv_sub hl [1, 2, 3, 4, 0, 5, 6, 7, 8, 9] rfl))
set_option maxHeartbeats 4000000 in
set_option maxRecDepth 100000 in
theorem op_removeWord {p : Program} {l : Launch} {e : Env} {s : State} {m0 : MethodId} {below : List Frame} {meth : Method} {c : Code} {b L : Nat} {xs : Nat → Int32} {g : GG} {A : Nat → Prop} (C : LC p l s m0 c b L xs g A) {m x y : Nat} {wa wb : va_W} (hI : AB g m x y wa wb) {H : Heap} {locs : List Loc} {ls : Array Slot} (hP : va_P g.1 vwCl (wa ++ wb) H) (hD : va_D A (wa ++ wb)) (hS : va_S A s.heap H locs) {it z kd vv lt : Nat} (hvv : vv < 2147483648) (hlt : lt < 4) (hl : lv_has ls 10 (LV b x y m it z kd vv lt)) {cells slots : Nat} {Q : State → Prop} (hce : cells + 2 ≤ 676567) (hsl : slots + 12 ≤ 7070986)
    (kk : ∀ (wa wb : va_W) (H : Heap) (locs : List Loc) (ls : Array Slot), AB g m x y wa wb → va_P g.1 vwCl (wa ++ wb) H → va_D A (wa ++ wb) → va_S A s.heap H locs → lv_has ls 10 (LV b x y m it z kd vv lt) → W p l e room_1 s m0 #[Value.ref b] below meth c H locs (cells + 2) (slots + 12) Q (F0 m0 409 ls [])) : W p l e room_1 s m0 #[Value.ref b] below meth c H locs cells slots Q (F0 m0 217 ls []) := by
  obtain ⟨hx, hb, hml, hown, hts, hK, hA, hAb, hXk, hNc, hX, hbl, hfl⟩ := C
  obtain ⟨q, u, d, v, q', u', d', v', SL, SL', k, k', K, np, mv, lm, ch, F, F', f, f', S, S', cnt, ll, rfl, rfl, L⟩ := hI
  have L9 := L
  obtain ⟨hSL, hF, hk, hk2, hp, hf, hf2, hc, hll, hW, hI, h2l, hG, hm⟩ := L9
  have hl : lv_has ls 10 [(0, .ref b), (1, .ref x), (2, .ref y), (3, .int (nI m)), (4, .int (nI 1)), (5, .int (nI it)), (6, .int (nI z)), (7, .int (nI kd)), (8, .int (nI vv)), (9, .int (nI lt))] := hl
  refine lv_iload hx hb dL_law_217 (lv_at hl 8 rfl) ?_
  refine lv_iconst (v := nI 3) hx hb dL_law_219 (by decide) ?_
  refine lv_irem hx hb dL_law_220 (by decide) ?_
  refine tp_i (b := nI (vv % 3)) (pk_rem (by omega) (by omega) (by omega)) ?_
  refine lv_if_gt (tgt := 237) hx hb dL_law_221 (by decide) (fun _ => ?_) (fun _ => ?_)
  · skip
    have hI9 := AB.of (w1 := (FW g x (lN SL) q u k (nI np) mv lm ch (lN F) d v f (nI cnt) (nI ll))) (w2 := (FW g y (lN SL') q' u' k' (nI np) mv lm ch (lN F') d' v' f' (nI cnt) (nI ll))) rfl rfl L
    refine lv_iconst (v := nI 1) hx hb dL_law_237 (by decide) ?_
    refine lv_goto (tgt := 242) hx hb dL_law_238 (by decide) ?_
    refine lv_istore (lv' := [(4, .int (nI 1)), (0, .ref b), (1, .ref x), (2, .ref y), (3, .int (nI m)), (5, .int (nI it)), (6, .int (nI z)), (7, .int (nI kd)), (8, .int (nI vv)), (9, .int (nI lt))]) hx hb dL_law_242 hl (by decide) rfl (fun ls hl => ?_)
    refine lv_goto (tgt := 409) hx hb dL_law_244 (by decide) ?_
    exact W.widen (k := cells + 2) (n := slots + 12) (by omega) (by omega) (kk (FW g x (lN SL) q u k (nI np) mv lm ch (lN F) d v f (nI cnt) (nI ll)) (FW g y (lN SL') q' u' k' (nI np) mv lm ch (lN F') d' v' f' (nI cnt) (nI ll)) _ _ _ hI9 hP hD hS (lv_sub hl [1, 2, 3, 4, 0, 5, 6, 7, 8, 9] rfl))
  · skip
    refine lv_aload_n hx hb dL_law_224 rfl (lv_at hl 1 rfl) ?_
    refine lv_iconst (v := nI 1) hx hb dL_law_225 (by decide) ?_
    refine call_wX (As := [.ref x, .int (nI 1)]) (rest := []) (wr := (FW g y (lN SL') q' u' k' (nI np) mv lm ch (lN F') d' v' f' (nI cnt) (nI ll))) ⟨hx, hb, hml, hown, hts⟩ (c_L_does_removeWord l hfl g x q u d v SL k K np mv lm ch F f S cnt ll hSL.1 hF.1 hk hp hf hc hll) (vx_cwSW 2 hts gT_L_does rfl rfl rfl ⟨by decide +kernel, by decide +kernel, by decide +kernel⟩ ⟨Nat.le_of_ble_eq_true rfl, Nat.le_of_ble_eq_true rfl⟩) hP hK hD hS hA hXk hNc [0, 1, 2, 3, 4] [5, 6, 7, 8, 9] rfl rfl (by decide) (by decide) (by decide) rfl hl.1 rfl (Nat.le_of_ble_eq_true rfl) dL_law_226 ⟨by show cells + 1 ≤ 676567; omega, by show slots + 6 ≤ 7070986; omega⟩ (fun r1 w1 H locs h_r1 hP hD hS => ?_)
    refine lv_aload_n hx hb dL_law_229 rfl (lv_at hl 2 rfl) ?_
    refine lv_iconst (v := nI 1) hx hb dL_law_230 (by decide) ?_
    refine call_wX (As := [.ref y, .int (nI 1)]) (rest := [.int r1]) (wr := w1) ⟨hx, hb, hml, hown, hts⟩ (c_L_does_removeWord l hfl g y q' u' d' v' SL' k' K np mv lm ch F' f' S' cnt ll hSL.2.1 hF.2.1 hk2 hp hf2 hc hll) (vx_cwSW 2 hts gT_L_does rfl rfl rfl ⟨by decide +kernel, by decide +kernel, by decide +kernel⟩ ⟨Nat.le_of_ble_eq_true rfl, Nat.le_of_ble_eq_true rfl⟩) hP hK hD hS hA hXk hNc [0, 1, 2, 3, 4] ((List.range w1.length).map (fun i => i + 5)) rfl (tl_map (u := (FW g y (lN SL') q' u' k' (nI np) mv lm ch (lN F') d' v' f' (nI cnt) (nI ll))) rfl w1) (by decide) (tl_nd _ _) (tl_dis (by decide)) rfl hl.1 rfl (Nat.le_of_ble_eq_true rfl) dL_law_231 ⟨by show cells + 1 + 1 ≤ 676567; omega, by show slots + 6 + 6 ≤ 7070986; omega⟩ (fun r2 w2 H locs h_r2 hP hD hS => ?_)
    obtain ⟨hI9, e9⟩ := o_removeWord L h_r1 h_r2
    refine lv_icmp_ne (tgt := 241) hx hb dL_law_234 (by decide) (fun c9 => absurd (e9) c9) (fun _ => ?_)
    refine lv_iconst (v := nI 1) hx hb dL_law_237 (by decide) ?_
    refine lv_goto (tgt := 242) hx hb dL_law_238 (by decide) ?_
    refine lv_istore (lv' := [(4, .int (nI 1)), (0, .ref b), (1, .ref x), (2, .ref y), (3, .int (nI m)), (5, .int (nI it)), (6, .int (nI z)), (7, .int (nI kd)), (8, .int (nI vv)), (9, .int (nI lt))]) hx hb dL_law_242 hl (by decide) rfl (fun ls hl => ?_)
    refine lv_goto (tgt := 409) hx hb dL_law_244 (by decide) ?_
    exact kk w1 w2 _ _ _ hI9 hP hD hS (lv_sub hl [1, 2, 3, 4, 0, 5, 6, 7, 8, 9] rfl)
set_option maxHeartbeats 4000000 in
set_option maxRecDepth 100000 in
theorem op_copyWord {p : Program} {l : Launch} {e : Env} {s : State} {m0 : MethodId} {below : List Frame} {meth : Method} {c : Code} {b L : Nat} {xs : Nat → Int32} {g : GG} {A : Nat → Prop} (C : LC p l s m0 c b L xs g A) {m x y : Nat} {wa wb : va_W} (hI : AB g m x y wa wb) {H : Heap} {locs : List Loc} {ls : Array Slot} (hP : va_P g.1 vwCl (wa ++ wb) H) (hD : va_D A (wa ++ wb)) (hS : va_S A s.heap H locs) {it z kd vv lt : Nat} (hvv : vv < 2147483648) (hlt : lt < 4) (hl : lv_has ls 10 (LV b x y m it z kd vv lt)) {cells slots : Nat} {Q : State → Prop} (hce : cells + 2 ≤ 676567) (hsl : slots + 12 ≤ 7070986)
    (kk : ∀ (wa wb : va_W) (H : Heap) (locs : List Loc) (ls : Array Slot), AB g m x y wa wb → va_P g.1 vwCl (wa ++ wb) H → va_D A (wa ++ wb) → va_S A s.heap H locs → lv_has ls 10 (LV b x y m it z kd vv lt) → W p l e room_1 s m0 #[Value.ref b] below meth c H locs (cells + 2) (slots + 12) Q (F0 m0 409 ls [])) : W p l e room_1 s m0 #[Value.ref b] below meth c H locs cells slots Q (F0 m0 254 ls []) := by
  obtain ⟨hx, hb, hml, hown, hts, hK, hA, hAb, hXk, hNc, hX, hbl, hfl⟩ := C
  obtain ⟨q, u, d, v, q', u', d', v', SL, SL', k, k', K, np, mv, lm, ch, F, F', f, f', S, S', cnt, ll, rfl, rfl, L⟩ := hI
  have L9 := L
  obtain ⟨hSL, hF, hk, hk2, hp, hf, hf2, hc, hll, hW, hI, h2l, hG, hm⟩ := L9
  have hl : lv_has ls 10 [(0, .ref b), (1, .ref x), (2, .ref y), (3, .int (nI m)), (4, .int (nI 1)), (5, .int (nI it)), (6, .int (nI z)), (7, .int (nI kd)), (8, .int (nI vv)), (9, .int (nI lt))] := hl
  refine lv_aload_n hx hb dL_law_254 rfl (lv_at hl 1 rfl) ?_
  refine lv_iconst (v := nI 0) hx hb dL_law_255 (by decide) ?_
  refine lv_iload hx hb dL_law_256 (lv_at hl 8 rfl) ?_
  refine lv_bipush (v := nI 12) hx hb dL_law_258 (by decide) ?_
  refine lv_irem hx hb dL_law_260 (by decide) ?_
  refine tp_i (b := nI (vv % 12)) (pk_rem (by omega) (by omega) (by omega)) ?_
  refine call_wX (As := [.ref x, .int (nI 0), .int (nI (vv % 12))]) (rest := []) (wr := (FW g y (lN SL') q' u' k' (nI np) mv lm ch (lN F') d' v' f' (nI cnt) (nI ll))) ⟨hx, hb, hml, hown, hts⟩ (c_L_at_copyWord l hfl g x q u d v SL k K np mv lm ch F f S cnt ll hSL.1 hF.1 hk hp hf hc hll h2l (nI (vv % 12))) (vx_cwSW 3 hts gT_L_at rfl rfl rfl ⟨by decide +kernel, by decide +kernel, by decide +kernel⟩ ⟨Nat.le_of_ble_eq_true rfl, Nat.le_of_ble_eq_true rfl⟩) hP hK hD hS hA hXk hNc [0, 1, 2, 3, 4] [5, 6, 7, 8, 9] rfl rfl (by decide) (by decide) (by decide) rfl hl.1 rfl (Nat.le_of_ble_eq_true rfl) dL_law_261 ⟨by show cells + 1 ≤ 676567; omega, by show slots + 6 ≤ 7070986; omega⟩ (fun r1 w1 H locs h_r1 hP hD hS => ?_)
  refine lv_aload_n hx hb dL_law_264 rfl (lv_at hl 2 rfl) ?_
  refine lv_iconst (v := nI 0) hx hb dL_law_265 (by decide) ?_
  refine lv_iload hx hb dL_law_266 (lv_at hl 8 rfl) ?_
  refine lv_bipush (v := nI 12) hx hb dL_law_268 (by decide) ?_
  refine lv_irem hx hb dL_law_270 (by decide) ?_
  refine tp_i (b := nI (vv % 12)) (pk_rem (by omega) (by omega) (by omega)) ?_
  refine call_wX (As := [.ref y, .int (nI 0), .int (nI (vv % 12))]) (rest := [.int r1]) (wr := w1) ⟨hx, hb, hml, hown, hts⟩ (c_L_at_copyWord l hfl g y q' u' d' v' SL' k' K np mv lm ch F' f' S' cnt ll hSL.2.1 hF.2.1 hk2 hp hf2 hc hll (fun i hi => by rw [(hW i hi).2.2.1]; exact h2l i hi) (nI (vv % 12))) (vx_cwSW 3 hts gT_L_at rfl rfl rfl ⟨by decide +kernel, by decide +kernel, by decide +kernel⟩ ⟨Nat.le_of_ble_eq_true rfl, Nat.le_of_ble_eq_true rfl⟩) hP hK hD hS hA hXk hNc [0, 1, 2, 3, 4] ((List.range w1.length).map (fun i => i + 5)) rfl (tl_map (u := (FW g y (lN SL') q' u' k' (nI np) mv lm ch (lN F') d' v' f' (nI cnt) (nI ll))) rfl w1) (by decide) (tl_nd _ _) (tl_dis (by decide)) rfl hl.1 rfl (Nat.le_of_ble_eq_true rfl) dL_law_271 ⟨by show cells + 1 + 1 ≤ 676567; omega, by show slots + 6 + 6 ≤ 7070986; omega⟩ (fun r2 w2 H locs h_r2 hP hD hS => ?_)
  obtain ⟨hI9, e9⟩ := o_copyWord L (c := vv % 12) (by omega) h_r1 h_r2
  refine lv_icmp_ne (tgt := 281) hx hb dL_law_274 (by decide) (fun c9 => absurd (e9) c9) (fun _ => ?_)
  refine lv_iconst (v := nI 1) hx hb dL_law_277 (by decide) ?_
  refine lv_goto (tgt := 282) hx hb dL_law_278 (by decide) ?_
  refine lv_istore (lv' := [(4, .int (nI 1)), (0, .ref b), (1, .ref x), (2, .ref y), (3, .int (nI m)), (5, .int (nI it)), (6, .int (nI z)), (7, .int (nI kd)), (8, .int (nI vv)), (9, .int (nI lt))]) hx hb dL_law_282 hl (by decide) rfl (fun ls hl => ?_)
  refine lv_goto (tgt := 409) hx hb dL_law_284 (by decide) ?_
  exact kk w1 w2 _ _ _ hI9 hP hD hS (lv_sub hl [1, 2, 3, 4, 0, 5, 6, 7, 8, 9] rfl)
set_option maxHeartbeats 4000000 in
set_option maxRecDepth 100000 in
theorem op_least {p : Program} {l : Launch} {e : Env} {s : State} {m0 : MethodId} {below : List Frame} {meth : Method} {c : Code} {b L : Nat} {xs : Nat → Int32} {g : GG} {A : Nat → Prop} (C : LC p l s m0 c b L xs g A) {m x y : Nat} {wa wb : va_W} (hI : AB g m x y wa wb) {H : Heap} {locs : List Loc} {ls : Array Slot} (hP : va_P g.1 vwCl (wa ++ wb) H) (hD : va_D A (wa ++ wb)) (hS : va_S A s.heap H locs) {it z kd vv lt : Nat} (hvv : vv < 2147483648) (hlt : lt < 4) (hl : lv_has ls 10 (LV b x y m it z kd vv lt)) {cells slots : Nat} {Q : State → Prop} (hce : cells + 2 ≤ 676567) (hsl : slots + 12 ≤ 7070986)
    (kk : ∀ (wa wb : va_W) (H : Heap) (locs : List Loc) (ls : Array Slot), AB g m x y wa wb → va_P g.1 vwCl (wa ++ wb) H → va_D A (wa ++ wb) → va_S A s.heap H locs → lv_has ls 10 (LV b x y m it z kd vv lt) → W p l e room_1 s m0 #[Value.ref b] below meth c H locs (cells + 2) (slots + 12) Q (F0 m0 409 ls [])) : W p l e room_1 s m0 #[Value.ref b] below meth c H locs cells slots Q (F0 m0 294 ls []) := by
  obtain ⟨hx, hb, hml, hown, hts, hK, hA, hAb, hXk, hNc, hX, hbl, hfl⟩ := C
  obtain ⟨q, u, d, v, q', u', d', v', SL, SL', k, k', K, np, mv, lm, ch, F, F', f, f', S, S', cnt, ll, rfl, rfl, L⟩ := hI
  have L9 := L
  obtain ⟨hSL, hF, hk, hk2, hp, hf, hf2, hc, hll, hW, hI, h2l, hG, hm⟩ := L9
  have hl : lv_has ls 10 [(0, .ref b), (1, .ref x), (2, .ref y), (3, .int (nI m)), (4, .int (nI 1)), (5, .int (nI it)), (6, .int (nI z)), (7, .int (nI kd)), (8, .int (nI vv)), (9, .int (nI lt))] := hl
  refine lv_aload_n hx hb dL_law_294 rfl (lv_at hl 1 rfl) ?_
  refine lv_iconst (v := nI 2) hx hb dL_law_295 (by decide) ?_
  refine lv_iload hx hb dL_law_296 (lv_at hl 8 rfl) ?_
  refine lv_iconst (v := nI 4) hx hb dL_law_298 (by decide) ?_
  refine lv_irem hx hb dL_law_299 (by decide) ?_
  refine tp_i (b := nI (vv % 4)) (pk_rem (by omega) (by omega) (by omega)) ?_
  refine lv_iadd hx hb dL_law_300 ?_
  refine tp_i (nI_add 2 (vv % 4)) ?_
  refine call_wX (As := [.ref x, .int (nI (2 + (vv % 4)))]) (rest := []) (wr := (FW g y (lN SL') q' u' k' (nI np) mv lm ch (lN F') d' v' f' (nI cnt) (nI ll))) ⟨hx, hb, hml, hown, hts⟩ (c_L_least_setLeastLength l hfl g x q u d v SL k K np mv lm ch F f S cnt ll hSL.1 hF.1 hk hp hf hc hll (nI (2 + (vv % 4)))) (vx_cwSW 2 hts gT_L_least rfl rfl rfl ⟨by decide +kernel, by decide +kernel, by decide +kernel⟩ ⟨Nat.le_of_ble_eq_true rfl, Nat.le_of_ble_eq_true rfl⟩) hP hK hD hS hA hXk hNc [0, 1, 2, 3, 4] [5, 6, 7, 8, 9] rfl rfl (by decide) (by decide) (by decide) rfl hl.1 rfl (Nat.le_of_ble_eq_true rfl) dL_law_301 ⟨by show cells + 1 ≤ 676567; omega, by show slots + 6 ≤ 7070986; omega⟩ (fun r1 w1 H locs h_r1 hP hD hS => ?_)
  refine lv_aload_n hx hb dL_law_304 rfl (lv_at hl 2 rfl) ?_
  refine lv_iconst (v := nI 2) hx hb dL_law_305 (by decide) ?_
  refine lv_iload hx hb dL_law_306 (lv_at hl 8 rfl) ?_
  refine lv_iconst (v := nI 4) hx hb dL_law_308 (by decide) ?_
  refine lv_irem hx hb dL_law_309 (by decide) ?_
  refine tp_i (b := nI (vv % 4)) (pk_rem (by omega) (by omega) (by omega)) ?_
  refine lv_iadd hx hb dL_law_310 ?_
  refine tp_i (nI_add 2 (vv % 4)) ?_
  refine call_wX (As := [.ref y, .int (nI (2 + (vv % 4)))]) (rest := [.int r1]) (wr := w1) ⟨hx, hb, hml, hown, hts⟩ (c_L_least_setLeastLength l hfl g y q' u' d' v' SL' k' K np mv lm ch F' f' S' cnt ll hSL.2.1 hF.2.1 hk2 hp hf2 hc hll (nI (2 + (vv % 4)))) (vx_cwSW 2 hts gT_L_least rfl rfl rfl ⟨by decide +kernel, by decide +kernel, by decide +kernel⟩ ⟨Nat.le_of_ble_eq_true rfl, Nat.le_of_ble_eq_true rfl⟩) hP hK hD hS hA hXk hNc [0, 1, 2, 3, 4] ((List.range w1.length).map (fun i => i + 5)) rfl (tl_map (u := (FW g y (lN SL') q' u' k' (nI np) mv lm ch (lN F') d' v' f' (nI cnt) (nI ll))) rfl w1) (by decide) (tl_nd _ _) (tl_dis (by decide)) rfl hl.1 rfl (Nat.le_of_ble_eq_true rfl) dL_law_311 ⟨by show cells + 1 + 1 ≤ 676567; omega, by show slots + 6 + 6 ≤ 7070986; omega⟩ (fun r2 w2 H locs h_r2 hP hD hS => ?_)
  obtain ⟨hI9, e9⟩ := o_setLeastLength L (c := 2 + vv % 4) (by omega) h_r1 h_r2
  refine lv_icmp_ne (tgt := 321) hx hb dL_law_314 (by decide) (fun c9 => absurd (e9) c9) (fun _ => ?_)
  refine lv_iconst (v := nI 1) hx hb dL_law_317 (by decide) ?_
  refine lv_goto (tgt := 322) hx hb dL_law_318 (by decide) ?_
  refine lv_istore (lv' := [(4, .int (nI 1)), (0, .ref b), (1, .ref x), (2, .ref y), (3, .int (nI m)), (5, .int (nI it)), (6, .int (nI z)), (7, .int (nI kd)), (8, .int (nI vv)), (9, .int (nI lt))]) hx hb dL_law_322 hl (by decide) rfl (fun ls hl => ?_)
  refine lv_goto (tgt := 409) hx hb dL_law_324 (by decide) ?_
  exact kk w1 w2 _ _ _ hI9 hP hD hS (lv_sub hl [1, 2, 3, 4, 0, 5, 6, 7, 8, 9] rfl)
set_option maxHeartbeats 4000000 in
set_option maxRecDepth 100000 in
theorem op_play {p : Program} {l : Launch} {e : Env} {s : State} {m0 : MethodId} {below : List Frame} {meth : Method} {c : Code} {b L : Nat} {xs : Nat → Int32} {g : GG} {A : Nat → Prop} (C : LC p l s m0 c b L xs g A) {m x y : Nat} {wa wb : va_W} (hI : AB g m x y wa wb) {H : Heap} {locs : List Loc} {ls : Array Slot} (hP : va_P g.1 vwCl (wa ++ wb) H) (hD : va_D A (wa ++ wb)) (hS : va_S A s.heap H locs) {it z kd vv lt : Nat} (hvv : vv < 2147483648) (hlt : lt < 4) (hl : lv_has ls 10 (LV b x y m it z kd vv lt)) {cells slots : Nat} {Q : State → Prop} (hce : cells + 2 ≤ 676567) (hsl : slots + 12 ≤ 7070986)
    (kk : ∀ (wa wb : va_W) (H : Heap) (locs : List Loc) (ls : Array Slot), AB g m x y wa wb → va_P g.1 vwCl (wa ++ wb) H → va_D A (wa ++ wb) → va_S A s.heap H locs → lv_has ls 10 (LV b x y m it z kd vv lt) → W p l e room_1 s m0 #[Value.ref b] below meth c H locs (cells + 2) (slots + 12) Q (F0 m0 409 ls [])) : W p l e room_1 s m0 #[Value.ref b] below meth c H locs cells slots Q (F0 m0 334 ls []) := by
  obtain ⟨hx, hb, hml, hown, hts, hK, hA, hAb, hXk, hNc, hX, hbl, hfl⟩ := C
  obtain ⟨q, u, d, v, q', u', d', v', SL, SL', k, k', K, np, mv, lm, ch, F, F', f, f', S, S', cnt, ll, rfl, rfl, L⟩ := hI
  have L9 := L
  obtain ⟨hSL, hF, hk, hk2, hp, hf, hf2, hc, hll, hW, hI, h2l, hG, hm⟩ := L9
  have hl : lv_has ls 10 [(0, .ref b), (1, .ref x), (2, .ref y), (3, .int (nI m)), (4, .int (nI 1)), (5, .int (nI it)), (6, .int (nI z)), (7, .int (nI kd)), (8, .int (nI vv)), (9, .int (nI lt))] := hl
  refine lv_aload_n hx hb dL_law_334 rfl (lv_at hl 1 rfl) ?_
  refine lv_iconst (v := nI 0) hx hb dL_law_335 (by decide) ?_
  refine lv_iload hx hb dL_law_336 (lv_at hl 9 rfl) ?_
  refine call_wX (As := [.ref x, .int (nI 0), .int (nI lt)]) (rest := []) (wr := (FW g y (lN SL') q' u' k' (nI np) mv lm ch (lN F') d' v' f' (nI cnt) (nI ll))) ⟨hx, hb, hml, hown, hts⟩ (c_L_with_play l hfl g x q u d v SL k K np mv lm ch F f S cnt ll hSL.1 hF.1 hk hp hf hc hll hG.hmv (nI lt)) (vx_cwSW 3 hts gT_L_with rfl rfl rfl ⟨by decide +kernel, by decide +kernel, by decide +kernel⟩ ⟨Nat.le_of_ble_eq_true rfl, Nat.le_of_ble_eq_true rfl⟩) hP hK hD hS hA hXk hNc [0, 1, 2, 3, 4] [5, 6, 7, 8, 9] rfl rfl (by decide) (by decide) (by decide) rfl hl.1 rfl (Nat.le_of_ble_eq_true rfl) dL_law_338 ⟨by show cells + 1 ≤ 676567; omega, by show slots + 6 ≤ 7070986; omega⟩ (fun r1 w1 H locs h_r1 hP hD hS => ?_)
  refine lv_aload_n hx hb dL_law_341 rfl (lv_at hl 2 rfl) ?_
  refine lv_iconst (v := nI 0) hx hb dL_law_342 (by decide) ?_
  refine lv_iload hx hb dL_law_343 (lv_at hl 9 rfl) ?_
  refine lv_iload_n hx hb dL_law_345 rfl (lv_at hl 3 rfl) ?_
  refine lv_iadd hx hb dL_law_346 ?_
  refine tp_i (nI_add lt m) ?_
  refine call_wX (As := [.ref y, .int (nI 0), .int (nI (lt + m))]) (rest := [.int r1]) (wr := w1) ⟨hx, hb, hml, hown, hts⟩ (c_L_with_play l hfl g y q' u' d' v' SL' k' K np mv lm ch F' f' S' cnt ll hSL.2.1 hF.2.1 hk2 hp hf2 hc hll (hG.mov hF).hmv (nI (lt + m))) (vx_cwSW 3 hts gT_L_with rfl rfl rfl ⟨by decide +kernel, by decide +kernel, by decide +kernel⟩ ⟨Nat.le_of_ble_eq_true rfl, Nat.le_of_ble_eq_true rfl⟩) hP hK hD hS hA hXk hNc [0, 1, 2, 3, 4] ((List.range w1.length).map (fun i => i + 5)) rfl (tl_map (u := (FW g y (lN SL') q' u' k' (nI np) mv lm ch (lN F') d' v' f' (nI cnt) (nI ll))) rfl w1) (by decide) (tl_nd _ _) (tl_dis (by decide)) rfl hl.1 rfl (Nat.le_of_ble_eq_true rfl) dL_law_347 ⟨by show cells + 1 + 1 ≤ 676567; omega, by show slots + 6 + 6 ≤ 7070986; omega⟩ (fun r2 w2 H locs h_r2 hP hD hS => ?_)
  obtain ⟨hI9, e9⟩ := o_play L (c := lt) hlt h_r1 h_r2
  refine lv_icmp_ne (tgt := 357) hx hb dL_law_350 (by decide) (fun c9 => absurd (e9) c9) (fun _ => ?_)
  refine lv_iconst (v := nI 1) hx hb dL_law_353 (by decide) ?_
  refine lv_goto (tgt := 358) hx hb dL_law_354 (by decide) ?_
  refine lv_istore (lv' := [(4, .int (nI 1)), (0, .ref b), (1, .ref x), (2, .ref y), (3, .int (nI m)), (5, .int (nI it)), (6, .int (nI z)), (7, .int (nI kd)), (8, .int (nI vv)), (9, .int (nI lt))]) hx hb dL_law_358 hl (by decide) rfl (fun ls hl => ?_)
  refine lv_goto (tgt := 409) hx hb dL_law_360 (by decide) ?_
  exact kk w1 w2 _ _ _ hI9 hP hD hS (lv_sub hl [1, 2, 3, 4, 0, 5, 6, 7, 8, 9] rfl)
set_option maxHeartbeats 4000000 in
set_option maxRecDepth 100000 in
theorem op_challenge {p : Program} {l : Launch} {e : Env} {s : State} {m0 : MethodId} {below : List Frame} {meth : Method} {c : Code} {b L : Nat} {xs : Nat → Int32} {g : GG} {A : Nat → Prop} (C : LC p l s m0 c b L xs g A) {m x y : Nat} {wa wb : va_W} (hI : AB g m x y wa wb) {H : Heap} {locs : List Loc} {ls : Array Slot} (hP : va_P g.1 vwCl (wa ++ wb) H) (hD : va_D A (wa ++ wb)) (hS : va_S A s.heap H locs) {it z kd vv lt : Nat} (hvv : vv < 2147483648) (hlt : lt < 4) (hl : lv_has ls 10 (LV b x y m it z kd vv lt)) {cells slots : Nat} {Q : State → Prop} (hce : cells + 2 ≤ 676567) (hsl : slots + 12 ≤ 7070986)
    (kk : ∀ (wa wb : va_W) (H : Heap) (locs : List Loc) (ls : Array Slot), AB g m x y wa wb → va_P g.1 vwCl (wa ++ wb) H → va_D A (wa ++ wb) → va_S A s.heap H locs → lv_has ls 10 (LV b x y m it z kd vv lt) → W p l e room_1 s m0 #[Value.ref b] below meth c H locs (cells + 2) (slots + 12) Q (F0 m0 409 ls [])) : W p l e room_1 s m0 #[Value.ref b] below meth c H locs cells slots Q (F0 m0 363 ls []) := by
  obtain ⟨hx, hb, hml, hown, hts, hK, hA, hAb, hXk, hNc, hX, hbl, hfl⟩ := C
  obtain ⟨q, u, d, v, q', u', d', v', SL, SL', k, k', K, np, mv, lm, ch, F, F', f, f', S, S', cnt, ll, rfl, rfl, L⟩ := hI
  have L9 := L
  obtain ⟨hSL, hF, hk, hk2, hp, hf, hf2, hc, hll, hW, hI, h2l, hG, hm⟩ := L9
  have hl : lv_has ls 10 [(0, .ref b), (1, .ref x), (2, .ref y), (3, .int (nI m)), (4, .int (nI 1)), (5, .int (nI it)), (6, .int (nI z)), (7, .int (nI kd)), (8, .int (nI vv)), (9, .int (nI lt))] := hl
  refine lv_iload hx hb dL_law_363 (lv_at hl 8 rfl) ?_
  refine lv_iconst (v := nI 2) hx hb dL_law_365 (by decide) ?_
  refine lv_irem hx hb dL_law_366 (by decide) ?_
  refine tp_i (b := nI (vv % 2)) (pk_rem (by omega) (by omega) (by omega)) ?_
  refine lv_if_ne (tgt := 391) hx hb dL_law_367 (by decide) (fun _ => ?_) (fun _ => ?_)
  · skip
    refine lv_aload_n hx hb dL_law_391 rfl (lv_at hl 1 rfl) ?_
    refine call_iV (As := []) (rest := []) (wr := (FW g y (lN SL') q' u' k' (nI np) mv lm ch (lN F') d' v' f' (nI cnt) (nI ll))) ⟨hx, hb, hml, hown, hts⟩ (c_X4_wipe l g x q u d v SL k K np mv lm ch F f S cnt ll hSL.1 hF.1 hk hp hf hc hll) (cwV 0 hts gT_X4_wipe rfl rfl rfl (by decide +kernel) ⟨Nat.le_of_ble_eq_true rfl, Nat.le_of_ble_eq_true rfl⟩) hP hK hD hS hA [0, 1, 2, 3, 4] [5, 6, 7, 8, 9] rfl rfl (by decide) (by decide) (by decide) 0 rfl rfl rfl rfl hl.1 rfl (Nat.le_of_ble_eq_true rfl) dL_law_392 ⟨by show cells + 0 ≤ 676567; omega, by show slots + 0 ≤ 7070986; omega⟩ (fun r3 w1 H locs h_r3 hP hD hS => ?_)
    refine lv_aload_n hx hb dL_law_395 rfl (lv_at hl 2 rfl) ?_
    refine call_iV (As := []) (rest := [.int r3]) (wr := w1) ⟨hx, hb, hml, hown, hts⟩ (c_X4_wipe l g y q' u' d' v' SL' k' K np mv lm ch F' f' S' cnt ll hSL.2.1 hF.2.1 hk2 hp hf2 hc hll) (cwV 0 hts gT_X4_wipe rfl rfl rfl (by decide +kernel) ⟨Nat.le_of_ble_eq_true rfl, Nat.le_of_ble_eq_true rfl⟩) hP hK hD hS hA [0, 1, 2, 3, 4] ((List.range w1.length).map (fun i => i + 5)) rfl (tl_map (u := (FW g y (lN SL') q' u' k' (nI np) mv lm ch (lN F') d' v' f' (nI cnt) (nI ll))) rfl w1) (by decide) (tl_nd _ _) (tl_dis (by decide)) 0 rfl rfl rfl rfl hl.1 rfl (Nat.le_of_ble_eq_true rfl) dL_law_396 ⟨by show cells + 0 ≤ 676567; omega, by show slots + 0 ≤ 7070986; omega⟩ (fun r4 w2 H locs h_r4 hP hD hS => ?_)
    obtain ⟨hI9, e9⟩ := o_wipe L h_r3 h_r4
    refine lv_icmp_ne (tgt := 406) hx hb dL_law_399 (by decide) (fun c9 => absurd (e9) c9) (fun _ => ?_)
    refine lv_iconst (v := nI 1) hx hb dL_law_402 (by decide) ?_
    refine lv_goto (tgt := 407) hx hb dL_law_403 (by decide) ?_
    refine lv_istore (lv' := [(4, .int (nI 1)), (0, .ref b), (1, .ref x), (2, .ref y), (3, .int (nI m)), (5, .int (nI it)), (6, .int (nI z)), (7, .int (nI kd)), (8, .int (nI vv)), (9, .int (nI lt))]) hx hb dL_law_407 hl (by decide) rfl (fun ls hl => ?_)
    exact W.widen (k := cells + 2) (n := slots + 12) (by omega) (by omega) (kk w1 w2 _ _ _ hI9 hP hD hS (lv_sub hl [1, 2, 3, 4, 0, 5, 6, 7, 8, 9] rfl))
  · skip
    refine lv_aload_n hx hb dL_law_370 rfl (lv_at hl 1 rfl) ?_
    refine lv_iconst (v := nI 2) hx hb dL_law_371 (by decide) ?_
    refine call_wX (As := [.ref x, .int (nI 2)]) (rest := []) (wr := (FW g y (lN SL') q' u' k' (nI np) mv lm ch (lN F') d' v' f' (nI cnt) (nI ll))) ⟨hx, hb, hml, hown, hts⟩ (c_L_does_challenge l hfl g x q u d v SL k K np mv lm ch F f S cnt ll hSL.1 hF.1 hk hp hf hc hll hG.hmv hG.hlm) (vx_cwSW 2 hts gT_L_does rfl rfl rfl ⟨by decide +kernel, by decide +kernel, by decide +kernel⟩ ⟨Nat.le_of_ble_eq_true rfl, Nat.le_of_ble_eq_true rfl⟩) hP hK hD hS hA hXk hNc [0, 1, 2, 3, 4] [5, 6, 7, 8, 9] rfl rfl (by decide) (by decide) (by decide) rfl hl.1 rfl (Nat.le_of_ble_eq_true rfl) dL_law_372 ⟨by show cells + 1 ≤ 676567; omega, by show slots + 6 ≤ 7070986; omega⟩ (fun r1 w1 H locs h_r1 hP hD hS => ?_)
    refine lv_aload_n hx hb dL_law_375 rfl (lv_at hl 2 rfl) ?_
    refine lv_iconst (v := nI 2) hx hb dL_law_376 (by decide) ?_
    refine call_wX (As := [.ref y, .int (nI 2)]) (rest := [.int r1]) (wr := w1) ⟨hx, hb, hml, hown, hts⟩ (c_L_does_challenge l hfl g y q' u' d' v' SL' k' K np mv lm ch F' f' S' cnt ll hSL.2.1 hF.2.1 hk2 hp hf2 hc hll (hG.mov hF).hmv (hG.mov hF).hlm) (vx_cwSW 2 hts gT_L_does rfl rfl rfl ⟨by decide +kernel, by decide +kernel, by decide +kernel⟩ ⟨Nat.le_of_ble_eq_true rfl, Nat.le_of_ble_eq_true rfl⟩) hP hK hD hS hA hXk hNc [0, 1, 2, 3, 4] ((List.range w1.length).map (fun i => i + 5)) rfl (tl_map (u := (FW g y (lN SL') q' u' k' (nI np) mv lm ch (lN F') d' v' f' (nI cnt) (nI ll))) rfl w1) (by decide) (tl_nd _ _) (tl_dis (by decide)) rfl hl.1 rfl (Nat.le_of_ble_eq_true rfl) dL_law_377 ⟨by show cells + 1 + 1 ≤ 676567; omega, by show slots + 6 + 6 ≤ 7070986; omega⟩ (fun r2 w2 H locs h_r2 hP hD hS => ?_)
    obtain ⟨hI9, e9⟩ := o_challenge L h_r1 h_r2
    refine lv_icmp_ne (tgt := 387) hx hb dL_law_380 (by decide) (fun c9 => absurd (e9) c9) (fun _ => ?_)
    refine lv_iconst (v := nI 1) hx hb dL_law_383 (by decide) ?_
    refine lv_goto (tgt := 407) hx hb dL_law_384 (by decide) ?_
    refine lv_istore (lv' := [(4, .int (nI 1)), (0, .ref b), (1, .ref x), (2, .ref y), (3, .int (nI m)), (5, .int (nI it)), (6, .int (nI z)), (7, .int (nI kd)), (8, .int (nI vv)), (9, .int (nI lt))]) hx hb dL_law_407 hl (by decide) rfl (fun ls hl => ?_)
    exact kk w1 w2 _ _ _ hI9 hP hD hS (lv_sub hl [1, 2, 3, 4, 0, 5, 6, 7, 8, 9] rfl)
