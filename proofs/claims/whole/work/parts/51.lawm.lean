section LAWM
/-- what the law's walk stands on -/
def LC (p : Program) (l : Launch) (s : State) (m : MethodId) (c : Code) (b L : Nat) (xs : Nat → Int32) (g : GG) (A : Nat → Prop) : Prop := p.tables.exec = Jvm.exec ∧ c.code = cL_law ∧ c.maxLocals = 7 ∧ s.vm.findClass RL = some m.cls ∧ (∀ w ∈ lw_tbl, w.before #[Value.ref b] s = true) ∧ va_K g.1 vwCl (tyG g) s ∧ (∀ q, s.heap.size ≤ q → A q) ∧ ¬ A b ∧ Xk A s ∧ va_Nc "java/lang/IllegalStateException" "java/lang/IllegalArgumentException" s ∧ va_X b L xs s s.heap ∧ b < s.heap.size ∧ l.flags = flags0
def LV (b x h o i : Nat) : List (Nat × Value) := [(0, .ref b), (1, .ref x), (2, .ref h), (3, .ref o), (4, .int (nI i))]
theorem tl_map {u : va_W} {n : Nat} (hn : u.length = n) (w : va_W) : ((List.range w.length).map (fun i => i + n)).map (fun i => (u ++ w)[i]?) = w.map some := by
  subst hn
  rw [← rng_map w, List.map_map]
  refine List.map_congr_left (fun i _ => ?_)
  show (u ++ w)[i + u.length]? = w[i]?
  rw [List.getElem?_append_right (by omega), Nat.add_sub_cancel]
theorem tl_nd (n k : Nat) : va_nd ((List.range k).map (fun i => i + n)) = true := nd_of (List.Pairwise.map (fun i => i + n) (fun _ _ h e => h (Nat.add_right_cancel e)) List.nodup_range)
theorem nd_cons {a : Nat} {l : List Nat} (h : ∀ i ∈ l, a < i) (hn : l.Nodup) : va_nd (a :: l) = true := nd_of (List.nodup_cons.mpr ⟨fun q => Nat.lt_irrefl _ (h a q), hn⟩)
theorem tl_nd0 (n k : Nat) (h : 0 < n) : va_nd (0 :: (List.range k).map (fun i => i + n)) = true := nd_cons (fun i hi => by
  obtain ⟨j, -, rfl⟩ := List.mem_map.mp hi
  exact Nat.lt_of_lt_of_le h (Nat.le_add_left n j)) (List.Pairwise.map (fun i => i + n) (fun _ _ h e => h (Nat.add_right_cancel e)) List.nodup_range)
theorem tl_dis {n k : Nat} {l : List Nat} (h : ∀ i ∈ l, i < n) : ∀ i ∈ (List.range k).map (fun i => i + n), i ∉ l := fun i hi hl => by
  obtain ⟨j, -, rfl⟩ := List.mem_map.mp hi
  have := h _ hl
  omega
theorem tl_dis0 {n k : Nat} {l : List Nat} (h : ∀ i ∈ l, i < n) (h0 : 0 ∉ l) : ∀ i ∈ 0 :: (List.range k).map (fun i => i + n), i ∉ l := fun i hi => by
  rcases List.mem_cons.mp hi with rfl | hi
  · exact h0
  · exact tl_dis h i hi
end LAWM
set_option maxHeartbeats 4000000 in
set_option maxRecDepth 100000 in
theorem op_write {p : Program} {l : Launch} {e : Env} {s : State} {m : MethodId} {below : List Frame} {meth : Method} {c : Code} {b L : Nat} {xs : Nat → Int32} {g : GG} {A : Nat → Prop} (C : LC p l s m c b L xs g A) {x h o : Nat} {wF wM : va_W} {th : Int32} {fo : Nat → Int64} (hI : IV g x h wF wM th) {H : Heap} {locs : List Loc} {ls : Array Slot} (hP : va_P g.1 vwCl ((OC g o fo :: wF) ++ wM) H) (hD : va_D A ((OC g o fo :: wF) ++ wM)) (hS : va_S A s.heap H locs) {i : Nat} (hi : i + 1 < L) (hL : L ≤ 1024) (hl : lv_has ls 7 (LV b x h o i)) {cells slots : Nat} {Q : State → Prop} (hce : cells + 1 ≤ 601024) (hsl : slots + 6 ≤ 7293034)
    (kk : ∀ (fo : Nat → Int64) (wF wM : va_W) (th : Int32) (H : Heap) (locs : List Loc) (ls : Array Slot), IV g x h wF wM th → va_P g.1 vwCl ((OC g o fo :: wF) ++ wM) H → va_D A ((OC g o fo :: wF) ++ wM) → va_S A s.heap H locs → lv_has ls 7 (LV b x h o i) → W p l e room_1 s m #[Value.ref b] below meth c H locs (cells + 1) (slots + 6) Q (F0 m 945 ls [])) : W p l e room_1 s m #[Value.ref b] below meth c H locs cells slots Q (F0 m 164 ls []) := by
  obtain ⟨hx, hb, hml, hown, hts, hK, hA, hAb, hXk, hNc, hX, hbl, hfl⟩ := C
  obtain ⟨q, u, d, v, SL, k, K, np, mv, lm, ch, F, f, S, cnt, ll, a, tu, la, wi, fS, fL, fN, fK, fF, fW, fE, fC, fG, fO, D, rfl, rfl, L0⟩ := hI
  have L9 := L0
  obtain ⟨hSL, hF, hk, hp, hf, hc, hll, hM, hfS, hfF, hKK, hW, hG⟩ := L9
  have hl : lv_has ls 7 [(0, .ref b), (1, .ref x), (2, .ref h), (3, .ref o), (4, .int (nI i))] := hl
  refine lv_aload_n hx hb dL_law_164 rfl (lv_at hl 1 rfl) ?_
  refine lv_aload_n hx hb dL_law_165 rfl (lv_at hl 0 rfl) ?_
  refine lv_iload hx hb dL_law_166 (lv_at hl 4 rfl) ?_
  refine lv_iconst (v := nI 1) hx hb dL_law_168 (by decide) ?_
  refine lv_iadd hx hb dL_law_169 ?_
  rw [nI_add i 1]
  refine va_sld hx hb hX hbl hAb hS (i := nI (i + 1)) (vp_in_nI hi (by omega)) dL_law_170 ?_
  rw [nI_clamp (n := i + 1) (by omega)]
  refine lv_aload_n hx hb dL_law_171 rfl (lv_at hl 3 rfl) ?_
  refine call_wX (As := [.ref x, .int (xs (i + 1)), .ref o]) (rest := []) (wr := (MW g h a (nI (rwL SL)) (nI cnt) (nI ll) (nI np) tu la wi (nI (rwL F)) th fS fL fN fK fF fW fE fC fG fO)) ⟨hx, hb, hml, hown, hts⟩ (c_L_write l hfl g x q u d v SL k K np mv lm ch F f S cnt ll hSL hF hk hp hf hc hll (xs (i + 1)) o fo) (vx_cwSW 3 hts gT_L_write rfl rfl rfl ⟨by decide +kernel, by decide +kernel, by decide +kernel⟩ ⟨Nat.le_of_ble_eq_true rfl, Nat.le_of_ble_eq_true rfl⟩) hP hK hD hS hA hXk hNc [0, 1, 2, 3, 4, 5] [6, 7, 8, 9, 10, 11, 12, 13, 14, 15, 16] rfl rfl (by decide) (by decide) (by decide) rfl hl.1 rfl (Nat.le_of_ble_eq_true rfl) dL_law_172 ⟨hce, hsl⟩ (fun rc w H locs h1 hP hD hS => ?_)
  refine lv_istore (lv' := [(5, .int rc), (0, .ref b), (1, .ref x), (2, .ref h), (3, .ref o), (4, .int (nI i))]) hx hb dL_law_175 hl (by decide) rfl (fun ls hl => ?_)
  refine lv_aload_n hx hb dL_law_177 rfl (lv_at hl 3 rfl) ?_
  refine lv_aload_n hx hb dL_law_178 rfl (lv_at hl 1 rfl) ?_
  refine lv_iload hx hb dL_law_179 (lv_at hl 5 rfl) ?_
  refine lv_iconst (v := nI 1) hx hb dL_law_181 (by decide) ?_
  refine lv_iadd hx hb dL_law_182 ?_
  rw [nI_add i 1]
  refine va_sld hx hb hX hbl hAb hS (i := nI (i + 1)) (vp_in_nI hi (by omega)) dL_law_183 ?_
  rw [nI_clamp (n := i + 1) (by omega)]
  refine call_iV (As := [.int (xs (i + 1))]) (rest := []) (wr := w) ⟨hx, hb, hml, hown, hts⟩ (c_X5_write l g h a SL cnt ll np tu la wi F th fS fL fN fK fF fW fE fC fG fO D hM hc hSL hfS hF hfF hll hp (xs (i + 1))) (cwV 1 hts gT_X5_write rfl rfl rfl (by decide +kernel) ⟨Nat.le_of_ble_eq_true rfl, Nat.le_of_ble_eq_true rfl⟩) hP hK hD hS hA [0, 1, 2, 3, 4, 5, 6, 7, 8, 9, 10] ((List.range w.length).map (fun i => i + 11)) rfl (tl_map rfl w) (by decide) (tl_nd _ _) (tl_dis (by decide)) 0 rfl rfl rfl rfl hl.1 rfl (Nat.le_of_ble_eq_true rfl) dL_law_184 ⟨by show cells + 1 + 0 ≤ 601024; omega, by show slots + 6 + 0 ≤ 7293034; omega⟩ (fun r2 w2 H locs h2 hP hD hS => ?_)
  refine lv_istore (lv' := [(6, .int r2), (5, .int rc), (0, .ref b), (1, .ref x), (2, .ref h), (3, .ref o), (4, .int (nI i))]) hx hb dL_law_187 hl (by decide) rfl (fun ls hl => ?_)
  obtain ⟨fo9, wF9, th9, rfl, hI9, eth, hres⟩ := o_write L0 h1 h2
  have hI8 := hI9
  obtain ⟨q8, u8, d8, v8, SL8, k8, K8, np8, mv8, lm8, ch8, F8, f8, S8, cnt8, ll8, a8, tu8, la8, wi8, fS8, fL8, fN8, fK8, fF8, fW8, fE8, fC8, fG8, fO8, D8, rfl, rfl, L8⟩ := hI9
  refine lv_aload_n hx hb dL_law_189 rfl (lv_at hl 4 rfl) ?_
  refine call_iV (As := []) (rest := []) (wr := OC g o fo9 :: (FW g x (lN SL8) q8 u8 k8 (nI np8) mv8 lm8 ch8 (lN F8) d8 v8 f8 (nI cnt8) (nI ll8))) ⟨hx, hb, hml, hown, hts⟩ (c_X5_thrown l g h a8 (nI (rwL SL8)) (nI cnt8) (nI ll8) (nI np8) tu8 la8 wi8 (nI (rwL F8)) th9 fS8 fL8 fN8 fK8 fF8 fW8 fE8 fC8 fG8 fO8) (cwV 0 hts gT_X5_thrown rfl rfl rfl (by decide +kernel) ⟨Nat.le_of_ble_eq_true rfl, Nat.le_of_ble_eq_true rfl⟩) hP hK hD hS hA [6, 7, 8, 9, 10, 11, 12, 13, 14, 15, 16] [0, 1, 2, 3, 4, 5] rfl rfl (by decide) (by decide) (by decide) 0 rfl rfl rfl rfl hl.1 rfl (Nat.le_of_ble_eq_true rfl) dL_law_190 ⟨by show cells + 1 + 0 ≤ 601024; omega, by show slots + 6 + 0 ≤ 7293034; omega⟩ (fun r3 w3 H locs h3 hP hD hS => ?_)
  obtain ⟨rfl, rfl⟩ := h3
  refine lv_iload hx hb dL_law_193 (lv_at hl 1 rfl) ?_
  refine lv_icmp_eq (tgt := 200) hx hb dL_law_195 (by decide) (fun _ => ?_) (fun c9 => absurd eth c9)
  have hend : W p l e room_1 s m #[Value.ref b] below meth c H locs (cells + 1) (slots + 6) Q (F0 m 217 ls []) := by
    refine lv_goto (tgt := 945) hx hb dL_law_217 (by decide) ?_
    exact kk fo9 _ _ _ H locs ls hI8 hP hD hS (lv_sub hl [2, 3, 4, 5, 6] rfl)
  refine lv_iload hx hb dL_law_200 (lv_at hl 1 rfl) ?_
  refine lv_if_ne (tgt := 217) hx hb dL_law_202 (by decide) (fun _ => hend) (fun c8 => ?_)
  refine lv_aload_n hx hb dL_law_205 rfl (lv_at hl 5 rfl) ?_
  refine lv_iconst (v := nI 0) hx hb dL_law_206 (by decide) ?_
  refine va_lald (n := 1) (f := fo9) hx hb hK hP 0 1 rfl rfl (vp_in_nI (n := 0) (by decide) (by decide)) dL_law_207 ?_
  rw [nI_clamp (n := 0) (by decide)]
  refine lv_iload hx hb dL_law_208 (lv_at hl 0 rfl) ?_
  refine lv_i2l (v := r2.toInt64) hx hb dL_law_210 rfl ?_
  refine W.lcmp hx hb dL_law_211 ?_
  exact lv_if_eq (tgt := 217) hx hb dL_law_212 (by decide) (fun _ => hend) (fun c9 => absurd ((lg_cmp_eq _ _).mpr (hres c8)) c9)
set_option maxHeartbeats 4000000 in
set_option maxRecDepth 100000 in
theorem op_wipe {p : Program} {l : Launch} {e : Env} {s : State} {m : MethodId} {below : List Frame} {meth : Method} {c : Code} {b L : Nat} {xs : Nat → Int32} {g : GG} {A : Nat → Prop} (C : LC p l s m c b L xs g A) {x h o : Nat} {wF wM : va_W} {th : Int32} {fo : Nat → Int64} (hI : IV g x h wF wM th) {H : Heap} {locs : List Loc} {ls : Array Slot} (hP : va_P g.1 vwCl ((OC g o fo :: wF) ++ wM) H) (hD : va_D A ((OC g o fo :: wF) ++ wM)) (hS : va_S A s.heap H locs) {i : Nat} (hi : i + 1 < L) (hL : L ≤ 1024) (hl : lv_has ls 7 (LV b x h o i)) {cells slots : Nat} {Q : State → Prop} (hce : cells + 1 ≤ 601024) (hsl : slots + 6 ≤ 7293034)
    (kk : ∀ (fo : Nat → Int64) (wF wM : va_W) (th : Int32) (H : Heap) (locs : List Loc) (ls : Array Slot), IV g x h wF wM th → va_P g.1 vwCl ((OC g o fo :: wF) ++ wM) H → va_D A ((OC g o fo :: wF) ++ wM) → va_S A s.heap H locs → lv_has ls 7 (LV b x h o i) → W p l e room_1 s m #[Value.ref b] below meth c H locs (cells + 1) (slots + 6) Q (F0 m 945 ls [])) : W p l e room_1 s m #[Value.ref b] below meth c H locs cells slots Q (F0 m 220 ls []) := by
  obtain ⟨hx, hb, hml, hown, hts, hK, hA, hAb, hXk, hNc, hX, hbl, hfl⟩ := C
  obtain ⟨q, u, d, v, SL, k, K, np, mv, lm, ch, F, f, S, cnt, ll, a, tu, la, wi, fS, fL, fN, fK, fF, fW, fE, fC, fG, fO, D, rfl, rfl, L0⟩ := hI
  have L9 := L0
  obtain ⟨hSL, hF, hk, hp, hf, hc, hll, hM, hfS, hfF, hKK, hW, hG⟩ := L9
  have hl : lv_has ls 7 [(0, .ref b), (1, .ref x), (2, .ref h), (3, .ref o), (4, .int (nI i))] := hl
  refine lv_aload_n hx hb dL_law_220 rfl (lv_at hl 1 rfl) ?_
  refine call_iV (As := []) (rest := []) (wr := OC g o fo :: (MW g h a (nI (rwL SL)) (nI cnt) (nI ll) (nI np) tu la wi (nI (rwL F)) th fS fL fN fK fF fW fE fC fG fO)) ⟨hx, hb, hml, hown, hts⟩ (c_X4_wipe l g x q u d v SL k K np mv lm ch F f S cnt ll hSL hF hk hp hf hc hll) (cwV 0 hts gT_X4_wipe rfl rfl rfl (by decide +kernel) ⟨Nat.le_of_ble_eq_true rfl, Nat.le_of_ble_eq_true rfl⟩) hP hK hD hS hA [1, 2, 3, 4, 5] (0 :: [6, 7, 8, 9, 10, 11, 12, 13, 14, 15, 16]) rfl rfl (by decide) (by decide) (by decide) 0 rfl rfl rfl rfl hl.1 rfl (Nat.le_of_ble_eq_true rfl) dL_law_221 ⟨Nat.le_of_succ_le hce, by show slots + 0 ≤ 7293034; omega⟩ (fun r1 w H locs h1 hP hD hS => ?_)
  obtain ⟨rfl, h1⟩ := h1
  refine lv_aload_n hx hb dL_law_224 rfl (lv_at hl 2 rfl) ?_
  refine call_iV (As := []) (rest := [.int r1]) (wr := OC g o fo :: (FW g x (lN 0) q u k (nI np) mv lm ch (lN F) d v f (nI cnt) (nI ll))) ⟨hx, hb, hml, hown, hts⟩ (c_X5_wipe l g h a SL cnt ll np tu la wi F th fS fL fN fK fF fW fE fC fG fO D hM hc hSL hfS hF hfF hll hp) (cwV 0 hts gT_X5_wipe rfl rfl rfl (by decide +kernel) ⟨Nat.le_of_ble_eq_true rfl, Nat.le_of_ble_eq_true rfl⟩) hP hK hD hS hA [1, 2, 3, 4, 5, 6, 7, 8, 9, 10, 11] [0, 12, 13, 14, 15, 16] rfl rfl (by decide) (by decide) (by decide) 0 rfl rfl rfl rfl hl.1 rfl (Nat.le_of_ble_eq_true rfl) dL_law_225 ⟨Nat.le_of_succ_le hce, by show slots + 0 ≤ 7293034; omega⟩ (fun r2 w2 H locs h2 hP hD hS => ?_)
  obtain ⟨th9, hI9, e9⟩ := o_wipe L0 ⟨rfl, h1⟩ h2
  refine lv_icmp_eq (tgt := 945) hx hb dL_law_228 (by decide) (fun _ => ?_) (fun c9 => absurd e9 c9)
  exact W.widen (k := cells + 1) (n := slots + 6) (by omega) (by omega) (kk fo _ w2 th9 H locs ls hI9 hP hD hS hl)
set_option maxHeartbeats 4000000 in
set_option maxRecDepth 100000 in
theorem op_slipLength {p : Program} {l : Launch} {e : Env} {s : State} {m : MethodId} {below : List Frame} {meth : Method} {c : Code} {b L : Nat} {xs : Nat → Int32} {g : GG} {A : Nat → Prop} (C : LC p l s m c b L xs g A) {x h o : Nat} {wF wM : va_W} {th : Int32} {fo : Nat → Int64} (hI : IV g x h wF wM th) {H : Heap} {locs : List Loc} {ls : Array Slot} (hP : va_P g.1 vwCl ((OC g o fo :: wF) ++ wM) H) (hD : va_D A ((OC g o fo :: wF) ++ wM)) (hS : va_S A s.heap H locs) {i : Nat} (hi : i + 1 < L) (hL : L ≤ 1024) (hl : lv_has ls 7 (LV b x h o i)) {cells slots : Nat} {Q : State → Prop} (hce : cells + 1 ≤ 601024) (hsl : slots + 6 ≤ 7293034)
    (kk : ∀ (fo : Nat → Int64) (wF wM : va_W) (th : Int32) (H : Heap) (locs : List Loc) (ls : Array Slot), IV g x h wF wM th → va_P g.1 vwCl ((OC g o fo :: wF) ++ wM) H → va_D A ((OC g o fo :: wF) ++ wM) → va_S A s.heap H locs → lv_has ls 7 (LV b x h o i) → W p l e room_1 s m #[Value.ref b] below meth c H locs (cells + 1) (slots + 6) Q (F0 m 945 ls [])) : W p l e room_1 s m #[Value.ref b] below meth c H locs cells slots Q (F0 m 233 ls []) := by
  obtain ⟨hx, hb, hml, hown, hts, hK, hA, hAb, hXk, hNc, hX, hbl, hfl⟩ := C
  obtain ⟨q, u, d, v, SL, k, K, np, mv, lm, ch, F, f, S, cnt, ll, a, tu, la, wi, fS, fL, fN, fK, fF, fW, fE, fC, fG, fO, D, rfl, rfl, L0⟩ := hI
  have L9 := L0
  obtain ⟨hSL, hF, hk, hp, hf, hc, hll, hM, hfS, hfF, hKK, hW, hG⟩ := L9
  have hl : lv_has ls 7 [(0, .ref b), (1, .ref x), (2, .ref h), (3, .ref o), (4, .int (nI i))] := hl
  refine lv_aload_n hx hb dL_law_233 rfl (lv_at hl 1 rfl) ?_
  refine call_iV (As := []) (rest := []) (wr := OC g o fo :: (MW g h a (nI (rwL SL)) (nI cnt) (nI ll) (nI np) tu la wi (nI (rwL F)) th fS fL fN fK fF fW fE fC fG fO)) ⟨hx, hb, hml, hown, hts⟩ (c_X4_slipLength l g x q u d v SL k K np mv lm ch F f S cnt ll hSL hF hk hp hf hc hll) (cwV 0 hts gT_X4_slipLength rfl rfl rfl (by decide +kernel) ⟨Nat.le_of_ble_eq_true rfl, Nat.le_of_ble_eq_true rfl⟩) hP hK hD hS hA [1, 2, 3, 4, 5] (0 :: [6, 7, 8, 9, 10, 11, 12, 13, 14, 15, 16]) rfl rfl (by decide) (by decide) (by decide) 0 rfl rfl rfl rfl hl.1 rfl (Nat.le_of_ble_eq_true rfl) dL_law_234 ⟨Nat.le_of_succ_le hce, by show slots + 0 ≤ 7293034; omega⟩ (fun r1 w H locs h1 hP hD hS => ?_)
  obtain ⟨rfl, h1⟩ := h1
  refine lv_aload_n hx hb dL_law_237 rfl (lv_at hl 2 rfl) ?_
  refine call_iV (As := []) (rest := [.int r1]) (wr := OC g o fo :: (FW g x (lN SL) q u k (nI np) mv lm ch (lN F) d v f (nI cnt) (nI ll))) ⟨hx, hb, hml, hown, hts⟩ (c_X5_slipLength l g h a SL cnt ll np tu la wi F th fS fL fN fK fF fW fE fC fG fO D hM hc hSL hfS hF hfF hll hp) (cwV 0 hts gT_X5_slipLength rfl rfl rfl (by decide +kernel) ⟨Nat.le_of_ble_eq_true rfl, Nat.le_of_ble_eq_true rfl⟩) hP hK hD hS hA [1, 2, 3, 4, 5, 6, 7, 8, 9, 10, 11] [0, 12, 13, 14, 15, 16] rfl rfl (by decide) (by decide) (by decide) 0 rfl rfl rfl rfl hl.1 rfl (Nat.le_of_ble_eq_true rfl) dL_law_238 ⟨Nat.le_of_succ_le hce, by show slots + 0 ≤ 7293034; omega⟩ (fun r2 w2 H locs h2 hP hD hS => ?_)
  obtain ⟨th9, hI9, e9⟩ := o_slipLength L0 ⟨rfl, h1⟩ h2
  refine lv_icmp_eq (tgt := 945) hx hb dL_law_241 (by decide) (fun _ => ?_) (fun c9 => absurd e9 c9)
  exact W.widen (k := cells + 1) (n := slots + 6) (by omega) (by omega) (kk fo _ w2 th9 H locs ls hI9 hP hD hS hl)
set_option maxHeartbeats 4000000 in
set_option maxRecDepth 100000 in
theorem op_slipAt {p : Program} {l : Launch} {e : Env} {s : State} {m : MethodId} {below : List Frame} {meth : Method} {c : Code} {b L : Nat} {xs : Nat → Int32} {g : GG} {A : Nat → Prop} (C : LC p l s m c b L xs g A) {x h o : Nat} {wF wM : va_W} {th : Int32} {fo : Nat → Int64} (hI : IV g x h wF wM th) {H : Heap} {locs : List Loc} {ls : Array Slot} (hP : va_P g.1 vwCl ((OC g o fo :: wF) ++ wM) H) (hD : va_D A ((OC g o fo :: wF) ++ wM)) (hS : va_S A s.heap H locs) {i : Nat} (hi : i + 1 < L) (hL : L ≤ 1024) (hl : lv_has ls 7 (LV b x h o i)) {cells slots : Nat} {Q : State → Prop} (hce : cells + 1 ≤ 601024) (hsl : slots + 6 ≤ 7293034)
    (kk : ∀ (fo : Nat → Int64) (wF wM : va_W) (th : Int32) (H : Heap) (locs : List Loc) (ls : Array Slot), IV g x h wF wM th → va_P g.1 vwCl ((OC g o fo :: wF) ++ wM) H → va_D A ((OC g o fo :: wF) ++ wM) → va_S A s.heap H locs → lv_has ls 7 (LV b x h o i) → W p l e room_1 s m #[Value.ref b] below meth c H locs (cells + 1) (slots + 6) Q (F0 m 945 ls [])) : W p l e room_1 s m #[Value.ref b] below meth c H locs cells slots Q (F0 m 246 ls []) := by
  obtain ⟨hx, hb, hml, hown, hts, hK, hA, hAb, hXk, hNc, hX, hbl, hfl⟩ := C
  obtain ⟨q, u, d, v, SL, k, K, np, mv, lm, ch, F, f, S, cnt, ll, a, tu, la, wi, fS, fL, fN, fK, fF, fW, fE, fC, fG, fO, D, rfl, rfl, L0⟩ := hI
  have L9 := L0
  obtain ⟨hSL, hF, hk, hp, hf, hc, hll, hM, hfS, hfF, hKK, hW, hG⟩ := L9
  have hl : lv_has ls 7 [(0, .ref b), (1, .ref x), (2, .ref h), (3, .ref o), (4, .int (nI i))] := hl
  refine lv_aload_n hx hb dL_law_246 rfl (lv_at hl 1 rfl) ?_
  refine lv_aload_n hx hb dL_law_247 rfl (lv_at hl 0 rfl) ?_
  refine lv_iload hx hb dL_law_248 (lv_at hl 4 rfl) ?_
  refine lv_iconst (v := nI 1) hx hb dL_law_250 (by decide) ?_
  refine lv_iadd hx hb dL_law_251 ?_
  rw [nI_add i 1]
  refine va_sld hx hb hX hbl hAb hS (i := nI (i + 1)) (vp_in_nI hi (by omega)) dL_law_252 ?_
  rw [nI_clamp (n := i + 1) (by omega)]
  refine lv_aload_n hx hb dL_law_253 rfl (lv_at hl 3 rfl) ?_
  refine call_wX (As := [.ref x, .int (xs (i + 1)), .ref o]) (rest := []) (wr := (MW g h a (nI (rwL SL)) (nI cnt) (nI ll) (nI np) tu la wi (nI (rwL F)) th fS fL fN fK fF fW fE fC fG fO)) ⟨hx, hb, hml, hown, hts⟩ (c_L_slipAt l hfl g x q u d v SL k K np mv lm ch F f S cnt ll hSL hF hk hp hf hc hll (xs (i + 1)) o fo) (vx_cwSW 3 hts gT_L_slipAt rfl rfl rfl ⟨by decide +kernel, by decide +kernel, by decide +kernel⟩ ⟨Nat.le_of_ble_eq_true rfl, Nat.le_of_ble_eq_true rfl⟩) hP hK hD hS hA hXk hNc [0, 1, 2, 3, 4, 5] [6, 7, 8, 9, 10, 11, 12, 13, 14, 15, 16] rfl rfl (by decide) (by decide) (by decide) rfl hl.1 rfl (Nat.le_of_ble_eq_true rfl) dL_law_254 ⟨hce, hsl⟩ (fun rc w H locs h1 hP hD hS => ?_)
  refine lv_istore (lv' := [(5, .int rc), (0, .ref b), (1, .ref x), (2, .ref h), (3, .ref o), (4, .int (nI i))]) hx hb dL_law_257 hl (by decide) rfl (fun ls hl => ?_)
  refine lv_aload_n hx hb dL_law_259 rfl (lv_at hl 3 rfl) ?_
  refine lv_aload_n hx hb dL_law_260 rfl (lv_at hl 1 rfl) ?_
  refine lv_iload hx hb dL_law_261 (lv_at hl 5 rfl) ?_
  refine lv_iconst (v := nI 1) hx hb dL_law_263 (by decide) ?_
  refine lv_iadd hx hb dL_law_264 ?_
  rw [nI_add i 1]
  refine va_sld hx hb hX hbl hAb hS (i := nI (i + 1)) (vp_in_nI hi (by omega)) dL_law_265 ?_
  rw [nI_clamp (n := i + 1) (by omega)]
  refine call_iV (As := [.int (xs (i + 1))]) (rest := []) (wr := w) ⟨hx, hb, hml, hown, hts⟩ (c_X5_slipAt l g h a SL cnt ll np tu la wi F th fS fL fN fK fF fW fE fC fG fO D hM hc hSL hfS hF hfF hll hp (xs (i + 1))) (cwV 1 hts gT_X5_slipAt rfl rfl rfl (by decide +kernel) ⟨Nat.le_of_ble_eq_true rfl, Nat.le_of_ble_eq_true rfl⟩) hP hK hD hS hA [0, 1, 2, 3, 4, 5, 6, 7, 8, 9, 10] ((List.range w.length).map (fun i => i + 11)) rfl (tl_map rfl w) (by decide) (tl_nd _ _) (tl_dis (by decide)) 0 rfl rfl rfl rfl hl.1 rfl (Nat.le_of_ble_eq_true rfl) dL_law_266 ⟨by show cells + 1 + 0 ≤ 601024; omega, by show slots + 6 + 0 ≤ 7293034; omega⟩ (fun r2 w2 H locs h2 hP hD hS => ?_)
  refine lv_istore (lv' := [(6, .int r2), (5, .int rc), (0, .ref b), (1, .ref x), (2, .ref h), (3, .ref o), (4, .int (nI i))]) hx hb dL_law_269 hl (by decide) rfl (fun ls hl => ?_)
  obtain ⟨fo9, wF9, th9, rfl, hI9, eth, hres⟩ := o_slipAt L0 h1 h2
  have hI8 := hI9
  obtain ⟨q8, u8, d8, v8, SL8, k8, K8, np8, mv8, lm8, ch8, F8, f8, S8, cnt8, ll8, a8, tu8, la8, wi8, fS8, fL8, fN8, fK8, fF8, fW8, fE8, fC8, fG8, fO8, D8, rfl, rfl, L8⟩ := hI9
  refine lv_aload_n hx hb dL_law_271 rfl (lv_at hl 4 rfl) ?_
  refine call_iV (As := []) (rest := []) (wr := OC g o fo9 :: (FW g x (lN SL8) q8 u8 k8 (nI np8) mv8 lm8 ch8 (lN F8) d8 v8 f8 (nI cnt8) (nI ll8))) ⟨hx, hb, hml, hown, hts⟩ (c_X5_thrown l g h a8 (nI (rwL SL8)) (nI cnt8) (nI ll8) (nI np8) tu8 la8 wi8 (nI (rwL F8)) th9 fS8 fL8 fN8 fK8 fF8 fW8 fE8 fC8 fG8 fO8) (cwV 0 hts gT_X5_thrown rfl rfl rfl (by decide +kernel) ⟨Nat.le_of_ble_eq_true rfl, Nat.le_of_ble_eq_true rfl⟩) hP hK hD hS hA [6, 7, 8, 9, 10, 11, 12, 13, 14, 15, 16] [0, 1, 2, 3, 4, 5] rfl rfl (by decide) (by decide) (by decide) 0 rfl rfl rfl rfl hl.1 rfl (Nat.le_of_ble_eq_true rfl) dL_law_272 ⟨by show cells + 1 + 0 ≤ 601024; omega, by show slots + 6 + 0 ≤ 7293034; omega⟩ (fun r3 w3 H locs h3 hP hD hS => ?_)
  obtain ⟨rfl, rfl⟩ := h3
  refine lv_iload hx hb dL_law_275 (lv_at hl 1 rfl) ?_
  refine lv_icmp_eq (tgt := 282) hx hb dL_law_277 (by decide) (fun _ => ?_) (fun c9 => absurd eth c9)
  have hend : W p l e room_1 s m #[Value.ref b] below meth c H locs (cells + 1) (slots + 6) Q (F0 m 299 ls []) := by
    refine lv_goto (tgt := 945) hx hb dL_law_299 (by decide) ?_
    exact kk fo9 _ _ _ H locs ls hI8 hP hD hS (lv_sub hl [2, 3, 4, 5, 6] rfl)
  refine lv_iload hx hb dL_law_282 (lv_at hl 1 rfl) ?_
  refine lv_if_ne (tgt := 299) hx hb dL_law_284 (by decide) (fun _ => hend) (fun c8 => ?_)
  refine lv_aload_n hx hb dL_law_287 rfl (lv_at hl 5 rfl) ?_
  refine lv_iconst (v := nI 0) hx hb dL_law_288 (by decide) ?_
  refine va_lald (n := 1) (f := fo9) hx hb hK hP 0 1 rfl rfl (vp_in_nI (n := 0) (by decide) (by decide)) dL_law_289 ?_
  rw [nI_clamp (n := 0) (by decide)]
  refine lv_iload hx hb dL_law_290 (lv_at hl 0 rfl) ?_
  refine lv_i2l (v := r2.toInt64) hx hb dL_law_292 rfl ?_
  refine W.lcmp hx hb dL_law_293 ?_
  exact lv_if_eq (tgt := 299) hx hb dL_law_294 (by decide) (fun _ => hend) (fun c9 => absurd ((lg_cmp_eq _ _).mpr (hres c8)) c9)
set_option maxHeartbeats 4000000 in
set_option maxRecDepth 100000 in
theorem op_addWord {p : Program} {l : Launch} {e : Env} {s : State} {m : MethodId} {below : List Frame} {meth : Method} {c : Code} {b L : Nat} {xs : Nat → Int32} {g : GG} {A : Nat → Prop} (C : LC p l s m c b L xs g A) {x h o : Nat} {wF wM : va_W} {th : Int32} {fo : Nat → Int64} (hI : IV g x h wF wM th) {H : Heap} {locs : List Loc} {ls : Array Slot} (hP : va_P g.1 vwCl ((OC g o fo :: wF) ++ wM) H) (hD : va_D A ((OC g o fo :: wF) ++ wM)) (hS : va_S A s.heap H locs) {i : Nat} (hi : i + 1 < L) (hL : L ≤ 1024) (hl : lv_has ls 7 (LV b x h o i)) {cells slots : Nat} {Q : State → Prop} (hce : cells + 1 ≤ 601024) (hsl : slots + 6 ≤ 7293034)
    (kk : ∀ (fo : Nat → Int64) (wF wM : va_W) (th : Int32) (H : Heap) (locs : List Loc) (ls : Array Slot), IV g x h wF wM th → va_P g.1 vwCl ((OC g o fo :: wF) ++ wM) H → va_D A ((OC g o fo :: wF) ++ wM) → va_S A s.heap H locs → lv_has ls 7 (LV b x h o i) → W p l e room_1 s m #[Value.ref b] below meth c H locs (cells + 1) (slots + 6) Q (F0 m 945 ls [])) : W p l e room_1 s m #[Value.ref b] below meth c H locs cells slots Q (F0 m 302 ls []) := by
  obtain ⟨hx, hb, hml, hown, hts, hK, hA, hAb, hXk, hNc, hX, hbl, hfl⟩ := C
  obtain ⟨q, u, d, v, SL, k, K, np, mv, lm, ch, F, f, S, cnt, ll, a, tu, la, wi, fS, fL, fN, fK, fF, fW, fE, fC, fG, fO, D, rfl, rfl, L0⟩ := hI
  have L9 := L0
  obtain ⟨hSL, hF, hk, hp, hf, hc, hll, hM, hfS, hfF, hKK, hW, hG⟩ := L9
  have hl : lv_has ls 7 [(0, .ref b), (1, .ref x), (2, .ref h), (3, .ref o), (4, .int (nI i))] := hl
  refine lv_aload_n hx hb dL_law_302 rfl (lv_at hl 1 rfl) ?_
  refine lv_aload_n hx hb dL_law_303 rfl (lv_at hl 3 rfl) ?_
  refine call_wX (As := [.ref x, .ref o]) (rest := []) (wr := (MW g h a (nI (rwL SL)) (nI cnt) (nI ll) (nI np) tu la wi (nI (rwL F)) th fS fL fN fK fF fW fE fC fG fO)) ⟨hx, hb, hml, hown, hts⟩ (c_L_addWord l hfl g x q u d v SL k K np mv lm ch F f S cnt ll hSL hF hk hp hf hc hll o fo) (vx_cwSW 2 hts gT_L_addWord rfl rfl rfl ⟨by decide +kernel, by decide +kernel, by decide +kernel⟩ ⟨Nat.le_of_ble_eq_true rfl, Nat.le_of_ble_eq_true rfl⟩) hP hK hD hS hA hXk hNc [0, 1, 2, 3, 4, 5] [6, 7, 8, 9, 10, 11, 12, 13, 14, 15, 16] rfl rfl (by decide) (by decide) (by decide) rfl hl.1 rfl (Nat.le_of_ble_eq_true rfl) dL_law_304 ⟨hce, hsl⟩ (fun rc w H locs h1 hP hD hS => ?_)
  refine lv_istore (lv' := [(5, .int rc), (0, .ref b), (1, .ref x), (2, .ref h), (3, .ref o), (4, .int (nI i))]) hx hb dL_law_307 hl (by decide) rfl (fun ls hl => ?_)
  refine lv_aload_n hx hb dL_law_309 rfl (lv_at hl 3 rfl) ?_
  refine call_iV (As := []) (rest := []) (wr := w) ⟨hx, hb, hml, hown, hts⟩ (c_X5_addWord l g h a SL cnt ll np tu la wi F th fS fL fN fK fF fW fE fC fG fO D hM hc hSL hfS hF hfF hll hp) (cwV 0 hts gT_X5_addWord rfl rfl rfl (by decide +kernel) ⟨Nat.le_of_ble_eq_true rfl, Nat.le_of_ble_eq_true rfl⟩) hP hK hD hS hA [0, 1, 2, 3, 4, 5, 6, 7, 8, 9, 10] ((List.range w.length).map (fun i => i + 11)) rfl (tl_map rfl w) (by decide) (tl_nd _ _) (tl_dis (by decide)) 0 rfl rfl rfl rfl hl.1 rfl (Nat.le_of_ble_eq_true rfl) dL_law_310 ⟨by show cells + 1 + 0 ≤ 601024; omega, by show slots + 6 + 0 ≤ 7293034; omega⟩ (fun r2 w2 H locs h2 hP hD hS => ?_)
  refine lv_istore (lv' := [(6, .int r2), (5, .int rc), (0, .ref b), (1, .ref x), (2, .ref h), (3, .ref o), (4, .int (nI i))]) hx hb dL_law_313 hl (by decide) rfl (fun ls hl => ?_)
  obtain ⟨fo9, wF9, th9, rfl, hI9, eth, hres⟩ := o_addWord L0 h1 h2
  have hI8 := hI9
  obtain ⟨q8, u8, d8, v8, SL8, k8, K8, np8, mv8, lm8, ch8, F8, f8, S8, cnt8, ll8, a8, tu8, la8, wi8, fS8, fL8, fN8, fK8, fF8, fW8, fE8, fC8, fG8, fO8, D8, rfl, rfl, L8⟩ := hI9
  refine lv_aload_n hx hb dL_law_315 rfl (lv_at hl 4 rfl) ?_
  refine call_iV (As := []) (rest := []) (wr := OC g o fo9 :: (FW g x (lN SL8) q8 u8 k8 (nI np8) mv8 lm8 ch8 (lN F8) d8 v8 f8 (nI cnt8) (nI ll8))) ⟨hx, hb, hml, hown, hts⟩ (c_X5_thrown l g h a8 (nI (rwL SL8)) (nI cnt8) (nI ll8) (nI np8) tu8 la8 wi8 (nI (rwL F8)) th9 fS8 fL8 fN8 fK8 fF8 fW8 fE8 fC8 fG8 fO8) (cwV 0 hts gT_X5_thrown rfl rfl rfl (by decide +kernel) ⟨Nat.le_of_ble_eq_true rfl, Nat.le_of_ble_eq_true rfl⟩) hP hK hD hS hA [6, 7, 8, 9, 10, 11, 12, 13, 14, 15, 16] [0, 1, 2, 3, 4, 5] rfl rfl (by decide) (by decide) (by decide) 0 rfl rfl rfl rfl hl.1 rfl (Nat.le_of_ble_eq_true rfl) dL_law_316 ⟨by show cells + 1 + 0 ≤ 601024; omega, by show slots + 6 + 0 ≤ 7293034; omega⟩ (fun r3 w3 H locs h3 hP hD hS => ?_)
  obtain ⟨rfl, rfl⟩ := h3
  refine lv_iload hx hb dL_law_319 (lv_at hl 1 rfl) ?_
  refine lv_icmp_eq (tgt := 326) hx hb dL_law_321 (by decide) (fun _ => ?_) (fun c9 => absurd eth c9)
  have hend : W p l e room_1 s m #[Value.ref b] below meth c H locs (cells + 1) (slots + 6) Q (F0 m 343 ls []) := by
    refine lv_goto (tgt := 945) hx hb dL_law_343 (by decide) ?_
    exact kk fo9 _ _ _ H locs ls hI8 hP hD hS (lv_sub hl [2, 3, 4, 5, 6] rfl)
  refine lv_iload hx hb dL_law_326 (lv_at hl 1 rfl) ?_
  refine lv_if_ne (tgt := 343) hx hb dL_law_328 (by decide) (fun _ => hend) (fun c8 => ?_)
  refine lv_aload_n hx hb dL_law_331 rfl (lv_at hl 5 rfl) ?_
  refine lv_iconst (v := nI 0) hx hb dL_law_332 (by decide) ?_
  refine va_lald (n := 1) (f := fo9) hx hb hK hP 0 1 rfl rfl (vp_in_nI (n := 0) (by decide) (by decide)) dL_law_333 ?_
  rw [nI_clamp (n := 0) (by decide)]
  refine lv_iload hx hb dL_law_334 (lv_at hl 0 rfl) ?_
  refine lv_i2l (v := r2.toInt64) hx hb dL_law_336 rfl ?_
  refine W.lcmp hx hb dL_law_337 ?_
  exact lv_if_eq (tgt := 343) hx hb dL_law_338 (by decide) (fun _ => hend) (fun c9 => absurd ((lg_cmp_eq _ _).mpr (hres c8)) c9)
set_option maxHeartbeats 4000000 in
set_option maxRecDepth 100000 in
theorem op_removeWord {p : Program} {l : Launch} {e : Env} {s : State} {m : MethodId} {below : List Frame} {meth : Method} {c : Code} {b L : Nat} {xs : Nat → Int32} {g : GG} {A : Nat → Prop} (C : LC p l s m c b L xs g A) {x h o : Nat} {wF wM : va_W} {th : Int32} {fo : Nat → Int64} (hI : IV g x h wF wM th) {H : Heap} {locs : List Loc} {ls : Array Slot} (hP : va_P g.1 vwCl ((OC g o fo :: wF) ++ wM) H) (hD : va_D A ((OC g o fo :: wF) ++ wM)) (hS : va_S A s.heap H locs) {i : Nat} (hi : i + 1 < L) (hL : L ≤ 1024) (hl : lv_has ls 7 (LV b x h o i)) {cells slots : Nat} {Q : State → Prop} (hce : cells + 1 ≤ 601024) (hsl : slots + 6 ≤ 7293034)
    (kk : ∀ (fo : Nat → Int64) (wF wM : va_W) (th : Int32) (H : Heap) (locs : List Loc) (ls : Array Slot), IV g x h wF wM th → va_P g.1 vwCl ((OC g o fo :: wF) ++ wM) H → va_D A ((OC g o fo :: wF) ++ wM) → va_S A s.heap H locs → lv_has ls 7 (LV b x h o i) → W p l e room_1 s m #[Value.ref b] below meth c H locs (cells + 1) (slots + 6) Q (F0 m 945 ls [])) : W p l e room_1 s m #[Value.ref b] below meth c H locs cells slots Q (F0 m 346 ls []) := by
  obtain ⟨hx, hb, hml, hown, hts, hK, hA, hAb, hXk, hNc, hX, hbl, hfl⟩ := C
  obtain ⟨q, u, d, v, SL, k, K, np, mv, lm, ch, F, f, S, cnt, ll, a, tu, la, wi, fS, fL, fN, fK, fF, fW, fE, fC, fG, fO, D, rfl, rfl, L0⟩ := hI
  have L9 := L0
  obtain ⟨hSL, hF, hk, hp, hf, hc, hll, hM, hfS, hfF, hKK, hW, hG⟩ := L9
  have hl : lv_has ls 7 [(0, .ref b), (1, .ref x), (2, .ref h), (3, .ref o), (4, .int (nI i))] := hl
  refine lv_aload_n hx hb dL_law_346 rfl (lv_at hl 1 rfl) ?_
  refine lv_aload_n hx hb dL_law_347 rfl (lv_at hl 3 rfl) ?_
  refine call_wX (As := [.ref x, .ref o]) (rest := []) (wr := (MW g h a (nI (rwL SL)) (nI cnt) (nI ll) (nI np) tu la wi (nI (rwL F)) th fS fL fN fK fF fW fE fC fG fO)) ⟨hx, hb, hml, hown, hts⟩ (c_L_removeWord l hfl g x q u d v SL k K np mv lm ch F f S cnt ll hSL hF hk hp hf hc hll o fo) (vx_cwSW 2 hts gT_L_removeWord rfl rfl rfl ⟨by decide +kernel, by decide +kernel, by decide +kernel⟩ ⟨Nat.le_of_ble_eq_true rfl, Nat.le_of_ble_eq_true rfl⟩) hP hK hD hS hA hXk hNc [0, 1, 2, 3, 4, 5] [6, 7, 8, 9, 10, 11, 12, 13, 14, 15, 16] rfl rfl (by decide) (by decide) (by decide) rfl hl.1 rfl (Nat.le_of_ble_eq_true rfl) dL_law_348 ⟨hce, hsl⟩ (fun rc w H locs h1 hP hD hS => ?_)
  refine lv_istore (lv' := [(5, .int rc), (0, .ref b), (1, .ref x), (2, .ref h), (3, .ref o), (4, .int (nI i))]) hx hb dL_law_351 hl (by decide) rfl (fun ls hl => ?_)
  refine lv_aload_n hx hb dL_law_353 rfl (lv_at hl 3 rfl) ?_
  refine call_iV (As := []) (rest := []) (wr := w) ⟨hx, hb, hml, hown, hts⟩ (c_X5_removeWord l g h a SL cnt ll np tu la wi F th fS fL fN fK fF fW fE fC fG fO D hM hc hSL hfS hF hfF hll hp) (cwV 0 hts gT_X5_removeWord rfl rfl rfl (by decide +kernel) ⟨Nat.le_of_ble_eq_true rfl, Nat.le_of_ble_eq_true rfl⟩) hP hK hD hS hA [0, 1, 2, 3, 4, 5, 6, 7, 8, 9, 10] ((List.range w.length).map (fun i => i + 11)) rfl (tl_map rfl w) (by decide) (tl_nd _ _) (tl_dis (by decide)) 0 rfl rfl rfl rfl hl.1 rfl (Nat.le_of_ble_eq_true rfl) dL_law_354 ⟨by show cells + 1 + 0 ≤ 601024; omega, by show slots + 6 + 0 ≤ 7293034; omega⟩ (fun r2 w2 H locs h2 hP hD hS => ?_)
  refine lv_istore (lv' := [(6, .int r2), (5, .int rc), (0, .ref b), (1, .ref x), (2, .ref h), (3, .ref o), (4, .int (nI i))]) hx hb dL_law_357 hl (by decide) rfl (fun ls hl => ?_)
  obtain ⟨fo9, wF9, th9, rfl, hI9, eth, hres⟩ := o_removeWord L0 h1 h2
  have hI8 := hI9
  obtain ⟨q8, u8, d8, v8, SL8, k8, K8, np8, mv8, lm8, ch8, F8, f8, S8, cnt8, ll8, a8, tu8, la8, wi8, fS8, fL8, fN8, fK8, fF8, fW8, fE8, fC8, fG8, fO8, D8, rfl, rfl, L8⟩ := hI9
  refine lv_aload_n hx hb dL_law_359 rfl (lv_at hl 4 rfl) ?_
  refine call_iV (As := []) (rest := []) (wr := OC g o fo9 :: (FW g x (lN SL8) q8 u8 k8 (nI np8) mv8 lm8 ch8 (lN F8) d8 v8 f8 (nI cnt8) (nI ll8))) ⟨hx, hb, hml, hown, hts⟩ (c_X5_thrown l g h a8 (nI (rwL SL8)) (nI cnt8) (nI ll8) (nI np8) tu8 la8 wi8 (nI (rwL F8)) th9 fS8 fL8 fN8 fK8 fF8 fW8 fE8 fC8 fG8 fO8) (cwV 0 hts gT_X5_thrown rfl rfl rfl (by decide +kernel) ⟨Nat.le_of_ble_eq_true rfl, Nat.le_of_ble_eq_true rfl⟩) hP hK hD hS hA [6, 7, 8, 9, 10, 11, 12, 13, 14, 15, 16] [0, 1, 2, 3, 4, 5] rfl rfl (by decide) (by decide) (by decide) 0 rfl rfl rfl rfl hl.1 rfl (Nat.le_of_ble_eq_true rfl) dL_law_360 ⟨by show cells + 1 + 0 ≤ 601024; omega, by show slots + 6 + 0 ≤ 7293034; omega⟩ (fun r3 w3 H locs h3 hP hD hS => ?_)
  obtain ⟨rfl, rfl⟩ := h3
  refine lv_iload hx hb dL_law_363 (lv_at hl 1 rfl) ?_
  refine lv_icmp_eq (tgt := 370) hx hb dL_law_365 (by decide) (fun _ => ?_) (fun c9 => absurd eth c9)
  have hend : W p l e room_1 s m #[Value.ref b] below meth c H locs (cells + 1) (slots + 6) Q (F0 m 387 ls []) := by
    refine lv_goto (tgt := 945) hx hb dL_law_387 (by decide) ?_
    exact kk fo9 _ _ _ H locs ls hI8 hP hD hS (lv_sub hl [2, 3, 4, 5, 6] rfl)
  refine lv_iload hx hb dL_law_370 (lv_at hl 1 rfl) ?_
  refine lv_if_ne (tgt := 387) hx hb dL_law_372 (by decide) (fun _ => hend) (fun c8 => ?_)
  refine lv_aload_n hx hb dL_law_375 rfl (lv_at hl 5 rfl) ?_
  refine lv_iconst (v := nI 0) hx hb dL_law_376 (by decide) ?_
  refine va_lald (n := 1) (f := fo9) hx hb hK hP 0 1 rfl rfl (vp_in_nI (n := 0) (by decide) (by decide)) dL_law_377 ?_
  rw [nI_clamp (n := 0) (by decide)]
  refine lv_iload hx hb dL_law_378 (lv_at hl 0 rfl) ?_
  refine lv_i2l (v := r2.toInt64) hx hb dL_law_380 rfl ?_
  refine W.lcmp hx hb dL_law_381 ?_
  exact lv_if_eq (tgt := 387) hx hb dL_law_382 (by decide) (fun _ => hend) (fun c9 => absurd ((lg_cmp_eq _ _).mpr (hres c8)) c9)
set_option maxHeartbeats 4000000 in
set_option maxRecDepth 100000 in
theorem op_isWord {p : Program} {l : Launch} {e : Env} {s : State} {m : MethodId} {below : List Frame} {meth : Method} {c : Code} {b L : Nat} {xs : Nat → Int32} {g : GG} {A : Nat → Prop} (C : LC p l s m c b L xs g A) {x h o : Nat} {wF wM : va_W} {th : Int32} {fo : Nat → Int64} (hI : IV g x h wF wM th) {H : Heap} {locs : List Loc} {ls : Array Slot} (hP : va_P g.1 vwCl ((OC g o fo :: wF) ++ wM) H) (hD : va_D A ((OC g o fo :: wF) ++ wM)) (hS : va_S A s.heap H locs) {i : Nat} (hi : i + 1 < L) (hL : L ≤ 1024) (hl : lv_has ls 7 (LV b x h o i)) {cells slots : Nat} {Q : State → Prop} (hce : cells + 1 ≤ 601024) (hsl : slots + 6 ≤ 7293034)
    (kk : ∀ (fo : Nat → Int64) (wF wM : va_W) (th : Int32) (H : Heap) (locs : List Loc) (ls : Array Slot), IV g x h wF wM th → va_P g.1 vwCl ((OC g o fo :: wF) ++ wM) H → va_D A ((OC g o fo :: wF) ++ wM) → va_S A s.heap H locs → lv_has ls 7 (LV b x h o i) → W p l e room_1 s m #[Value.ref b] below meth c H locs (cells + 1) (slots + 6) Q (F0 m 945 ls [])) : W p l e room_1 s m #[Value.ref b] below meth c H locs cells slots Q (F0 m 390 ls []) := by
  obtain ⟨hx, hb, hml, hown, hts, hK, hA, hAb, hXk, hNc, hX, hbl, hfl⟩ := C
  obtain ⟨q, u, d, v, SL, k, K, np, mv, lm, ch, F, f, S, cnt, ll, a, tu, la, wi, fS, fL, fN, fK, fF, fW, fE, fC, fG, fO, D, rfl, rfl, L0⟩ := hI
  have L9 := L0
  obtain ⟨hSL, hF, hk, hp, hf, hc, hll, hM, hfS, hfF, hKK, hW, hG⟩ := L9
  have hl : lv_has ls 7 [(0, .ref b), (1, .ref x), (2, .ref h), (3, .ref o), (4, .int (nI i))] := hl
  refine lv_aload_n hx hb dL_law_390 rfl (lv_at hl 1 rfl) ?_
  refine call_iV (As := []) (rest := []) (wr := OC g o fo :: (MW g h a (nI (rwL SL)) (nI cnt) (nI ll) (nI np) tu la wi (nI (rwL F)) th fS fL fN fK fF fW fE fC fG fO)) ⟨hx, hb, hml, hown, hts⟩ (c_X4_isWord l g x q u d v SL k K np mv lm ch F f S cnt ll hSL hF hk hp hf hc hll) (cwV 0 hts gT_X4_isWord rfl rfl rfl (by decide +kernel) ⟨Nat.le_of_ble_eq_true rfl, Nat.le_of_ble_eq_true rfl⟩) hP hK hD hS hA [1, 2, 3, 4, 5] (0 :: [6, 7, 8, 9, 10, 11, 12, 13, 14, 15, 16]) rfl rfl (by decide) (by decide) (by decide) 0 rfl rfl rfl rfl hl.1 rfl (Nat.le_of_ble_eq_true rfl) dL_law_391 ⟨Nat.le_of_succ_le hce, by show slots + 0 ≤ 7293034; omega⟩ (fun r1 w H locs h1 hP hD hS => ?_)
  obtain ⟨rfl, h1⟩ := h1
  refine lv_aload_n hx hb dL_law_394 rfl (lv_at hl 2 rfl) ?_
  refine call_iV (As := []) (rest := [.int r1]) (wr := OC g o fo :: (FW g x (lN SL) q u k (nI np) mv lm ch (lN F) d v f (nI cnt) (nI ll))) ⟨hx, hb, hml, hown, hts⟩ (c_X5_isWord l g h a SL cnt ll np tu la wi F th fS fL fN fK fF fW fE fC fG fO D hM hc hSL hfS hF hfF hll hp) (cwV 0 hts gT_X5_isWord rfl rfl rfl (by decide +kernel) ⟨Nat.le_of_ble_eq_true rfl, Nat.le_of_ble_eq_true rfl⟩) hP hK hD hS hA [1, 2, 3, 4, 5, 6, 7, 8, 9, 10, 11] [0, 12, 13, 14, 15, 16] rfl rfl (by decide) (by decide) (by decide) 0 rfl rfl rfl rfl hl.1 rfl (Nat.le_of_ble_eq_true rfl) dL_law_395 ⟨Nat.le_of_succ_le hce, by show slots + 0 ≤ 7293034; omega⟩ (fun r2 w2 H locs h2 hP hD hS => ?_)
  obtain ⟨th9, hI9, e9⟩ := o_isWord L0 ⟨rfl, h1⟩ h2
  refine lv_icmp_eq (tgt := 945) hx hb dL_law_398 (by decide) (fun _ => ?_) (fun c9 => absurd e9 c9)
  exact W.widen (k := cells + 1) (n := slots + 6) (by omega) (by omega) (kk fo _ w2 th9 H locs ls hI9 hP hD hS hl)
set_option maxHeartbeats 4000000 in
set_option maxRecDepth 100000 in
theorem op_words {p : Program} {l : Launch} {e : Env} {s : State} {m : MethodId} {below : List Frame} {meth : Method} {c : Code} {b L : Nat} {xs : Nat → Int32} {g : GG} {A : Nat → Prop} (C : LC p l s m c b L xs g A) {x h o : Nat} {wF wM : va_W} {th : Int32} {fo : Nat → Int64} (hI : IV g x h wF wM th) {H : Heap} {locs : List Loc} {ls : Array Slot} (hP : va_P g.1 vwCl ((OC g o fo :: wF) ++ wM) H) (hD : va_D A ((OC g o fo :: wF) ++ wM)) (hS : va_S A s.heap H locs) {i : Nat} (hi : i + 1 < L) (hL : L ≤ 1024) (hl : lv_has ls 7 (LV b x h o i)) {cells slots : Nat} {Q : State → Prop} (hce : cells + 1 ≤ 601024) (hsl : slots + 6 ≤ 7293034)
    (kk : ∀ (fo : Nat → Int64) (wF wM : va_W) (th : Int32) (H : Heap) (locs : List Loc) (ls : Array Slot), IV g x h wF wM th → va_P g.1 vwCl ((OC g o fo :: wF) ++ wM) H → va_D A ((OC g o fo :: wF) ++ wM) → va_S A s.heap H locs → lv_has ls 7 (LV b x h o i) → W p l e room_1 s m #[Value.ref b] below meth c H locs (cells + 1) (slots + 6) Q (F0 m 945 ls [])) : W p l e room_1 s m #[Value.ref b] below meth c H locs cells slots Q (F0 m 403 ls []) := by
  obtain ⟨hx, hb, hml, hown, hts, hK, hA, hAb, hXk, hNc, hX, hbl, hfl⟩ := C
  obtain ⟨q, u, d, v, SL, k, K, np, mv, lm, ch, F, f, S, cnt, ll, a, tu, la, wi, fS, fL, fN, fK, fF, fW, fE, fC, fG, fO, D, rfl, rfl, L0⟩ := hI
  have L9 := L0
  obtain ⟨hSL, hF, hk, hp, hf, hc, hll, hM, hfS, hfF, hKK, hW, hG⟩ := L9
  have hl : lv_has ls 7 [(0, .ref b), (1, .ref x), (2, .ref h), (3, .ref o), (4, .int (nI i))] := hl
  refine lv_aload_n hx hb dL_law_403 rfl (lv_at hl 1 rfl) ?_
  refine call_iV (As := []) (rest := []) (wr := OC g o fo :: (MW g h a (nI (rwL SL)) (nI cnt) (nI ll) (nI np) tu la wi (nI (rwL F)) th fS fL fN fK fF fW fE fC fG fO)) ⟨hx, hb, hml, hown, hts⟩ (c_X4_words l g x q u d v SL k K np mv lm ch F f S cnt ll hSL hF hk hp hf hc hll) (cwV 0 hts gT_X4_words rfl rfl rfl (by decide +kernel) ⟨Nat.le_of_ble_eq_true rfl, Nat.le_of_ble_eq_true rfl⟩) hP hK hD hS hA [1, 2, 3, 4, 5] (0 :: [6, 7, 8, 9, 10, 11, 12, 13, 14, 15, 16]) rfl rfl (by decide) (by decide) (by decide) 0 rfl rfl rfl rfl hl.1 rfl (Nat.le_of_ble_eq_true rfl) dL_law_404 ⟨Nat.le_of_succ_le hce, by show slots + 0 ≤ 7293034; omega⟩ (fun r1 w H locs h1 hP hD hS => ?_)
  obtain ⟨rfl, h1⟩ := h1
  refine lv_aload_n hx hb dL_law_407 rfl (lv_at hl 2 rfl) ?_
  refine call_iV (As := []) (rest := [.int r1]) (wr := OC g o fo :: (FW g x (lN SL) q u k (nI np) mv lm ch (lN F) d v f (nI cnt) (nI ll))) ⟨hx, hb, hml, hown, hts⟩ (c_X5_words l g h a SL cnt ll np tu la wi F th fS fL fN fK fF fW fE fC fG fO D hM hc hSL hfS hF hfF hll hp) (cwV 0 hts gT_X5_words rfl rfl rfl (by decide +kernel) ⟨Nat.le_of_ble_eq_true rfl, Nat.le_of_ble_eq_true rfl⟩) hP hK hD hS hA [1, 2, 3, 4, 5, 6, 7, 8, 9, 10, 11] [0, 12, 13, 14, 15, 16] rfl rfl (by decide) (by decide) (by decide) 0 rfl rfl rfl rfl hl.1 rfl (Nat.le_of_ble_eq_true rfl) dL_law_408 ⟨Nat.le_of_succ_le hce, by show slots + 0 ≤ 7293034; omega⟩ (fun r2 w2 H locs h2 hP hD hS => ?_)
  obtain ⟨th9, hI9, e9⟩ := o_words L0 ⟨rfl, h1⟩ h2
  refine lv_icmp_eq (tgt := 945) hx hb dL_law_411 (by decide) (fun _ => ?_) (fun c9 => absurd e9 c9)
  exact W.widen (k := cells + 1) (n := slots + 6) (by omega) (by omega) (kk fo _ w2 th9 H locs ls hI9 hP hD hS hl)
set_option maxHeartbeats 4000000 in
set_option maxRecDepth 100000 in
theorem op_wordsFromSlip {p : Program} {l : Launch} {e : Env} {s : State} {m : MethodId} {below : List Frame} {meth : Method} {c : Code} {b L : Nat} {xs : Nat → Int32} {g : GG} {A : Nat → Prop} (C : LC p l s m c b L xs g A) {x h o : Nat} {wF wM : va_W} {th : Int32} {fo : Nat → Int64} (hI : IV g x h wF wM th) {H : Heap} {locs : List Loc} {ls : Array Slot} (hP : va_P g.1 vwCl ((OC g o fo :: wF) ++ wM) H) (hD : va_D A ((OC g o fo :: wF) ++ wM)) (hS : va_S A s.heap H locs) {i : Nat} (hi : i + 1 < L) (hL : L ≤ 1024) (hl : lv_has ls 7 (LV b x h o i)) {cells slots : Nat} {Q : State → Prop} (hce : cells + 1 ≤ 601024) (hsl : slots + 6 ≤ 7293034)
    (kk : ∀ (fo : Nat → Int64) (wF wM : va_W) (th : Int32) (H : Heap) (locs : List Loc) (ls : Array Slot), IV g x h wF wM th → va_P g.1 vwCl ((OC g o fo :: wF) ++ wM) H → va_D A ((OC g o fo :: wF) ++ wM) → va_S A s.heap H locs → lv_has ls 7 (LV b x h o i) → W p l e room_1 s m #[Value.ref b] below meth c H locs (cells + 1) (slots + 6) Q (F0 m 945 ls [])) : W p l e room_1 s m #[Value.ref b] below meth c H locs cells slots Q (F0 m 416 ls []) := by
  obtain ⟨hx, hb, hml, hown, hts, hK, hA, hAb, hXk, hNc, hX, hbl, hfl⟩ := C
  obtain ⟨q, u, d, v, SL, k, K, np, mv, lm, ch, F, f, S, cnt, ll, a, tu, la, wi, fS, fL, fN, fK, fF, fW, fE, fC, fG, fO, D, rfl, rfl, L0⟩ := hI
  have L9 := L0
  obtain ⟨hSL, hF, hk, hp, hf, hc, hll, hM, hfS, hfF, hKK, hW, hG⟩ := L9
  have hl : lv_has ls 7 [(0, .ref b), (1, .ref x), (2, .ref h), (3, .ref o), (4, .int (nI i))] := hl
  refine lv_aload_n hx hb dL_law_416 rfl (lv_at hl 1 rfl) ?_
  refine call_iV (As := []) (rest := []) (wr := OC g o fo :: (MW g h a (nI (rwL SL)) (nI cnt) (nI ll) (nI np) tu la wi (nI (rwL F)) th fS fL fN fK fF fW fE fC fG fO)) ⟨hx, hb, hml, hown, hts⟩ (c_X4_wordsFromSlip l g x q u d v SL k K np mv lm ch F f S cnt ll hSL hF hk hp hf hc hll) (cwV 0 hts gT_X4_wordsFromSlip rfl rfl rfl (by decide +kernel) ⟨Nat.le_of_ble_eq_true rfl, Nat.le_of_ble_eq_true rfl⟩) hP hK hD hS hA [1, 2, 3, 4, 5] (0 :: [6, 7, 8, 9, 10, 11, 12, 13, 14, 15, 16]) rfl rfl (by decide) (by decide) (by decide) 0 rfl rfl rfl rfl hl.1 rfl (Nat.le_of_ble_eq_true rfl) dL_law_417 ⟨Nat.le_of_succ_le hce, by show slots + 0 ≤ 7293034; omega⟩ (fun r1 w H locs h1 hP hD hS => ?_)
  obtain ⟨rfl, h1⟩ := h1
  refine lv_aload_n hx hb dL_law_420 rfl (lv_at hl 2 rfl) ?_
  refine call_iV (As := []) (rest := [.int r1]) (wr := OC g o fo :: (FW g x (lN SL) q u k (nI np) mv lm ch (lN F) d v f (nI cnt) (nI ll))) ⟨hx, hb, hml, hown, hts⟩ (c_X5_wordsFromSlip l g h a SL cnt ll np tu la wi F th fS fL fN fK fF fW fE fC fG fO D hM hc hSL hfS hF hfF hll hp) (cwV 0 hts gT_X5_wordsFromSlip rfl rfl rfl (by decide +kernel) ⟨Nat.le_of_ble_eq_true rfl, Nat.le_of_ble_eq_true rfl⟩) hP hK hD hS hA [1, 2, 3, 4, 5, 6, 7, 8, 9, 10, 11] [0, 12, 13, 14, 15, 16] rfl rfl (by decide) (by decide) (by decide) 0 rfl rfl rfl rfl hl.1 rfl (Nat.le_of_ble_eq_true rfl) dL_law_421 ⟨Nat.le_of_succ_le hce, by show slots + 0 ≤ 7293034; omega⟩ (fun r2 w2 H locs h2 hP hD hS => ?_)
  obtain ⟨th9, hI9, e9⟩ := o_wordsFromSlip L0 ⟨rfl, h1⟩ h2
  refine lv_icmp_eq (tgt := 945) hx hb dL_law_424 (by decide) (fun _ => ?_) (fun c9 => absurd e9 c9)
  exact W.widen (k := cells + 1) (n := slots + 6) (by omega) (by omega) (kk fo _ w2 th9 H locs ls hI9 hP hD hS hl)
set_option maxHeartbeats 4000000 in
set_option maxRecDepth 100000 in
theorem op_beginnings {p : Program} {l : Launch} {e : Env} {s : State} {m : MethodId} {below : List Frame} {meth : Method} {c : Code} {b L : Nat} {xs : Nat → Int32} {g : GG} {A : Nat → Prop} (C : LC p l s m c b L xs g A) {x h o : Nat} {wF wM : va_W} {th : Int32} {fo : Nat → Int64} (hI : IV g x h wF wM th) {H : Heap} {locs : List Loc} {ls : Array Slot} (hP : va_P g.1 vwCl ((OC g o fo :: wF) ++ wM) H) (hD : va_D A ((OC g o fo :: wF) ++ wM)) (hS : va_S A s.heap H locs) {i : Nat} (hi : i + 1 < L) (hL : L ≤ 1024) (hl : lv_has ls 7 (LV b x h o i)) {cells slots : Nat} {Q : State → Prop} (hce : cells + 1 ≤ 601024) (hsl : slots + 6 ≤ 7293034)
    (kk : ∀ (fo : Nat → Int64) (wF wM : va_W) (th : Int32) (H : Heap) (locs : List Loc) (ls : Array Slot), IV g x h wF wM th → va_P g.1 vwCl ((OC g o fo :: wF) ++ wM) H → va_D A ((OC g o fo :: wF) ++ wM) → va_S A s.heap H locs → lv_has ls 7 (LV b x h o i) → W p l e room_1 s m #[Value.ref b] below meth c H locs (cells + 1) (slots + 6) Q (F0 m 945 ls [])) : W p l e room_1 s m #[Value.ref b] below meth c H locs cells slots Q (F0 m 429 ls []) := by
  obtain ⟨hx, hb, hml, hown, hts, hK, hA, hAb, hXk, hNc, hX, hbl, hfl⟩ := C
  obtain ⟨q, u, d, v, SL, k, K, np, mv, lm, ch, F, f, S, cnt, ll, a, tu, la, wi, fS, fL, fN, fK, fF, fW, fE, fC, fG, fO, D, rfl, rfl, L0⟩ := hI
  have L9 := L0
  obtain ⟨hSL, hF, hk, hp, hf, hc, hll, hM, hfS, hfF, hKK, hW, hG⟩ := L9
  have hl : lv_has ls 7 [(0, .ref b), (1, .ref x), (2, .ref h), (3, .ref o), (4, .int (nI i))] := hl
  refine lv_aload_n hx hb dL_law_429 rfl (lv_at hl 1 rfl) ?_
  refine call_iV (As := []) (rest := []) (wr := OC g o fo :: (MW g h a (nI (rwL SL)) (nI cnt) (nI ll) (nI np) tu la wi (nI (rwL F)) th fS fL fN fK fF fW fE fC fG fO)) ⟨hx, hb, hml, hown, hts⟩ (c_X4_beginnings l g x q u d v SL k K np mv lm ch F f S cnt ll hSL hF hk hp hf hc hll) (cwV 0 hts gT_X4_beginnings rfl rfl rfl (by decide +kernel) ⟨Nat.le_of_ble_eq_true rfl, Nat.le_of_ble_eq_true rfl⟩) hP hK hD hS hA [1, 2, 3, 4, 5] (0 :: [6, 7, 8, 9, 10, 11, 12, 13, 14, 15, 16]) rfl rfl (by decide) (by decide) (by decide) 0 rfl rfl rfl rfl hl.1 rfl (Nat.le_of_ble_eq_true rfl) dL_law_430 ⟨Nat.le_of_succ_le hce, by show slots + 0 ≤ 7293034; omega⟩ (fun r1 w H locs h1 hP hD hS => ?_)
  obtain ⟨rfl, h1⟩ := h1
  refine lv_aload_n hx hb dL_law_433 rfl (lv_at hl 2 rfl) ?_
  refine call_iV (As := []) (rest := [.int r1]) (wr := OC g o fo :: (FW g x (lN SL) q u k (nI np) mv lm ch (lN F) d v f (nI cnt) (nI ll))) ⟨hx, hb, hml, hown, hts⟩ (c_X5_beginnings l g h a SL cnt ll np tu la wi F th fS fL fN fK fF fW fE fC fG fO D hM hc hSL hfS hF hfF hll hp) (cwV 0 hts gT_X5_beginnings rfl rfl rfl (by decide +kernel) ⟨Nat.le_of_ble_eq_true rfl, Nat.le_of_ble_eq_true rfl⟩) hP hK hD hS hA [1, 2, 3, 4, 5, 6, 7, 8, 9, 10, 11] [0, 12, 13, 14, 15, 16] rfl rfl (by decide) (by decide) (by decide) 0 rfl rfl rfl rfl hl.1 rfl (Nat.le_of_ble_eq_true rfl) dL_law_434 ⟨Nat.le_of_succ_le hce, by show slots + 0 ≤ 7293034; omega⟩ (fun r2 w2 H locs h2 hP hD hS => ?_)
  obtain ⟨th9, hI9, e9⟩ := o_beginnings L0 ⟨rfl, h1⟩ h2
  refine lv_icmp_eq (tgt := 945) hx hb dL_law_437 (by decide) (fun _ => ?_) (fun c9 => absurd e9 c9)
  exact W.widen (k := cells + 1) (n := slots + 6) (by omega) (by omega) (kk fo _ w2 th9 H locs ls hI9 hP hD hS hl)
set_option maxHeartbeats 4000000 in
set_option maxRecDepth 100000 in
theorem op_copyWord {p : Program} {l : Launch} {e : Env} {s : State} {m : MethodId} {below : List Frame} {meth : Method} {c : Code} {b L : Nat} {xs : Nat → Int32} {g : GG} {A : Nat → Prop} (C : LC p l s m c b L xs g A) {x h o : Nat} {wF wM : va_W} {th : Int32} {fo : Nat → Int64} (hI : IV g x h wF wM th) {H : Heap} {locs : List Loc} {ls : Array Slot} (hP : va_P g.1 vwCl ((OC g o fo :: wF) ++ wM) H) (hD : va_D A ((OC g o fo :: wF) ++ wM)) (hS : va_S A s.heap H locs) {i : Nat} (hi : i + 1 < L) (hL : L ≤ 1024) (hl : lv_has ls 7 (LV b x h o i)) {cells slots : Nat} {Q : State → Prop} (hce : cells + 1 ≤ 601024) (hsl : slots + 6 ≤ 7293034)
    (kk : ∀ (fo : Nat → Int64) (wF wM : va_W) (th : Int32) (H : Heap) (locs : List Loc) (ls : Array Slot), IV g x h wF wM th → va_P g.1 vwCl ((OC g o fo :: wF) ++ wM) H → va_D A ((OC g o fo :: wF) ++ wM) → va_S A s.heap H locs → lv_has ls 7 (LV b x h o i) → W p l e room_1 s m #[Value.ref b] below meth c H locs (cells + 1) (slots + 6) Q (F0 m 945 ls [])) : W p l e room_1 s m #[Value.ref b] below meth c H locs cells slots Q (F0 m 442 ls []) := by
  obtain ⟨hx, hb, hml, hown, hts, hK, hA, hAb, hXk, hNc, hX, hbl, hfl⟩ := C
  obtain ⟨q, u, d, v, SL, k, K, np, mv, lm, ch, F, f, S, cnt, ll, a, tu, la, wi, fS, fL, fN, fK, fF, fW, fE, fC, fG, fO, D, rfl, rfl, L0⟩ := hI
  have L9 := L0
  obtain ⟨hSL, hF, hk, hp, hf, hc, hll, hM, hfS, hfF, hKK, hW, hG⟩ := L9
  have hl : lv_has ls 7 [(0, .ref b), (1, .ref x), (2, .ref h), (3, .ref o), (4, .int (nI i))] := hl
  refine lv_aload_n hx hb dL_law_442 rfl (lv_at hl 1 rfl) ?_
  refine lv_aload_n hx hb dL_law_443 rfl (lv_at hl 0 rfl) ?_
  refine lv_iload hx hb dL_law_444 (lv_at hl 4 rfl) ?_
  refine lv_iconst (v := nI 1) hx hb dL_law_446 (by decide) ?_
  refine lv_iadd hx hb dL_law_447 ?_
  rw [nI_add i 1]
  refine va_sld hx hb hX hbl hAb hS (i := nI (i + 1)) (vp_in_nI hi (by omega)) dL_law_448 ?_
  rw [nI_clamp (n := i + 1) (by omega)]
  refine lv_aload_n hx hb dL_law_449 rfl (lv_at hl 3 rfl) ?_
  refine call_wX (As := [.ref x, .int (xs (i + 1)), .ref o]) (rest := []) (wr := (MW g h a (nI (rwL SL)) (nI cnt) (nI ll) (nI np) tu la wi (nI (rwL F)) th fS fL fN fK fF fW fE fC fG fO)) ⟨hx, hb, hml, hown, hts⟩ (c_L_copyWord l hfl g x q u d v SL k K np mv lm ch F f S cnt ll hSL hF hk hp hf hc hll (fun i hi => hW.2.2 i hi) (xs (i + 1)) o fo) (vx_cwSW 3 hts gT_L_copyWord rfl rfl rfl ⟨by decide +kernel, by decide +kernel, by decide +kernel⟩ ⟨Nat.le_of_ble_eq_true rfl, Nat.le_of_ble_eq_true rfl⟩) hP hK hD hS hA hXk hNc [0, 1, 2, 3, 4, 5] [6, 7, 8, 9, 10, 11, 12, 13, 14, 15, 16] rfl rfl (by decide) (by decide) (by decide) rfl hl.1 rfl (Nat.le_of_ble_eq_true rfl) dL_law_450 ⟨hce, hsl⟩ (fun rc w H locs h1 hP hD hS => ?_)
  refine lv_istore (lv' := [(5, .int rc), (0, .ref b), (1, .ref x), (2, .ref h), (3, .ref o), (4, .int (nI i))]) hx hb dL_law_453 hl (by decide) rfl (fun ls hl => ?_)
  refine lv_aload_n hx hb dL_law_455 rfl (lv_at hl 3 rfl) ?_
  refine lv_aload_n hx hb dL_law_456 rfl (lv_at hl 1 rfl) ?_
  refine lv_iload hx hb dL_law_457 (lv_at hl 5 rfl) ?_
  refine lv_iconst (v := nI 1) hx hb dL_law_459 (by decide) ?_
  refine lv_iadd hx hb dL_law_460 ?_
  rw [nI_add i 1]
  refine va_sld hx hb hX hbl hAb hS (i := nI (i + 1)) (vp_in_nI hi (by omega)) dL_law_461 ?_
  rw [nI_clamp (n := i + 1) (by omega)]
  refine call_iV (As := [.int (xs (i + 1))]) (rest := []) (wr := w) ⟨hx, hb, hml, hown, hts⟩ (c_X5_copyWord l g h a SL cnt ll np tu la wi F th fS fL fN fK fF fW fE fC fG fO D hM hc hSL hfS hF hfF hll hp hW.ranks (xs (i + 1))) (cwV 1 hts gT_X5_copyWord rfl rfl rfl (by decide +kernel) ⟨Nat.le_of_ble_eq_true rfl, Nat.le_of_ble_eq_true rfl⟩) hP hK hD hS hA [0, 1, 2, 3, 4, 5, 6, 7, 8, 9, 10] ((List.range w.length).map (fun i => i + 11)) rfl (tl_map rfl w) (by decide) (tl_nd _ _) (tl_dis (by decide)) 0 rfl rfl rfl rfl hl.1 rfl (Nat.le_of_ble_eq_true rfl) dL_law_462 ⟨by show cells + 1 + 0 ≤ 601024; omega, by show slots + 6 + 0 ≤ 7293034; omega⟩ (fun r2 w2 H locs h2 hP hD hS => ?_)
  refine lv_istore (lv' := [(6, .int r2), (5, .int rc), (0, .ref b), (1, .ref x), (2, .ref h), (3, .ref o), (4, .int (nI i))]) hx hb dL_law_465 hl (by decide) rfl (fun ls hl => ?_)
  obtain ⟨fo9, wF9, th9, rfl, hI9, eth, hres⟩ := o_copyWord L0 h1 h2
  have hI8 := hI9
  obtain ⟨q8, u8, d8, v8, SL8, k8, K8, np8, mv8, lm8, ch8, F8, f8, S8, cnt8, ll8, a8, tu8, la8, wi8, fS8, fL8, fN8, fK8, fF8, fW8, fE8, fC8, fG8, fO8, D8, rfl, rfl, L8⟩ := hI9
  refine lv_aload_n hx hb dL_law_467 rfl (lv_at hl 4 rfl) ?_
  refine call_iV (As := []) (rest := []) (wr := OC g o fo9 :: (FW g x (lN SL8) q8 u8 k8 (nI np8) mv8 lm8 ch8 (lN F8) d8 v8 f8 (nI cnt8) (nI ll8))) ⟨hx, hb, hml, hown, hts⟩ (c_X5_thrown l g h a8 (nI (rwL SL8)) (nI cnt8) (nI ll8) (nI np8) tu8 la8 wi8 (nI (rwL F8)) th9 fS8 fL8 fN8 fK8 fF8 fW8 fE8 fC8 fG8 fO8) (cwV 0 hts gT_X5_thrown rfl rfl rfl (by decide +kernel) ⟨Nat.le_of_ble_eq_true rfl, Nat.le_of_ble_eq_true rfl⟩) hP hK hD hS hA [6, 7, 8, 9, 10, 11, 12, 13, 14, 15, 16] [0, 1, 2, 3, 4, 5] rfl rfl (by decide) (by decide) (by decide) 0 rfl rfl rfl rfl hl.1 rfl (Nat.le_of_ble_eq_true rfl) dL_law_468 ⟨by show cells + 1 + 0 ≤ 601024; omega, by show slots + 6 + 0 ≤ 7293034; omega⟩ (fun r3 w3 H locs h3 hP hD hS => ?_)
  obtain ⟨rfl, rfl⟩ := h3
  refine lv_iload hx hb dL_law_471 (lv_at hl 1 rfl) ?_
  refine lv_icmp_eq (tgt := 478) hx hb dL_law_473 (by decide) (fun _ => ?_) (fun c9 => absurd eth c9)
  have hend : W p l e room_1 s m #[Value.ref b] below meth c H locs (cells + 1) (slots + 6) Q (F0 m 495 ls []) := by
    refine lv_goto (tgt := 945) hx hb dL_law_495 (by decide) ?_
    exact kk fo9 _ _ _ H locs ls hI8 hP hD hS (lv_sub hl [2, 3, 4, 5, 6] rfl)
  refine lv_iload hx hb dL_law_478 (lv_at hl 1 rfl) ?_
  refine lv_if_ne (tgt := 495) hx hb dL_law_480 (by decide) (fun _ => hend) (fun c8 => ?_)
  refine lv_aload_n hx hb dL_law_483 rfl (lv_at hl 5 rfl) ?_
  refine lv_iconst (v := nI 0) hx hb dL_law_484 (by decide) ?_
  refine va_lald (n := 1) (f := fo9) hx hb hK hP 0 1 rfl rfl (vp_in_nI (n := 0) (by decide) (by decide)) dL_law_485 ?_
  rw [nI_clamp (n := 0) (by decide)]
  refine lv_iload hx hb dL_law_486 (lv_at hl 0 rfl) ?_
  refine lv_i2l (v := r2.toInt64) hx hb dL_law_488 rfl ?_
  refine W.lcmp hx hb dL_law_489 ?_
  exact lv_if_eq (tgt := 495) hx hb dL_law_490 (by decide) (fun _ => hend) (fun c9 => absurd ((lg_cmp_eq _ _).mpr (hres c8)) c9)
set_option maxHeartbeats 4000000 in
set_option maxRecDepth 100000 in
theorem op_setLeastLength {p : Program} {l : Launch} {e : Env} {s : State} {m : MethodId} {below : List Frame} {meth : Method} {c : Code} {b L : Nat} {xs : Nat → Int32} {g : GG} {A : Nat → Prop} (C : LC p l s m c b L xs g A) {x h o : Nat} {wF wM : va_W} {th : Int32} {fo : Nat → Int64} (hI : IV g x h wF wM th) {H : Heap} {locs : List Loc} {ls : Array Slot} (hP : va_P g.1 vwCl ((OC g o fo :: wF) ++ wM) H) (hD : va_D A ((OC g o fo :: wF) ++ wM)) (hS : va_S A s.heap H locs) {i : Nat} (hi : i + 1 < L) (hL : L ≤ 1024) (hl : lv_has ls 7 (LV b x h o i)) {cells slots : Nat} {Q : State → Prop} (hce : cells + 1 ≤ 601024) (hsl : slots + 6 ≤ 7293034)
    (kk : ∀ (fo : Nat → Int64) (wF wM : va_W) (th : Int32) (H : Heap) (locs : List Loc) (ls : Array Slot), IV g x h wF wM th → va_P g.1 vwCl ((OC g o fo :: wF) ++ wM) H → va_D A ((OC g o fo :: wF) ++ wM) → va_S A s.heap H locs → lv_has ls 7 (LV b x h o i) → W p l e room_1 s m #[Value.ref b] below meth c H locs (cells + 1) (slots + 6) Q (F0 m 945 ls [])) : W p l e room_1 s m #[Value.ref b] below meth c H locs cells slots Q (F0 m 498 ls []) := by
  obtain ⟨hx, hb, hml, hown, hts, hK, hA, hAb, hXk, hNc, hX, hbl, hfl⟩ := C
  obtain ⟨q, u, d, v, SL, k, K, np, mv, lm, ch, F, f, S, cnt, ll, a, tu, la, wi, fS, fL, fN, fK, fF, fW, fE, fC, fG, fO, D, rfl, rfl, L0⟩ := hI
  have L9 := L0
  obtain ⟨hSL, hF, hk, hp, hf, hc, hll, hM, hfS, hfF, hKK, hW, hG⟩ := L9
  have hl : lv_has ls 7 [(0, .ref b), (1, .ref x), (2, .ref h), (3, .ref o), (4, .int (nI i))] := hl
  refine lv_aload_n hx hb dL_law_498 rfl (lv_at hl 1 rfl) ?_
  refine lv_aload_n hx hb dL_law_499 rfl (lv_at hl 0 rfl) ?_
  refine lv_iload hx hb dL_law_500 (lv_at hl 4 rfl) ?_
  refine lv_iconst (v := nI 1) hx hb dL_law_502 (by decide) ?_
  refine lv_iadd hx hb dL_law_503 ?_
  rw [nI_add i 1]
  refine va_sld hx hb hX hbl hAb hS (i := nI (i + 1)) (vp_in_nI hi (by omega)) dL_law_504 ?_
  rw [nI_clamp (n := i + 1) (by omega)]
  refine lv_aload_n hx hb dL_law_505 rfl (lv_at hl 3 rfl) ?_
  refine call_wX (As := [.ref x, .int (xs (i + 1)), .ref o]) (rest := []) (wr := (MW g h a (nI (rwL SL)) (nI cnt) (nI ll) (nI np) tu la wi (nI (rwL F)) th fS fL fN fK fF fW fE fC fG fO)) ⟨hx, hb, hml, hown, hts⟩ (c_L_setLeastLength l hfl g x q u d v SL k K np mv lm ch F f S cnt ll hSL hF hk hp hf hc hll (xs (i + 1)) o fo) (vx_cwSW 3 hts gT_L_setLeastLength rfl rfl rfl ⟨by decide +kernel, by decide +kernel, by decide +kernel⟩ ⟨Nat.le_of_ble_eq_true rfl, Nat.le_of_ble_eq_true rfl⟩) hP hK hD hS hA hXk hNc [0, 1, 2, 3, 4, 5] [6, 7, 8, 9, 10, 11, 12, 13, 14, 15, 16] rfl rfl (by decide) (by decide) (by decide) rfl hl.1 rfl (Nat.le_of_ble_eq_true rfl) dL_law_506 ⟨hce, hsl⟩ (fun rc w H locs h1 hP hD hS => ?_)
  refine lv_istore (lv' := [(5, .int rc), (0, .ref b), (1, .ref x), (2, .ref h), (3, .ref o), (4, .int (nI i))]) hx hb dL_law_509 hl (by decide) rfl (fun ls hl => ?_)
  refine lv_aload_n hx hb dL_law_511 rfl (lv_at hl 3 rfl) ?_
  refine lv_aload_n hx hb dL_law_512 rfl (lv_at hl 1 rfl) ?_
  refine lv_iload hx hb dL_law_513 (lv_at hl 5 rfl) ?_
  refine lv_iconst (v := nI 1) hx hb dL_law_515 (by decide) ?_
  refine lv_iadd hx hb dL_law_516 ?_
  rw [nI_add i 1]
  refine va_sld hx hb hX hbl hAb hS (i := nI (i + 1)) (vp_in_nI hi (by omega)) dL_law_517 ?_
  rw [nI_clamp (n := i + 1) (by omega)]
  refine call_iV (As := [.int (xs (i + 1))]) (rest := []) (wr := w) ⟨hx, hb, hml, hown, hts⟩ (c_X5_setLeastLength l g h a SL cnt ll np tu la wi F th fS fL fN fK fF fW fE fC fG fO D hM hc hSL hfS hF hfF hll hp (xs (i + 1))) (cwV 1 hts gT_X5_setLeastLength rfl rfl rfl (by decide +kernel) ⟨Nat.le_of_ble_eq_true rfl, Nat.le_of_ble_eq_true rfl⟩) hP hK hD hS hA [0, 1, 2, 3, 4, 5, 6, 7, 8, 9, 10] ((List.range w.length).map (fun i => i + 11)) rfl (tl_map rfl w) (by decide) (tl_nd _ _) (tl_dis (by decide)) 0 rfl rfl rfl rfl hl.1 rfl (Nat.le_of_ble_eq_true rfl) dL_law_518 ⟨by show cells + 1 + 0 ≤ 601024; omega, by show slots + 6 + 0 ≤ 7293034; omega⟩ (fun r2 w2 H locs h2 hP hD hS => ?_)
  refine lv_istore (lv' := [(6, .int r2), (5, .int rc), (0, .ref b), (1, .ref x), (2, .ref h), (3, .ref o), (4, .int (nI i))]) hx hb dL_law_521 hl (by decide) rfl (fun ls hl => ?_)
  obtain ⟨fo9, wF9, th9, rfl, hI9, eth, hres⟩ := o_setLeastLength L0 h1 h2
  have hI8 := hI9
  obtain ⟨q8, u8, d8, v8, SL8, k8, K8, np8, mv8, lm8, ch8, F8, f8, S8, cnt8, ll8, a8, tu8, la8, wi8, fS8, fL8, fN8, fK8, fF8, fW8, fE8, fC8, fG8, fO8, D8, rfl, rfl, L8⟩ := hI9
  refine lv_aload_n hx hb dL_law_523 rfl (lv_at hl 4 rfl) ?_
  refine call_iV (As := []) (rest := []) (wr := OC g o fo9 :: (FW g x (lN SL8) q8 u8 k8 (nI np8) mv8 lm8 ch8 (lN F8) d8 v8 f8 (nI cnt8) (nI ll8))) ⟨hx, hb, hml, hown, hts⟩ (c_X5_thrown l g h a8 (nI (rwL SL8)) (nI cnt8) (nI ll8) (nI np8) tu8 la8 wi8 (nI (rwL F8)) th9 fS8 fL8 fN8 fK8 fF8 fW8 fE8 fC8 fG8 fO8) (cwV 0 hts gT_X5_thrown rfl rfl rfl (by decide +kernel) ⟨Nat.le_of_ble_eq_true rfl, Nat.le_of_ble_eq_true rfl⟩) hP hK hD hS hA [6, 7, 8, 9, 10, 11, 12, 13, 14, 15, 16] [0, 1, 2, 3, 4, 5] rfl rfl (by decide) (by decide) (by decide) 0 rfl rfl rfl rfl hl.1 rfl (Nat.le_of_ble_eq_true rfl) dL_law_524 ⟨by show cells + 1 + 0 ≤ 601024; omega, by show slots + 6 + 0 ≤ 7293034; omega⟩ (fun r3 w3 H locs h3 hP hD hS => ?_)
  obtain ⟨rfl, rfl⟩ := h3
  refine lv_iload hx hb dL_law_527 (lv_at hl 1 rfl) ?_
  refine lv_icmp_eq (tgt := 534) hx hb dL_law_529 (by decide) (fun _ => ?_) (fun c9 => absurd eth c9)
  have hend : W p l e room_1 s m #[Value.ref b] below meth c H locs (cells + 1) (slots + 6) Q (F0 m 551 ls []) := by
    refine lv_goto (tgt := 945) hx hb dL_law_551 (by decide) ?_
    exact kk fo9 _ _ _ H locs ls hI8 hP hD hS (lv_sub hl [2, 3, 4, 5, 6] rfl)
  refine lv_iload hx hb dL_law_534 (lv_at hl 1 rfl) ?_
  refine lv_if_ne (tgt := 551) hx hb dL_law_536 (by decide) (fun _ => hend) (fun c8 => ?_)
  refine lv_aload_n hx hb dL_law_539 rfl (lv_at hl 5 rfl) ?_
  refine lv_iconst (v := nI 0) hx hb dL_law_540 (by decide) ?_
  refine va_lald (n := 1) (f := fo9) hx hb hK hP 0 1 rfl rfl (vp_in_nI (n := 0) (by decide) (by decide)) dL_law_541 ?_
  rw [nI_clamp (n := 0) (by decide)]
  refine lv_iload hx hb dL_law_542 (lv_at hl 0 rfl) ?_
  refine lv_i2l (v := r2.toInt64) hx hb dL_law_544 rfl ?_
  refine W.lcmp hx hb dL_law_545 ?_
  exact lv_if_eq (tgt := 551) hx hb dL_law_546 (by decide) (fun _ => hend) (fun c9 => absurd ((lg_cmp_eq _ _).mpr (hres c8)) c9)
set_option maxHeartbeats 4000000 in
set_option maxRecDepth 100000 in
theorem op_start {p : Program} {l : Launch} {e : Env} {s : State} {m : MethodId} {below : List Frame} {meth : Method} {c : Code} {b L : Nat} {xs : Nat → Int32} {g : GG} {A : Nat → Prop} (C : LC p l s m c b L xs g A) {x h o : Nat} {wF wM : va_W} {th : Int32} {fo : Nat → Int64} (hI : IV g x h wF wM th) {H : Heap} {locs : List Loc} {ls : Array Slot} (hP : va_P g.1 vwCl ((OC g o fo :: wF) ++ wM) H) (hD : va_D A ((OC g o fo :: wF) ++ wM)) (hS : va_S A s.heap H locs) {i : Nat} (hi : i + 1 < L) (hL : L ≤ 1024) (hl : lv_has ls 7 (LV b x h o i)) {cells slots : Nat} {Q : State → Prop} (hce : cells + 1 ≤ 601024) (hsl : slots + 6 ≤ 7293034)
    (kk : ∀ (fo : Nat → Int64) (wF wM : va_W) (th : Int32) (H : Heap) (locs : List Loc) (ls : Array Slot), IV g x h wF wM th → va_P g.1 vwCl ((OC g o fo :: wF) ++ wM) H → va_D A ((OC g o fo :: wF) ++ wM) → va_S A s.heap H locs → lv_has ls 7 (LV b x h o i) → W p l e room_1 s m #[Value.ref b] below meth c H locs (cells + 1) (slots + 6) Q (F0 m 945 ls [])) : W p l e room_1 s m #[Value.ref b] below meth c H locs cells slots Q (F0 m 554 ls []) := by
  obtain ⟨hx, hb, hml, hown, hts, hK, hA, hAb, hXk, hNc, hX, hbl, hfl⟩ := C
  obtain ⟨q, u, d, v, SL, k, K, np, mv, lm, ch, F, f, S, cnt, ll, a, tu, la, wi, fS, fL, fN, fK, fF, fW, fE, fC, fG, fO, D, rfl, rfl, L0⟩ := hI
  have L9 := L0
  obtain ⟨hSL, hF, hk, hp, hf, hc, hll, hM, hfS, hfF, hKK, hW, hG⟩ := L9
  have hl : lv_has ls 7 [(0, .ref b), (1, .ref x), (2, .ref h), (3, .ref o), (4, .int (nI i))] := hl
  refine lv_aload_n hx hb dL_law_554 rfl (lv_at hl 1 rfl) ?_
  refine lv_aload_n hx hb dL_law_555 rfl (lv_at hl 0 rfl) ?_
  refine lv_iload hx hb dL_law_556 (lv_at hl 4 rfl) ?_
  refine lv_iconst (v := nI 1) hx hb dL_law_558 (by decide) ?_
  refine lv_iadd hx hb dL_law_559 ?_
  rw [nI_add i 1]
  refine va_sld hx hb hX hbl hAb hS (i := nI (i + 1)) (vp_in_nI hi (by omega)) dL_law_560 ?_
  rw [nI_clamp (n := i + 1) (by omega)]
  refine call_wX (As := [.ref x, .int (xs (i + 1))]) (rest := []) (wr := OC g o fo :: (MW g h a (nI (rwL SL)) (nI cnt) (nI ll) (nI np) tu la wi (nI (rwL F)) th fS fL fN fK fF fW fE fC fG fO)) ⟨hx, hb, hml, hown, hts⟩ (c_L_start l hfl g x q u d v SL k K np mv lm ch F f S cnt ll hSL hF hk hp hf hc hll (xs (i + 1))) (vx_cwSW 2 hts gT_L_start rfl rfl rfl ⟨by decide +kernel, by decide +kernel, by decide +kernel⟩ ⟨Nat.le_of_ble_eq_true rfl, Nat.le_of_ble_eq_true rfl⟩) hP hK hD hS hA hXk hNc [1, 2, 3, 4, 5] (0 :: [6, 7, 8, 9, 10, 11, 12, 13, 14, 15, 16]) rfl rfl (by decide) (by decide) (by decide) rfl hl.1 rfl (Nat.le_of_ble_eq_true rfl) dL_law_561 ⟨hce, hsl⟩ (fun rc w H locs h1 hP hD hS => ?_)
  refine lv_istore (lv' := [(5, .int rc), (0, .ref b), (1, .ref x), (2, .ref h), (3, .ref o), (4, .int (nI i))]) hx hb dL_law_564 hl (by decide) rfl (fun ls hl => ?_)
  refine lv_aload_n hx hb dL_law_566 rfl (lv_at hl 3 rfl) ?_
  refine lv_aload_n hx hb dL_law_567 rfl (lv_at hl 1 rfl) ?_
  refine lv_iload hx hb dL_law_568 (lv_at hl 5 rfl) ?_
  refine lv_iconst (v := nI 1) hx hb dL_law_570 (by decide) ?_
  refine lv_iadd hx hb dL_law_571 ?_
  rw [nI_add i 1]
  refine va_sld hx hb hX hbl hAb hS (i := nI (i + 1)) (vp_in_nI hi (by omega)) dL_law_572 ?_
  rw [nI_clamp (n := i + 1) (by omega)]
  refine call_vV (As := [.int (xs (i + 1))]) (rest := []) (wr := OC g o fo :: w) ⟨hx, hb, hml, hown, hts⟩ (c_X5_start l g h a SL cnt ll np tu la wi F th fS fL fN fK fF fW fE fC fG fO D hM hc hSL hfS hF hfF hll hp (xs (i + 1))) (cwV 1 hts gT_X5_start rfl rfl rfl (by decide +kernel) ⟨Nat.le_of_ble_eq_true rfl, Nat.le_of_ble_eq_true rfl⟩) hP hK hD hS hA [1, 2, 3, 4, 5, 6, 7, 8, 9, 10, 11] (0 :: (List.range w.length).map (fun i => i + 12)) rfl (congrArg (fun z => some (OC g o fo) :: z) (tl_map (u := OC g o fo :: (MW g h a (nI (rwL SL)) (nI cnt) (nI ll) (nI np) tu la wi (nI (rwL F)) th fS fL fN fK fF fW fE fC fG fO)) rfl w)) (by decide) (tl_nd0 _ _ (by decide)) (tl_dis0 (by decide) (by decide)) 0 rfl rfl rfl rfl hl.1 rfl (Nat.le_of_ble_eq_true rfl) dL_law_573 ⟨by show cells + 1 + 0 ≤ 601024; omega, by show slots + 6 + 0 ≤ 7293034; omega⟩ (fun w2 H locs h2 hP hD hS => ?_)
  obtain ⟨th9, hI9, eth⟩ := o_start L0 h1 h2
  have hI8 := hI9
  obtain ⟨q8, u8, d8, v8, SL8, k8, K8, np8, mv8, lm8, ch8, F8, f8, S8, cnt8, ll8, a8, tu8, la8, wi8, fS8, fL8, fN8, fK8, fF8, fW8, fE8, fC8, fG8, fO8, D8, rfl, rfl, L8⟩ := hI9
  refine lv_aload_n hx hb dL_law_576 rfl (lv_at hl 3 rfl) ?_
  refine call_iV (As := []) (rest := []) (wr := OC g o fo :: (FW g x (lN SL8) q8 u8 k8 (nI np8) mv8 lm8 ch8 (lN F8) d8 v8 f8 (nI cnt8) (nI ll8))) ⟨hx, hb, hml, hown, hts⟩ (c_X5_thrown l g h a8 (nI (rwL SL8)) (nI cnt8) (nI ll8) (nI np8) tu8 la8 wi8 (nI (rwL F8)) th9 fS8 fL8 fN8 fK8 fF8 fW8 fE8 fC8 fG8 fO8) (cwV 0 hts gT_X5_thrown rfl rfl rfl (by decide +kernel) ⟨Nat.le_of_ble_eq_true rfl, Nat.le_of_ble_eq_true rfl⟩) hP hK hD hS hA [6, 7, 8, 9, 10, 11, 12, 13, 14, 15, 16] [0, 1, 2, 3, 4, 5] rfl rfl (by decide) (by decide) (by decide) 0 rfl rfl rfl rfl hl.1 rfl (Nat.le_of_ble_eq_true rfl) dL_law_577 ⟨by show cells + 1 + 0 ≤ 601024; omega, by show slots + 6 + 0 ≤ 7293034; omega⟩ (fun r3 w3 H locs h3 hP hD hS => ?_)
  obtain ⟨rfl, rfl⟩ := h3
  refine lv_iload hx hb dL_law_580 (lv_at hl 0 rfl) ?_
  refine lv_icmp_eq (tgt := 587) hx hb dL_law_582 (by decide) (fun _ => ?_) (fun c9 => absurd eth c9)
  refine lv_goto (tgt := 945) hx hb dL_law_587 (by decide) ?_
  exact kk fo _ _ _ H locs ls hI8 hP hD hS (lv_sub hl [1, 2, 3, 4, 5] rfl)
set_option maxHeartbeats 4000000 in
set_option maxRecDepth 100000 in
theorem op_play {p : Program} {l : Launch} {e : Env} {s : State} {m : MethodId} {below : List Frame} {meth : Method} {c : Code} {b L : Nat} {xs : Nat → Int32} {g : GG} {A : Nat → Prop} (C : LC p l s m c b L xs g A) {x h o : Nat} {wF wM : va_W} {th : Int32} {fo : Nat → Int64} (hI : IV g x h wF wM th) {H : Heap} {locs : List Loc} {ls : Array Slot} (hP : va_P g.1 vwCl ((OC g o fo :: wF) ++ wM) H) (hD : va_D A ((OC g o fo :: wF) ++ wM)) (hS : va_S A s.heap H locs) {i : Nat} (hi : i + 1 < L) (hL : L ≤ 1024) (hl : lv_has ls 7 (LV b x h o i)) {cells slots : Nat} {Q : State → Prop} (hce : cells + 1 ≤ 601024) (hsl : slots + 6 ≤ 7293034)
    (kk : ∀ (fo : Nat → Int64) (wF wM : va_W) (th : Int32) (H : Heap) (locs : List Loc) (ls : Array Slot), IV g x h wF wM th → va_P g.1 vwCl ((OC g o fo :: wF) ++ wM) H → va_D A ((OC g o fo :: wF) ++ wM) → va_S A s.heap H locs → lv_has ls 7 (LV b x h o i) → W p l e room_1 s m #[Value.ref b] below meth c H locs (cells + 1) (slots + 6) Q (F0 m 945 ls [])) : W p l e room_1 s m #[Value.ref b] below meth c H locs cells slots Q (F0 m 590 ls []) := by
  obtain ⟨hx, hb, hml, hown, hts, hK, hA, hAb, hXk, hNc, hX, hbl, hfl⟩ := C
  obtain ⟨q, u, d, v, SL, k, K, np, mv, lm, ch, F, f, S, cnt, ll, a, tu, la, wi, fS, fL, fN, fK, fF, fW, fE, fC, fG, fO, D, rfl, rfl, L0⟩ := hI
  have L9 := L0
  obtain ⟨hSL, hF, hk, hp, hf, hc, hll, hM, hfS, hfF, hKK, hW, hG⟩ := L9
  have hl : lv_has ls 7 [(0, .ref b), (1, .ref x), (2, .ref h), (3, .ref o), (4, .int (nI i))] := hl
  refine lv_aload_n hx hb dL_law_590 rfl (lv_at hl 1 rfl) ?_
  refine lv_aload_n hx hb dL_law_591 rfl (lv_at hl 0 rfl) ?_
  refine lv_iload hx hb dL_law_592 (lv_at hl 4 rfl) ?_
  refine lv_iconst (v := nI 1) hx hb dL_law_594 (by decide) ?_
  refine lv_iadd hx hb dL_law_595 ?_
  rw [nI_add i 1]
  refine va_sld hx hb hX hbl hAb hS (i := nI (i + 1)) (vp_in_nI hi (by omega)) dL_law_596 ?_
  rw [nI_clamp (n := i + 1) (by omega)]
  refine lv_aload_n hx hb dL_law_597 rfl (lv_at hl 3 rfl) ?_
  refine call_wX (As := [.ref x, .int (xs (i + 1)), .ref o]) (rest := []) (wr := (MW g h a (nI (rwL SL)) (nI cnt) (nI ll) (nI np) tu la wi (nI (rwL F)) th fS fL fN fK fF fW fE fC fG fO)) ⟨hx, hb, hml, hown, hts⟩ (c_L_play l hfl g x q u d v SL k K np mv lm ch F f S cnt ll hSL hF hk hp hf hc hll hG.mv (xs (i + 1)) o fo) (vx_cwSW 3 hts gT_L_play rfl rfl rfl ⟨by decide +kernel, by decide +kernel, by decide +kernel⟩ ⟨Nat.le_of_ble_eq_true rfl, Nat.le_of_ble_eq_true rfl⟩) hP hK hD hS hA hXk hNc [0, 1, 2, 3, 4, 5] [6, 7, 8, 9, 10, 11, 12, 13, 14, 15, 16] rfl rfl (by decide) (by decide) (by decide) rfl hl.1 rfl (Nat.le_of_ble_eq_true rfl) dL_law_598 ⟨hce, hsl⟩ (fun rc w H locs h1 hP hD hS => ?_)
  refine lv_istore (lv' := [(5, .int rc), (0, .ref b), (1, .ref x), (2, .ref h), (3, .ref o), (4, .int (nI i))]) hx hb dL_law_601 hl (by decide) rfl (fun ls hl => ?_)
  refine lv_aload_n hx hb dL_law_603 rfl (lv_at hl 3 rfl) ?_
  refine lv_aload_n hx hb dL_law_604 rfl (lv_at hl 1 rfl) ?_
  refine lv_iload hx hb dL_law_605 (lv_at hl 5 rfl) ?_
  refine lv_iconst (v := nI 1) hx hb dL_law_607 (by decide) ?_
  refine lv_iadd hx hb dL_law_608 ?_
  rw [nI_add i 1]
  refine va_sld hx hb hX hbl hAb hS (i := nI (i + 1)) (vp_in_nI hi (by omega)) dL_law_609 ?_
  rw [nI_clamp (n := i + 1) (by omega)]
  refine call_iV (As := [.int (xs (i + 1))]) (rest := []) (wr := w) ⟨hx, hb, hml, hown, hts⟩ (c_X5_play l g h a SL cnt ll np tu la wi F th fS fL fN fK fF fW fE fC fG fO D hM hc hSL hfS hF hfF hll hp K hKK GR.next (fun hg9 => hG.next2 hg9) hG.go (xs (i + 1))) (cwV 1 hts gT_X5_play rfl rfl rfl (by decide +kernel) ⟨Nat.le_of_ble_eq_true rfl, Nat.le_of_ble_eq_true rfl⟩) hP hK hD hS hA [0, 1, 2, 3, 4, 5, 6, 7, 8, 9, 10] ((List.range w.length).map (fun i => i + 11)) rfl (tl_map rfl w) (by decide) (tl_nd _ _) (tl_dis (by decide)) 0 rfl rfl rfl rfl hl.1 rfl (Nat.le_of_ble_eq_true rfl) dL_law_610 ⟨by show cells + 1 + 0 ≤ 601024; omega, by show slots + 6 + 0 ≤ 7293034; omega⟩ (fun r2 w2 H locs h2 hP hD hS => ?_)
  refine lv_istore (lv' := [(6, .int r2), (5, .int rc), (0, .ref b), (1, .ref x), (2, .ref h), (3, .ref o), (4, .int (nI i))]) hx hb dL_law_613 hl (by decide) rfl (fun ls hl => ?_)
  obtain ⟨fo9, wF9, th9, rfl, hI9, eth, hres⟩ := o_play L0 h1 h2
  have hI8 := hI9
  obtain ⟨q8, u8, d8, v8, SL8, k8, K8, np8, mv8, lm8, ch8, F8, f8, S8, cnt8, ll8, a8, tu8, la8, wi8, fS8, fL8, fN8, fK8, fF8, fW8, fE8, fC8, fG8, fO8, D8, rfl, rfl, L8⟩ := hI9
  refine lv_aload_n hx hb dL_law_615 rfl (lv_at hl 4 rfl) ?_
  refine call_iV (As := []) (rest := []) (wr := OC g o fo9 :: (FW g x (lN SL8) q8 u8 k8 (nI np8) mv8 lm8 ch8 (lN F8) d8 v8 f8 (nI cnt8) (nI ll8))) ⟨hx, hb, hml, hown, hts⟩ (c_X5_thrown l g h a8 (nI (rwL SL8)) (nI cnt8) (nI ll8) (nI np8) tu8 la8 wi8 (nI (rwL F8)) th9 fS8 fL8 fN8 fK8 fF8 fW8 fE8 fC8 fG8 fO8) (cwV 0 hts gT_X5_thrown rfl rfl rfl (by decide +kernel) ⟨Nat.le_of_ble_eq_true rfl, Nat.le_of_ble_eq_true rfl⟩) hP hK hD hS hA [6, 7, 8, 9, 10, 11, 12, 13, 14, 15, 16] [0, 1, 2, 3, 4, 5] rfl rfl (by decide) (by decide) (by decide) 0 rfl rfl rfl rfl hl.1 rfl (Nat.le_of_ble_eq_true rfl) dL_law_616 ⟨by show cells + 1 + 0 ≤ 601024; omega, by show slots + 6 + 0 ≤ 7293034; omega⟩ (fun r3 w3 H locs h3 hP hD hS => ?_)
  obtain ⟨rfl, rfl⟩ := h3
  refine lv_iload hx hb dL_law_619 (lv_at hl 1 rfl) ?_
  refine lv_icmp_eq (tgt := 626) hx hb dL_law_621 (by decide) (fun _ => ?_) (fun c9 => absurd eth c9)
  have hend : W p l e room_1 s m #[Value.ref b] below meth c H locs (cells + 1) (slots + 6) Q (F0 m 643 ls []) := by
    refine lv_goto (tgt := 945) hx hb dL_law_643 (by decide) ?_
    exact kk fo9 _ _ _ H locs ls hI8 hP hD hS (lv_sub hl [2, 3, 4, 5, 6] rfl)
  refine lv_iload hx hb dL_law_626 (lv_at hl 1 rfl) ?_
  refine lv_if_ne (tgt := 643) hx hb dL_law_628 (by decide) (fun _ => hend) (fun c8 => ?_)
  refine lv_aload_n hx hb dL_law_631 rfl (lv_at hl 5 rfl) ?_
  refine lv_iconst (v := nI 0) hx hb dL_law_632 (by decide) ?_
  refine va_lald (n := 1) (f := fo9) hx hb hK hP 0 1 rfl rfl (vp_in_nI (n := 0) (by decide) (by decide)) dL_law_633 ?_
  rw [nI_clamp (n := 0) (by decide)]
  refine lv_iload hx hb dL_law_634 (lv_at hl 0 rfl) ?_
  refine lv_i2l (v := r2.toInt64) hx hb dL_law_636 rfl ?_
  refine W.lcmp hx hb dL_law_637 ?_
  exact lv_if_eq (tgt := 643) hx hb dL_law_638 (by decide) (fun _ => hend) (fun c9 => absurd ((lg_cmp_eq _ _).mpr (hres c8)) c9)
set_option maxHeartbeats 4000000 in
set_option maxRecDepth 100000 in
theorem op_challenge {p : Program} {l : Launch} {e : Env} {s : State} {m : MethodId} {below : List Frame} {meth : Method} {c : Code} {b L : Nat} {xs : Nat → Int32} {g : GG} {A : Nat → Prop} (C : LC p l s m c b L xs g A) {x h o : Nat} {wF wM : va_W} {th : Int32} {fo : Nat → Int64} (hI : IV g x h wF wM th) {H : Heap} {locs : List Loc} {ls : Array Slot} (hP : va_P g.1 vwCl ((OC g o fo :: wF) ++ wM) H) (hD : va_D A ((OC g o fo :: wF) ++ wM)) (hS : va_S A s.heap H locs) {i : Nat} (hi : i + 1 < L) (hL : L ≤ 1024) (hl : lv_has ls 7 (LV b x h o i)) {cells slots : Nat} {Q : State → Prop} (hce : cells + 1 ≤ 601024) (hsl : slots + 6 ≤ 7293034)
    (kk : ∀ (fo : Nat → Int64) (wF wM : va_W) (th : Int32) (H : Heap) (locs : List Loc) (ls : Array Slot), IV g x h wF wM th → va_P g.1 vwCl ((OC g o fo :: wF) ++ wM) H → va_D A ((OC g o fo :: wF) ++ wM) → va_S A s.heap H locs → lv_has ls 7 (LV b x h o i) → W p l e room_1 s m #[Value.ref b] below meth c H locs (cells + 1) (slots + 6) Q (F0 m 945 ls [])) : W p l e room_1 s m #[Value.ref b] below meth c H locs cells slots Q (F0 m 646 ls []) := by
  obtain ⟨hx, hb, hml, hown, hts, hK, hA, hAb, hXk, hNc, hX, hbl, hfl⟩ := C
  obtain ⟨q, u, d, v, SL, k, K, np, mv, lm, ch, F, f, S, cnt, ll, a, tu, la, wi, fS, fL, fN, fK, fF, fW, fE, fC, fG, fO, D, rfl, rfl, L0⟩ := hI
  have L9 := L0
  obtain ⟨hSL, hF, hk, hp, hf, hc, hll, hM, hfS, hfF, hKK, hW, hG⟩ := L9
  have hl : lv_has ls 7 [(0, .ref b), (1, .ref x), (2, .ref h), (3, .ref o), (4, .int (nI i))] := hl
  refine lv_aload_n hx hb dL_law_646 rfl (lv_at hl 1 rfl) ?_
  refine lv_aload_n hx hb dL_law_647 rfl (lv_at hl 3 rfl) ?_
  refine call_wX (As := [.ref x, .ref o]) (rest := []) (wr := (MW g h a (nI (rwL SL)) (nI cnt) (nI ll) (nI np) tu la wi (nI (rwL F)) th fS fL fN fK fF fW fE fC fG fO)) ⟨hx, hb, hml, hown, hts⟩ (c_L_challenge l hfl g x q u d v SL k K np mv lm ch F f S cnt ll hSL hF hk hp hf hc hll hG.mv (fun hl9 => let ⟨e, j, ej, h1, h2⟩ := hG.2.2.2 hl9; ⟨j, e.trans ej, h1, h2⟩) o fo) (vx_cwSW 2 hts gT_L_challenge rfl rfl rfl ⟨by decide +kernel, by decide +kernel, by decide +kernel⟩ ⟨Nat.le_of_ble_eq_true rfl, Nat.le_of_ble_eq_true rfl⟩) hP hK hD hS hA hXk hNc [0, 1, 2, 3, 4, 5] [6, 7, 8, 9, 10, 11, 12, 13, 14, 15, 16] rfl rfl (by decide) (by decide) (by decide) rfl hl.1 rfl (Nat.le_of_ble_eq_true rfl) dL_law_648 ⟨hce, hsl⟩ (fun rc w H locs h1 hP hD hS => ?_)
  refine lv_istore (lv' := [(5, .int rc), (0, .ref b), (1, .ref x), (2, .ref h), (3, .ref o), (4, .int (nI i))]) hx hb dL_law_651 hl (by decide) rfl (fun ls hl => ?_)
  refine lv_aload_n hx hb dL_law_653 rfl (lv_at hl 3 rfl) ?_
  refine call_iV (As := []) (rest := []) (wr := w) ⟨hx, hb, hml, hown, hts⟩ (c_X5_challenge l g h a SL cnt ll np tu la wi F th fS fL fN fK fF fW fE fC fG fO D hM hc hSL hfS hF hfF hll hp K hKK GR.next (fun hg9 => hG.next2 hg9) hG.go (fun _ _ hl9 => (hG.2.2.2 hl9).2)) (cwV 0 hts gT_X5_challenge rfl rfl rfl (by decide +kernel) ⟨Nat.le_of_ble_eq_true rfl, Nat.le_of_ble_eq_true rfl⟩) hP hK hD hS hA [0, 1, 2, 3, 4, 5, 6, 7, 8, 9, 10] ((List.range w.length).map (fun i => i + 11)) rfl (tl_map rfl w) (by decide) (tl_nd _ _) (tl_dis (by decide)) 0 rfl rfl rfl rfl hl.1 rfl (Nat.le_of_ble_eq_true rfl) dL_law_654 ⟨by show cells + 1 + 0 ≤ 601024; omega, by show slots + 6 + 0 ≤ 7293034; omega⟩ (fun r2 w2 H locs h2 hP hD hS => ?_)
  refine lv_istore (lv' := [(6, .int r2), (5, .int rc), (0, .ref b), (1, .ref x), (2, .ref h), (3, .ref o), (4, .int (nI i))]) hx hb dL_law_657 hl (by decide) rfl (fun ls hl => ?_)
  obtain ⟨fo9, wF9, th9, rfl, hI9, eth, hres⟩ := o_challenge L0 h1 h2
  have hI8 := hI9
  obtain ⟨q8, u8, d8, v8, SL8, k8, K8, np8, mv8, lm8, ch8, F8, f8, S8, cnt8, ll8, a8, tu8, la8, wi8, fS8, fL8, fN8, fK8, fF8, fW8, fE8, fC8, fG8, fO8, D8, rfl, rfl, L8⟩ := hI9
  refine lv_aload_n hx hb dL_law_659 rfl (lv_at hl 4 rfl) ?_
  refine call_iV (As := []) (rest := []) (wr := OC g o fo9 :: (FW g x (lN SL8) q8 u8 k8 (nI np8) mv8 lm8 ch8 (lN F8) d8 v8 f8 (nI cnt8) (nI ll8))) ⟨hx, hb, hml, hown, hts⟩ (c_X5_thrown l g h a8 (nI (rwL SL8)) (nI cnt8) (nI ll8) (nI np8) tu8 la8 wi8 (nI (rwL F8)) th9 fS8 fL8 fN8 fK8 fF8 fW8 fE8 fC8 fG8 fO8) (cwV 0 hts gT_X5_thrown rfl rfl rfl (by decide +kernel) ⟨Nat.le_of_ble_eq_true rfl, Nat.le_of_ble_eq_true rfl⟩) hP hK hD hS hA [6, 7, 8, 9, 10, 11, 12, 13, 14, 15, 16] [0, 1, 2, 3, 4, 5] rfl rfl (by decide) (by decide) (by decide) 0 rfl rfl rfl rfl hl.1 rfl (Nat.le_of_ble_eq_true rfl) dL_law_660 ⟨by show cells + 1 + 0 ≤ 601024; omega, by show slots + 6 + 0 ≤ 7293034; omega⟩ (fun r3 w3 H locs h3 hP hD hS => ?_)
  obtain ⟨rfl, rfl⟩ := h3
  refine lv_iload hx hb dL_law_663 (lv_at hl 1 rfl) ?_
  refine lv_icmp_eq (tgt := 670) hx hb dL_law_665 (by decide) (fun _ => ?_) (fun c9 => absurd eth c9)
  have hend : W p l e room_1 s m #[Value.ref b] below meth c H locs (cells + 1) (slots + 6) Q (F0 m 687 ls []) := by
    refine lv_goto (tgt := 945) hx hb dL_law_687 (by decide) ?_
    exact kk fo9 _ _ _ H locs ls hI8 hP hD hS (lv_sub hl [2, 3, 4, 5, 6] rfl)
  refine lv_iload hx hb dL_law_670 (lv_at hl 1 rfl) ?_
  refine lv_if_ne (tgt := 687) hx hb dL_law_672 (by decide) (fun _ => hend) (fun c8 => ?_)
  refine lv_aload_n hx hb dL_law_675 rfl (lv_at hl 5 rfl) ?_
  refine lv_iconst (v := nI 0) hx hb dL_law_676 (by decide) ?_
  refine va_lald (n := 1) (f := fo9) hx hb hK hP 0 1 rfl rfl (vp_in_nI (n := 0) (by decide) (by decide)) dL_law_677 ?_
  rw [nI_clamp (n := 0) (by decide)]
  refine lv_iload hx hb dL_law_678 (lv_at hl 0 rfl) ?_
  refine lv_i2l (v := r2.toInt64) hx hb dL_law_680 rfl ?_
  refine W.lcmp hx hb dL_law_681 ?_
  exact lv_if_eq (tgt := 687) hx hb dL_law_682 (by decide) (fun _ => hend) (fun c9 => absurd ((lg_cmp_eq _ _).mpr (hres c8)) c9)
set_option maxHeartbeats 4000000 in
set_option maxRecDepth 100000 in
theorem op_turn {p : Program} {l : Launch} {e : Env} {s : State} {m : MethodId} {below : List Frame} {meth : Method} {c : Code} {b L : Nat} {xs : Nat → Int32} {g : GG} {A : Nat → Prop} (C : LC p l s m c b L xs g A) {x h o : Nat} {wF wM : va_W} {th : Int32} {fo : Nat → Int64} (hI : IV g x h wF wM th) {H : Heap} {locs : List Loc} {ls : Array Slot} (hP : va_P g.1 vwCl ((OC g o fo :: wF) ++ wM) H) (hD : va_D A ((OC g o fo :: wF) ++ wM)) (hS : va_S A s.heap H locs) {i : Nat} (hi : i + 1 < L) (hL : L ≤ 1024) (hl : lv_has ls 7 (LV b x h o i)) {cells slots : Nat} {Q : State → Prop} (hce : cells + 1 ≤ 601024) (hsl : slots + 6 ≤ 7293034)
    (kk : ∀ (fo : Nat → Int64) (wF wM : va_W) (th : Int32) (H : Heap) (locs : List Loc) (ls : Array Slot), IV g x h wF wM th → va_P g.1 vwCl ((OC g o fo :: wF) ++ wM) H → va_D A ((OC g o fo :: wF) ++ wM) → va_S A s.heap H locs → lv_has ls 7 (LV b x h o i) → W p l e room_1 s m #[Value.ref b] below meth c H locs (cells + 1) (slots + 6) Q (F0 m 945 ls [])) : W p l e room_1 s m #[Value.ref b] below meth c H locs cells slots Q (F0 m 690 ls []) := by
  obtain ⟨hx, hb, hml, hown, hts, hK, hA, hAb, hXk, hNc, hX, hbl, hfl⟩ := C
  obtain ⟨q, u, d, v, SL, k, K, np, mv, lm, ch, F, f, S, cnt, ll, a, tu, la, wi, fS, fL, fN, fK, fF, fW, fE, fC, fG, fO, D, rfl, rfl, L0⟩ := hI
  have L9 := L0
  obtain ⟨hSL, hF, hk, hp, hf, hc, hll, hM, hfS, hfF, hKK, hW, hG⟩ := L9
  have hl : lv_has ls 7 [(0, .ref b), (1, .ref x), (2, .ref h), (3, .ref o), (4, .int (nI i))] := hl
  refine lv_aload_n hx hb dL_law_690 rfl (lv_at hl 1 rfl) ?_
  refine call_iV (As := []) (rest := []) (wr := OC g o fo :: (MW g h a (nI (rwL SL)) (nI cnt) (nI ll) (nI np) tu la wi (nI (rwL F)) th fS fL fN fK fF fW fE fC fG fO)) ⟨hx, hb, hml, hown, hts⟩ (c_X4_turn l g x q u d v SL k K np mv lm ch F f S cnt ll hSL hF hk hp hf hc hll) (cwV 0 hts gT_X4_turn rfl rfl rfl (by decide +kernel) ⟨Nat.le_of_ble_eq_true rfl, Nat.le_of_ble_eq_true rfl⟩) hP hK hD hS hA [1, 2, 3, 4, 5] (0 :: [6, 7, 8, 9, 10, 11, 12, 13, 14, 15, 16]) rfl rfl (by decide) (by decide) (by decide) 0 rfl rfl rfl rfl hl.1 rfl (Nat.le_of_ble_eq_true rfl) dL_law_691 ⟨Nat.le_of_succ_le hce, by show slots + 0 ≤ 7293034; omega⟩ (fun r1 w H locs h1 hP hD hS => ?_)
  obtain ⟨rfl, h1⟩ := h1
  refine lv_aload_n hx hb dL_law_694 rfl (lv_at hl 2 rfl) ?_
  refine call_iV (As := []) (rest := [.int r1]) (wr := OC g o fo :: (FW g x (lN SL) q u k (nI np) mv lm ch (lN F) d v f (nI cnt) (nI ll))) ⟨hx, hb, hml, hown, hts⟩ (c_X5_turn l g h a SL cnt ll np tu la wi F th fS fL fN fK fF fW fE fC fG fO D hM hc hSL hfS hF hfF hll hp) (cwV 0 hts gT_X5_turn rfl rfl rfl (by decide +kernel) ⟨Nat.le_of_ble_eq_true rfl, Nat.le_of_ble_eq_true rfl⟩) hP hK hD hS hA [1, 2, 3, 4, 5, 6, 7, 8, 9, 10, 11] [0, 12, 13, 14, 15, 16] rfl rfl (by decide) (by decide) (by decide) 0 rfl rfl rfl rfl hl.1 rfl (Nat.le_of_ble_eq_true rfl) dL_law_695 ⟨Nat.le_of_succ_le hce, by show slots + 0 ≤ 7293034; omega⟩ (fun r2 w2 H locs h2 hP hD hS => ?_)
  obtain ⟨th9, hI9, e9⟩ := o_turn L0 ⟨rfl, h1⟩ h2
  refine lv_icmp_eq (tgt := 945) hx hb dL_law_698 (by decide) (fun _ => ?_) (fun c9 => absurd e9 c9)
  exact W.widen (k := cells + 1) (n := slots + 6) (by omega) (by omega) (kk fo _ w2 th9 H locs ls hI9 hP hD hS hl)
set_option maxHeartbeats 4000000 in
set_option maxRecDepth 100000 in
theorem op_winner {p : Program} {l : Launch} {e : Env} {s : State} {m : MethodId} {below : List Frame} {meth : Method} {c : Code} {b L : Nat} {xs : Nat → Int32} {g : GG} {A : Nat → Prop} (C : LC p l s m c b L xs g A) {x h o : Nat} {wF wM : va_W} {th : Int32} {fo : Nat → Int64} (hI : IV g x h wF wM th) {H : Heap} {locs : List Loc} {ls : Array Slot} (hP : va_P g.1 vwCl ((OC g o fo :: wF) ++ wM) H) (hD : va_D A ((OC g o fo :: wF) ++ wM)) (hS : va_S A s.heap H locs) {i : Nat} (hi : i + 1 < L) (hL : L ≤ 1024) (hl : lv_has ls 7 (LV b x h o i)) {cells slots : Nat} {Q : State → Prop} (hce : cells + 1 ≤ 601024) (hsl : slots + 6 ≤ 7293034)
    (kk : ∀ (fo : Nat → Int64) (wF wM : va_W) (th : Int32) (H : Heap) (locs : List Loc) (ls : Array Slot), IV g x h wF wM th → va_P g.1 vwCl ((OC g o fo :: wF) ++ wM) H → va_D A ((OC g o fo :: wF) ++ wM) → va_S A s.heap H locs → lv_has ls 7 (LV b x h o i) → W p l e room_1 s m #[Value.ref b] below meth c H locs (cells + 1) (slots + 6) Q (F0 m 945 ls [])) : W p l e room_1 s m #[Value.ref b] below meth c H locs cells slots Q (F0 m 703 ls []) := by
  obtain ⟨hx, hb, hml, hown, hts, hK, hA, hAb, hXk, hNc, hX, hbl, hfl⟩ := C
  obtain ⟨q, u, d, v, SL, k, K, np, mv, lm, ch, F, f, S, cnt, ll, a, tu, la, wi, fS, fL, fN, fK, fF, fW, fE, fC, fG, fO, D, rfl, rfl, L0⟩ := hI
  have L9 := L0
  obtain ⟨hSL, hF, hk, hp, hf, hc, hll, hM, hfS, hfF, hKK, hW, hG⟩ := L9
  have hl : lv_has ls 7 [(0, .ref b), (1, .ref x), (2, .ref h), (3, .ref o), (4, .int (nI i))] := hl
  refine lv_aload_n hx hb dL_law_703 rfl (lv_at hl 1 rfl) ?_
  refine call_iV (As := []) (rest := []) (wr := OC g o fo :: (MW g h a (nI (rwL SL)) (nI cnt) (nI ll) (nI np) tu la wi (nI (rwL F)) th fS fL fN fK fF fW fE fC fG fO)) ⟨hx, hb, hml, hown, hts⟩ (c_X4_winner l g x q u d v SL k K np mv lm ch F f S cnt ll hSL hF hk hp hf hc hll) (cwV 0 hts gT_X4_winner rfl rfl rfl (by decide +kernel) ⟨Nat.le_of_ble_eq_true rfl, Nat.le_of_ble_eq_true rfl⟩) hP hK hD hS hA [1, 2, 3, 4, 5] (0 :: [6, 7, 8, 9, 10, 11, 12, 13, 14, 15, 16]) rfl rfl (by decide) (by decide) (by decide) 0 rfl rfl rfl rfl hl.1 rfl (Nat.le_of_ble_eq_true rfl) dL_law_704 ⟨Nat.le_of_succ_le hce, by show slots + 0 ≤ 7293034; omega⟩ (fun r1 w H locs h1 hP hD hS => ?_)
  obtain ⟨rfl, h1⟩ := h1
  refine lv_aload_n hx hb dL_law_707 rfl (lv_at hl 2 rfl) ?_
  refine call_iV (As := []) (rest := [.int r1]) (wr := OC g o fo :: (FW g x (lN SL) q u k (nI np) mv lm ch (lN F) d v f (nI cnt) (nI ll))) ⟨hx, hb, hml, hown, hts⟩ (c_X5_winner l g h a SL cnt ll np tu la wi F th fS fL fN fK fF fW fE fC fG fO D hM hc hSL hfS hF hfF hll hp) (cwV 0 hts gT_X5_winner rfl rfl rfl (by decide +kernel) ⟨Nat.le_of_ble_eq_true rfl, Nat.le_of_ble_eq_true rfl⟩) hP hK hD hS hA [1, 2, 3, 4, 5, 6, 7, 8, 9, 10, 11] [0, 12, 13, 14, 15, 16] rfl rfl (by decide) (by decide) (by decide) 0 rfl rfl rfl rfl hl.1 rfl (Nat.le_of_ble_eq_true rfl) dL_law_708 ⟨Nat.le_of_succ_le hce, by show slots + 0 ≤ 7293034; omega⟩ (fun r2 w2 H locs h2 hP hD hS => ?_)
  obtain ⟨th9, hI9, e9⟩ := o_winner L0 ⟨rfl, h1⟩ h2
  refine lv_icmp_eq (tgt := 945) hx hb dL_law_711 (by decide) (fun _ => ?_) (fun c9 => absurd e9 c9)
  exact W.widen (k := cells + 1) (n := slots + 6) (by omega) (by omega) (kk fo _ w2 th9 H locs ls hI9 hP hD hS hl)
set_option maxHeartbeats 4000000 in
set_option maxRecDepth 100000 in
theorem op_players {p : Program} {l : Launch} {e : Env} {s : State} {m : MethodId} {below : List Frame} {meth : Method} {c : Code} {b L : Nat} {xs : Nat → Int32} {g : GG} {A : Nat → Prop} (C : LC p l s m c b L xs g A) {x h o : Nat} {wF wM : va_W} {th : Int32} {fo : Nat → Int64} (hI : IV g x h wF wM th) {H : Heap} {locs : List Loc} {ls : Array Slot} (hP : va_P g.1 vwCl ((OC g o fo :: wF) ++ wM) H) (hD : va_D A ((OC g o fo :: wF) ++ wM)) (hS : va_S A s.heap H locs) {i : Nat} (hi : i + 1 < L) (hL : L ≤ 1024) (hl : lv_has ls 7 (LV b x h o i)) {cells slots : Nat} {Q : State → Prop} (hce : cells + 1 ≤ 601024) (hsl : slots + 6 ≤ 7293034)
    (kk : ∀ (fo : Nat → Int64) (wF wM : va_W) (th : Int32) (H : Heap) (locs : List Loc) (ls : Array Slot), IV g x h wF wM th → va_P g.1 vwCl ((OC g o fo :: wF) ++ wM) H → va_D A ((OC g o fo :: wF) ++ wM) → va_S A s.heap H locs → lv_has ls 7 (LV b x h o i) → W p l e room_1 s m #[Value.ref b] below meth c H locs (cells + 1) (slots + 6) Q (F0 m 945 ls [])) : W p l e room_1 s m #[Value.ref b] below meth c H locs cells slots Q (F0 m 716 ls []) := by
  obtain ⟨hx, hb, hml, hown, hts, hK, hA, hAb, hXk, hNc, hX, hbl, hfl⟩ := C
  obtain ⟨q, u, d, v, SL, k, K, np, mv, lm, ch, F, f, S, cnt, ll, a, tu, la, wi, fS, fL, fN, fK, fF, fW, fE, fC, fG, fO, D, rfl, rfl, L0⟩ := hI
  have L9 := L0
  obtain ⟨hSL, hF, hk, hp, hf, hc, hll, hM, hfS, hfF, hKK, hW, hG⟩ := L9
  have hl : lv_has ls 7 [(0, .ref b), (1, .ref x), (2, .ref h), (3, .ref o), (4, .int (nI i))] := hl
  refine lv_aload_n hx hb dL_law_716 rfl (lv_at hl 1 rfl) ?_
  refine call_iV (As := []) (rest := []) (wr := OC g o fo :: (MW g h a (nI (rwL SL)) (nI cnt) (nI ll) (nI np) tu la wi (nI (rwL F)) th fS fL fN fK fF fW fE fC fG fO)) ⟨hx, hb, hml, hown, hts⟩ (c_X4_players l g x q u d v SL k K np mv lm ch F f S cnt ll hSL hF hk hp hf hc hll) (cwV 0 hts gT_X4_players rfl rfl rfl (by decide +kernel) ⟨Nat.le_of_ble_eq_true rfl, Nat.le_of_ble_eq_true rfl⟩) hP hK hD hS hA [1, 2, 3, 4, 5] (0 :: [6, 7, 8, 9, 10, 11, 12, 13, 14, 15, 16]) rfl rfl (by decide) (by decide) (by decide) 0 rfl rfl rfl rfl hl.1 rfl (Nat.le_of_ble_eq_true rfl) dL_law_717 ⟨Nat.le_of_succ_le hce, by show slots + 0 ≤ 7293034; omega⟩ (fun r1 w H locs h1 hP hD hS => ?_)
  obtain ⟨rfl, h1⟩ := h1
  refine lv_aload_n hx hb dL_law_720 rfl (lv_at hl 2 rfl) ?_
  refine call_iV (As := []) (rest := [.int r1]) (wr := OC g o fo :: (FW g x (lN SL) q u k (nI np) mv lm ch (lN F) d v f (nI cnt) (nI ll))) ⟨hx, hb, hml, hown, hts⟩ (c_X5_players l g h a SL cnt ll np tu la wi F th fS fL fN fK fF fW fE fC fG fO D hM hc hSL hfS hF hfF hll hp) (cwV 0 hts gT_X5_players rfl rfl rfl (by decide +kernel) ⟨Nat.le_of_ble_eq_true rfl, Nat.le_of_ble_eq_true rfl⟩) hP hK hD hS hA [1, 2, 3, 4, 5, 6, 7, 8, 9, 10, 11] [0, 12, 13, 14, 15, 16] rfl rfl (by decide) (by decide) (by decide) 0 rfl rfl rfl rfl hl.1 rfl (Nat.le_of_ble_eq_true rfl) dL_law_721 ⟨Nat.le_of_succ_le hce, by show slots + 0 ≤ 7293034; omega⟩ (fun r2 w2 H locs h2 hP hD hS => ?_)
  obtain ⟨th9, hI9, e9⟩ := o_players L0 ⟨rfl, h1⟩ h2
  refine lv_icmp_eq (tgt := 945) hx hb dL_law_724 (by decide) (fun _ => ?_) (fun c9 => absurd e9 c9)
  exact W.widen (k := cells + 1) (n := slots + 6) (by omega) (by omega) (kk fo _ w2 th9 H locs ls hI9 hP hD hS hl)
set_option maxHeartbeats 4000000 in
set_option maxRecDepth 100000 in
theorem op_strikes {p : Program} {l : Launch} {e : Env} {s : State} {m : MethodId} {below : List Frame} {meth : Method} {c : Code} {b L : Nat} {xs : Nat → Int32} {g : GG} {A : Nat → Prop} (C : LC p l s m c b L xs g A) {x h o : Nat} {wF wM : va_W} {th : Int32} {fo : Nat → Int64} (hI : IV g x h wF wM th) {H : Heap} {locs : List Loc} {ls : Array Slot} (hP : va_P g.1 vwCl ((OC g o fo :: wF) ++ wM) H) (hD : va_D A ((OC g o fo :: wF) ++ wM)) (hS : va_S A s.heap H locs) {i : Nat} (hi : i + 1 < L) (hL : L ≤ 1024) (hl : lv_has ls 7 (LV b x h o i)) {cells slots : Nat} {Q : State → Prop} (hce : cells + 1 ≤ 601024) (hsl : slots + 6 ≤ 7293034)
    (kk : ∀ (fo : Nat → Int64) (wF wM : va_W) (th : Int32) (H : Heap) (locs : List Loc) (ls : Array Slot), IV g x h wF wM th → va_P g.1 vwCl ((OC g o fo :: wF) ++ wM) H → va_D A ((OC g o fo :: wF) ++ wM) → va_S A s.heap H locs → lv_has ls 7 (LV b x h o i) → W p l e room_1 s m #[Value.ref b] below meth c H locs (cells + 1) (slots + 6) Q (F0 m 945 ls [])) : W p l e room_1 s m #[Value.ref b] below meth c H locs cells slots Q (F0 m 729 ls []) := by
  obtain ⟨hx, hb, hml, hown, hts, hK, hA, hAb, hXk, hNc, hX, hbl, hfl⟩ := C
  obtain ⟨q, u, d, v, SL, k, K, np, mv, lm, ch, F, f, S, cnt, ll, a, tu, la, wi, fS, fL, fN, fK, fF, fW, fE, fC, fG, fO, D, rfl, rfl, L0⟩ := hI
  have L9 := L0
  obtain ⟨hSL, hF, hk, hp, hf, hc, hll, hM, hfS, hfF, hKK, hW, hG⟩ := L9
  have hl : lv_has ls 7 [(0, .ref b), (1, .ref x), (2, .ref h), (3, .ref o), (4, .int (nI i))] := hl
  refine lv_aload_n hx hb dL_law_729 rfl (lv_at hl 1 rfl) ?_
  refine lv_aload_n hx hb dL_law_730 rfl (lv_at hl 0 rfl) ?_
  refine lv_iload hx hb dL_law_731 (lv_at hl 4 rfl) ?_
  refine lv_iconst (v := nI 1) hx hb dL_law_733 (by decide) ?_
  refine lv_iadd hx hb dL_law_734 ?_
  rw [nI_add i 1]
  refine va_sld hx hb hX hbl hAb hS (i := nI (i + 1)) (vp_in_nI hi (by omega)) dL_law_735 ?_
  rw [nI_clamp (n := i + 1) (by omega)]
  refine lv_aload_n hx hb dL_law_736 rfl (lv_at hl 3 rfl) ?_
  refine call_wX (As := [.ref x, .int (xs (i + 1)), .ref o]) (rest := []) (wr := (MW g h a (nI (rwL SL)) (nI cnt) (nI ll) (nI np) tu la wi (nI (rwL F)) th fS fL fN fK fF fW fE fC fG fO)) ⟨hx, hb, hml, hown, hts⟩ (c_L_strikes l hfl g x q u d v SL k K np mv lm ch F f S cnt ll hSL hF hk hp hf hc hll (xs (i + 1)) o fo) (vx_cwSW 3 hts gT_L_strikes rfl rfl rfl ⟨by decide +kernel, by decide +kernel, by decide +kernel⟩ ⟨Nat.le_of_ble_eq_true rfl, Nat.le_of_ble_eq_true rfl⟩) hP hK hD hS hA hXk hNc [0, 1, 2, 3, 4, 5] [6, 7, 8, 9, 10, 11, 12, 13, 14, 15, 16] rfl rfl (by decide) (by decide) (by decide) rfl hl.1 rfl (Nat.le_of_ble_eq_true rfl) dL_law_737 ⟨hce, hsl⟩ (fun rc w H locs h1 hP hD hS => ?_)
  refine lv_istore (lv' := [(5, .int rc), (0, .ref b), (1, .ref x), (2, .ref h), (3, .ref o), (4, .int (nI i))]) hx hb dL_law_740 hl (by decide) rfl (fun ls hl => ?_)
  refine lv_aload_n hx hb dL_law_742 rfl (lv_at hl 3 rfl) ?_
  refine lv_aload_n hx hb dL_law_743 rfl (lv_at hl 1 rfl) ?_
  refine lv_iload hx hb dL_law_744 (lv_at hl 5 rfl) ?_
  refine lv_iconst (v := nI 1) hx hb dL_law_746 (by decide) ?_
  refine lv_iadd hx hb dL_law_747 ?_
  rw [nI_add i 1]
  refine va_sld hx hb hX hbl hAb hS (i := nI (i + 1)) (vp_in_nI hi (by omega)) dL_law_748 ?_
  rw [nI_clamp (n := i + 1) (by omega)]
  refine call_iV (As := [.int (xs (i + 1))]) (rest := []) (wr := w) ⟨hx, hb, hml, hown, hts⟩ (c_X5_strikes l g h a SL cnt ll np tu la wi F th fS fL fN fK fF fW fE fC fG fO D hM hc hSL hfS hF hfF hll hp K hKK (xs (i + 1))) (cwV 1 hts gT_X5_strikes rfl rfl rfl (by decide +kernel) ⟨Nat.le_of_ble_eq_true rfl, Nat.le_of_ble_eq_true rfl⟩) hP hK hD hS hA [0, 1, 2, 3, 4, 5, 6, 7, 8, 9, 10] ((List.range w.length).map (fun i => i + 11)) rfl (tl_map rfl w) (by decide) (tl_nd _ _) (tl_dis (by decide)) 0 rfl rfl rfl rfl hl.1 rfl (Nat.le_of_ble_eq_true rfl) dL_law_749 ⟨by show cells + 1 + 0 ≤ 601024; omega, by show slots + 6 + 0 ≤ 7293034; omega⟩ (fun r2 w2 H locs h2 hP hD hS => ?_)
  refine lv_istore (lv' := [(6, .int r2), (5, .int rc), (0, .ref b), (1, .ref x), (2, .ref h), (3, .ref o), (4, .int (nI i))]) hx hb dL_law_752 hl (by decide) rfl (fun ls hl => ?_)
  obtain ⟨fo9, wF9, th9, rfl, hI9, eth, hres⟩ := o_strikes L0 h1 h2
  have hI8 := hI9
  obtain ⟨q8, u8, d8, v8, SL8, k8, K8, np8, mv8, lm8, ch8, F8, f8, S8, cnt8, ll8, a8, tu8, la8, wi8, fS8, fL8, fN8, fK8, fF8, fW8, fE8, fC8, fG8, fO8, D8, rfl, rfl, L8⟩ := hI9
  refine lv_aload_n hx hb dL_law_754 rfl (lv_at hl 4 rfl) ?_
  refine call_iV (As := []) (rest := []) (wr := OC g o fo9 :: (FW g x (lN SL8) q8 u8 k8 (nI np8) mv8 lm8 ch8 (lN F8) d8 v8 f8 (nI cnt8) (nI ll8))) ⟨hx, hb, hml, hown, hts⟩ (c_X5_thrown l g h a8 (nI (rwL SL8)) (nI cnt8) (nI ll8) (nI np8) tu8 la8 wi8 (nI (rwL F8)) th9 fS8 fL8 fN8 fK8 fF8 fW8 fE8 fC8 fG8 fO8) (cwV 0 hts gT_X5_thrown rfl rfl rfl (by decide +kernel) ⟨Nat.le_of_ble_eq_true rfl, Nat.le_of_ble_eq_true rfl⟩) hP hK hD hS hA [6, 7, 8, 9, 10, 11, 12, 13, 14, 15, 16] [0, 1, 2, 3, 4, 5] rfl rfl (by decide) (by decide) (by decide) 0 rfl rfl rfl rfl hl.1 rfl (Nat.le_of_ble_eq_true rfl) dL_law_755 ⟨by show cells + 1 + 0 ≤ 601024; omega, by show slots + 6 + 0 ≤ 7293034; omega⟩ (fun r3 w3 H locs h3 hP hD hS => ?_)
  obtain ⟨rfl, rfl⟩ := h3
  refine lv_iload hx hb dL_law_758 (lv_at hl 1 rfl) ?_
  refine lv_icmp_eq (tgt := 765) hx hb dL_law_760 (by decide) (fun _ => ?_) (fun c9 => absurd eth c9)
  have hend : W p l e room_1 s m #[Value.ref b] below meth c H locs (cells + 1) (slots + 6) Q (F0 m 782 ls []) := by
    refine lv_goto (tgt := 945) hx hb dL_law_782 (by decide) ?_
    exact kk fo9 _ _ _ H locs ls hI8 hP hD hS (lv_sub hl [2, 3, 4, 5, 6] rfl)
  refine lv_iload hx hb dL_law_765 (lv_at hl 1 rfl) ?_
  refine lv_if_ne (tgt := 782) hx hb dL_law_767 (by decide) (fun _ => hend) (fun c8 => ?_)
  refine lv_aload_n hx hb dL_law_770 rfl (lv_at hl 5 rfl) ?_
  refine lv_iconst (v := nI 0) hx hb dL_law_771 (by decide) ?_
  refine va_lald (n := 1) (f := fo9) hx hb hK hP 0 1 rfl rfl (vp_in_nI (n := 0) (by decide) (by decide)) dL_law_772 ?_
  rw [nI_clamp (n := 0) (by decide)]
  refine lv_iload hx hb dL_law_773 (lv_at hl 0 rfl) ?_
  refine lv_i2l (v := r2.toInt64) hx hb dL_law_775 rfl ?_
  refine W.lcmp hx hb dL_law_776 ?_
  exact lv_if_eq (tgt := 782) hx hb dL_law_777 (by decide) (fun _ => hend) (fun c9 => absurd ((lg_cmp_eq _ _).mpr (hres c8)) c9)
set_option maxHeartbeats 4000000 in
set_option maxRecDepth 100000 in
theorem op_fragmentLength {p : Program} {l : Launch} {e : Env} {s : State} {m : MethodId} {below : List Frame} {meth : Method} {c : Code} {b L : Nat} {xs : Nat → Int32} {g : GG} {A : Nat → Prop} (C : LC p l s m c b L xs g A) {x h o : Nat} {wF wM : va_W} {th : Int32} {fo : Nat → Int64} (hI : IV g x h wF wM th) {H : Heap} {locs : List Loc} {ls : Array Slot} (hP : va_P g.1 vwCl ((OC g o fo :: wF) ++ wM) H) (hD : va_D A ((OC g o fo :: wF) ++ wM)) (hS : va_S A s.heap H locs) {i : Nat} (hi : i + 1 < L) (hL : L ≤ 1024) (hl : lv_has ls 7 (LV b x h o i)) {cells slots : Nat} {Q : State → Prop} (hce : cells + 1 ≤ 601024) (hsl : slots + 6 ≤ 7293034)
    (kk : ∀ (fo : Nat → Int64) (wF wM : va_W) (th : Int32) (H : Heap) (locs : List Loc) (ls : Array Slot), IV g x h wF wM th → va_P g.1 vwCl ((OC g o fo :: wF) ++ wM) H → va_D A ((OC g o fo :: wF) ++ wM) → va_S A s.heap H locs → lv_has ls 7 (LV b x h o i) → W p l e room_1 s m #[Value.ref b] below meth c H locs (cells + 1) (slots + 6) Q (F0 m 945 ls [])) : W p l e room_1 s m #[Value.ref b] below meth c H locs cells slots Q (F0 m 785 ls []) := by
  obtain ⟨hx, hb, hml, hown, hts, hK, hA, hAb, hXk, hNc, hX, hbl, hfl⟩ := C
  obtain ⟨q, u, d, v, SL, k, K, np, mv, lm, ch, F, f, S, cnt, ll, a, tu, la, wi, fS, fL, fN, fK, fF, fW, fE, fC, fG, fO, D, rfl, rfl, L0⟩ := hI
  have L9 := L0
  obtain ⟨hSL, hF, hk, hp, hf, hc, hll, hM, hfS, hfF, hKK, hW, hG⟩ := L9
  have hl : lv_has ls 7 [(0, .ref b), (1, .ref x), (2, .ref h), (3, .ref o), (4, .int (nI i))] := hl
  refine lv_aload_n hx hb dL_law_785 rfl (lv_at hl 1 rfl) ?_
  refine call_iV (As := []) (rest := []) (wr := OC g o fo :: (MW g h a (nI (rwL SL)) (nI cnt) (nI ll) (nI np) tu la wi (nI (rwL F)) th fS fL fN fK fF fW fE fC fG fO)) ⟨hx, hb, hml, hown, hts⟩ (c_X4_fragmentLength l g x q u d v SL k K np mv lm ch F f S cnt ll hSL hF hk hp hf hc hll) (cwV 0 hts gT_X4_fragmentLength rfl rfl rfl (by decide +kernel) ⟨Nat.le_of_ble_eq_true rfl, Nat.le_of_ble_eq_true rfl⟩) hP hK hD hS hA [1, 2, 3, 4, 5] (0 :: [6, 7, 8, 9, 10, 11, 12, 13, 14, 15, 16]) rfl rfl (by decide) (by decide) (by decide) 0 rfl rfl rfl rfl hl.1 rfl (Nat.le_of_ble_eq_true rfl) dL_law_786 ⟨Nat.le_of_succ_le hce, by show slots + 0 ≤ 7293034; omega⟩ (fun r1 w H locs h1 hP hD hS => ?_)
  obtain ⟨rfl, h1⟩ := h1
  refine lv_aload_n hx hb dL_law_789 rfl (lv_at hl 2 rfl) ?_
  refine call_iV (As := []) (rest := [.int r1]) (wr := OC g o fo :: (FW g x (lN SL) q u k (nI np) mv lm ch (lN F) d v f (nI cnt) (nI ll))) ⟨hx, hb, hml, hown, hts⟩ (c_X5_fragmentLength l g h a SL cnt ll np tu la wi F th fS fL fN fK fF fW fE fC fG fO D hM hc hSL hfS hF hfF hll hp) (cwV 0 hts gT_X5_fragmentLength rfl rfl rfl (by decide +kernel) ⟨Nat.le_of_ble_eq_true rfl, Nat.le_of_ble_eq_true rfl⟩) hP hK hD hS hA [1, 2, 3, 4, 5, 6, 7, 8, 9, 10, 11] [0, 12, 13, 14, 15, 16] rfl rfl (by decide) (by decide) (by decide) 0 rfl rfl rfl rfl hl.1 rfl (Nat.le_of_ble_eq_true rfl) dL_law_790 ⟨Nat.le_of_succ_le hce, by show slots + 0 ≤ 7293034; omega⟩ (fun r2 w2 H locs h2 hP hD hS => ?_)
  obtain ⟨th9, hI9, e9⟩ := o_fragmentLength L0 ⟨rfl, h1⟩ h2
  refine lv_icmp_eq (tgt := 945) hx hb dL_law_793 (by decide) (fun _ => ?_) (fun c9 => absurd e9 c9)
  exact W.widen (k := cells + 1) (n := slots + 6) (by omega) (by omega) (kk fo _ w2 th9 H locs ls hI9 hP hD hS hl)
set_option maxHeartbeats 4000000 in
set_option maxRecDepth 100000 in
theorem op_fragmentAt {p : Program} {l : Launch} {e : Env} {s : State} {m : MethodId} {below : List Frame} {meth : Method} {c : Code} {b L : Nat} {xs : Nat → Int32} {g : GG} {A : Nat → Prop} (C : LC p l s m c b L xs g A) {x h o : Nat} {wF wM : va_W} {th : Int32} {fo : Nat → Int64} (hI : IV g x h wF wM th) {H : Heap} {locs : List Loc} {ls : Array Slot} (hP : va_P g.1 vwCl ((OC g o fo :: wF) ++ wM) H) (hD : va_D A ((OC g o fo :: wF) ++ wM)) (hS : va_S A s.heap H locs) {i : Nat} (hi : i + 1 < L) (hL : L ≤ 1024) (hl : lv_has ls 7 (LV b x h o i)) {cells slots : Nat} {Q : State → Prop} (hce : cells + 1 ≤ 601024) (hsl : slots + 6 ≤ 7293034)
    (kk : ∀ (fo : Nat → Int64) (wF wM : va_W) (th : Int32) (H : Heap) (locs : List Loc) (ls : Array Slot), IV g x h wF wM th → va_P g.1 vwCl ((OC g o fo :: wF) ++ wM) H → va_D A ((OC g o fo :: wF) ++ wM) → va_S A s.heap H locs → lv_has ls 7 (LV b x h o i) → W p l e room_1 s m #[Value.ref b] below meth c H locs (cells + 1) (slots + 6) Q (F0 m 945 ls [])) : W p l e room_1 s m #[Value.ref b] below meth c H locs cells slots Q (F0 m 798 ls []) := by
  obtain ⟨hx, hb, hml, hown, hts, hK, hA, hAb, hXk, hNc, hX, hbl, hfl⟩ := C
  obtain ⟨q, u, d, v, SL, k, K, np, mv, lm, ch, F, f, S, cnt, ll, a, tu, la, wi, fS, fL, fN, fK, fF, fW, fE, fC, fG, fO, D, rfl, rfl, L0⟩ := hI
  have L9 := L0
  obtain ⟨hSL, hF, hk, hp, hf, hc, hll, hM, hfS, hfF, hKK, hW, hG⟩ := L9
  have hl : lv_has ls 7 [(0, .ref b), (1, .ref x), (2, .ref h), (3, .ref o), (4, .int (nI i))] := hl
  refine lv_aload_n hx hb dL_law_798 rfl (lv_at hl 1 rfl) ?_
  refine lv_aload_n hx hb dL_law_799 rfl (lv_at hl 0 rfl) ?_
  refine lv_iload hx hb dL_law_800 (lv_at hl 4 rfl) ?_
  refine lv_iconst (v := nI 1) hx hb dL_law_802 (by decide) ?_
  refine lv_iadd hx hb dL_law_803 ?_
  rw [nI_add i 1]
  refine va_sld hx hb hX hbl hAb hS (i := nI (i + 1)) (vp_in_nI hi (by omega)) dL_law_804 ?_
  rw [nI_clamp (n := i + 1) (by omega)]
  refine lv_aload_n hx hb dL_law_805 rfl (lv_at hl 3 rfl) ?_
  refine call_wX (As := [.ref x, .int (xs (i + 1)), .ref o]) (rest := []) (wr := (MW g h a (nI (rwL SL)) (nI cnt) (nI ll) (nI np) tu la wi (nI (rwL F)) th fS fL fN fK fF fW fE fC fG fO)) ⟨hx, hb, hml, hown, hts⟩ (c_L_fragmentAt l hfl g x q u d v SL k K np mv lm ch F f S cnt ll hSL hF hk hp hf hc hll (xs (i + 1)) o fo) (vx_cwSW 3 hts gT_L_fragmentAt rfl rfl rfl ⟨by decide +kernel, by decide +kernel, by decide +kernel⟩ ⟨Nat.le_of_ble_eq_true rfl, Nat.le_of_ble_eq_true rfl⟩) hP hK hD hS hA hXk hNc [0, 1, 2, 3, 4, 5] [6, 7, 8, 9, 10, 11, 12, 13, 14, 15, 16] rfl rfl (by decide) (by decide) (by decide) rfl hl.1 rfl (Nat.le_of_ble_eq_true rfl) dL_law_806 ⟨hce, hsl⟩ (fun rc w H locs h1 hP hD hS => ?_)
  refine lv_istore (lv' := [(5, .int rc), (0, .ref b), (1, .ref x), (2, .ref h), (3, .ref o), (4, .int (nI i))]) hx hb dL_law_809 hl (by decide) rfl (fun ls hl => ?_)
  refine lv_aload_n hx hb dL_law_811 rfl (lv_at hl 3 rfl) ?_
  refine lv_aload_n hx hb dL_law_812 rfl (lv_at hl 1 rfl) ?_
  refine lv_iload hx hb dL_law_813 (lv_at hl 5 rfl) ?_
  refine lv_iconst (v := nI 1) hx hb dL_law_815 (by decide) ?_
  refine lv_iadd hx hb dL_law_816 ?_
  rw [nI_add i 1]
  refine va_sld hx hb hX hbl hAb hS (i := nI (i + 1)) (vp_in_nI hi (by omega)) dL_law_817 ?_
  rw [nI_clamp (n := i + 1) (by omega)]
  refine call_iV (As := [.int (xs (i + 1))]) (rest := []) (wr := w) ⟨hx, hb, hml, hown, hts⟩ (c_X5_fragmentAt l g h a SL cnt ll np tu la wi F th fS fL fN fK fF fW fE fC fG fO D hM hc hSL hfS hF hfF hll hp (xs (i + 1))) (cwV 1 hts gT_X5_fragmentAt rfl rfl rfl (by decide +kernel) ⟨Nat.le_of_ble_eq_true rfl, Nat.le_of_ble_eq_true rfl⟩) hP hK hD hS hA [0, 1, 2, 3, 4, 5, 6, 7, 8, 9, 10] ((List.range w.length).map (fun i => i + 11)) rfl (tl_map rfl w) (by decide) (tl_nd _ _) (tl_dis (by decide)) 0 rfl rfl rfl rfl hl.1 rfl (Nat.le_of_ble_eq_true rfl) dL_law_818 ⟨by show cells + 1 + 0 ≤ 601024; omega, by show slots + 6 + 0 ≤ 7293034; omega⟩ (fun r2 w2 H locs h2 hP hD hS => ?_)
  refine lv_istore (lv' := [(6, .int r2), (5, .int rc), (0, .ref b), (1, .ref x), (2, .ref h), (3, .ref o), (4, .int (nI i))]) hx hb dL_law_821 hl (by decide) rfl (fun ls hl => ?_)
  obtain ⟨fo9, wF9, th9, rfl, hI9, eth, hres⟩ := o_fragmentAt L0 h1 h2
  have hI8 := hI9
  obtain ⟨q8, u8, d8, v8, SL8, k8, K8, np8, mv8, lm8, ch8, F8, f8, S8, cnt8, ll8, a8, tu8, la8, wi8, fS8, fL8, fN8, fK8, fF8, fW8, fE8, fC8, fG8, fO8, D8, rfl, rfl, L8⟩ := hI9
  refine lv_aload_n hx hb dL_law_823 rfl (lv_at hl 4 rfl) ?_
  refine call_iV (As := []) (rest := []) (wr := OC g o fo9 :: (FW g x (lN SL8) q8 u8 k8 (nI np8) mv8 lm8 ch8 (lN F8) d8 v8 f8 (nI cnt8) (nI ll8))) ⟨hx, hb, hml, hown, hts⟩ (c_X5_thrown l g h a8 (nI (rwL SL8)) (nI cnt8) (nI ll8) (nI np8) tu8 la8 wi8 (nI (rwL F8)) th9 fS8 fL8 fN8 fK8 fF8 fW8 fE8 fC8 fG8 fO8) (cwV 0 hts gT_X5_thrown rfl rfl rfl (by decide +kernel) ⟨Nat.le_of_ble_eq_true rfl, Nat.le_of_ble_eq_true rfl⟩) hP hK hD hS hA [6, 7, 8, 9, 10, 11, 12, 13, 14, 15, 16] [0, 1, 2, 3, 4, 5] rfl rfl (by decide) (by decide) (by decide) 0 rfl rfl rfl rfl hl.1 rfl (Nat.le_of_ble_eq_true rfl) dL_law_824 ⟨by show cells + 1 + 0 ≤ 601024; omega, by show slots + 6 + 0 ≤ 7293034; omega⟩ (fun r3 w3 H locs h3 hP hD hS => ?_)
  obtain ⟨rfl, rfl⟩ := h3
  refine lv_iload hx hb dL_law_827 (lv_at hl 1 rfl) ?_
  refine lv_icmp_eq (tgt := 834) hx hb dL_law_829 (by decide) (fun _ => ?_) (fun c9 => absurd eth c9)
  have hend : W p l e room_1 s m #[Value.ref b] below meth c H locs (cells + 1) (slots + 6) Q (F0 m 851 ls []) := by
    refine lv_goto (tgt := 945) hx hb dL_law_851 (by decide) ?_
    exact kk fo9 _ _ _ H locs ls hI8 hP hD hS (lv_sub hl [2, 3, 4, 5, 6] rfl)
  refine lv_iload hx hb dL_law_834 (lv_at hl 1 rfl) ?_
  refine lv_if_ne (tgt := 851) hx hb dL_law_836 (by decide) (fun _ => hend) (fun c8 => ?_)
  refine lv_aload_n hx hb dL_law_839 rfl (lv_at hl 5 rfl) ?_
  refine lv_iconst (v := nI 0) hx hb dL_law_840 (by decide) ?_
  refine va_lald (n := 1) (f := fo9) hx hb hK hP 0 1 rfl rfl (vp_in_nI (n := 0) (by decide) (by decide)) dL_law_841 ?_
  rw [nI_clamp (n := 0) (by decide)]
  refine lv_iload hx hb dL_law_842 (lv_at hl 0 rfl) ?_
  refine lv_i2l (v := r2.toInt64) hx hb dL_law_844 rfl ?_
  refine W.lcmp hx hb dL_law_845 ?_
  exact lv_if_eq (tgt := 851) hx hb dL_law_846 (by decide) (fun _ => hend) (fun c9 => absurd ((lg_cmp_eq _ _).mpr (hres c8)) c9)
set_option maxHeartbeats 4000000 in
set_option maxRecDepth 100000 in
theorem op_openLetters {p : Program} {l : Launch} {e : Env} {s : State} {m : MethodId} {below : List Frame} {meth : Method} {c : Code} {b L : Nat} {xs : Nat → Int32} {g : GG} {A : Nat → Prop} (C : LC p l s m c b L xs g A) {x h o : Nat} {wF wM : va_W} {th : Int32} {fo : Nat → Int64} (hI : IV g x h wF wM th) {H : Heap} {locs : List Loc} {ls : Array Slot} (hP : va_P g.1 vwCl ((OC g o fo :: wF) ++ wM) H) (hD : va_D A ((OC g o fo :: wF) ++ wM)) (hS : va_S A s.heap H locs) {i : Nat} (hi : i + 1 < L) (hL : L ≤ 1024) (hl : lv_has ls 7 (LV b x h o i)) {cells slots : Nat} {Q : State → Prop} (hce : cells + 1 ≤ 601024) (hsl : slots + 6 ≤ 7293034)
    (kk : ∀ (fo : Nat → Int64) (wF wM : va_W) (th : Int32) (H : Heap) (locs : List Loc) (ls : Array Slot), IV g x h wF wM th → va_P g.1 vwCl ((OC g o fo :: wF) ++ wM) H → va_D A ((OC g o fo :: wF) ++ wM) → va_S A s.heap H locs → lv_has ls 7 (LV b x h o i) → W p l e room_1 s m #[Value.ref b] below meth c H locs (cells + 1) (slots + 6) Q (F0 m 945 ls [])) : W p l e room_1 s m #[Value.ref b] below meth c H locs cells slots Q (F0 m 854 ls []) := by
  obtain ⟨hx, hb, hml, hown, hts, hK, hA, hAb, hXk, hNc, hX, hbl, hfl⟩ := C
  obtain ⟨q, u, d, v, SL, k, K, np, mv, lm, ch, F, f, S, cnt, ll, a, tu, la, wi, fS, fL, fN, fK, fF, fW, fE, fC, fG, fO, D, rfl, rfl, L0⟩ := hI
  have L9 := L0
  obtain ⟨hSL, hF, hk, hp, hf, hc, hll, hM, hfS, hfF, hKK, hW, hG⟩ := L9
  have hl : lv_has ls 7 [(0, .ref b), (1, .ref x), (2, .ref h), (3, .ref o), (4, .int (nI i))] := hl
  refine lv_aload_n hx hb dL_law_854 rfl (lv_at hl 1 rfl) ?_
  refine call_iV (As := []) (rest := []) (wr := OC g o fo :: (MW g h a (nI (rwL SL)) (nI cnt) (nI ll) (nI np) tu la wi (nI (rwL F)) th fS fL fN fK fF fW fE fC fG fO)) ⟨hx, hb, hml, hown, hts⟩ (c_X4_openLetters l g x q u d v SL k K np mv lm ch F f S cnt ll hSL hF hk hp hf hc hll) (cwV 0 hts gT_X4_openLetters rfl rfl rfl (by decide +kernel) ⟨Nat.le_of_ble_eq_true rfl, Nat.le_of_ble_eq_true rfl⟩) hP hK hD hS hA [1, 2, 3, 4, 5] (0 :: [6, 7, 8, 9, 10, 11, 12, 13, 14, 15, 16]) rfl rfl (by decide) (by decide) (by decide) 0 rfl rfl rfl rfl hl.1 rfl (Nat.le_of_ble_eq_true rfl) dL_law_855 ⟨Nat.le_of_succ_le hce, by show slots + 0 ≤ 7293034; omega⟩ (fun r1 w H locs h1 hP hD hS => ?_)
  obtain ⟨rfl, h1⟩ := h1
  refine lv_aload_n hx hb dL_law_858 rfl (lv_at hl 2 rfl) ?_
  refine call_iV (As := []) (rest := [.int r1]) (wr := OC g o fo :: (FW g x (lN SL) q u k (nI np) mv lm ch (lN F) d v f (nI cnt) (nI ll))) ⟨hx, hb, hml, hown, hts⟩ (c_X5_openLetters l g h a SL cnt ll np tu la wi F th fS fL fN fK fF fW fE fC fG fO D hM hc hSL hfS hF hfF hll hp) (cwV 0 hts gT_X5_openLetters rfl rfl rfl (by decide +kernel) ⟨Nat.le_of_ble_eq_true rfl, Nat.le_of_ble_eq_true rfl⟩) hP hK hD hS hA [1, 2, 3, 4, 5, 6, 7, 8, 9, 10, 11] [0, 12, 13, 14, 15, 16] rfl rfl (by decide) (by decide) (by decide) 0 rfl rfl rfl rfl hl.1 rfl (Nat.le_of_ble_eq_true rfl) dL_law_859 ⟨Nat.le_of_succ_le hce, by show slots + 0 ≤ 7293034; omega⟩ (fun r2 w2 H locs h2 hP hD hS => ?_)
  obtain ⟨th9, hI9, e9⟩ := o_openLetters L0 ⟨rfl, h1⟩ h2
  refine lv_icmp_eq (tgt := 945) hx hb dL_law_862 (by decide) (fun _ => ?_) (fun c9 => absurd e9 c9)
  exact W.widen (k := cells + 1) (n := slots + 6) (by omega) (by omega) (kk fo _ w2 th9 H locs ls hI9 hP hD hS hl)
set_option maxHeartbeats 4000000 in
set_option maxRecDepth 100000 in
theorem op_winningLetters {p : Program} {l : Launch} {e : Env} {s : State} {m : MethodId} {below : List Frame} {meth : Method} {c : Code} {b L : Nat} {xs : Nat → Int32} {g : GG} {A : Nat → Prop} (C : LC p l s m c b L xs g A) {x h o : Nat} {wF wM : va_W} {th : Int32} {fo : Nat → Int64} (hI : IV g x h wF wM th) {H : Heap} {locs : List Loc} {ls : Array Slot} (hP : va_P g.1 vwCl ((OC g o fo :: wF) ++ wM) H) (hD : va_D A ((OC g o fo :: wF) ++ wM)) (hS : va_S A s.heap H locs) {i : Nat} (hi : i + 1 < L) (hL : L ≤ 1024) (hl : lv_has ls 7 (LV b x h o i)) {cells slots : Nat} {Q : State → Prop} (hce : cells + 1 ≤ 601024) (hsl : slots + 6 ≤ 7293034)
    (kk : ∀ (fo : Nat → Int64) (wF wM : va_W) (th : Int32) (H : Heap) (locs : List Loc) (ls : Array Slot), IV g x h wF wM th → va_P g.1 vwCl ((OC g o fo :: wF) ++ wM) H → va_D A ((OC g o fo :: wF) ++ wM) → va_S A s.heap H locs → lv_has ls 7 (LV b x h o i) → W p l e room_1 s m #[Value.ref b] below meth c H locs (cells + 1) (slots + 6) Q (F0 m 945 ls [])) : W p l e room_1 s m #[Value.ref b] below meth c H locs cells slots Q (F0 m 867 ls []) := by
  obtain ⟨hx, hb, hml, hown, hts, hK, hA, hAb, hXk, hNc, hX, hbl, hfl⟩ := C
  obtain ⟨q, u, d, v, SL, k, K, np, mv, lm, ch, F, f, S, cnt, ll, a, tu, la, wi, fS, fL, fN, fK, fF, fW, fE, fC, fG, fO, D, rfl, rfl, L0⟩ := hI
  have L9 := L0
  obtain ⟨hSL, hF, hk, hp, hf, hc, hll, hM, hfS, hfF, hKK, hW, hG⟩ := L9
  have hl : lv_has ls 7 [(0, .ref b), (1, .ref x), (2, .ref h), (3, .ref o), (4, .int (nI i))] := hl
  refine lv_aload_n hx hb dL_law_867 rfl (lv_at hl 1 rfl) ?_
  refine call_iV (As := []) (rest := []) (wr := OC g o fo :: (MW g h a (nI (rwL SL)) (nI cnt) (nI ll) (nI np) tu la wi (nI (rwL F)) th fS fL fN fK fF fW fE fC fG fO)) ⟨hx, hb, hml, hown, hts⟩ (c_X4_winningLetters l g x q u d v SL k K np mv lm ch F f S cnt ll hSL hF hk hp hf hc hll) (cwV 0 hts gT_X4_winningLetters rfl rfl rfl (by decide +kernel) ⟨Nat.le_of_ble_eq_true rfl, Nat.le_of_ble_eq_true rfl⟩) hP hK hD hS hA [1, 2, 3, 4, 5] (0 :: [6, 7, 8, 9, 10, 11, 12, 13, 14, 15, 16]) rfl rfl (by decide) (by decide) (by decide) 0 rfl rfl rfl rfl hl.1 rfl (Nat.le_of_ble_eq_true rfl) dL_law_868 ⟨Nat.le_of_succ_le hce, by show slots + 0 ≤ 7293034; omega⟩ (fun r1 w H locs h1 hP hD hS => ?_)
  obtain ⟨rfl, h1⟩ := h1
  refine lv_aload_n hx hb dL_law_871 rfl (lv_at hl 2 rfl) ?_
  refine call_iV (As := []) (rest := [.int r1]) (wr := OC g o fo :: (FW g x (lN SL) q u k (nI np) mv lm ch (lN F) d v f (nI cnt) (nI ll))) ⟨hx, hb, hml, hown, hts⟩ (c_X5_winningLetters l g h a SL cnt ll np tu la wi F th fS fL fN fK fF fW fE fC fG fO D hM hc hSL hfS hF hfF hll hp) (cwV 0 hts gT_X5_winningLetters rfl rfl rfl (by decide +kernel) ⟨Nat.le_of_ble_eq_true rfl, Nat.le_of_ble_eq_true rfl⟩) hP hK hD hS hA [1, 2, 3, 4, 5, 6, 7, 8, 9, 10, 11] [0, 12, 13, 14, 15, 16] rfl rfl (by decide) (by decide) (by decide) 0 rfl rfl rfl rfl hl.1 rfl (Nat.le_of_ble_eq_true rfl) dL_law_872 ⟨Nat.le_of_succ_le hce, by show slots + 0 ≤ 7293034; omega⟩ (fun r2 w2 H locs h2 hP hD hS => ?_)
  obtain ⟨th9, hI9, e9⟩ := o_winningLetters L0 ⟨rfl, h1⟩ h2
  refine lv_icmp_eq (tgt := 945) hx hb dL_law_875 (by decide) (fun _ => ?_) (fun c9 => absurd e9 c9)
  exact W.widen (k := cells + 1) (n := slots + 6) (by omega) (by omega) (kk fo _ w2 th9 H locs ls hI9 hP hD hS hl)
set_option maxHeartbeats 4000000 in
set_option maxRecDepth 100000 in
theorem op_canWin {p : Program} {l : Launch} {e : Env} {s : State} {m : MethodId} {below : List Frame} {meth : Method} {c : Code} {b L : Nat} {xs : Nat → Int32} {g : GG} {A : Nat → Prop} (C : LC p l s m c b L xs g A) {x h o : Nat} {wF wM : va_W} {th : Int32} {fo : Nat → Int64} (hI : IV g x h wF wM th) {H : Heap} {locs : List Loc} {ls : Array Slot} (hP : va_P g.1 vwCl ((OC g o fo :: wF) ++ wM) H) (hD : va_D A ((OC g o fo :: wF) ++ wM)) (hS : va_S A s.heap H locs) {i : Nat} (hi : i + 1 < L) (hL : L ≤ 1024) (hl : lv_has ls 7 (LV b x h o i)) {cells slots : Nat} {Q : State → Prop} (hce : cells + 1 ≤ 601024) (hsl : slots + 6 ≤ 7293034)
    (kk : ∀ (fo : Nat → Int64) (wF wM : va_W) (th : Int32) (H : Heap) (locs : List Loc) (ls : Array Slot), IV g x h wF wM th → va_P g.1 vwCl ((OC g o fo :: wF) ++ wM) H → va_D A ((OC g o fo :: wF) ++ wM) → va_S A s.heap H locs → lv_has ls 7 (LV b x h o i) → W p l e room_1 s m #[Value.ref b] below meth c H locs (cells + 1) (slots + 6) Q (F0 m 945 ls [])) : W p l e room_1 s m #[Value.ref b] below meth c H locs cells slots Q (F0 m 880 ls []) := by
  obtain ⟨hx, hb, hml, hown, hts, hK, hA, hAb, hXk, hNc, hX, hbl, hfl⟩ := C
  obtain ⟨q, u, d, v, SL, k, K, np, mv, lm, ch, F, f, S, cnt, ll, a, tu, la, wi, fS, fL, fN, fK, fF, fW, fE, fC, fG, fO, D, rfl, rfl, L0⟩ := hI
  have L9 := L0
  obtain ⟨hSL, hF, hk, hp, hf, hc, hll, hM, hfS, hfF, hKK, hW, hG⟩ := L9
  have hl : lv_has ls 7 [(0, .ref b), (1, .ref x), (2, .ref h), (3, .ref o), (4, .int (nI i))] := hl
  refine lv_aload_n hx hb dL_law_880 rfl (lv_at hl 1 rfl) ?_
  refine call_iV (As := []) (rest := []) (wr := OC g o fo :: (MW g h a (nI (rwL SL)) (nI cnt) (nI ll) (nI np) tu la wi (nI (rwL F)) th fS fL fN fK fF fW fE fC fG fO)) ⟨hx, hb, hml, hown, hts⟩ (c_X4_canWin l g x q u d v SL k K np mv lm ch F f S cnt ll hSL hF hk hp hf hc hll) (cwV 0 hts gT_X4_canWin rfl rfl rfl (by decide +kernel) ⟨Nat.le_of_ble_eq_true rfl, Nat.le_of_ble_eq_true rfl⟩) hP hK hD hS hA [1, 2, 3, 4, 5] (0 :: [6, 7, 8, 9, 10, 11, 12, 13, 14, 15, 16]) rfl rfl (by decide) (by decide) (by decide) 0 rfl rfl rfl rfl hl.1 rfl (Nat.le_of_ble_eq_true rfl) dL_law_881 ⟨Nat.le_of_succ_le hce, by show slots + 0 ≤ 7293034; omega⟩ (fun r1 w H locs h1 hP hD hS => ?_)
  obtain ⟨rfl, h1⟩ := h1
  refine lv_aload_n hx hb dL_law_884 rfl (lv_at hl 2 rfl) ?_
  refine call_iV (As := []) (rest := [.int r1]) (wr := OC g o fo :: (FW g x (lN SL) q u k (nI np) mv lm ch (lN F) d v f (nI cnt) (nI ll))) ⟨hx, hb, hml, hown, hts⟩ (c_X5_canWin l g h a SL cnt ll np tu la wi F th fS fL fN fK fF fW fE fC fG fO D hM hc hSL hfS hF hfF hll hp) (cwV 0 hts gT_X5_canWin rfl rfl rfl (by decide +kernel) ⟨Nat.le_of_ble_eq_true rfl, Nat.le_of_ble_eq_true rfl⟩) hP hK hD hS hA [1, 2, 3, 4, 5, 6, 7, 8, 9, 10, 11] [0, 12, 13, 14, 15, 16] rfl rfl (by decide) (by decide) (by decide) 0 rfl rfl rfl rfl hl.1 rfl (Nat.le_of_ble_eq_true rfl) dL_law_885 ⟨Nat.le_of_succ_le hce, by show slots + 0 ≤ 7293034; omega⟩ (fun r2 w2 H locs h2 hP hD hS => ?_)
  obtain ⟨th9, hI9, e9⟩ := o_canWin L0 ⟨rfl, h1⟩ h2
  refine lv_icmp_eq (tgt := 945) hx hb dL_law_888 (by decide) (fun _ => ?_) (fun c9 => absurd e9 c9)
  exact W.widen (k := cells + 1) (n := slots + 6) (by omega) (by omega) (kk fo _ w2 th9 H locs ls hI9 hP hD hS hl)
set_option maxHeartbeats 4000000 in
set_option maxRecDepth 100000 in
theorem op_end {p : Program} {l : Launch} {e : Env} {s : State} {m : MethodId} {below : List Frame} {meth : Method} {c : Code} {b L : Nat} {xs : Nat → Int32} {g : GG} {A : Nat → Prop} (C : LC p l s m c b L xs g A) {x h o : Nat} {wF wM : va_W} {th : Int32} {fo : Nat → Int64} (hI : IV g x h wF wM th) {H : Heap} {locs : List Loc} {ls : Array Slot} (hP : va_P g.1 vwCl ((OC g o fo :: wF) ++ wM) H) (hD : va_D A ((OC g o fo :: wF) ++ wM)) (hS : va_S A s.heap H locs) {i : Nat} (hi : i + 1 < L) (hL : L ≤ 1024) (hl : lv_has ls 7 (LV b x h o i)) {cells slots : Nat} {Q : State → Prop} (hce : cells + 1 ≤ 601024) (hsl : slots + 6 ≤ 7293034)
    (kk : ∀ (fo : Nat → Int64) (wF wM : va_W) (th : Int32) (H : Heap) (locs : List Loc) (ls : Array Slot), IV g x h wF wM th → va_P g.1 vwCl ((OC g o fo :: wF) ++ wM) H → va_D A ((OC g o fo :: wF) ++ wM) → va_S A s.heap H locs → lv_has ls 7 (LV b x h o i) → W p l e room_1 s m #[Value.ref b] below meth c H locs (cells + 1) (slots + 6) Q (F0 m 945 ls [])) : W p l e room_1 s m #[Value.ref b] below meth c H locs cells slots Q (F0 m 893 ls []) := by
  obtain ⟨hx, hb, hml, hown, hts, hK, hA, hAb, hXk, hNc, hX, hbl, hfl⟩ := C
  obtain ⟨q, u, d, v, SL, k, K, np, mv, lm, ch, F, f, S, cnt, ll, a, tu, la, wi, fS, fL, fN, fK, fF, fW, fE, fC, fG, fO, D, rfl, rfl, L0⟩ := hI
  have L9 := L0
  obtain ⟨hSL, hF, hk, hp, hf, hc, hll, hM, hfS, hfF, hKK, hW, hG⟩ := L9
  have hl : lv_has ls 7 [(0, .ref b), (1, .ref x), (2, .ref h), (3, .ref o), (4, .int (nI i))] := hl
  refine lv_aload_n hx hb dL_law_893 rfl (lv_at hl 1 rfl) ?_
  refine call_iV (As := []) (rest := []) (wr := OC g o fo :: (MW g h a (nI (rwL SL)) (nI cnt) (nI ll) (nI np) tu la wi (nI (rwL F)) th fS fL fN fK fF fW fE fC fG fO)) ⟨hx, hb, hml, hown, hts⟩ (c_X4_end l g x q u d v SL k K np mv lm ch F f S cnt ll hSL hF hk hp hf hc hll) (cwV 0 hts gT_X4_end rfl rfl rfl (by decide +kernel) ⟨Nat.le_of_ble_eq_true rfl, Nat.le_of_ble_eq_true rfl⟩) hP hK hD hS hA [1, 2, 3, 4, 5] (0 :: [6, 7, 8, 9, 10, 11, 12, 13, 14, 15, 16]) rfl rfl (by decide) (by decide) (by decide) 0 rfl rfl rfl rfl hl.1 rfl (Nat.le_of_ble_eq_true rfl) dL_law_894 ⟨Nat.le_of_succ_le hce, by show slots + 0 ≤ 7293034; omega⟩ (fun r1 w H locs h1 hP hD hS => ?_)
  obtain ⟨rfl, h1⟩ := h1
  refine lv_aload_n hx hb dL_law_897 rfl (lv_at hl 2 rfl) ?_
  refine call_iV (As := []) (rest := [.int r1]) (wr := OC g o fo :: (FW g x (lN SL) q u k (nI np) mv lm ch (lN F) d v f (nI cnt) (nI ll))) ⟨hx, hb, hml, hown, hts⟩ (c_X5_end l g h a SL cnt ll np tu la wi F th fS fL fN fK fF fW fE fC fG fO D hM hc hSL hfS hF hfF hll hp) (cwV 0 hts gT_X5_end rfl rfl rfl (by decide +kernel) ⟨Nat.le_of_ble_eq_true rfl, Nat.le_of_ble_eq_true rfl⟩) hP hK hD hS hA [1, 2, 3, 4, 5, 6, 7, 8, 9, 10, 11] [0, 12, 13, 14, 15, 16] rfl rfl (by decide) (by decide) (by decide) 0 rfl rfl rfl rfl hl.1 rfl (Nat.le_of_ble_eq_true rfl) dL_law_898 ⟨Nat.le_of_succ_le hce, by show slots + 0 ≤ 7293034; omega⟩ (fun r2 w2 H locs h2 hP hD hS => ?_)
  obtain ⟨th9, hI9, e9⟩ := o_end L0 ⟨rfl, h1⟩ h2
  refine lv_icmp_eq (tgt := 945) hx hb dL_law_901 (by decide) (fun _ => ?_) (fun c9 => absurd e9 c9)
  exact W.widen (k := cells + 1) (n := slots + 6) (by omega) (by omega) (kk fo _ w2 th9 H locs ls hI9 hP hD hS hl)
set_option maxHeartbeats 4000000 in
set_option maxRecDepth 100000 in
theorem op_bestLetter {p : Program} {l : Launch} {e : Env} {s : State} {m : MethodId} {below : List Frame} {meth : Method} {c : Code} {b L : Nat} {xs : Nat → Int32} {g : GG} {A : Nat → Prop} (C : LC p l s m c b L xs g A) {x h o : Nat} {wF wM : va_W} {th : Int32} {fo : Nat → Int64} (hI : IV g x h wF wM th) {H : Heap} {locs : List Loc} {ls : Array Slot} (hP : va_P g.1 vwCl ((OC g o fo :: wF) ++ wM) H) (hD : va_D A ((OC g o fo :: wF) ++ wM)) (hS : va_S A s.heap H locs) {i : Nat} (hi : i + 1 < L) (hL : L ≤ 1024) (hl : lv_has ls 7 (LV b x h o i)) {cells slots : Nat} {Q : State → Prop} (hce : cells + 1 ≤ 601024) (hsl : slots + 6 ≤ 7293034)
    (kk : ∀ (fo : Nat → Int64) (wF wM : va_W) (th : Int32) (H : Heap) (locs : List Loc) (ls : Array Slot), IV g x h wF wM th → va_P g.1 vwCl ((OC g o fo :: wF) ++ wM) H → va_D A ((OC g o fo :: wF) ++ wM) → va_S A s.heap H locs → lv_has ls 7 (LV b x h o i) → W p l e room_1 s m #[Value.ref b] below meth c H locs (cells + 1) (slots + 6) Q (F0 m 945 ls [])) : W p l e room_1 s m #[Value.ref b] below meth c H locs cells slots Q (F0 m 906 ls []) := by
  obtain ⟨hx, hb, hml, hown, hts, hK, hA, hAb, hXk, hNc, hX, hbl, hfl⟩ := C
  obtain ⟨q, u, d, v, SL, k, K, np, mv, lm, ch, F, f, S, cnt, ll, a, tu, la, wi, fS, fL, fN, fK, fF, fW, fE, fC, fG, fO, D, rfl, rfl, L0⟩ := hI
  have L9 := L0
  obtain ⟨hSL, hF, hk, hp, hf, hc, hll, hM, hfS, hfF, hKK, hW, hG⟩ := L9
  have hl : lv_has ls 7 [(0, .ref b), (1, .ref x), (2, .ref h), (3, .ref o), (4, .int (nI i))] := hl
  refine lv_aload_n hx hb dL_law_906 rfl (lv_at hl 1 rfl) ?_
  refine call_iV (As := []) (rest := []) (wr := OC g o fo :: (MW g h a (nI (rwL SL)) (nI cnt) (nI ll) (nI np) tu la wi (nI (rwL F)) th fS fL fN fK fF fW fE fC fG fO)) ⟨hx, hb, hml, hown, hts⟩ (c_X4_bestLetter l g x q u d v SL k K np mv lm ch F f S cnt ll hSL hF hk hp hf hc hll) (cwV 0 hts gT_X4_bestLetter rfl rfl rfl (by decide +kernel) ⟨Nat.le_of_ble_eq_true rfl, Nat.le_of_ble_eq_true rfl⟩) hP hK hD hS hA [1, 2, 3, 4, 5] (0 :: [6, 7, 8, 9, 10, 11, 12, 13, 14, 15, 16]) rfl rfl (by decide) (by decide) (by decide) 0 rfl rfl rfl rfl hl.1 rfl (Nat.le_of_ble_eq_true rfl) dL_law_907 ⟨Nat.le_of_succ_le hce, by show slots + 0 ≤ 7293034; omega⟩ (fun r1 w H locs h1 hP hD hS => ?_)
  obtain ⟨rfl, h1⟩ := h1
  refine lv_aload_n hx hb dL_law_910 rfl (lv_at hl 2 rfl) ?_
  refine call_iV (As := []) (rest := [.int r1]) (wr := OC g o fo :: (FW g x (lN SL) q u k (nI np) mv lm ch (lN F) d v f (nI cnt) (nI ll))) ⟨hx, hb, hml, hown, hts⟩ (c_X5_bestLetter l g h a SL cnt ll np tu la wi F th fS fL fN fK fF fW fE fC fG fO D hM hc hSL hfS hF hfF hll hp) (cwV 0 hts gT_X5_bestLetter rfl rfl rfl (by decide +kernel) ⟨Nat.le_of_ble_eq_true rfl, Nat.le_of_ble_eq_true rfl⟩) hP hK hD hS hA [1, 2, 3, 4, 5, 6, 7, 8, 9, 10, 11] [0, 12, 13, 14, 15, 16] rfl rfl (by decide) (by decide) (by decide) 0 rfl rfl rfl rfl hl.1 rfl (Nat.le_of_ble_eq_true rfl) dL_law_911 ⟨Nat.le_of_succ_le hce, by show slots + 0 ≤ 7293034; omega⟩ (fun r2 w2 H locs h2 hP hD hS => ?_)
  obtain ⟨th9, hI9, e9⟩ := o_bestLetter L0 ⟨rfl, h1⟩ h2
  refine lv_icmp_eq (tgt := 945) hx hb dL_law_914 (by decide) (fun _ => ?_) (fun c9 => absurd e9 c9)
  exact W.widen (k := cells + 1) (n := slots + 6) (by omega) (by omega) (kk fo _ w2 th9 H locs ls hI9 hP hD hS hl)
set_option maxHeartbeats 4000000 in
set_option maxRecDepth 100000 in
theorem op_waysToPlay {p : Program} {l : Launch} {e : Env} {s : State} {m : MethodId} {below : List Frame} {meth : Method} {c : Code} {b L : Nat} {xs : Nat → Int32} {g : GG} {A : Nat → Prop} (C : LC p l s m c b L xs g A) {x h o : Nat} {wF wM : va_W} {th : Int32} {fo : Nat → Int64} (hI : IV g x h wF wM th) {H : Heap} {locs : List Loc} {ls : Array Slot} (hP : va_P g.1 vwCl ((OC g o fo :: wF) ++ wM) H) (hD : va_D A ((OC g o fo :: wF) ++ wM)) (hS : va_S A s.heap H locs) {i : Nat} (hi : i + 1 < L) (hL : L ≤ 1024) (hl : lv_has ls 7 (LV b x h o i)) {cells slots : Nat} {Q : State → Prop} (hce : cells + 1 ≤ 601024) (hsl : slots + 6 ≤ 7293034)
    (kk : ∀ (fo : Nat → Int64) (wF wM : va_W) (th : Int32) (H : Heap) (locs : List Loc) (ls : Array Slot), IV g x h wF wM th → va_P g.1 vwCl ((OC g o fo :: wF) ++ wM) H → va_D A ((OC g o fo :: wF) ++ wM) → va_S A s.heap H locs → lv_has ls 7 (LV b x h o i) → W p l e room_1 s m #[Value.ref b] below meth c H locs (cells + 1) (slots + 6) Q (F0 m 945 ls [])) : W p l e room_1 s m #[Value.ref b] below meth c H locs cells slots Q (F0 m 919 ls []) := by
  obtain ⟨hx, hb, hml, hown, hts, hK, hA, hAb, hXk, hNc, hX, hbl, hfl⟩ := C
  obtain ⟨q, u, d, v, SL, k, K, np, mv, lm, ch, F, f, S, cnt, ll, a, tu, la, wi, fS, fL, fN, fK, fF, fW, fE, fC, fG, fO, D, rfl, rfl, L0⟩ := hI
  have L9 := L0
  obtain ⟨hSL, hF, hk, hp, hf, hc, hll, hM, hfS, hfF, hKK, hW, hG⟩ := L9
  have hl : lv_has ls 7 [(0, .ref b), (1, .ref x), (2, .ref h), (3, .ref o), (4, .int (nI i))] := hl
  refine lv_aload_n hx hb dL_law_919 rfl (lv_at hl 1 rfl) ?_
  refine call_iV (As := []) (rest := []) (wr := OC g o fo :: (MW g h a (nI (rwL SL)) (nI cnt) (nI ll) (nI np) tu la wi (nI (rwL F)) th fS fL fN fK fF fW fE fC fG fO)) ⟨hx, hb, hml, hown, hts⟩ (c_X4_waysToPlay l g x q u d v SL k K np mv lm ch F f S cnt ll hSL hF hk hp hf hc hll) (cwV 0 hts gT_X4_waysToPlay rfl rfl rfl (by decide +kernel) ⟨Nat.le_of_ble_eq_true rfl, Nat.le_of_ble_eq_true rfl⟩) hP hK hD hS hA [1, 2, 3, 4, 5] (0 :: [6, 7, 8, 9, 10, 11, 12, 13, 14, 15, 16]) rfl rfl (by decide) (by decide) (by decide) 0 rfl rfl rfl rfl hl.1 rfl (Nat.le_of_ble_eq_true rfl) dL_law_920 ⟨Nat.le_of_succ_le hce, by show slots + 0 ≤ 7293034; omega⟩ (fun r1 w H locs h1 hP hD hS => ?_)
  obtain ⟨rfl, h1⟩ := h1
  refine lv_aload_n hx hb dL_law_923 rfl (lv_at hl 2 rfl) ?_
  refine call_iV (As := []) (rest := [.int r1]) (wr := OC g o fo :: (FW g x (lN SL) q u k (nI np) mv lm ch (lN F) d v f (nI cnt) (nI ll))) ⟨hx, hb, hml, hown, hts⟩ (c_X5_waysToPlay l g h a SL cnt ll np tu la wi F th fS fL fN fK fF fW fE fC fG fO D hM hc hSL hfS hF hfF hll hp) (cwV 0 hts gT_X5_waysToPlay rfl rfl rfl (by decide +kernel) ⟨Nat.le_of_ble_eq_true rfl, Nat.le_of_ble_eq_true rfl⟩) hP hK hD hS hA [1, 2, 3, 4, 5, 6, 7, 8, 9, 10, 11] [0, 12, 13, 14, 15, 16] rfl rfl (by decide) (by decide) (by decide) 0 rfl rfl rfl rfl hl.1 rfl (Nat.le_of_ble_eq_true rfl) dL_law_924 ⟨Nat.le_of_succ_le hce, by show slots + 0 ≤ 7293034; omega⟩ (fun r2 w2 H locs h2 hP hD hS => ?_)
  obtain ⟨th9, hI9, e9⟩ := o_waysToPlay L0 ⟨rfl, h1⟩ h2
  refine lv_icmp_eq (tgt := 945) hx hb dL_law_927 (by decide) (fun _ => ?_) (fun c9 => absurd e9 c9)
  exact W.widen (k := cells + 1) (n := slots + 6) (by omega) (by omega) (kk fo _ w2 th9 H locs ls hI9 hP hD hS hl)
set_option maxHeartbeats 4000000 in
set_option maxRecDepth 100000 in
theorem op_waysToWin {p : Program} {l : Launch} {e : Env} {s : State} {m : MethodId} {below : List Frame} {meth : Method} {c : Code} {b L : Nat} {xs : Nat → Int32} {g : GG} {A : Nat → Prop} (C : LC p l s m c b L xs g A) {x h o : Nat} {wF wM : va_W} {th : Int32} {fo : Nat → Int64} (hI : IV g x h wF wM th) {H : Heap} {locs : List Loc} {ls : Array Slot} (hP : va_P g.1 vwCl ((OC g o fo :: wF) ++ wM) H) (hD : va_D A ((OC g o fo :: wF) ++ wM)) (hS : va_S A s.heap H locs) {i : Nat} (hi : i + 1 < L) (hL : L ≤ 1024) (hl : lv_has ls 7 (LV b x h o i)) {cells slots : Nat} {Q : State → Prop} (hce : cells + 1 ≤ 601024) (hsl : slots + 6 ≤ 7293034)
    (kk : ∀ (fo : Nat → Int64) (wF wM : va_W) (th : Int32) (H : Heap) (locs : List Loc) (ls : Array Slot), IV g x h wF wM th → va_P g.1 vwCl ((OC g o fo :: wF) ++ wM) H → va_D A ((OC g o fo :: wF) ++ wM) → va_S A s.heap H locs → lv_has ls 7 (LV b x h o i) → W p l e room_1 s m #[Value.ref b] below meth c H locs (cells + 1) (slots + 6) Q (F0 m 945 ls [])) : W p l e room_1 s m #[Value.ref b] below meth c H locs cells slots Q (F0 m 932 ls []) := by
  obtain ⟨hx, hb, hml, hown, hts, hK, hA, hAb, hXk, hNc, hX, hbl, hfl⟩ := C
  obtain ⟨q, u, d, v, SL, k, K, np, mv, lm, ch, F, f, S, cnt, ll, a, tu, la, wi, fS, fL, fN, fK, fF, fW, fE, fC, fG, fO, D, rfl, rfl, L0⟩ := hI
  have L9 := L0
  obtain ⟨hSL, hF, hk, hp, hf, hc, hll, hM, hfS, hfF, hKK, hW, hG⟩ := L9
  have hl : lv_has ls 7 [(0, .ref b), (1, .ref x), (2, .ref h), (3, .ref o), (4, .int (nI i))] := hl
  refine lv_aload_n hx hb dL_law_932 rfl (lv_at hl 1 rfl) ?_
  refine call_iV (As := []) (rest := []) (wr := OC g o fo :: (MW g h a (nI (rwL SL)) (nI cnt) (nI ll) (nI np) tu la wi (nI (rwL F)) th fS fL fN fK fF fW fE fC fG fO)) ⟨hx, hb, hml, hown, hts⟩ (c_X4_waysToWin l g x q u d v SL k K np mv lm ch F f S cnt ll hSL hF hk hp hf hc hll) (cwV 0 hts gT_X4_waysToWin rfl rfl rfl (by decide +kernel) ⟨Nat.le_of_ble_eq_true rfl, Nat.le_of_ble_eq_true rfl⟩) hP hK hD hS hA [1, 2, 3, 4, 5] (0 :: [6, 7, 8, 9, 10, 11, 12, 13, 14, 15, 16]) rfl rfl (by decide) (by decide) (by decide) 0 rfl rfl rfl rfl hl.1 rfl (Nat.le_of_ble_eq_true rfl) dL_law_933 ⟨Nat.le_of_succ_le hce, by show slots + 0 ≤ 7293034; omega⟩ (fun r1 w H locs h1 hP hD hS => ?_)
  obtain ⟨rfl, h1⟩ := h1
  refine lv_aload_n hx hb dL_law_936 rfl (lv_at hl 2 rfl) ?_
  refine call_iV (As := []) (rest := [.int r1]) (wr := OC g o fo :: (FW g x (lN SL) q u k (nI np) mv lm ch (lN F) d v f (nI cnt) (nI ll))) ⟨hx, hb, hml, hown, hts⟩ (c_X5_waysToWin l g h a SL cnt ll np tu la wi F th fS fL fN fK fF fW fE fC fG fO D hM hc hSL hfS hF hfF hll hp) (cwV 0 hts gT_X5_waysToWin rfl rfl rfl (by decide +kernel) ⟨Nat.le_of_ble_eq_true rfl, Nat.le_of_ble_eq_true rfl⟩) hP hK hD hS hA [1, 2, 3, 4, 5, 6, 7, 8, 9, 10, 11] [0, 12, 13, 14, 15, 16] rfl rfl (by decide) (by decide) (by decide) 0 rfl rfl rfl rfl hl.1 rfl (Nat.le_of_ble_eq_true rfl) dL_law_937 ⟨Nat.le_of_succ_le hce, by show slots + 0 ≤ 7293034; omega⟩ (fun r2 w2 H locs h2 hP hD hS => ?_)
  obtain ⟨th9, hI9, e9⟩ := o_waysToWin L0 ⟨rfl, h1⟩ h2
  refine lv_icmp_eq (tgt := 945) hx hb dL_law_940 (by decide) (fun _ => ?_) (fun c9 => absurd e9 c9)
  exact W.widen (k := cells + 1) (n := slots + 6) (by omega) (by omega) (kk fo _ w2 th9 H locs ls hI9 hP hD hS hl)
