section ALIKE
abbrev rm_L_areAlike : Room := { frames := 60, cells := 80, slots := 480, locals := 3000 }
set_option maxHeartbeats 8000000 in
set_option maxRecDepth 100000 in
theorem c_L_areAlike (l : Launch) (hl0 : l.flags = flags0) (g : GG) (m x y : Nat) (wa wb : va_W) (hI0 : AB g m x y wa wb) : Yc l yL_areAlike wsL_areAlike rm_L_areAlike g [.ref x, .ref y, .int (nI m)] (wa ++ wb) 80 480 (fun r w => w = wa ++ wb ∧ r = nI 1) := by
  obtain ⟨q, u, d, v, q', u', d', v', SL, SL', k, k', K, np, mv, lm, ch, F, F', f, f', S, S', cnt, ll, rfl, rfl, L⟩ := hI0
  obtain ⟨hSL, hF, hk, hk2, hp, hf, hf2, hc, hll, hW, hI, h2l, hG, hm⟩ := L
  have hF10 := hF.1.1
  have hSL10 := hSL.1.1
  have hFl := hF.2.2.1
  have hSLl := hSL.2.2.1
  refine Yc.ofZ (cc := cL_areAlike) (maxL := 6) (by decide) rfl (Nat.le_of_ble_eq_true rfl) ?_
  intro p e s m0 args below meth c A Z hx hb hml hts hown hK hA hXk hNc hret H locs ls hP hD hS hl
  have hl : lv_has ls 6 [(0, .ref x), (1, .ref y), (2, .int (nI m))] := hl
  refine lv_aload_n hx hb dL_areAlike_0 rfl (lv_at hl 0 rfl) ?_
  refine call_iV (As := []) (rest := []) (wr := (FW g y (lN SL') q' u' k' (nI np) mv lm ch (lN F') d' v' f' (nI cnt) (nI ll))) ⟨hx, hb, hml, hown, hts⟩ (c_X4_words l g x q u d v SL k K np mv lm ch F f S cnt ll hSL.1 hF.1 hk hp hf hc hll) (cwV 0 hts gL_areAlike_X4_words rfl rfl rfl (by decide +kernel) ⟨Nat.le_of_ble_eq_true rfl, Nat.le_of_ble_eq_true rfl⟩) hP hK hD hS hA [0, 1, 2, 3, 4] [5, 6, 7, 8, 9] rfl rfl (by decide) (by decide) (by decide) 0 rfl rfl rfl rfl hl.1 rfl (Nat.le_of_ble_eq_true rfl) dL_areAlike_1 ⟨Nat.le_of_ble_eq_true rfl, Nat.le_of_ble_eq_true rfl⟩ (fun r0 w H locs h_r0 hP hD hS => ?_)
  obtain ⟨rfl, h_r0⟩ := h_r0
  have hP : va_P g.1 vwCl ((FW g x (lN SL) q u k (nI np) mv lm ch (lN F) d v f (nI cnt) (nI ll)) ++ (FW g y (lN SL') q' u' k' (nI np) mv lm ch (lN F') d' v' f' (nI cnt) (nI ll))) H := hP.sub [5, 6, 7, 8, 9, 0, 1, 2, 3, 4] rfl
  have hD : va_D A ((FW g x (lN SL) q u k (nI np) mv lm ch (lN F) d v f (nI cnt) (nI ll)) ++ (FW g y (lN SL') q' u' k' (nI np) mv lm ch (lN F') d' v' f' (nI cnt) (nI ll))) := hD.sub [5, 6, 7, 8, 9, 0, 1, 2, 3, 4] (by decide) rfl
  refine lv_aload_n hx hb dL_areAlike_4 rfl (lv_at hl 1 rfl) ?_
  refine call_iV (As := []) (rest := [.int r0]) (wr := (FW g x (lN SL) q u k (nI np) mv lm ch (lN F) d v f (nI cnt) (nI ll))) ⟨hx, hb, hml, hown, hts⟩ (c_X4_words l g y q' u' d' v' SL' k' K np mv lm ch F' f' S' cnt ll hSL.2.1 hF.2.1 hk2 hp hf2 hc hll) (cwV 0 hts gL_areAlike_X4_words rfl rfl rfl (by decide +kernel) ⟨Nat.le_of_ble_eq_true rfl, Nat.le_of_ble_eq_true rfl⟩) hP hK hD hS hA [5, 6, 7, 8, 9] [0, 1, 2, 3, 4] rfl rfl (by decide) (by decide) (by decide) 0 rfl rfl rfl rfl hl.1 rfl (Nat.le_of_ble_eq_true rfl) dL_areAlike_5 ⟨Nat.le_of_ble_eq_true rfl, Nat.le_of_ble_eq_true rfl⟩ (fun r1 w H locs h_r1 hP hD hS => ?_)
  obtain ⟨rfl, h_r1⟩ := h_r1
  refine lv_icmp_ne (tgt := 103) hx hb dL_areAlike_8 (by decide) (fun c9 => absurd (h_r0.trans h_r1.symm) c9) (fun _ => ?_)
  refine lv_aload_n hx hb dL_areAlike_11 rfl (lv_at hl 0 rfl) ?_
  refine call_iV (As := []) (rest := []) (wr := (FW g y (lN SL') q' u' k' (nI np) mv lm ch (lN F') d' v' f' (nI cnt) (nI ll))) ⟨hx, hb, hml, hown, hts⟩ (c_X4_beginnings l g x q u d v SL k K np mv lm ch F f S cnt ll hSL.1 hF.1 hk hp hf hc hll) (cwV 0 hts gL_areAlike_X4_beginnings rfl rfl rfl (by decide +kernel) ⟨Nat.le_of_ble_eq_true rfl, Nat.le_of_ble_eq_true rfl⟩) hP hK hD hS hA [0, 1, 2, 3, 4] [5, 6, 7, 8, 9] rfl rfl (by decide) (by decide) (by decide) 0 rfl rfl rfl rfl hl.1 rfl (Nat.le_of_ble_eq_true rfl) dL_areAlike_12 ⟨Nat.le_of_ble_eq_true rfl, Nat.le_of_ble_eq_true rfl⟩ (fun r2 w H locs h_r2 hP hD hS => ?_)
  obtain ⟨rfl, h_r2⟩ := h_r2
  have hP : va_P g.1 vwCl ((FW g x (lN SL) q u k (nI np) mv lm ch (lN F) d v f (nI cnt) (nI ll)) ++ (FW g y (lN SL') q' u' k' (nI np) mv lm ch (lN F') d' v' f' (nI cnt) (nI ll))) H := hP.sub [5, 6, 7, 8, 9, 0, 1, 2, 3, 4] rfl
  have hD : va_D A ((FW g x (lN SL) q u k (nI np) mv lm ch (lN F) d v f (nI cnt) (nI ll)) ++ (FW g y (lN SL') q' u' k' (nI np) mv lm ch (lN F') d' v' f' (nI cnt) (nI ll))) := hD.sub [5, 6, 7, 8, 9, 0, 1, 2, 3, 4] (by decide) rfl
  refine lv_aload_n hx hb dL_areAlike_15 rfl (lv_at hl 1 rfl) ?_
  refine call_iV (As := []) (rest := [.int r2]) (wr := (FW g x (lN SL) q u k (nI np) mv lm ch (lN F) d v f (nI cnt) (nI ll))) ⟨hx, hb, hml, hown, hts⟩ (c_X4_beginnings l g y q' u' d' v' SL' k' K np mv lm ch F' f' S' cnt ll hSL.2.1 hF.2.1 hk2 hp hf2 hc hll) (cwV 0 hts gL_areAlike_X4_beginnings rfl rfl rfl (by decide +kernel) ⟨Nat.le_of_ble_eq_true rfl, Nat.le_of_ble_eq_true rfl⟩) hP hK hD hS hA [5, 6, 7, 8, 9] [0, 1, 2, 3, 4] rfl rfl (by decide) (by decide) (by decide) 0 rfl rfl rfl rfl hl.1 rfl (Nat.le_of_ble_eq_true rfl) dL_areAlike_16 ⟨Nat.le_of_ble_eq_true rfl, Nat.le_of_ble_eq_true rfl⟩ (fun r3 w H locs h_r3 hP hD hS => ?_)
  obtain ⟨rfl, h_r3⟩ := h_r3
  refine lv_icmp_ne (tgt := 103) hx hb dL_areAlike_19 (by decide) (fun c9 => absurd (h_r2.trans ((congrArg nI hW.bgn).trans h_r3.symm)) c9) (fun _ => ?_)
  refine lv_aload_n hx hb dL_areAlike_22 rfl (lv_at hl 0 rfl) ?_
  refine call_iV (As := []) (rest := []) (wr := (FW g y (lN SL') q' u' k' (nI np) mv lm ch (lN F') d' v' f' (nI cnt) (nI ll))) ⟨hx, hb, hml, hown, hts⟩ (c_X4_isWord l g x q u d v SL k K np mv lm ch F f S cnt ll hSL.1 hF.1 hk hp hf hc hll) (cwV 0 hts gL_areAlike_X4_isWord rfl rfl rfl (by decide +kernel) ⟨Nat.le_of_ble_eq_true rfl, Nat.le_of_ble_eq_true rfl⟩) hP hK hD hS hA [0, 1, 2, 3, 4] [5, 6, 7, 8, 9] rfl rfl (by decide) (by decide) (by decide) 0 rfl rfl rfl rfl hl.1 rfl (Nat.le_of_ble_eq_true rfl) dL_areAlike_23 ⟨Nat.le_of_ble_eq_true rfl, Nat.le_of_ble_eq_true rfl⟩ (fun r4 w H locs h_r4 hP hD hS => ?_)
  obtain ⟨rfl, h_r4⟩ := h_r4
  have hP : va_P g.1 vwCl ((FW g x (lN SL) q u k (nI np) mv lm ch (lN F) d v f (nI cnt) (nI ll)) ++ (FW g y (lN SL') q' u' k' (nI np) mv lm ch (lN F') d' v' f' (nI cnt) (nI ll))) H := hP.sub [5, 6, 7, 8, 9, 0, 1, 2, 3, 4] rfl
  have hD : va_D A ((FW g x (lN SL) q u k (nI np) mv lm ch (lN F) d v f (nI cnt) (nI ll)) ++ (FW g y (lN SL') q' u' k' (nI np) mv lm ch (lN F') d' v' f' (nI cnt) (nI ll))) := hD.sub [5, 6, 7, 8, 9, 0, 1, 2, 3, 4] (by decide) rfl
  refine lv_aload_n hx hb dL_areAlike_26 rfl (lv_at hl 1 rfl) ?_
  refine call_iV (As := []) (rest := [.int r4]) (wr := (FW g x (lN SL) q u k (nI np) mv lm ch (lN F) d v f (nI cnt) (nI ll))) ⟨hx, hb, hml, hown, hts⟩ (c_X4_isWord l g y q' u' d' v' SL' k' K np mv lm ch F' f' S' cnt ll hSL.2.1 hF.2.1 hk2 hp hf2 hc hll) (cwV 0 hts gL_areAlike_X4_isWord rfl rfl rfl (by decide +kernel) ⟨Nat.le_of_ble_eq_true rfl, Nat.le_of_ble_eq_true rfl⟩) hP hK hD hS hA [5, 6, 7, 8, 9] [0, 1, 2, 3, 4] rfl rfl (by decide) (by decide) (by decide) 0 rfl rfl rfl rfl hl.1 rfl (Nat.le_of_ble_eq_true rfl) dL_areAlike_27 ⟨Nat.le_of_ble_eq_true rfl, Nat.le_of_ble_eq_true rfl⟩ (fun r5 w H locs h_r5 hP hD hS => ?_)
  obtain ⟨rfl, h_r5⟩ := h_r5
  refine lv_icmp_ne (tgt := 103) hx hb dL_areAlike_30 (by decide) (fun c9 => absurd (Bv.eq h_r4 h_r5 (hW.ins hSL)) c9) (fun _ => ?_)
  refine lv_aload_n hx hb dL_areAlike_33 rfl (lv_at hl 0 rfl) ?_
  refine call_iV (As := []) (rest := []) (wr := (FW g y (lN SL') q' u' k' (nI np) mv lm ch (lN F') d' v' f' (nI cnt) (nI ll))) ⟨hx, hb, hml, hown, hts⟩ (c_X4_wordsFromSlip l g x q u d v SL k K np mv lm ch F f S cnt ll hSL.1 hF.1 hk hp hf hc hll) (cwV 0 hts gL_areAlike_X4_wordsFromSlip rfl rfl rfl (by decide +kernel) ⟨Nat.le_of_ble_eq_true rfl, Nat.le_of_ble_eq_true rfl⟩) hP hK hD hS hA [0, 1, 2, 3, 4] [5, 6, 7, 8, 9] rfl rfl (by decide) (by decide) (by decide) 0 rfl rfl rfl rfl hl.1 rfl (Nat.le_of_ble_eq_true rfl) dL_areAlike_34 ⟨Nat.le_of_ble_eq_true rfl, Nat.le_of_ble_eq_true rfl⟩ (fun r6 w H locs h_r6 hP hD hS => ?_)
  obtain ⟨rfl, h_r6⟩ := h_r6
  have hP : va_P g.1 vwCl ((FW g x (lN SL) q u k (nI np) mv lm ch (lN F) d v f (nI cnt) (nI ll)) ++ (FW g y (lN SL') q' u' k' (nI np) mv lm ch (lN F') d' v' f' (nI cnt) (nI ll))) H := hP.sub [5, 6, 7, 8, 9, 0, 1, 2, 3, 4] rfl
  have hD : va_D A ((FW g x (lN SL) q u k (nI np) mv lm ch (lN F) d v f (nI cnt) (nI ll)) ++ (FW g y (lN SL') q' u' k' (nI np) mv lm ch (lN F') d' v' f' (nI cnt) (nI ll))) := hD.sub [5, 6, 7, 8, 9, 0, 1, 2, 3, 4] (by decide) rfl
  refine lv_aload_n hx hb dL_areAlike_37 rfl (lv_at hl 1 rfl) ?_
  refine call_iV (As := []) (rest := [.int r6]) (wr := (FW g x (lN SL) q u k (nI np) mv lm ch (lN F) d v f (nI cnt) (nI ll))) ⟨hx, hb, hml, hown, hts⟩ (c_X4_wordsFromSlip l g y q' u' d' v' SL' k' K np mv lm ch F' f' S' cnt ll hSL.2.1 hF.2.1 hk2 hp hf2 hc hll) (cwV 0 hts gL_areAlike_X4_wordsFromSlip rfl rfl rfl (by decide +kernel) ⟨Nat.le_of_ble_eq_true rfl, Nat.le_of_ble_eq_true rfl⟩) hP hK hD hS hA [5, 6, 7, 8, 9] [0, 1, 2, 3, 4] rfl rfl (by decide) (by decide) (by decide) 0 rfl rfl rfl rfl hl.1 rfl (Nat.le_of_ble_eq_true rfl) dL_areAlike_38 ⟨Nat.le_of_ble_eq_true rfl, Nat.le_of_ble_eq_true rfl⟩ (fun r7 w H locs h_r7 hP hD hS => ?_)
  obtain ⟨rfl, h_r7⟩ := h_r7
  refine lv_icmp_ne (tgt := 103) hx hb dL_areAlike_41 (by decide) (fun c9 => absurd (h_r6.trans ((congrArg nI (hW.fromSlip hSL)).trans h_r7.symm)) c9) (fun _ => ?_)
  refine lv_aload_n hx hb dL_areAlike_44 rfl (lv_at hl 0 rfl) ?_
  refine call_iV (As := []) (rest := []) (wr := (FW g y (lN SL') q' u' k' (nI np) mv lm ch (lN F') d' v' f' (nI cnt) (nI ll))) ⟨hx, hb, hml, hown, hts⟩ (c_X4_turn l g x q u d v SL k K np mv lm ch F f S cnt ll hSL.1 hF.1 hk hp hf hc hll) (cwV 0 hts gL_areAlike_X4_turn rfl rfl rfl (by decide +kernel) ⟨Nat.le_of_ble_eq_true rfl, Nat.le_of_ble_eq_true rfl⟩) hP hK hD hS hA [0, 1, 2, 3, 4] [5, 6, 7, 8, 9] rfl rfl (by decide) (by decide) (by decide) 0 rfl rfl rfl rfl hl.1 rfl (Nat.le_of_ble_eq_true rfl) dL_areAlike_45 ⟨Nat.le_of_ble_eq_true rfl, Nat.le_of_ble_eq_true rfl⟩ (fun r8 w H locs h_r8 hP hD hS => ?_)
  obtain ⟨rfl, h_r8⟩ := h_r8
  have hP : va_P g.1 vwCl ((FW g x (lN SL) q u k (nI np) mv lm ch (lN F) d v f (nI cnt) (nI ll)) ++ (FW g y (lN SL') q' u' k' (nI np) mv lm ch (lN F') d' v' f' (nI cnt) (nI ll))) H := hP.sub [5, 6, 7, 8, 9, 0, 1, 2, 3, 4] rfl
  have hD : va_D A ((FW g x (lN SL) q u k (nI np) mv lm ch (lN F) d v f (nI cnt) (nI ll)) ++ (FW g y (lN SL') q' u' k' (nI np) mv lm ch (lN F') d' v' f' (nI cnt) (nI ll))) := hD.sub [5, 6, 7, 8, 9, 0, 1, 2, 3, 4] (by decide) rfl
  refine lv_aload_n hx hb dL_areAlike_48 rfl (lv_at hl 1 rfl) ?_
  refine call_iV (As := []) (rest := [.int r8]) (wr := (FW g x (lN SL) q u k (nI np) mv lm ch (lN F) d v f (nI cnt) (nI ll))) ⟨hx, hb, hml, hown, hts⟩ (c_X4_turn l g y q' u' d' v' SL' k' K np mv lm ch F' f' S' cnt ll hSL.2.1 hF.2.1 hk2 hp hf2 hc hll) (cwV 0 hts gL_areAlike_X4_turn rfl rfl rfl (by decide +kernel) ⟨Nat.le_of_ble_eq_true rfl, Nat.le_of_ble_eq_true rfl⟩) hP hK hD hS hA [5, 6, 7, 8, 9] [0, 1, 2, 3, 4] rfl rfl (by decide) (by decide) (by decide) 0 rfl rfl rfl rfl hl.1 rfl (Nat.le_of_ble_eq_true rfl) dL_areAlike_49 ⟨Nat.le_of_ble_eq_true rfl, Nat.le_of_ble_eq_true rfl⟩ (fun r9 w H locs h_r9 hP hD hS => ?_)
  obtain ⟨rfl, h_r9⟩ := h_r9
  refine lv_icmp_ne (tgt := 103) hx hb dL_areAlike_52 (by decide) (fun c9 => absurd (h_r8.trans h_r9.symm) c9) (fun _ => ?_)
  refine lv_aload_n hx hb dL_areAlike_55 rfl (lv_at hl 0 rfl) ?_
  refine call_iV (As := []) (rest := []) (wr := (FW g y (lN SL') q' u' k' (nI np) mv lm ch (lN F') d' v' f' (nI cnt) (nI ll))) ⟨hx, hb, hml, hown, hts⟩ (c_X4_winner l g x q u d v SL k K np mv lm ch F f S cnt ll hSL.1 hF.1 hk hp hf hc hll) (cwV 0 hts gL_areAlike_X4_winner rfl rfl rfl (by decide +kernel) ⟨Nat.le_of_ble_eq_true rfl, Nat.le_of_ble_eq_true rfl⟩) hP hK hD hS hA [0, 1, 2, 3, 4] [5, 6, 7, 8, 9] rfl rfl (by decide) (by decide) (by decide) 0 rfl rfl rfl rfl hl.1 rfl (Nat.le_of_ble_eq_true rfl) dL_areAlike_56 ⟨Nat.le_of_ble_eq_true rfl, Nat.le_of_ble_eq_true rfl⟩ (fun r10 w H locs h_r10 hP hD hS => ?_)
  obtain ⟨rfl, h_r10⟩ := h_r10
  have hP : va_P g.1 vwCl ((FW g x (lN SL) q u k (nI np) mv lm ch (lN F) d v f (nI cnt) (nI ll)) ++ (FW g y (lN SL') q' u' k' (nI np) mv lm ch (lN F') d' v' f' (nI cnt) (nI ll))) H := hP.sub [5, 6, 7, 8, 9, 0, 1, 2, 3, 4] rfl
  have hD : va_D A ((FW g x (lN SL) q u k (nI np) mv lm ch (lN F) d v f (nI cnt) (nI ll)) ++ (FW g y (lN SL') q' u' k' (nI np) mv lm ch (lN F') d' v' f' (nI cnt) (nI ll))) := hD.sub [5, 6, 7, 8, 9, 0, 1, 2, 3, 4] (by decide) rfl
  refine lv_aload_n hx hb dL_areAlike_59 rfl (lv_at hl 1 rfl) ?_
  refine call_iV (As := []) (rest := [.int r10]) (wr := (FW g x (lN SL) q u k (nI np) mv lm ch (lN F) d v f (nI cnt) (nI ll))) ⟨hx, hb, hml, hown, hts⟩ (c_X4_winner l g y q' u' d' v' SL' k' K np mv lm ch F' f' S' cnt ll hSL.2.1 hF.2.1 hk2 hp hf2 hc hll) (cwV 0 hts gL_areAlike_X4_winner rfl rfl rfl (by decide +kernel) ⟨Nat.le_of_ble_eq_true rfl, Nat.le_of_ble_eq_true rfl⟩) hP hK hD hS hA [5, 6, 7, 8, 9] [0, 1, 2, 3, 4] rfl rfl (by decide) (by decide) (by decide) 0 rfl rfl rfl rfl hl.1 rfl (Nat.le_of_ble_eq_true rfl) dL_areAlike_60 ⟨Nat.le_of_ble_eq_true rfl, Nat.le_of_ble_eq_true rfl⟩ (fun r11 w H locs h_r11 hP hD hS => ?_)
  obtain ⟨rfl, h_r11⟩ := h_r11
  refine lv_icmp_ne (tgt := 103) hx hb dL_areAlike_63 (by decide) (fun c9 => absurd (h_r10.trans h_r11.symm) c9) (fun _ => ?_)
  refine lv_aload_n hx hb dL_areAlike_66 rfl (lv_at hl 0 rfl) ?_
  refine call_iV (As := []) (rest := []) (wr := (FW g y (lN SL') q' u' k' (nI np) mv lm ch (lN F') d' v' f' (nI cnt) (nI ll))) ⟨hx, hb, hml, hown, hts⟩ (c_X4_slipLength l g x q u d v SL k K np mv lm ch F f S cnt ll hSL.1 hF.1 hk hp hf hc hll) (cwV 0 hts gL_areAlike_X4_slipLength rfl rfl rfl (by decide +kernel) ⟨Nat.le_of_ble_eq_true rfl, Nat.le_of_ble_eq_true rfl⟩) hP hK hD hS hA [0, 1, 2, 3, 4] [5, 6, 7, 8, 9] rfl rfl (by decide) (by decide) (by decide) 0 rfl rfl rfl rfl hl.1 rfl (Nat.le_of_ble_eq_true rfl) dL_areAlike_67 ⟨Nat.le_of_ble_eq_true rfl, Nat.le_of_ble_eq_true rfl⟩ (fun r12 w H locs h_r12 hP hD hS => ?_)
  obtain ⟨rfl, h_r12⟩ := h_r12
  have hP : va_P g.1 vwCl ((FW g x (lN SL) q u k (nI np) mv lm ch (lN F) d v f (nI cnt) (nI ll)) ++ (FW g y (lN SL') q' u' k' (nI np) mv lm ch (lN F') d' v' f' (nI cnt) (nI ll))) H := hP.sub [5, 6, 7, 8, 9, 0, 1, 2, 3, 4] rfl
  have hD : va_D A ((FW g x (lN SL) q u k (nI np) mv lm ch (lN F) d v f (nI cnt) (nI ll)) ++ (FW g y (lN SL') q' u' k' (nI np) mv lm ch (lN F') d' v' f' (nI cnt) (nI ll))) := hD.sub [5, 6, 7, 8, 9, 0, 1, 2, 3, 4] (by decide) rfl
  refine lv_aload_n hx hb dL_areAlike_70 rfl (lv_at hl 1 rfl) ?_
  refine call_iV (As := []) (rest := [.int r12]) (wr := (FW g x (lN SL) q u k (nI np) mv lm ch (lN F) d v f (nI cnt) (nI ll))) ⟨hx, hb, hml, hown, hts⟩ (c_X4_slipLength l g y q' u' d' v' SL' k' K np mv lm ch F' f' S' cnt ll hSL.2.1 hF.2.1 hk2 hp hf2 hc hll) (cwV 0 hts gL_areAlike_X4_slipLength rfl rfl rfl (by decide +kernel) ⟨Nat.le_of_ble_eq_true rfl, Nat.le_of_ble_eq_true rfl⟩) hP hK hD hS hA [5, 6, 7, 8, 9] [0, 1, 2, 3, 4] rfl rfl (by decide) (by decide) (by decide) 0 rfl rfl rfl rfl hl.1 rfl (Nat.le_of_ble_eq_true rfl) dL_areAlike_71 ⟨Nat.le_of_ble_eq_true rfl, Nat.le_of_ble_eq_true rfl⟩ (fun r13 w H locs h_r13 hP hD hS => ?_)
  obtain ⟨rfl, h_r13⟩ := h_r13
  refine lv_icmp_ne (tgt := 103) hx hb dL_areAlike_74 (by decide) (fun c9 => absurd (h_r12.trans ((congrArg nI hSL.2.2.1.symm).trans h_r13.symm)) c9) (fun _ => ?_)
  refine lv_aload_n hx hb dL_areAlike_77 rfl (lv_at hl 0 rfl) ?_
  refine call_iV (As := []) (rest := []) (wr := (FW g y (lN SL') q' u' k' (nI np) mv lm ch (lN F') d' v' f' (nI cnt) (nI ll))) ⟨hx, hb, hml, hown, hts⟩ (c_X4_fragmentLength l g x q u d v SL k K np mv lm ch F f S cnt ll hSL.1 hF.1 hk hp hf hc hll) (cwV 0 hts gL_areAlike_X4_fragmentLength rfl rfl rfl (by decide +kernel) ⟨Nat.le_of_ble_eq_true rfl, Nat.le_of_ble_eq_true rfl⟩) hP hK hD hS hA [0, 1, 2, 3, 4] [5, 6, 7, 8, 9] rfl rfl (by decide) (by decide) (by decide) 0 rfl rfl rfl rfl hl.1 rfl (Nat.le_of_ble_eq_true rfl) dL_areAlike_78 ⟨Nat.le_of_ble_eq_true rfl, Nat.le_of_ble_eq_true rfl⟩ (fun r14 w H locs h_r14 hP hD hS => ?_)
  obtain ⟨rfl, h_r14⟩ := h_r14
  have hP : va_P g.1 vwCl ((FW g x (lN SL) q u k (nI np) mv lm ch (lN F) d v f (nI cnt) (nI ll)) ++ (FW g y (lN SL') q' u' k' (nI np) mv lm ch (lN F') d' v' f' (nI cnt) (nI ll))) H := hP.sub [5, 6, 7, 8, 9, 0, 1, 2, 3, 4] rfl
  have hD : va_D A ((FW g x (lN SL) q u k (nI np) mv lm ch (lN F) d v f (nI cnt) (nI ll)) ++ (FW g y (lN SL') q' u' k' (nI np) mv lm ch (lN F') d' v' f' (nI cnt) (nI ll))) := hD.sub [5, 6, 7, 8, 9, 0, 1, 2, 3, 4] (by decide) rfl
  refine lv_aload_n hx hb dL_areAlike_81 rfl (lv_at hl 1 rfl) ?_
  refine call_iV (As := []) (rest := [.int r14]) (wr := (FW g x (lN SL) q u k (nI np) mv lm ch (lN F) d v f (nI cnt) (nI ll))) ⟨hx, hb, hml, hown, hts⟩ (c_X4_fragmentLength l g y q' u' d' v' SL' k' K np mv lm ch F' f' S' cnt ll hSL.2.1 hF.2.1 hk2 hp hf2 hc hll) (cwV 0 hts gL_areAlike_X4_fragmentLength rfl rfl rfl (by decide +kernel) ⟨Nat.le_of_ble_eq_true rfl, Nat.le_of_ble_eq_true rfl⟩) hP hK hD hS hA [5, 6, 7, 8, 9] [0, 1, 2, 3, 4] rfl rfl (by decide) (by decide) (by decide) 0 rfl rfl rfl rfl hl.1 rfl (Nat.le_of_ble_eq_true rfl) dL_areAlike_82 ⟨Nat.le_of_ble_eq_true rfl, Nat.le_of_ble_eq_true rfl⟩ (fun r15 w H locs h_r15 hP hD hS => ?_)
  obtain ⟨rfl, h_r15⟩ := h_r15
  refine lv_icmp_ne (tgt := 103) hx hb dL_areAlike_85 (by decide) (fun c9 => absurd (h_r14.trans ((congrArg nI hF.2.2.1.symm).trans h_r15.symm)) c9) (fun _ => ?_)
  refine lv_aload_n hx hb dL_areAlike_88 rfl (lv_at hl 0 rfl) ?_
  refine call_iV (As := []) (rest := []) (wr := (FW g y (lN SL') q' u' k' (nI np) mv lm ch (lN F') d' v' f' (nI cnt) (nI ll))) ⟨hx, hb, hml, hown, hts⟩ (c_X4_players l g x q u d v SL k K np mv lm ch F f S cnt ll hSL.1 hF.1 hk hp hf hc hll) (cwV 0 hts gL_areAlike_X4_players rfl rfl rfl (by decide +kernel) ⟨Nat.le_of_ble_eq_true rfl, Nat.le_of_ble_eq_true rfl⟩) hP hK hD hS hA [0, 1, 2, 3, 4] [5, 6, 7, 8, 9] rfl rfl (by decide) (by decide) (by decide) 0 rfl rfl rfl rfl hl.1 rfl (Nat.le_of_ble_eq_true rfl) dL_areAlike_89 ⟨Nat.le_of_ble_eq_true rfl, Nat.le_of_ble_eq_true rfl⟩ (fun r16 w H locs h_r16 hP hD hS => ?_)
  obtain ⟨rfl, h_r16⟩ := h_r16
  have hP : va_P g.1 vwCl ((FW g x (lN SL) q u k (nI np) mv lm ch (lN F) d v f (nI cnt) (nI ll)) ++ (FW g y (lN SL') q' u' k' (nI np) mv lm ch (lN F') d' v' f' (nI cnt) (nI ll))) H := hP.sub [5, 6, 7, 8, 9, 0, 1, 2, 3, 4] rfl
  have hD : va_D A ((FW g x (lN SL) q u k (nI np) mv lm ch (lN F) d v f (nI cnt) (nI ll)) ++ (FW g y (lN SL') q' u' k' (nI np) mv lm ch (lN F') d' v' f' (nI cnt) (nI ll))) := hD.sub [5, 6, 7, 8, 9, 0, 1, 2, 3, 4] (by decide) rfl
  refine lv_aload_n hx hb dL_areAlike_92 rfl (lv_at hl 1 rfl) ?_
  refine call_iV (As := []) (rest := [.int r16]) (wr := (FW g x (lN SL) q u k (nI np) mv lm ch (lN F) d v f (nI cnt) (nI ll))) ⟨hx, hb, hml, hown, hts⟩ (c_X4_players l g y q' u' d' v' SL' k' K np mv lm ch F' f' S' cnt ll hSL.2.1 hF.2.1 hk2 hp hf2 hc hll) (cwV 0 hts gL_areAlike_X4_players rfl rfl rfl (by decide +kernel) ⟨Nat.le_of_ble_eq_true rfl, Nat.le_of_ble_eq_true rfl⟩) hP hK hD hS hA [5, 6, 7, 8, 9] [0, 1, 2, 3, 4] rfl rfl (by decide) (by decide) (by decide) 0 rfl rfl rfl rfl hl.1 rfl (Nat.le_of_ble_eq_true rfl) dL_areAlike_93 ⟨Nat.le_of_ble_eq_true rfl, Nat.le_of_ble_eq_true rfl⟩ (fun r17 w H locs h_r17 hP hD hS => ?_)
  obtain ⟨rfl, h_r17⟩ := h_r17
  refine lv_icmp_ne (tgt := 103) hx hb dL_areAlike_96 (by decide) (fun c9 => absurd (h_r16.trans h_r17.symm) c9) (fun _ => ?_)
  refine lv_iconst (v := nI 1) hx hb dL_areAlike_99 (by decide) ?_
  refine lv_goto (tgt := 104) hx hb dL_areAlike_100 (by decide) ?_
  refine lv_istore_n (lv' := [(3, .int (nI 1)), (0, .ref x), (1, .ref y), (2, .int (nI m))]) hx hb dL_areAlike_104 rfl hl (by decide) rfl (fun ls hl => ?_)
  refine lv_iload_n hx hb dL_areAlike_105 rfl (lv_at hl 0 rfl) ?_
  refine lv_if_eq (tgt := 208) hx hb dL_areAlike_106 (by decide) (fun c9 => absurd c9 (by decide)) (fun _ => ?_)
  refine lv_aload_n hx hb dL_areAlike_109 rfl (lv_at hl 2 rfl) ?_
  refine call_iV (As := []) (rest := []) (wr := (FW g x (lN SL) q u k (nI np) mv lm ch (lN F) d v f (nI cnt) (nI ll))) ⟨hx, hb, hml, hown, hts⟩ (c_X4_openLetters l g y q' u' d' v' SL' k' K np mv lm ch F' f' S' cnt ll hSL.2.1 hF.2.1 hk2 hp hf2 hc hll) (cwV 0 hts gL_areAlike_X4_openLetters rfl rfl rfl (by decide +kernel) ⟨Nat.le_of_ble_eq_true rfl, Nat.le_of_ble_eq_true rfl⟩) hP hK hD hS hA [5, 6, 7, 8, 9] [0, 1, 2, 3, 4] rfl rfl (by decide) (by decide) (by decide) 0 rfl rfl rfl rfl hl.1 rfl (Nat.le_of_ble_eq_true rfl) dL_areAlike_110 ⟨Nat.le_of_ble_eq_true rfl, Nat.le_of_ble_eq_true rfl⟩ (fun r18 w H locs h_r18 hP hD hS => ?_)
  obtain ⟨rfl, h_r18⟩ := h_r18
  refine lv_aload_n hx hb dL_areAlike_113 rfl (lv_at hl 1 rfl) ?_
  refine call_iV (As := []) (rest := [.int r18]) (wr := (FW g y (lN SL') q' u' k' (nI np) mv lm ch (lN F') d' v' f' (nI cnt) (nI ll))) ⟨hx, hb, hml, hown, hts⟩ (c_X4_openLetters l g x q u d v SL k K np mv lm ch F f S cnt ll hSL.1 hF.1 hk hp hf hc hll) (cwV 0 hts gL_areAlike_X4_openLetters rfl rfl rfl (by decide +kernel) ⟨Nat.le_of_ble_eq_true rfl, Nat.le_of_ble_eq_true rfl⟩) hP hK hD hS hA [0, 1, 2, 3, 4] [5, 6, 7, 8, 9] rfl rfl (by decide) (by decide) (by decide) 0 rfl rfl rfl rfl hl.1 rfl (Nat.le_of_ble_eq_true rfl) dL_areAlike_114 ⟨Nat.le_of_ble_eq_true rfl, Nat.le_of_ble_eq_true rfl⟩ (fun r19 w H locs h_r19 hP hD hS => ?_)
  obtain ⟨rfl, h_r19⟩ := h_r19
  have hP : va_P g.1 vwCl ((FW g x (lN SL) q u k (nI np) mv lm ch (lN F) d v f (nI cnt) (nI ll)) ++ (FW g y (lN SL') q' u' k' (nI np) mv lm ch (lN F') d' v' f' (nI cnt) (nI ll))) H := hP.sub [5, 6, 7, 8, 9, 0, 1, 2, 3, 4] rfl
  have hD : va_D A ((FW g x (lN SL) q u k (nI np) mv lm ch (lN F) d v f (nI cnt) (nI ll)) ++ (FW g y (lN SL') q' u' k' (nI np) mv lm ch (lN F') d' v' f' (nI cnt) (nI ll))) := hD.sub [5, 6, 7, 8, 9, 0, 1, 2, 3, 4] (by decide) rfl
  refine lv_iload_n hx hb dL_areAlike_117 rfl (lv_at hl 3 rfl) ?_
  refine lv_ishl hx hb dL_areAlike_118 ?_
  refine lv_icmp_ne (tgt := 208) hx hb dL_areAlike_119 (by decide) (fun c9 => absurd (by rw [h_r18, h_r19, hW.op hF, shl_I (hW.op16 hF) hm]) c9) (fun _ => ?_)
  refine lv_aload_n hx hb dL_areAlike_122 rfl (lv_at hl 2 rfl) ?_
  refine call_iV (As := []) (rest := []) (wr := (FW g x (lN SL) q u k (nI np) mv lm ch (lN F) d v f (nI cnt) (nI ll))) ⟨hx, hb, hml, hown, hts⟩ (c_X4_winningLetters l g y q' u' d' v' SL' k' K np mv lm ch F' f' S' cnt ll hSL.2.1 hF.2.1 hk2 hp hf2 hc hll) (cwV 0 hts gL_areAlike_X4_winningLetters rfl rfl rfl (by decide +kernel) ⟨Nat.le_of_ble_eq_true rfl, Nat.le_of_ble_eq_true rfl⟩) hP hK hD hS hA [5, 6, 7, 8, 9] [0, 1, 2, 3, 4] rfl rfl (by decide) (by decide) (by decide) 0 rfl rfl rfl rfl hl.1 rfl (Nat.le_of_ble_eq_true rfl) dL_areAlike_123 ⟨Nat.le_of_ble_eq_true rfl, Nat.le_of_ble_eq_true rfl⟩ (fun r20 w H locs h_r20 hP hD hS => ?_)
  obtain ⟨rfl, h_r20⟩ := h_r20
  refine lv_aload_n hx hb dL_areAlike_126 rfl (lv_at hl 1 rfl) ?_
  refine call_iV (As := []) (rest := [.int r20]) (wr := (FW g y (lN SL') q' u' k' (nI np) mv lm ch (lN F') d' v' f' (nI cnt) (nI ll))) ⟨hx, hb, hml, hown, hts⟩ (c_X4_winningLetters l g x q u d v SL k K np mv lm ch F f S cnt ll hSL.1 hF.1 hk hp hf hc hll) (cwV 0 hts gL_areAlike_X4_winningLetters rfl rfl rfl (by decide +kernel) ⟨Nat.le_of_ble_eq_true rfl, Nat.le_of_ble_eq_true rfl⟩) hP hK hD hS hA [0, 1, 2, 3, 4] [5, 6, 7, 8, 9] rfl rfl (by decide) (by decide) (by decide) 0 rfl rfl rfl rfl hl.1 rfl (Nat.le_of_ble_eq_true rfl) dL_areAlike_127 ⟨Nat.le_of_ble_eq_true rfl, Nat.le_of_ble_eq_true rfl⟩ (fun r21 w H locs h_r21 hP hD hS => ?_)
  obtain ⟨rfl, h_r21⟩ := h_r21
  have hP : va_P g.1 vwCl ((FW g x (lN SL) q u k (nI np) mv lm ch (lN F) d v f (nI cnt) (nI ll)) ++ (FW g y (lN SL') q' u' k' (nI np) mv lm ch (lN F') d' v' f' (nI cnt) (nI ll))) H := hP.sub [5, 6, 7, 8, 9, 0, 1, 2, 3, 4] rfl
  have hD : va_D A ((FW g x (lN SL) q u k (nI np) mv lm ch (lN F) d v f (nI cnt) (nI ll)) ++ (FW g y (lN SL') q' u' k' (nI np) mv lm ch (lN F') d' v' f' (nI cnt) (nI ll))) := hD.sub [5, 6, 7, 8, 9, 0, 1, 2, 3, 4] (by decide) rfl
  refine lv_iload_n hx hb dL_areAlike_130 rfl (lv_at hl 3 rfl) ?_
  refine lv_ishl hx hb dL_areAlike_131 ?_
  refine lv_icmp_ne (tgt := 208) hx hb dL_areAlike_132 (by decide) (fun c9 => absurd (by rw [h_r20, h_r21, hW.win hm hF, shl_I (hW.win16 hF) hm]) c9) (fun _ => ?_)
  refine lv_aload_n hx hb dL_areAlike_135 rfl (lv_at hl 1 rfl) ?_
  refine call_iV (As := []) (rest := []) (wr := (FW g y (lN SL') q' u' k' (nI np) mv lm ch (lN F') d' v' f' (nI cnt) (nI ll))) ⟨hx, hb, hml, hown, hts⟩ (c_X4_canWin l g x q u d v SL k K np mv lm ch F f S cnt ll hSL.1 hF.1 hk hp hf hc hll) (cwV 0 hts gL_areAlike_X4_canWin rfl rfl rfl (by decide +kernel) ⟨Nat.le_of_ble_eq_true rfl, Nat.le_of_ble_eq_true rfl⟩) hP hK hD hS hA [0, 1, 2, 3, 4] [5, 6, 7, 8, 9] rfl rfl (by decide) (by decide) (by decide) 0 rfl rfl rfl rfl hl.1 rfl (Nat.le_of_ble_eq_true rfl) dL_areAlike_136 ⟨Nat.le_of_ble_eq_true rfl, Nat.le_of_ble_eq_true rfl⟩ (fun r22 w H locs h_r22 hP hD hS => ?_)
  obtain ⟨rfl, h_r22⟩ := h_r22
  have hP : va_P g.1 vwCl ((FW g x (lN SL) q u k (nI np) mv lm ch (lN F) d v f (nI cnt) (nI ll)) ++ (FW g y (lN SL') q' u' k' (nI np) mv lm ch (lN F') d' v' f' (nI cnt) (nI ll))) H := hP.sub [5, 6, 7, 8, 9, 0, 1, 2, 3, 4] rfl
  have hD : va_D A ((FW g x (lN SL) q u k (nI np) mv lm ch (lN F) d v f (nI cnt) (nI ll)) ++ (FW g y (lN SL') q' u' k' (nI np) mv lm ch (lN F') d' v' f' (nI cnt) (nI ll))) := hD.sub [5, 6, 7, 8, 9, 0, 1, 2, 3, 4] (by decide) rfl
  refine lv_aload_n hx hb dL_areAlike_139 rfl (lv_at hl 2 rfl) ?_
  refine call_iV (As := []) (rest := [.int r22]) (wr := (FW g x (lN SL) q u k (nI np) mv lm ch (lN F) d v f (nI cnt) (nI ll))) ⟨hx, hb, hml, hown, hts⟩ (c_X4_canWin l g y q' u' d' v' SL' k' K np mv lm ch F' f' S' cnt ll hSL.2.1 hF.2.1 hk2 hp hf2 hc hll) (cwV 0 hts gL_areAlike_X4_canWin rfl rfl rfl (by decide +kernel) ⟨Nat.le_of_ble_eq_true rfl, Nat.le_of_ble_eq_true rfl⟩) hP hK hD hS hA [5, 6, 7, 8, 9] [0, 1, 2, 3, 4] rfl rfl (by decide) (by decide) (by decide) 0 rfl rfl rfl rfl hl.1 rfl (Nat.le_of_ble_eq_true rfl) dL_areAlike_140 ⟨Nat.le_of_ble_eq_true rfl, Nat.le_of_ble_eq_true rfl⟩ (fun r23 w H locs h_r23 hP hD hS => ?_)
  obtain ⟨rfl, h_r23⟩ := h_r23
  refine lv_icmp_ne (tgt := 208) hx hb dL_areAlike_143 (by decide) (fun c9 => absurd (Bv.eq h_r22 h_r23 (by rw [hF.2.2.1, hW.scc hm (10 - rwL F) hF (by omega)])) c9) (fun _ => ?_)
  refine lv_aload_n hx hb dL_areAlike_146 rfl (lv_at hl 1 rfl) ?_
  refine call_iV (As := []) (rest := []) (wr := (FW g y (lN SL') q' u' k' (nI np) mv lm ch (lN F') d' v' f' (nI cnt) (nI ll))) ⟨hx, hb, hml, hown, hts⟩ (c_X4_end l g x q u d v SL k K np mv lm ch F f S cnt ll hSL.1 hF.1 hk hp hf hc hll) (cwV 0 hts gL_areAlike_X4_end rfl rfl rfl (by decide +kernel) ⟨Nat.le_of_ble_eq_true rfl, Nat.le_of_ble_eq_true rfl⟩) hP hK hD hS hA [0, 1, 2, 3, 4] [5, 6, 7, 8, 9] rfl rfl (by decide) (by decide) (by decide) 0 rfl rfl rfl rfl hl.1 rfl (Nat.le_of_ble_eq_true rfl) dL_areAlike_147 ⟨Nat.le_of_ble_eq_true rfl, Nat.le_of_ble_eq_true rfl⟩ (fun r24 w H locs h_r24 hP hD hS => ?_)
  obtain ⟨rfl, h_r24⟩ := h_r24
  have hP : va_P g.1 vwCl ((FW g x (lN SL) q u k (nI np) mv lm ch (lN F) d v f (nI cnt) (nI ll)) ++ (FW g y (lN SL') q' u' k' (nI np) mv lm ch (lN F') d' v' f' (nI cnt) (nI ll))) H := hP.sub [5, 6, 7, 8, 9, 0, 1, 2, 3, 4] rfl
  have hD : va_D A ((FW g x (lN SL) q u k (nI np) mv lm ch (lN F) d v f (nI cnt) (nI ll)) ++ (FW g y (lN SL') q' u' k' (nI np) mv lm ch (lN F') d' v' f' (nI cnt) (nI ll))) := hD.sub [5, 6, 7, 8, 9, 0, 1, 2, 3, 4] (by decide) rfl
  refine lv_aload_n hx hb dL_areAlike_150 rfl (lv_at hl 2 rfl) ?_
  refine call_iV (As := []) (rest := [.int r24]) (wr := (FW g x (lN SL) q u k (nI np) mv lm ch (lN F) d v f (nI cnt) (nI ll))) ⟨hx, hb, hml, hown, hts⟩ (c_X4_end l g y q' u' d' v' SL' k' K np mv lm ch F' f' S' cnt ll hSL.2.1 hF.2.1 hk2 hp hf2 hc hll) (cwV 0 hts gL_areAlike_X4_end rfl rfl rfl (by decide +kernel) ⟨Nat.le_of_ble_eq_true rfl, Nat.le_of_ble_eq_true rfl⟩) hP hK hD hS hA [5, 6, 7, 8, 9] [0, 1, 2, 3, 4] rfl rfl (by decide) (by decide) (by decide) 0 rfl rfl rfl rfl hl.1 rfl (Nat.le_of_ble_eq_true rfl) dL_areAlike_151 ⟨Nat.le_of_ble_eq_true rfl, Nat.le_of_ble_eq_true rfl⟩ (fun r25 w H locs h_r25 hP hD hS => ?_)
  obtain ⟨rfl, h_r25⟩ := h_r25
  refine lv_icmp_ne (tgt := 208) hx hb dL_areAlike_154 (by decide) (fun c9 => absurd (by rw [h_r24, h_r25, hF.2.2.1, hW.scc hm (10 - rwL F) hF (by omega)]) c9) (fun _ => ?_)
  refine lv_aload_n hx hb dL_areAlike_157 rfl (lv_at hl 1 rfl) ?_
  refine call_iV (As := []) (rest := []) (wr := (FW g y (lN SL') q' u' k' (nI np) mv lm ch (lN F') d' v' f' (nI cnt) (nI ll))) ⟨hx, hb, hml, hown, hts⟩ (c_X4_waysToPlay l g x q u d v SL k K np mv lm ch F f S cnt ll hSL.1 hF.1 hk hp hf hc hll) (cwV 0 hts gL_areAlike_X4_waysToPlay rfl rfl rfl (by decide +kernel) ⟨Nat.le_of_ble_eq_true rfl, Nat.le_of_ble_eq_true rfl⟩) hP hK hD hS hA [0, 1, 2, 3, 4] [5, 6, 7, 8, 9] rfl rfl (by decide) (by decide) (by decide) 0 rfl rfl rfl rfl hl.1 rfl (Nat.le_of_ble_eq_true rfl) dL_areAlike_158 ⟨Nat.le_of_ble_eq_true rfl, Nat.le_of_ble_eq_true rfl⟩ (fun r26 w H locs h_r26 hP hD hS => ?_)
  obtain ⟨rfl, h_r26⟩ := h_r26
  have hP : va_P g.1 vwCl ((FW g x (lN SL) q u k (nI np) mv lm ch (lN F) d v f (nI cnt) (nI ll)) ++ (FW g y (lN SL') q' u' k' (nI np) mv lm ch (lN F') d' v' f' (nI cnt) (nI ll))) H := hP.sub [5, 6, 7, 8, 9, 0, 1, 2, 3, 4] rfl
  have hD : va_D A ((FW g x (lN SL) q u k (nI np) mv lm ch (lN F) d v f (nI cnt) (nI ll)) ++ (FW g y (lN SL') q' u' k' (nI np) mv lm ch (lN F') d' v' f' (nI cnt) (nI ll))) := hD.sub [5, 6, 7, 8, 9, 0, 1, 2, 3, 4] (by decide) rfl
  refine lv_aload_n hx hb dL_areAlike_161 rfl (lv_at hl 2 rfl) ?_
  refine call_iV (As := []) (rest := [.int r26]) (wr := (FW g x (lN SL) q u k (nI np) mv lm ch (lN F) d v f (nI cnt) (nI ll))) ⟨hx, hb, hml, hown, hts⟩ (c_X4_waysToPlay l g y q' u' d' v' SL' k' K np mv lm ch F' f' S' cnt ll hSL.2.1 hF.2.1 hk2 hp hf2 hc hll) (cwV 0 hts gL_areAlike_X4_waysToPlay rfl rfl rfl (by decide +kernel) ⟨Nat.le_of_ble_eq_true rfl, Nat.le_of_ble_eq_true rfl⟩) hP hK hD hS hA [5, 6, 7, 8, 9] [0, 1, 2, 3, 4] rfl rfl (by decide) (by decide) (by decide) 0 rfl rfl rfl rfl hl.1 rfl (Nat.le_of_ble_eq_true rfl) dL_areAlike_162 ⟨Nat.le_of_ble_eq_true rfl, Nat.le_of_ble_eq_true rfl⟩ (fun r27 w H locs h_r27 hP hD hS => ?_)
  obtain ⟨rfl, h_r27⟩ := h_r27
  refine lv_icmp_ne (tgt := 208) hx hb dL_areAlike_165 (by decide) (fun c9 => absurd (h_r26.trans ((congrArg nI (hW.ways hF)).trans h_r27.symm)) c9) (fun _ => ?_)
  refine lv_aload_n hx hb dL_areAlike_168 rfl (lv_at hl 1 rfl) ?_
  refine call_iV (As := []) (rest := []) (wr := (FW g y (lN SL') q' u' k' (nI np) mv lm ch (lN F') d' v' f' (nI cnt) (nI ll))) ⟨hx, hb, hml, hown, hts⟩ (c_X4_waysToWin l g x q u d v SL k K np mv lm ch F f S cnt ll hSL.1 hF.1 hk hp hf hc hll) (cwV 0 hts gL_areAlike_X4_waysToWin rfl rfl rfl (by decide +kernel) ⟨Nat.le_of_ble_eq_true rfl, Nat.le_of_ble_eq_true rfl⟩) hP hK hD hS hA [0, 1, 2, 3, 4] [5, 6, 7, 8, 9] rfl rfl (by decide) (by decide) (by decide) 0 rfl rfl rfl rfl hl.1 rfl (Nat.le_of_ble_eq_true rfl) dL_areAlike_169 ⟨Nat.le_of_ble_eq_true rfl, Nat.le_of_ble_eq_true rfl⟩ (fun r28 w H locs h_r28 hP hD hS => ?_)
  obtain ⟨rfl, h_r28⟩ := h_r28
  have hP : va_P g.1 vwCl ((FW g x (lN SL) q u k (nI np) mv lm ch (lN F) d v f (nI cnt) (nI ll)) ++ (FW g y (lN SL') q' u' k' (nI np) mv lm ch (lN F') d' v' f' (nI cnt) (nI ll))) H := hP.sub [5, 6, 7, 8, 9, 0, 1, 2, 3, 4] rfl
  have hD : va_D A ((FW g x (lN SL) q u k (nI np) mv lm ch (lN F) d v f (nI cnt) (nI ll)) ++ (FW g y (lN SL') q' u' k' (nI np) mv lm ch (lN F') d' v' f' (nI cnt) (nI ll))) := hD.sub [5, 6, 7, 8, 9, 0, 1, 2, 3, 4] (by decide) rfl
  refine lv_aload_n hx hb dL_areAlike_172 rfl (lv_at hl 2 rfl) ?_
  refine call_iV (As := []) (rest := [.int r28]) (wr := (FW g x (lN SL) q u k (nI np) mv lm ch (lN F) d v f (nI cnt) (nI ll))) ⟨hx, hb, hml, hown, hts⟩ (c_X4_waysToWin l g y q' u' d' v' SL' k' K np mv lm ch F' f' S' cnt ll hSL.2.1 hF.2.1 hk2 hp hf2 hc hll) (cwV 0 hts gL_areAlike_X4_waysToWin rfl rfl rfl (by decide +kernel) ⟨Nat.le_of_ble_eq_true rfl, Nat.le_of_ble_eq_true rfl⟩) hP hK hD hS hA [5, 6, 7, 8, 9] [0, 1, 2, 3, 4] rfl rfl (by decide) (by decide) (by decide) 0 rfl rfl rfl rfl hl.1 rfl (Nat.le_of_ble_eq_true rfl) dL_areAlike_173 ⟨Nat.le_of_ble_eq_true rfl, Nat.le_of_ble_eq_true rfl⟩ (fun r29 w H locs h_r29 hP hD hS => ?_)
  obtain ⟨rfl, h_r29⟩ := h_r29
  refine lv_icmp_ne (tgt := 208) hx hb dL_areAlike_176 (by decide) (fun c9 => absurd (h_r28.trans ((congrArg nI (hW.wways hF)).trans h_r29.symm)) c9) (fun _ => ?_)
  refine lv_aload_n hx hb dL_areAlike_179 rfl (lv_at hl 2 rfl) ?_
  refine call_iV (As := []) (rest := []) (wr := (FW g x (lN SL) q u k (nI np) mv lm ch (lN F) d v f (nI cnt) (nI ll))) ⟨hx, hb, hml, hown, hts⟩ (c_X4_bestLetter l g y q' u' d' v' SL' k' K np mv lm ch F' f' S' cnt ll hSL.2.1 hF.2.1 hk2 hp hf2 hc hll) (cwV 0 hts gL_areAlike_X4_bestLetter rfl rfl rfl (by decide +kernel) ⟨Nat.le_of_ble_eq_true rfl, Nat.le_of_ble_eq_true rfl⟩) hP hK hD hS hA [5, 6, 7, 8, 9] [0, 1, 2, 3, 4] rfl rfl (by decide) (by decide) (by decide) 0 rfl rfl rfl rfl hl.1 rfl (Nat.le_of_ble_eq_true rfl) dL_areAlike_180 ⟨Nat.le_of_ble_eq_true rfl, Nat.le_of_ble_eq_true rfl⟩ (fun rb w H locs h_rb hP hD hS => ?_)
  obtain ⟨rfl, h_rb⟩ := h_rb
  refine lv_aload_n hx hb dL_areAlike_183 rfl (lv_at hl 1 rfl) ?_
  refine call_iV (As := []) (rest := [.int rb]) (wr := (FW g y (lN SL') q' u' k' (nI np) mv lm ch (lN F') d' v' f' (nI cnt) (nI ll))) ⟨hx, hb, hml, hown, hts⟩ (c_X4_bestLetter l g x q u d v SL k K np mv lm ch F f S cnt ll hSL.1 hF.1 hk hp hf hc hll) (cwV 0 hts gL_areAlike_X4_bestLetter rfl rfl rfl (by decide +kernel) ⟨Nat.le_of_ble_eq_true rfl, Nat.le_of_ble_eq_true rfl⟩) hP hK hD hS hA [0, 1, 2, 3, 4] [5, 6, 7, 8, 9] rfl rfl (by decide) (by decide) (by decide) 0 rfl rfl rfl rfl hl.1 rfl (Nat.le_of_ble_eq_true rfl) dL_areAlike_184 ⟨Nat.le_of_ble_eq_true rfl, Nat.le_of_ble_eq_true rfl⟩ (fun ra w H locs h_ra hP hD hS => ?_)
  obtain ⟨rfl, h_ra⟩ := h_ra
  have hP : va_P g.1 vwCl ((FW g x (lN SL) q u k (nI np) mv lm ch (lN F) d v f (nI cnt) (nI ll)) ++ (FW g y (lN SL') q' u' k' (nI np) mv lm ch (lN F') d' v' f' (nI cnt) (nI ll))) H := hP.sub [5, 6, 7, 8, 9, 0, 1, 2, 3, 4] rfl
  have hD : va_D A ((FW g x (lN SL) q u k (nI np) mv lm ch (lN F) d v f (nI cnt) (nI ll)) ++ (FW g y (lN SL') q' u' k' (nI np) mv lm ch (lN F') d' v' f' (nI cnt) (nI ll))) := hD.sub [5, 6, 7, 8, 9, 0, 1, 2, 3, 4] (by decide) rfl
  refine lv_iconst (v := -1) hx hb dL_areAlike_187 (by decide) ?_
  have hch := hW.chs (ll := ll) hm hF (r := ra) (r' := rb) h_ra h_rb
  have J : ∀ (H : Heap) (locs : List Loc) (ls : Array Slot), va_P g.1 vwCl ((FW g x (lN SL) q u k (nI np) mv lm ch (lN F) d v f (nI cnt) (nI ll)) ++ (FW g y (lN SL') q' u' k' (nI np) mv lm ch (lN F') d' v' f' (nI cnt) (nI ll))) H → va_D A ((FW g x (lN SL) q u k (nI np) mv lm ch (lN F) d v f (nI cnt) (nI ll)) ++ (FW g y (lN SL') q' u' k' (nI np) mv lm ch (lN F') d' v' f' (nI cnt) (nI ll))) → va_S A s.heap H locs → lv_has ls 6 [(3, .int (nI 1)), (0, .ref x), (1, .ref y), (2, .int (nI m))] → W p l e rm_L_areAlike s m0 args below meth c H locs 0 0 Z (F0 m0 204 ls []) := by
    intro H locs ls hP hD hS hl
    refine lv_iconst (v := nI 1) hx hb dL_areAlike_204 (by decide) ?_
    refine lv_goto (tgt := 209) hx hb dL_areAlike_205 (by decide) ?_
    refine lv_istore_n (lv' := [(3, .int (nI 1)), (0, .ref x), (1, .ref y), (2, .int (nI m))]) hx hb dL_areAlike_209 rfl hl (by decide) rfl (fun ls hl => ?_)
    refine lv_iconst (v := nI 1) hx hb dL_areAlike_210 (by decide) ?_
    refine lv_istore (lv' := [(4, .int (nI 1)), (3, .int (nI 1)), (0, .ref x), (1, .ref y), (2, .int (nI m))]) hx hb dL_areAlike_211 hl (by decide) rfl (fun ls hl => ?_)
    refine lv_iload hx hb dL_areAlike_213 (lv_at hl 0 rfl) ?_
    refine lv_iconst (v := nI 3) hx hb dL_areAlike_215 (by decide) ?_
    refine lv_icmp_ge (tgt := 309) hx hb dL_areAlike_216 (by decide) (fun c9 => absurd c9 (by decide)) (fun _ => ?_)
    refine lv_iload_n hx hb dL_areAlike_219 rfl (lv_at hl 1 rfl) ?_
    refine lv_if_eq (tgt := 309) hx hb dL_areAlike_220 (by decide) (fun c9 => absurd c9 (by decide)) (fun _ => ?_)
    have I1 : ∀ (n j : Nat), j + n = rwL SL + 1 → ∀ (H : Heap) (locs : List Loc) (ls : Array Slot), va_P g.1 vwCl ((FW g x (lN SL) q u k (nI np) mv lm ch (lN F) d v f (nI cnt) (nI ll)) ++ (FW g y (lN SL') q' u' k' (nI np) mv lm ch (lN F') d' v' f' (nI cnt) (nI ll))) H → va_D A ((FW g x (lN SL) q u k (nI np) mv lm ch (lN F) d v f (nI cnt) (nI ll)) ++ (FW g y (lN SL') q' u' k' (nI np) mv lm ch (lN F') d' v' f' (nI cnt) (nI ll))) → va_S A s.heap H locs → lv_has ls 6 [(5, .int (nI j)), (4, .int (nI 1)), (3, .int (nI 1)), (0, .ref x), (1, .ref y), (2, .int (nI m))] → (∀ (j : Nat) (H : Heap) (locs : List Loc) (ls : Array Slot), va_P g.1 vwCl ((FW g x (lN SL) q u k (nI np) mv lm ch (lN F) d v f (nI cnt) (nI ll)) ++ (FW g y (lN SL') q' u' k' (nI np) mv lm ch (lN F') d' v' f' (nI cnt) (nI ll))) H → va_D A ((FW g x (lN SL) q u k (nI np) mv lm ch (lN F) d v f (nI cnt) (nI ll)) ++ (FW g y (lN SL') q' u' k' (nI np) mv lm ch (lN F') d' v' f' (nI cnt) (nI ll))) → va_S A s.heap H locs → lv_has ls 6 [(5, .int (nI j)), (4, .int (nI 1)), (3, .int (nI 1)), (0, .ref x), (1, .ref y), (2, .int (nI m))] → W p l e rm_L_areAlike s m0 args below meth c H locs (0 + 33) (0 + 198) Z (F0 m0 303 ls [])) → W p l e rm_L_areAlike s m0 args below meth c H locs (0 + 3 * j) (0 + 18 * j) Z (F0 m0 226 ls []) := by
      intro n
      induction n with
      | zero =>
        intro j hj H locs ls hP hD hS hl kk
        have hj11 : j ≤ 11 := by omega
        refine lv_iload hx hb dL_areAlike_226 (lv_at hl 0 rfl) ?_
        refine lv_iload hx hb dL_areAlike_228 (lv_at hl 1 rfl) ?_
        refine lv_iconst (v := nI 1) hx hb dL_areAlike_230 (by decide) ?_
        refine lv_icmp_ne (tgt := 241) hx hb dL_areAlike_231 (by decide) (fun c9 => absurd (by decide) c9) (fun _ => ?_)
        refine lv_aload_n hx hb dL_areAlike_234 rfl (lv_at hl 3 rfl) ?_
        refine call_iV (As := []) (rest := [.int (nI j)]) (wr := (FW g y (lN SL') q' u' k' (nI np) mv lm ch (lN F') d' v' f' (nI cnt) (nI ll))) ⟨hx, hb, hml, hown, hts⟩ (c_X4_slipLength l g x q u d v SL k K np mv lm ch F f S cnt ll hSL.1 hF.1 hk hp hf hc hll) (cwV 0 hts gL_areAlike_X4_slipLength rfl rfl rfl (by decide +kernel) ⟨Nat.le_of_ble_eq_true rfl, Nat.le_of_ble_eq_true rfl⟩) hP hK hD hS hA [0, 1, 2, 3, 4] [5, 6, 7, 8, 9] rfl rfl (by decide) (by decide) (by decide) 0 rfl rfl rfl rfl hl.1 rfl (Nat.le_of_ble_eq_true rfl) dL_areAlike_235 ⟨by show 0 + 3 * j + 0 ≤ 80; omega, by show 0 + 18 * j + 0 ≤ 480; omega⟩ (fun rl w H locs h_rl hP hD hS => ?_)
        obtain ⟨rfl, h_rl⟩ := h_rl
        have hP : va_P g.1 vwCl ((FW g x (lN SL) q u k (nI np) mv lm ch (lN F) d v f (nI cnt) (nI ll)) ++ (FW g y (lN SL') q' u' k' (nI np) mv lm ch (lN F') d' v' f' (nI cnt) (nI ll))) H := hP.sub [5, 6, 7, 8, 9, 0, 1, 2, 3, 4] rfl
        have hD : va_D A ((FW g x (lN SL) q u k (nI np) mv lm ch (lN F) d v f (nI cnt) (nI ll)) ++ (FW g y (lN SL') q' u' k' (nI np) mv lm ch (lN F') d' v' f' (nI cnt) (nI ll))) := hD.sub [5, 6, 7, 8, 9, 0, 1, 2, 3, 4] (by decide) rfl
        refine lv_goto (tgt := 245) hx hb dL_areAlike_238 (by decide) ?_
        subst h_rl
        refine lv_icmp_gt (tgt := 303) hx hb dL_areAlike_245 (by decide) (fun _ => ?_) (fun c9 => absurd ((nI_ltI (a := rwL SL) (b := j) (by omega) (by omega)).mpr (by omega)) c9)
        exact W.widen (k := 0 + 33) (n := 0 + 198) (by omega) (by omega) (kk j H locs ls hP hD hS hl)
      | succ n ih =>
        intro j hj H locs ls hP hD hS hl kk
        have hj11 : j ≤ 11 := by omega
        refine lv_iload hx hb dL_areAlike_226 (lv_at hl 0 rfl) ?_
        refine lv_iload hx hb dL_areAlike_228 (lv_at hl 1 rfl) ?_
        refine lv_iconst (v := nI 1) hx hb dL_areAlike_230 (by decide) ?_
        refine lv_icmp_ne (tgt := 241) hx hb dL_areAlike_231 (by decide) (fun c9 => absurd (by decide) c9) (fun _ => ?_)
        refine lv_aload_n hx hb dL_areAlike_234 rfl (lv_at hl 3 rfl) ?_
        refine call_iV (As := []) (rest := [.int (nI j)]) (wr := (FW g y (lN SL') q' u' k' (nI np) mv lm ch (lN F') d' v' f' (nI cnt) (nI ll))) ⟨hx, hb, hml, hown, hts⟩ (c_X4_slipLength l g x q u d v SL k K np mv lm ch F f S cnt ll hSL.1 hF.1 hk hp hf hc hll) (cwV 0 hts gL_areAlike_X4_slipLength rfl rfl rfl (by decide +kernel) ⟨Nat.le_of_ble_eq_true rfl, Nat.le_of_ble_eq_true rfl⟩) hP hK hD hS hA [0, 1, 2, 3, 4] [5, 6, 7, 8, 9] rfl rfl (by decide) (by decide) (by decide) 0 rfl rfl rfl rfl hl.1 rfl (Nat.le_of_ble_eq_true rfl) dL_areAlike_235 ⟨by show 0 + 3 * j + 0 ≤ 80; omega, by show 0 + 18 * j + 0 ≤ 480; omega⟩ (fun rl w H locs h_rl hP hD hS => ?_)
        obtain ⟨rfl, h_rl⟩ := h_rl
        have hP : va_P g.1 vwCl ((FW g x (lN SL) q u k (nI np) mv lm ch (lN F) d v f (nI cnt) (nI ll)) ++ (FW g y (lN SL') q' u' k' (nI np) mv lm ch (lN F') d' v' f' (nI cnt) (nI ll))) H := hP.sub [5, 6, 7, 8, 9, 0, 1, 2, 3, 4] rfl
        have hD : va_D A ((FW g x (lN SL) q u k (nI np) mv lm ch (lN F) d v f (nI cnt) (nI ll)) ++ (FW g y (lN SL') q' u' k' (nI np) mv lm ch (lN F') d' v' f' (nI cnt) (nI ll))) := hD.sub [5, 6, 7, 8, 9, 0, 1, 2, 3, 4] (by decide) rfl
        refine lv_goto (tgt := 245) hx hb dL_areAlike_238 (by decide) ?_
        subst h_rl
        refine lv_icmp_gt (tgt := 303) hx hb dL_areAlike_245 (by decide) (fun c9 => absurd ((nI_ltI (a := rwL SL) (b := j) (by omega) (by omega)).mp c9) (by omega)) (fun _ => ?_)
        refine lv_iload_n hx hb dL_areAlike_248 rfl (lv_at hl 2 rfl) ?_
        refine lv_if_eq (tgt := 303) hx hb dL_areAlike_249 (by decide) (fun c9 => absurd c9 (by decide)) (fun _ => ?_)
        have JE : ∀ (H : Heap) (locs : List Loc) (ls : Array Slot), va_P g.1 vwCl ((FW g x (lN SL) q u k (nI np) mv lm ch (lN F) d v f (nI cnt) (nI ll)) ++ (FW g y (lN SL') q' u' k' (nI np) mv lm ch (lN F') d' v' f' (nI cnt) (nI ll))) H → va_D A ((FW g x (lN SL) q u k (nI np) mv lm ch (lN F) d v f (nI cnt) (nI ll)) ++ (FW g y (lN SL') q' u' k' (nI np) mv lm ch (lN F') d' v' f' (nI cnt) (nI ll))) → va_S A s.heap H locs → lv_has ls 6 [(5, .int (nI j)), (4, .int (nI 1)), (3, .int (nI 1)), (0, .ref x), (1, .ref y), (2, .int (nI m))] → W p l e rm_L_areAlike s m0 args below meth c H locs (0 + 3 * j + 1 + 1 + 1) (0 + 18 * j + 6 + 6 + 6) Z (F0 m0 291 ls []) := by
          intro H locs ls hP hD hS hl
          refine lv_iconst (v := nI 1) hx hb dL_areAlike_291 (by decide) ?_
          refine lv_goto (tgt := 296) hx hb dL_areAlike_292 (by decide) ?_
          refine lv_istore_n (lv' := [(3, .int (nI 1)), (5, .int (nI j)), (4, .int (nI 1)), (0, .ref x), (1, .ref y), (2, .int (nI m))]) hx hb dL_areAlike_296 rfl hl (by decide) rfl (fun ls hl => ?_)
          refine lv_iinc (k := 1) (v := nI (j + 1)) (lv' := [(5, .int (nI (j + 1))), (3, .int (nI 1)), (4, .int (nI 1)), (0, .ref x), (1, .ref y), (2, .int (nI m))]) hx hb dL_areAlike_297 hl rfl (by rw [show Int32.ofInt 1 = nI 1 from by decide +kernel, nI_add]) (by decide) rfl (fun ls hl => ?_)
          refine lv_goto (tgt := 226) hx hb dL_areAlike_300 (by decide) ?_
          refine W.widen (k := 0 + 3 * (j + 1)) (n := 0 + 18 * (j + 1)) (by omega) (by omega) ?_
          exact ih (j + 1) (by omega) _ _ _ hP hD hS (lv_sub hl [0, 2, 1, 3, 4, 5] rfl) kk
        refine lv_aload_n hx hb dL_areAlike_252 rfl (lv_at hl 4 rfl) ?_
        refine lv_iload hx hb dL_areAlike_253 (lv_at hl 1 rfl) ?_
        refine lv_iload hx hb dL_areAlike_255 (lv_at hl 0 rfl) ?_
        refine call_wX (As := [.ref y, .int (nI 1), .int (nI j)]) (rest := []) (wr := (FW g x (lN SL) q u k (nI np) mv lm ch (lN F) d v f (nI cnt) (nI ll))) ⟨hx, hb, hml, hown, hts⟩ (c_L_at_slipAt l hl0 g y q' u' d' v' SL' k' K np mv lm ch F' f' S' cnt ll hSL.2.1 hF.2.1 hk2 hp hf2 hc hll (nI j)) (vx_cwSW 3 hts gL_areAlike_L_at rfl rfl rfl ⟨by decide +kernel, by decide +kernel, by decide +kernel⟩ ⟨Nat.le_of_ble_eq_true rfl, Nat.le_of_ble_eq_true rfl⟩) hP hK hD hS hA hXk hNc [5, 6, 7, 8, 9] [0, 1, 2, 3, 4] rfl rfl (by decide) (by decide) (by decide) rfl hl.1 rfl (Nat.le_of_ble_eq_true rfl) dL_areAlike_257 ⟨by show 0 + 3 * j + 1 ≤ 80; omega, by show 0 + 18 * j + 6 ≤ 480; omega⟩ (fun rb2 w H locs h_rb2 hP hD hS => ?_)
        obtain ⟨rfl, k_rb2⟩ := at_l (X := SL') (c := j) (r := rb2) hSL.2.1.1 (by omega) h_rb2
        refine lv_aload_n hx hb dL_areAlike_260 rfl (lv_at hl 3 rfl) ?_
        refine lv_iload hx hb dL_areAlike_261 (lv_at hl 1 rfl) ?_
        refine lv_iload hx hb dL_areAlike_263 (lv_at hl 0 rfl) ?_
        refine call_wX (As := [.ref x, .int (nI 1), .int (nI j)]) (rest := [.int rb2]) (wr := (FW g y (lN SL') q' u' k' (nI np) mv lm ch (lN F') d' v' f' (nI cnt) (nI ll))) ⟨hx, hb, hml, hown, hts⟩ (c_L_at_slipAt l hl0 g x q u d v SL k K np mv lm ch F f S cnt ll hSL.1 hF.1 hk hp hf hc hll (nI j)) (vx_cwSW 3 hts gL_areAlike_L_at rfl rfl rfl ⟨by decide +kernel, by decide +kernel, by decide +kernel⟩ ⟨Nat.le_of_ble_eq_true rfl, Nat.le_of_ble_eq_true rfl⟩) hP hK hD hS hA hXk hNc [0, 1, 2, 3, 4] [5, 6, 7, 8, 9] rfl rfl (by decide) (by decide) (by decide) rfl hl.1 rfl (Nat.le_of_ble_eq_true rfl) dL_areAlike_265 ⟨by show 0 + 3 * j + 1 + 1 ≤ 80; omega, by show 0 + 18 * j + 6 + 6 ≤ 480; omega⟩ (fun ra2 w H locs h_ra2 hP hD hS => ?_)
        obtain ⟨rfl, k_ra2⟩ := at_l (X := SL) (c := j) (r := ra2) hSL.1.1 (by omega) h_ra2
        have hP : va_P g.1 vwCl ((FW g x (lN SL) q u k (nI np) mv lm ch (lN F) d v f (nI cnt) (nI ll)) ++ (FW g y (lN SL') q' u' k' (nI np) mv lm ch (lN F') d' v' f' (nI cnt) (nI ll))) H := hP.sub [5, 6, 7, 8, 9, 0, 1, 2, 3, 4] rfl
        have hD : va_D A ((FW g x (lN SL) q u k (nI np) mv lm ch (lN F) d v f (nI cnt) (nI ll)) ++ (FW g y (lN SL') q' u' k' (nI np) mv lm ch (lN F') d' v' f' (nI cnt) (nI ll))) := hD.sub [5, 6, 7, 8, 9, 0, 1, 2, 3, 4] (by decide) rfl
        refine lv_bipush (v := -5) hx hb dL_areAlike_268 (by decide) ?_
        rcases k_ra2 with ⟨hj2, rfl⟩ | ⟨hj2, rfl⟩
        · skip
          refine lv_icmp_ne (tgt := 278) hx hb dL_areAlike_270 (by decide) (fun _ => ?_) (fun c9 => absurd c9 (nI_nem5 (by have := (hSL.2.2.2 j hj2).1; omega)))
          refine lv_aload_n hx hb dL_areAlike_278 rfl (lv_at hl 3 rfl) ?_
          refine lv_iload hx hb dL_areAlike_279 (lv_at hl 1 rfl) ?_
          refine lv_iload hx hb dL_areAlike_281 (lv_at hl 0 rfl) ?_
          refine call_wX (As := [.ref x, .int (nI 1), .int (nI j)]) (rest := [.int rb2]) (wr := (FW g y (lN SL') q' u' k' (nI np) mv lm ch (lN F') d' v' f' (nI cnt) (nI ll))) ⟨hx, hb, hml, hown, hts⟩ (c_L_at_slipAt l hl0 g x q u d v SL k K np mv lm ch F f S cnt ll hSL.1 hF.1 hk hp hf hc hll (nI j)) (vx_cwSW 3 hts gL_areAlike_L_at rfl rfl rfl ⟨by decide +kernel, by decide +kernel, by decide +kernel⟩ ⟨Nat.le_of_ble_eq_true rfl, Nat.le_of_ble_eq_true rfl⟩) hP hK hD hS hA hXk hNc [0, 1, 2, 3, 4] [5, 6, 7, 8, 9] rfl rfl (by decide) (by decide) (by decide) rfl hl.1 rfl (Nat.le_of_ble_eq_true rfl) dL_areAlike_283 ⟨by show 0 + 3 * j + 1 + 1 + 1 ≤ 80; omega, by show 0 + 18 * j + 6 + 6 + 6 ≤ 480; omega⟩ (fun ra3 w H locs h_ra3 hP hD hS => ?_)
          obtain ⟨rfl, k_ra3⟩ := at_l (X := SL) (c := j) (r := ra3) hSL.1.1 (by omega) h_ra3
          have hP : va_P g.1 vwCl ((FW g x (lN SL) q u k (nI np) mv lm ch (lN F) d v f (nI cnt) (nI ll)) ++ (FW g y (lN SL') q' u' k' (nI np) mv lm ch (lN F') d' v' f' (nI cnt) (nI ll))) H := hP.sub [5, 6, 7, 8, 9, 0, 1, 2, 3, 4] rfl
          have hD : va_D A ((FW g x (lN SL) q u k (nI np) mv lm ch (lN F) d v f (nI cnt) (nI ll)) ++ (FW g y (lN SL') q' u' k' (nI np) mv lm ch (lN F') d' v' f' (nI cnt) (nI ll))) := hD.sub [5, 6, 7, 8, 9, 0, 1, 2, 3, 4] (by decide) rfl
          refine lv_iload_n hx hb dL_areAlike_286 rfl (lv_at hl 5 rfl) ?_
          refine lv_iadd hx hb dL_areAlike_287 ?_
          have e9 : rb2 = ra3 + nI m := by
            rcases k_rb2 with ⟨q1, q2⟩ | ⟨q1, -⟩
            · rcases k_ra3 with ⟨q3, q4⟩ | ⟨q3, -⟩
              · rw [q2, q4, nI_add, (hSL.2.2.2 j hj2).2]
              · omega
            · rw [hSL.2.2.1] at q1; omega
          refine lv_icmp_ne (tgt := 295) hx hb dL_areAlike_288 (by decide) (fun c9 => absurd e9 c9) (fun _ => ?_)
          exact JE _ _ _ hP hD hS hl
        · skip
          refine lv_icmp_ne (tgt := 278) hx hb dL_areAlike_270 (by decide) (fun c9 => absurd rfl c9) (fun _ => ?_)
          refine lv_bipush (v := -5) hx hb dL_areAlike_273 (by decide) ?_
          refine lv_goto (tgt := 288) hx hb dL_areAlike_275 (by decide) ?_
          have e9 : rb2 = -5 := by
            rcases k_rb2 with ⟨q1, -⟩ | ⟨-, q2⟩
            · rw [hSL.2.2.1] at q1; omega
            · exact q2
          refine lv_icmp_ne (tgt := 295) hx hb dL_areAlike_288 (by decide) (fun c9 => absurd e9 c9) (fun _ => ?_)
          exact W.widen (k := 0 + 3 * j + 1 + 1 + 1) (n := 0 + 18 * j + 6 + 6 + 6) (by omega) (by omega) (JE _ _ _ hP hD hS hl)
    refine lv_iconst (v := nI 0) hx hb dL_areAlike_223 (by decide) ?_
    refine lv_istore (lv' := [(5, .int (nI 0)), (4, .int (nI 1)), (3, .int (nI 1)), (0, .ref x), (1, .ref y), (2, .int (nI m))]) hx hb dL_areAlike_224 hl (by decide) rfl (fun ls hl => ?_)
    refine I1 (rwL SL + 1) 0 (by omega) _ _ _ hP hD hS (lv_sub hl [0, 1, 2, 3, 4, 5] rfl) (fun j H locs ls hP hD hS hl => ?_)
    refine lv_iinc (k := 1) (v := nI (1 + 1)) (lv' := [(4, .int (nI (1 + 1))), (5, .int (nI j)), (3, .int (nI 1)), (0, .ref x), (1, .ref y), (2, .int (nI m))]) hx hb dL_areAlike_303 hl rfl (by rw [show Int32.ofInt 1 = nI 1 from by decide +kernel, nI_add]) (by decide) rfl (fun ls hl => ?_)
    refine lv_goto (tgt := 213) hx hb dL_areAlike_306 (by decide) ?_
    have hl : lv_has ls 6 [(4, .int (nI 2)), (3, .int (nI 1)), (0, .ref x), (1, .ref y), (2, .int (nI m))] := lv_sub hl [0, 2, 3, 4, 5] rfl
    refine lv_iload hx hb dL_areAlike_213 (lv_at hl 0 rfl) ?_
    refine lv_iconst (v := nI 3) hx hb dL_areAlike_215 (by decide) ?_
    refine lv_icmp_ge (tgt := 309) hx hb dL_areAlike_216 (by decide) (fun c9 => absurd c9 (by decide)) (fun _ => ?_)
    refine lv_iload_n hx hb dL_areAlike_219 rfl (lv_at hl 1 rfl) ?_
    refine lv_if_eq (tgt := 309) hx hb dL_areAlike_220 (by decide) (fun c9 => absurd c9 (by decide)) (fun _ => ?_)
    have I2 : ∀ (n j : Nat), j + n = rwL F + 1 → ∀ (H : Heap) (locs : List Loc) (ls : Array Slot), va_P g.1 vwCl ((FW g x (lN SL) q u k (nI np) mv lm ch (lN F) d v f (nI cnt) (nI ll)) ++ (FW g y (lN SL') q' u' k' (nI np) mv lm ch (lN F') d' v' f' (nI cnt) (nI ll))) H → va_D A ((FW g x (lN SL) q u k (nI np) mv lm ch (lN F) d v f (nI cnt) (nI ll)) ++ (FW g y (lN SL') q' u' k' (nI np) mv lm ch (lN F') d' v' f' (nI cnt) (nI ll))) → va_S A s.heap H locs → lv_has ls 6 [(5, .int (nI j)), (4, .int (nI 2)), (3, .int (nI 1)), (0, .ref x), (1, .ref y), (2, .int (nI m))] → (∀ (j : Nat) (H : Heap) (locs : List Loc) (ls : Array Slot), va_P g.1 vwCl ((FW g x (lN SL) q u k (nI np) mv lm ch (lN F) d v f (nI cnt) (nI ll)) ++ (FW g y (lN SL') q' u' k' (nI np) mv lm ch (lN F') d' v' f' (nI cnt) (nI ll))) H → va_D A ((FW g x (lN SL) q u k (nI np) mv lm ch (lN F) d v f (nI cnt) (nI ll)) ++ (FW g y (lN SL') q' u' k' (nI np) mv lm ch (lN F') d' v' f' (nI cnt) (nI ll))) → va_S A s.heap H locs → lv_has ls 6 [(5, .int (nI j)), (4, .int (nI 2)), (3, .int (nI 1)), (0, .ref x), (1, .ref y), (2, .int (nI m))] → W p l e rm_L_areAlike s m0 args below meth c H locs (33 + 33) (198 + 198) Z (F0 m0 303 ls [])) → W p l e rm_L_areAlike s m0 args below meth c H locs (33 + 3 * j) (198 + 18 * j) Z (F0 m0 226 ls []) := by
      intro n
      induction n with
      | zero =>
        intro j hj H locs ls hP hD hS hl kk
        have hj11 : j ≤ 11 := by omega
        refine lv_iload hx hb dL_areAlike_226 (lv_at hl 0 rfl) ?_
        refine lv_iload hx hb dL_areAlike_228 (lv_at hl 1 rfl) ?_
        refine lv_iconst (v := nI 1) hx hb dL_areAlike_230 (by decide) ?_
        refine lv_icmp_ne (tgt := 241) hx hb dL_areAlike_231 (by decide) (fun _ => ?_) (fun c9 => absurd c9 (by decide))
        refine lv_aload_n hx hb dL_areAlike_241 rfl (lv_at hl 3 rfl) ?_
        refine call_iV (As := []) (rest := [.int (nI j)]) (wr := (FW g y (lN SL') q' u' k' (nI np) mv lm ch (lN F') d' v' f' (nI cnt) (nI ll))) ⟨hx, hb, hml, hown, hts⟩ (c_X4_fragmentLength l g x q u d v SL k K np mv lm ch F f S cnt ll hSL.1 hF.1 hk hp hf hc hll) (cwV 0 hts gL_areAlike_X4_fragmentLength rfl rfl rfl (by decide +kernel) ⟨Nat.le_of_ble_eq_true rfl, Nat.le_of_ble_eq_true rfl⟩) hP hK hD hS hA [0, 1, 2, 3, 4] [5, 6, 7, 8, 9] rfl rfl (by decide) (by decide) (by decide) 0 rfl rfl rfl rfl hl.1 rfl (Nat.le_of_ble_eq_true rfl) dL_areAlike_242 ⟨by show 33 + 3 * j + 0 ≤ 80; omega, by show 198 + 18 * j + 0 ≤ 480; omega⟩ (fun rl w H locs h_rl hP hD hS => ?_)
        obtain ⟨rfl, h_rl⟩ := h_rl
        have hP : va_P g.1 vwCl ((FW g x (lN SL) q u k (nI np) mv lm ch (lN F) d v f (nI cnt) (nI ll)) ++ (FW g y (lN SL') q' u' k' (nI np) mv lm ch (lN F') d' v' f' (nI cnt) (nI ll))) H := hP.sub [5, 6, 7, 8, 9, 0, 1, 2, 3, 4] rfl
        have hD : va_D A ((FW g x (lN SL) q u k (nI np) mv lm ch (lN F) d v f (nI cnt) (nI ll)) ++ (FW g y (lN SL') q' u' k' (nI np) mv lm ch (lN F') d' v' f' (nI cnt) (nI ll))) := hD.sub [5, 6, 7, 8, 9, 0, 1, 2, 3, 4] (by decide) rfl
        subst h_rl
        refine lv_icmp_gt (tgt := 303) hx hb dL_areAlike_245 (by decide) (fun _ => ?_) (fun c9 => absurd ((nI_ltI (a := rwL F) (b := j) (by omega) (by omega)).mpr (by omega)) c9)
        exact W.widen (k := 33 + 33) (n := 198 + 198) (by omega) (by omega) (kk j H locs ls hP hD hS hl)
      | succ n ih =>
        intro j hj H locs ls hP hD hS hl kk
        have hj11 : j ≤ 11 := by omega
        refine lv_iload hx hb dL_areAlike_226 (lv_at hl 0 rfl) ?_
        refine lv_iload hx hb dL_areAlike_228 (lv_at hl 1 rfl) ?_
        refine lv_iconst (v := nI 1) hx hb dL_areAlike_230 (by decide) ?_
        refine lv_icmp_ne (tgt := 241) hx hb dL_areAlike_231 (by decide) (fun _ => ?_) (fun c9 => absurd c9 (by decide))
        refine lv_aload_n hx hb dL_areAlike_241 rfl (lv_at hl 3 rfl) ?_
        refine call_iV (As := []) (rest := [.int (nI j)]) (wr := (FW g y (lN SL') q' u' k' (nI np) mv lm ch (lN F') d' v' f' (nI cnt) (nI ll))) ⟨hx, hb, hml, hown, hts⟩ (c_X4_fragmentLength l g x q u d v SL k K np mv lm ch F f S cnt ll hSL.1 hF.1 hk hp hf hc hll) (cwV 0 hts gL_areAlike_X4_fragmentLength rfl rfl rfl (by decide +kernel) ⟨Nat.le_of_ble_eq_true rfl, Nat.le_of_ble_eq_true rfl⟩) hP hK hD hS hA [0, 1, 2, 3, 4] [5, 6, 7, 8, 9] rfl rfl (by decide) (by decide) (by decide) 0 rfl rfl rfl rfl hl.1 rfl (Nat.le_of_ble_eq_true rfl) dL_areAlike_242 ⟨by show 33 + 3 * j + 0 ≤ 80; omega, by show 198 + 18 * j + 0 ≤ 480; omega⟩ (fun rl w H locs h_rl hP hD hS => ?_)
        obtain ⟨rfl, h_rl⟩ := h_rl
        have hP : va_P g.1 vwCl ((FW g x (lN SL) q u k (nI np) mv lm ch (lN F) d v f (nI cnt) (nI ll)) ++ (FW g y (lN SL') q' u' k' (nI np) mv lm ch (lN F') d' v' f' (nI cnt) (nI ll))) H := hP.sub [5, 6, 7, 8, 9, 0, 1, 2, 3, 4] rfl
        have hD : va_D A ((FW g x (lN SL) q u k (nI np) mv lm ch (lN F) d v f (nI cnt) (nI ll)) ++ (FW g y (lN SL') q' u' k' (nI np) mv lm ch (lN F') d' v' f' (nI cnt) (nI ll))) := hD.sub [5, 6, 7, 8, 9, 0, 1, 2, 3, 4] (by decide) rfl
        subst h_rl
        refine lv_icmp_gt (tgt := 303) hx hb dL_areAlike_245 (by decide) (fun c9 => absurd ((nI_ltI (a := rwL F) (b := j) (by omega) (by omega)).mp c9) (by omega)) (fun _ => ?_)
        refine lv_iload_n hx hb dL_areAlike_248 rfl (lv_at hl 2 rfl) ?_
        refine lv_if_eq (tgt := 303) hx hb dL_areAlike_249 (by decide) (fun c9 => absurd c9 (by decide)) (fun _ => ?_)
        have JE : ∀ (H : Heap) (locs : List Loc) (ls : Array Slot), va_P g.1 vwCl ((FW g x (lN SL) q u k (nI np) mv lm ch (lN F) d v f (nI cnt) (nI ll)) ++ (FW g y (lN SL') q' u' k' (nI np) mv lm ch (lN F') d' v' f' (nI cnt) (nI ll))) H → va_D A ((FW g x (lN SL) q u k (nI np) mv lm ch (lN F) d v f (nI cnt) (nI ll)) ++ (FW g y (lN SL') q' u' k' (nI np) mv lm ch (lN F') d' v' f' (nI cnt) (nI ll))) → va_S A s.heap H locs → lv_has ls 6 [(5, .int (nI j)), (4, .int (nI 2)), (3, .int (nI 1)), (0, .ref x), (1, .ref y), (2, .int (nI m))] → W p l e rm_L_areAlike s m0 args below meth c H locs (33 + 3 * j + 1 + 1 + 1) (198 + 18 * j + 6 + 6 + 6) Z (F0 m0 291 ls []) := by
          intro H locs ls hP hD hS hl
          refine lv_iconst (v := nI 1) hx hb dL_areAlike_291 (by decide) ?_
          refine lv_goto (tgt := 296) hx hb dL_areAlike_292 (by decide) ?_
          refine lv_istore_n (lv' := [(3, .int (nI 1)), (5, .int (nI j)), (4, .int (nI 2)), (0, .ref x), (1, .ref y), (2, .int (nI m))]) hx hb dL_areAlike_296 rfl hl (by decide) rfl (fun ls hl => ?_)
          refine lv_iinc (k := 1) (v := nI (j + 1)) (lv' := [(5, .int (nI (j + 1))), (3, .int (nI 1)), (4, .int (nI 2)), (0, .ref x), (1, .ref y), (2, .int (nI m))]) hx hb dL_areAlike_297 hl rfl (by rw [show Int32.ofInt 1 = nI 1 from by decide +kernel, nI_add]) (by decide) rfl (fun ls hl => ?_)
          refine lv_goto (tgt := 226) hx hb dL_areAlike_300 (by decide) ?_
          refine W.widen (k := 33 + 3 * (j + 1)) (n := 198 + 18 * (j + 1)) (by omega) (by omega) ?_
          exact ih (j + 1) (by omega) _ _ _ hP hD hS (lv_sub hl [0, 2, 1, 3, 4, 5] rfl) kk
        refine lv_aload_n hx hb dL_areAlike_252 rfl (lv_at hl 4 rfl) ?_
        refine lv_iload hx hb dL_areAlike_253 (lv_at hl 1 rfl) ?_
        refine lv_iload hx hb dL_areAlike_255 (lv_at hl 0 rfl) ?_
        refine call_wX (As := [.ref y, .int (nI 2), .int (nI j)]) (rest := []) (wr := (FW g x (lN SL) q u k (nI np) mv lm ch (lN F) d v f (nI cnt) (nI ll))) ⟨hx, hb, hml, hown, hts⟩ (c_L_at_fragmentAt l hl0 g y q' u' d' v' SL' k' K np mv lm ch F' f' S' cnt ll hSL.2.1 hF.2.1 hk2 hp hf2 hc hll (nI j)) (vx_cwSW 3 hts gL_areAlike_L_at rfl rfl rfl ⟨by decide +kernel, by decide +kernel, by decide +kernel⟩ ⟨Nat.le_of_ble_eq_true rfl, Nat.le_of_ble_eq_true rfl⟩) hP hK hD hS hA hXk hNc [5, 6, 7, 8, 9] [0, 1, 2, 3, 4] rfl rfl (by decide) (by decide) (by decide) rfl hl.1 rfl (Nat.le_of_ble_eq_true rfl) dL_areAlike_257 ⟨by show 33 + 3 * j + 1 ≤ 80; omega, by show 198 + 18 * j + 6 ≤ 480; omega⟩ (fun rb2 w H locs h_rb2 hP hD hS => ?_)
        obtain ⟨rfl, k_rb2⟩ := at_l (X := F') (c := j) (r := rb2) hF.2.1.1 (by omega) h_rb2
        refine lv_aload_n hx hb dL_areAlike_260 rfl (lv_at hl 3 rfl) ?_
        refine lv_iload hx hb dL_areAlike_261 (lv_at hl 1 rfl) ?_
        refine lv_iload hx hb dL_areAlike_263 (lv_at hl 0 rfl) ?_
        refine call_wX (As := [.ref x, .int (nI 2), .int (nI j)]) (rest := [.int rb2]) (wr := (FW g y (lN SL') q' u' k' (nI np) mv lm ch (lN F') d' v' f' (nI cnt) (nI ll))) ⟨hx, hb, hml, hown, hts⟩ (c_L_at_fragmentAt l hl0 g x q u d v SL k K np mv lm ch F f S cnt ll hSL.1 hF.1 hk hp hf hc hll (nI j)) (vx_cwSW 3 hts gL_areAlike_L_at rfl rfl rfl ⟨by decide +kernel, by decide +kernel, by decide +kernel⟩ ⟨Nat.le_of_ble_eq_true rfl, Nat.le_of_ble_eq_true rfl⟩) hP hK hD hS hA hXk hNc [0, 1, 2, 3, 4] [5, 6, 7, 8, 9] rfl rfl (by decide) (by decide) (by decide) rfl hl.1 rfl (Nat.le_of_ble_eq_true rfl) dL_areAlike_265 ⟨by show 33 + 3 * j + 1 + 1 ≤ 80; omega, by show 198 + 18 * j + 6 + 6 ≤ 480; omega⟩ (fun ra2 w H locs h_ra2 hP hD hS => ?_)
        obtain ⟨rfl, k_ra2⟩ := at_l (X := F) (c := j) (r := ra2) hF.1.1 (by omega) h_ra2
        have hP : va_P g.1 vwCl ((FW g x (lN SL) q u k (nI np) mv lm ch (lN F) d v f (nI cnt) (nI ll)) ++ (FW g y (lN SL') q' u' k' (nI np) mv lm ch (lN F') d' v' f' (nI cnt) (nI ll))) H := hP.sub [5, 6, 7, 8, 9, 0, 1, 2, 3, 4] rfl
        have hD : va_D A ((FW g x (lN SL) q u k (nI np) mv lm ch (lN F) d v f (nI cnt) (nI ll)) ++ (FW g y (lN SL') q' u' k' (nI np) mv lm ch (lN F') d' v' f' (nI cnt) (nI ll))) := hD.sub [5, 6, 7, 8, 9, 0, 1, 2, 3, 4] (by decide) rfl
        refine lv_bipush (v := -5) hx hb dL_areAlike_268 (by decide) ?_
        rcases k_ra2 with ⟨hj2, rfl⟩ | ⟨hj2, rfl⟩
        · skip
          refine lv_icmp_ne (tgt := 278) hx hb dL_areAlike_270 (by decide) (fun _ => ?_) (fun c9 => absurd c9 (nI_nem5 (by have := (hF.2.2.2 j hj2).1; omega)))
          refine lv_aload_n hx hb dL_areAlike_278 rfl (lv_at hl 3 rfl) ?_
          refine lv_iload hx hb dL_areAlike_279 (lv_at hl 1 rfl) ?_
          refine lv_iload hx hb dL_areAlike_281 (lv_at hl 0 rfl) ?_
          refine call_wX (As := [.ref x, .int (nI 2), .int (nI j)]) (rest := [.int rb2]) (wr := (FW g y (lN SL') q' u' k' (nI np) mv lm ch (lN F') d' v' f' (nI cnt) (nI ll))) ⟨hx, hb, hml, hown, hts⟩ (c_L_at_fragmentAt l hl0 g x q u d v SL k K np mv lm ch F f S cnt ll hSL.1 hF.1 hk hp hf hc hll (nI j)) (vx_cwSW 3 hts gL_areAlike_L_at rfl rfl rfl ⟨by decide +kernel, by decide +kernel, by decide +kernel⟩ ⟨Nat.le_of_ble_eq_true rfl, Nat.le_of_ble_eq_true rfl⟩) hP hK hD hS hA hXk hNc [0, 1, 2, 3, 4] [5, 6, 7, 8, 9] rfl rfl (by decide) (by decide) (by decide) rfl hl.1 rfl (Nat.le_of_ble_eq_true rfl) dL_areAlike_283 ⟨by show 33 + 3 * j + 1 + 1 + 1 ≤ 80; omega, by show 198 + 18 * j + 6 + 6 + 6 ≤ 480; omega⟩ (fun ra3 w H locs h_ra3 hP hD hS => ?_)
          obtain ⟨rfl, k_ra3⟩ := at_l (X := F) (c := j) (r := ra3) hF.1.1 (by omega) h_ra3
          have hP : va_P g.1 vwCl ((FW g x (lN SL) q u k (nI np) mv lm ch (lN F) d v f (nI cnt) (nI ll)) ++ (FW g y (lN SL') q' u' k' (nI np) mv lm ch (lN F') d' v' f' (nI cnt) (nI ll))) H := hP.sub [5, 6, 7, 8, 9, 0, 1, 2, 3, 4] rfl
          have hD : va_D A ((FW g x (lN SL) q u k (nI np) mv lm ch (lN F) d v f (nI cnt) (nI ll)) ++ (FW g y (lN SL') q' u' k' (nI np) mv lm ch (lN F') d' v' f' (nI cnt) (nI ll))) := hD.sub [5, 6, 7, 8, 9, 0, 1, 2, 3, 4] (by decide) rfl
          refine lv_iload_n hx hb dL_areAlike_286 rfl (lv_at hl 5 rfl) ?_
          refine lv_iadd hx hb dL_areAlike_287 ?_
          have e9 : rb2 = ra3 + nI m := by
            rcases k_rb2 with ⟨q1, q2⟩ | ⟨q1, -⟩
            · rcases k_ra3 with ⟨q3, q4⟩ | ⟨q3, -⟩
              · rw [q2, q4, nI_add, (hF.2.2.2 j hj2).2]
              · omega
            · rw [hF.2.2.1] at q1; omega
          refine lv_icmp_ne (tgt := 295) hx hb dL_areAlike_288 (by decide) (fun c9 => absurd e9 c9) (fun _ => ?_)
          exact JE _ _ _ hP hD hS hl
        · skip
          refine lv_icmp_ne (tgt := 278) hx hb dL_areAlike_270 (by decide) (fun c9 => absurd rfl c9) (fun _ => ?_)
          refine lv_bipush (v := -5) hx hb dL_areAlike_273 (by decide) ?_
          refine lv_goto (tgt := 288) hx hb dL_areAlike_275 (by decide) ?_
          have e9 : rb2 = -5 := by
            rcases k_rb2 with ⟨q1, -⟩ | ⟨-, q2⟩
            · rw [hF.2.2.1] at q1; omega
            · exact q2
          refine lv_icmp_ne (tgt := 295) hx hb dL_areAlike_288 (by decide) (fun c9 => absurd e9 c9) (fun _ => ?_)
          exact W.widen (k := 33 + 3 * j + 1 + 1 + 1) (n := 198 + 18 * j + 6 + 6 + 6) (by omega) (by omega) (JE _ _ _ hP hD hS hl)
    refine lv_iconst (v := nI 0) hx hb dL_areAlike_223 (by decide) ?_
    refine lv_istore (lv' := [(5, .int (nI 0)), (4, .int (nI 2)), (3, .int (nI 1)), (0, .ref x), (1, .ref y), (2, .int (nI m))]) hx hb dL_areAlike_224 hl (by decide) rfl (fun ls hl => ?_)
    refine I2 (rwL F + 1) 0 (by omega) _ _ _ hP hD hS (lv_sub hl [0, 1, 2, 3, 4, 5] rfl) (fun j H locs ls hP hD hS hl => ?_)
    refine lv_iinc (k := 1) (v := nI (2 + 1)) (lv' := [(4, .int (nI (2 + 1))), (5, .int (nI j)), (3, .int (nI 1)), (0, .ref x), (1, .ref y), (2, .int (nI m))]) hx hb dL_areAlike_303 hl rfl (by rw [show Int32.ofInt 1 = nI 1 from by decide +kernel, nI_add]) (by decide) rfl (fun ls hl => ?_)
    refine lv_goto (tgt := 213) hx hb dL_areAlike_306 (by decide) ?_
    have hl : lv_has ls 6 [(4, .int (nI 3)), (3, .int (nI 1)), (0, .ref x), (1, .ref y), (2, .int (nI m))] := lv_sub hl [0, 2, 3, 4, 5] rfl
    refine lv_iload hx hb dL_areAlike_213 (lv_at hl 0 rfl) ?_
    refine lv_iconst (v := nI 3) hx hb dL_areAlike_215 (by decide) ?_
    refine lv_icmp_ge (tgt := 309) hx hb dL_areAlike_216 (by decide) (fun _ => ?_) (fun c9 => absurd (by decide) c9)
    refine lv_iconst (v := nI 0) hx hb dL_areAlike_309 (by decide) ?_
    refine lv_istore (lv' := [(4, .int (nI 0)), (3, .int (nI 1)), (0, .ref x), (1, .ref y), (2, .int (nI m))]) hx hb dL_areAlike_310 hl (by decide) rfl (fun ls hl => ?_)
    have I3 : ∀ (n j : Nat), j + n = 5 → ∀ (H : Heap) (locs : List Loc) (ls : Array Slot), va_P g.1 vwCl ((FW g x (lN SL) q u k (nI np) mv lm ch (lN F) d v f (nI cnt) (nI ll)) ++ (FW g y (lN SL') q' u' k' (nI np) mv lm ch (lN F') d' v' f' (nI cnt) (nI ll))) H → va_D A ((FW g x (lN SL) q u k (nI np) mv lm ch (lN F) d v f (nI cnt) (nI ll)) ++ (FW g y (lN SL') q' u' k' (nI np) mv lm ch (lN F') d' v' f' (nI cnt) (nI ll))) → va_S A s.heap H locs → lv_has ls 6 [(4, .int (nI j)), (3, .int (nI 1)), (0, .ref x), (1, .ref y), (2, .int (nI m))] → W p l e rm_L_areAlike s m0 args below meth c H locs (66 + 2 * j) (396 + 12 * j) Z (F0 m0 312 ls []) := by
      intro n
      induction n with
      | zero =>
        intro j hj H locs ls hP hD hS hl
        obtain rfl : j = 5 := by omega
        refine lv_iload hx hb dL_areAlike_312 (lv_at hl 0 rfl) ?_
        refine lv_iconst (v := nI 5) hx hb dL_areAlike_314 (by decide) ?_
        refine lv_icmp_ge (tgt := 351) hx hb dL_areAlike_315 (by decide) (fun _ => ?_) (fun c9 => absurd (by decide) c9)
        refine lv_iload_n hx hb dL_areAlike_351 rfl (lv_at hl 1 rfl) ?_
        exact hret (nI 1) _ _ _ _ _ _ _ (by decide) (by decide) dL_areAlike_352 (Or.inr rfl) ⟨rfl, rfl⟩ hP hD hS
      | succ n ih =>
        intro j hj H locs ls hP hD hS hl
        refine lv_iload hx hb dL_areAlike_312 (lv_at hl 0 rfl) ?_
        refine lv_iconst (v := nI 5) hx hb dL_areAlike_314 (by decide) ?_
        refine lv_icmp_ge (tgt := 351) hx hb dL_areAlike_315 (by decide) (fun c9 => absurd ((nI_leI (a := 5) (b := j) (by omega) (by omega)).mp c9) (by omega)) (fun _ => ?_)
        refine lv_iload_n hx hb dL_areAlike_318 rfl (lv_at hl 1 rfl) ?_
        refine lv_if_eq (tgt := 351) hx hb dL_areAlike_319 (by decide) (fun c9 => absurd c9 (by decide)) (fun _ => ?_)
        refine lv_aload_n hx hb dL_areAlike_322 rfl (lv_at hl 2 rfl) ?_
        refine lv_iconst (v := nI 3) hx hb dL_areAlike_323 (by decide) ?_
        refine lv_iload hx hb dL_areAlike_324 (lv_at hl 0 rfl) ?_
        refine call_wX (As := [.ref x, .int (nI 3), .int (nI j)]) (rest := []) (wr := (FW g y (lN SL') q' u' k' (nI np) mv lm ch (lN F') d' v' f' (nI cnt) (nI ll))) ⟨hx, hb, hml, hown, hts⟩ (c_L_at_strikes l hl0 g x q u d v SL k K np mv lm ch F f S cnt ll hSL.1 hF.1 hk hp hf hc hll (nI j)) (vx_cwSW 3 hts gL_areAlike_L_at rfl rfl rfl ⟨by decide +kernel, by decide +kernel, by decide +kernel⟩ ⟨Nat.le_of_ble_eq_true rfl, Nat.le_of_ble_eq_true rfl⟩) hP hK hD hS hA hXk hNc [0, 1, 2, 3, 4] [5, 6, 7, 8, 9] rfl rfl (by decide) (by decide) (by decide) rfl hl.1 rfl (Nat.le_of_ble_eq_true rfl) dL_areAlike_326 ⟨by show 66 + 2 * j + 1 ≤ 80; omega, by show 396 + 12 * j + 6 ≤ 480; omega⟩ (fun ra2 w H locs h_ra2 hP hD hS => ?_)
        obtain ⟨rfl, k_ra2⟩ := at_s (K := K) (np := np) (c := j) (r := ra2) hp (by omega) h_ra2
        have hP : va_P g.1 vwCl ((FW g x (lN SL) q u k (nI np) mv lm ch (lN F) d v f (nI cnt) (nI ll)) ++ (FW g y (lN SL') q' u' k' (nI np) mv lm ch (lN F') d' v' f' (nI cnt) (nI ll))) H := hP.sub [5, 6, 7, 8, 9, 0, 1, 2, 3, 4] rfl
        have hD : va_D A ((FW g x (lN SL) q u k (nI np) mv lm ch (lN F) d v f (nI cnt) (nI ll)) ++ (FW g y (lN SL') q' u' k' (nI np) mv lm ch (lN F') d' v' f' (nI cnt) (nI ll))) := hD.sub [5, 6, 7, 8, 9, 0, 1, 2, 3, 4] (by decide) rfl
        refine lv_aload_n hx hb dL_areAlike_329 rfl (lv_at hl 3 rfl) ?_
        refine lv_iconst (v := nI 3) hx hb dL_areAlike_330 (by decide) ?_
        refine lv_iload hx hb dL_areAlike_331 (lv_at hl 0 rfl) ?_
        refine call_wX (As := [.ref y, .int (nI 3), .int (nI j)]) (rest := [.int ra2]) (wr := (FW g x (lN SL) q u k (nI np) mv lm ch (lN F) d v f (nI cnt) (nI ll))) ⟨hx, hb, hml, hown, hts⟩ (c_L_at_strikes l hl0 g y q' u' d' v' SL' k' K np mv lm ch F' f' S' cnt ll hSL.2.1 hF.2.1 hk2 hp hf2 hc hll (nI j)) (vx_cwSW 3 hts gL_areAlike_L_at rfl rfl rfl ⟨by decide +kernel, by decide +kernel, by decide +kernel⟩ ⟨Nat.le_of_ble_eq_true rfl, Nat.le_of_ble_eq_true rfl⟩) hP hK hD hS hA hXk hNc [5, 6, 7, 8, 9] [0, 1, 2, 3, 4] rfl rfl (by decide) (by decide) (by decide) rfl hl.1 rfl (Nat.le_of_ble_eq_true rfl) dL_areAlike_333 ⟨by show 66 + 2 * j + 1 + 1 ≤ 80; omega, by show 396 + 12 * j + 6 + 6 ≤ 480; omega⟩ (fun rb2 w H locs h_rb2 hP hD hS => ?_)
        obtain ⟨rfl, k_rb2⟩ := at_s (K := K) (np := np) (c := j) (r := rb2) hp (by omega) h_rb2
        have e9 : ra2 = rb2 := by
          rcases k_ra2 with ⟨q1, q2⟩ | ⟨q1, q2⟩ <;> rcases k_rb2 with ⟨q3, q4⟩ | ⟨q3, q4⟩
          · rw [q2, q4]
          · omega
          · omega
          · rw [q2, q4]
        refine lv_icmp_ne (tgt := 343) hx hb dL_areAlike_336 (by decide) (fun c9 => absurd (e9) c9) (fun _ => ?_)
        refine lv_iconst (v := nI 1) hx hb dL_areAlike_339 (by decide) ?_
        refine lv_goto (tgt := 344) hx hb dL_areAlike_340 (by decide) ?_
        refine lv_istore_n (lv' := [(3, .int (nI 1)), (4, .int (nI j)), (0, .ref x), (1, .ref y), (2, .int (nI m))]) hx hb dL_areAlike_344 rfl hl (by decide) rfl (fun ls hl => ?_)
        refine lv_iinc (k := 1) (v := nI (j + 1)) (lv' := [(4, .int (nI (j + 1))), (3, .int (nI 1)), (0, .ref x), (1, .ref y), (2, .int (nI m))]) hx hb dL_areAlike_345 hl rfl (by rw [show Int32.ofInt 1 = nI 1 from by decide +kernel, nI_add]) (by decide) rfl (fun ls hl => ?_)
        refine lv_goto (tgt := 312) hx hb dL_areAlike_348 (by decide) ?_
        refine W.widen (k := 66 + 2 * (j + 1)) (n := 396 + 12 * (j + 1)) (by omega) (by omega) ?_
        exact ih (j + 1) (by omega) _ _ _ hP hD hS (lv_sub hl [0, 1, 2, 3, 4] rfl)
    exact I3 5 0 (by omega) _ _ _ hP hD hS (lv_sub hl [0, 1, 2, 3, 4] rfl)
  rcases hch with ⟨ea, eb⟩ | ⟨a, ha4, ea, eb⟩
  · skip
    refine lv_icmp_ne (tgt := 195) hx hb dL_areAlike_188 (by decide) (fun c9 => absurd ea c9) (fun _ => ?_)
    refine lv_iconst (v := -1) hx hb dL_areAlike_191 (by decide) ?_
    refine lv_goto (tgt := 201) hx hb dL_areAlike_192 (by decide) ?_
    refine lv_icmp_ne (tgt := 208) hx hb dL_areAlike_201 (by decide) (fun c9 => absurd eb c9) (fun _ => ?_)
    exact J _ _ _ hP hD hS hl
  · skip
    refine lv_icmp_ne (tgt := 195) hx hb dL_areAlike_188 (by decide) (fun _ => ?_) (fun c9 => absurd (ea.symm.trans c9) (nI_nem1 (by omega)))
    refine lv_aload_n hx hb dL_areAlike_195 rfl (lv_at hl 1 rfl) ?_
    refine call_iV (As := []) (rest := [.int rb]) (wr := (FW g y (lN SL') q' u' k' (nI np) mv lm ch (lN F') d' v' f' (nI cnt) (nI ll))) ⟨hx, hb, hml, hown, hts⟩ (c_X4_bestLetter l g x q u d v SL k K np mv lm ch F f S cnt ll hSL.1 hF.1 hk hp hf hc hll) (cwV 0 hts gL_areAlike_X4_bestLetter rfl rfl rfl (by decide +kernel) ⟨Nat.le_of_ble_eq_true rfl, Nat.le_of_ble_eq_true rfl⟩) hP hK hD hS hA [0, 1, 2, 3, 4] [5, 6, 7, 8, 9] rfl rfl (by decide) (by decide) (by decide) 0 rfl rfl rfl rfl hl.1 rfl (Nat.le_of_ble_eq_true rfl) dL_areAlike_196 ⟨Nat.le_of_ble_eq_true rfl, Nat.le_of_ble_eq_true rfl⟩ (fun rc w H locs h_rc hP hD hS => ?_)
    obtain ⟨rfl, h_rc⟩ := h_rc
    have hP : va_P g.1 vwCl ((FW g x (lN SL) q u k (nI np) mv lm ch (lN F) d v f (nI cnt) (nI ll)) ++ (FW g y (lN SL') q' u' k' (nI np) mv lm ch (lN F') d' v' f' (nI cnt) (nI ll))) H := hP.sub [5, 6, 7, 8, 9, 0, 1, 2, 3, 4] rfl
    have hD : va_D A ((FW g x (lN SL) q u k (nI np) mv lm ch (lN F) d v f (nI cnt) (nI ll)) ++ (FW g y (lN SL') q' u' k' (nI np) mv lm ch (lN F') d' v' f' (nI cnt) (nI ll))) := hD.sub [5, 6, 7, 8, 9, 0, 1, 2, 3, 4] (by decide) rfl
    refine lv_iload_n hx hb dL_areAlike_199 rfl (lv_at hl 3 rfl) ?_
    refine lv_iadd hx hb dL_areAlike_200 ?_
    have e9 : rb = rc + nI m := by
      rcases hW.chs (ll := ll) hm hF (r := rc) (r' := rb) h_rc h_rb with ⟨q1, q2⟩ | ⟨a2, q0, q1, q2⟩
      · exact absurd (eb.symm.trans q2) (nI_nem1 (by omega))
      · rw [q1, q2, nI_add]
    refine lv_icmp_ne (tgt := 208) hx hb dL_areAlike_201 (by decide) (fun c9 => absurd e9 c9) (fun _ => ?_)
    exact J _ _ _ hP hD hS hl
end ALIKE
