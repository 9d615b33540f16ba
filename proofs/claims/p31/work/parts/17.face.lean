theorem rl_pos {P : Nat} (h : RV P) (hn : ¬ P = 0) : 0 < rwL P := by
  rcases Nat.eq_zero_or_pos (rwL P) with q | q
  · have h1 := h.2.1
    rw [q, Nat.pow_zero] at h1
    have h2 := rk_e P
    rw [q] at h2
    unfold rwK at h2
    omega
  · exact q
abbrev rm_X4_isLetter : Room := { frames := 0, cells := 0, slots := 0, locals := 0 }
set_option maxHeartbeats 4000000 in
set_option maxRecDepth 100000 in
theorem c_X4_isLetter (l : Launch) (x : Int32) : Pi l yX4_isLetter wsX4_isLetter rm_X4_isLetter [.int (x)] (fun r => Bv r (∃ a : Nat, a < 26 ∧ nI a = x)) := by
  intro g
  refine Ci.ofZ (cc := cX4_isLetter) (maxL := 1) (by decide) rfl (Nat.le_of_ble_eq_true rfl) ?_
  intro p e s m args below meth c A Z hx hb hml hts hown hK hA hret H locs ls hP hD hS hl
  have hl : lv_has ls 1 [(0, .int (x))] := hl
  refine lv_iload_n hx hb dX4_isLetter_0 rfl (lv_at hl 0 rfl) ?_
  refine lv_if_lt (tgt := 14) hx hb dX4_isLetter_1 (by decide) (fun c_1_1 => ?_) (fun c_1_1 => ?_)
  · skip
    have nj : ¬ (∃ a : Nat, a < 26 ∧ nI a = x) := by
      rintro ⟨j, hj, rfl⟩
      exact nI_pos (by omega) c_1_1
    refine lv_iconst (v := nI 0) hx hb dX4_isLetter_14 (by decide) ?_
    exact hret (nI (0)) [] _ _ _ _ dX4_isLetter_15 (Or.inl rfl) (⟨rfl, Bv.no nj⟩) hP hD hS
  · skip
    refine lv_iload_n hx hb dX4_isLetter_4 rfl (lv_at hl 0 rfl) ?_
    refine lv_bipush (v := nI 26) hx hb dX4_isLetter_5 (by decide) ?_
    refine lv_icmp_ge (tgt := 14) hx hb dX4_isLetter_7 (by decide) (fun c_7_2 => ?_) (fun c_7_2 => ?_)
    · skip
      have nj : ¬ (∃ a : Nat, a < 26 ∧ nI a = x) := by
        rintro ⟨j, hj, rfl⟩
        have := (nI_leI (by omega) (by omega)).mp c_7_2
        omega
      refine lv_iconst (v := nI 0) hx hb dX4_isLetter_14 (by decide) ?_
      exact hret (nI (0)) [] _ _ _ _ dX4_isLetter_15 (Or.inl rfl) (⟨rfl, Bv.no nj⟩) hP hD hS
    · skip
      have nj : (∃ a : Nat, a < 26 ∧ nI a = x) := by
        rcases pk_ix x (n := 26) (by omega) with h | h | ⟨j, h1, h2⟩
        · exact absurd h c_1_1
        · exact absurd h c_7_2
        · exact ⟨j, h1, h2.symm⟩
      refine lv_iconst (v := nI 1) hx hb dX4_isLetter_10 (by decide) ?_
      refine lv_goto (tgt := 15) hx hb dX4_isLetter_11 (by decide) ?_
      exact hret (nI (1)) [] _ _ _ _ dX4_isLetter_15 (Or.inr rfl) (⟨rfl, Bv.yes nj⟩) hP hD hS

abbrev rm_X4_slipLength : Room := { frames := 1, cells := 0, slots := 0, locals := 21 }
set_option maxHeartbeats 4000000 in
set_option maxRecDepth 100000 in
theorem c_X4_slipLength (l : Launch) (g : GG) (x q u d v : Nat) (SL : Nat) (k : Nat → Int32) (K : Nat → Nat) (np : Nat) (mv lm ch : Int32) (F : Nat) (f : Nat → Int64) (S : Nat → Nat) (cnt ll : Nat) (hSL : RV SL) (hF : RV F) (hk : GK k K) (hp : np ≤ 4) (hf : DR f S cnt) (hc : cnt ≤ 50) (hll : ll ≤ 10) : Ci l yX4_slipLength wsX4_slipLength rm_X4_slipLength g [.ref (x)] (FW g x (lN SL) q u k (nI np) mv lm ch (lN F) d v f (nI cnt) (nI ll)) (fun r w => w = (FW g x (lN SL) q u k (nI np) mv lm ch (lN F) d v f (nI cnt) (nI ll)) ∧ r = nI (rwL SL)) := by
  refine Ci.ofI (cc := cX4_slipLength) (maxL := 1) (by decide) rfl (Nat.le_of_ble_eq_true rfl) ?_
  intro p e s m args below meth c A Z hx hb hml hts hown hK hA hret H locs ls hP hD hS hl
  have f_25 := hts (.fieldLink RX4 25 "GhostGame" "slip" "J") (by decide +kernel)
  have hi_2 : ∀ w ∈ wsX40, w ∈ wsX4_slipLength := by decide +kernel
  have hl : lv_has ls 1 [(0, .ref (x))] := hl
  refine lv_aload_n hx hb dX4_slipLength_0 rfl (lv_at hl 0 rfl) ?_
  refine va_get (D := g.1) (ci := 2) (v := .long (lN (SL))) (C := RX4) (T := TX4) (N := 3) hx hb hts hi_2 hown hK hP 0 rfl rfl 2 (by decide) f_25 (fun _ h9 => h9) rfl dX4_slipLength_1 ?_
  refine call_iP (As := [.long (lN (SL))]) (rest := []) ⟨hx, hb, hml, hown, hts⟩ (c_X2_lengthOf l SL (hSL).lt) (va_cwS 1 hts gX4_slipLength_X2_lengthOf rfl rfl rfl (by decide +kernel) ⟨Nat.le_of_ble_eq_true rfl, Nat.le_of_ble_eq_true rfl⟩) hP hK hD hS hA rfl hl.1 rfl (Nat.le_of_ble_eq_true rfl) dX4_slipLength_4 ⟨Nat.le_refl _, Nat.le_refl _⟩ (fun r_4 H locs h_4 hP hD hS => ?_)
  subst h_4
  exact hret (nI (rwL SL)) (FW g x (lN SL) q u k (nI np) mv lm ch (lN F) d v f (nI cnt) (nI ll)) _ _ _ _ dX4_slipLength_7 (⟨rfl, rfl⟩) hP hD hS

abbrev rm_X4_fragmentLength : Room := { frames := 1, cells := 0, slots := 0, locals := 21 }
set_option maxHeartbeats 4000000 in
set_option maxRecDepth 100000 in
theorem c_X4_fragmentLength (l : Launch) (g : GG) (x q u d v : Nat) (SL : Nat) (k : Nat → Int32) (K : Nat → Nat) (np : Nat) (mv lm ch : Int32) (F : Nat) (f : Nat → Int64) (S : Nat → Nat) (cnt ll : Nat) (hSL : RV SL) (hF : RV F) (hk : GK k K) (hp : np ≤ 4) (hf : DR f S cnt) (hc : cnt ≤ 50) (hll : ll ≤ 10) : Ci l yX4_fragmentLength wsX4_fragmentLength rm_X4_fragmentLength g [.ref (x)] (FW g x (lN SL) q u k (nI np) mv lm ch (lN F) d v f (nI cnt) (nI ll)) (fun r w => w = (FW g x (lN SL) q u k (nI np) mv lm ch (lN F) d v f (nI cnt) (nI ll)) ∧ r = nI (rwL F)) := by
  refine Ci.ofI (cc := cX4_fragmentLength) (maxL := 1) (by decide) rfl (Nat.le_of_ble_eq_true rfl) ?_
  intro p e s m args below meth c A Z hx hb hml hts hown hK hA hret H locs ls hP hD hS hl
  have f_19 := hts (.fieldLink RX4 19 "GhostGame" "game" "LGhostGame$Game;") (by decide +kernel)
  have hi_2 : ∀ w ∈ wsX40, w ∈ wsX4_fragmentLength := by decide +kernel
  have hl : lv_has ls 1 [(0, .ref (x))] := hl
  refine lv_aload_n hx hb dX4_fragmentLength_0 rfl (lv_at hl 0 rfl) ?_
  refine va_get (D := g.1) (ci := 2) (v := .ref (q)) (C := RX4) (T := TX4) (N := 3) hx hb hts hi_2 hown hK hP 0 rfl rfl 1 (by decide) f_19 (fun _ h9 => h9) rfl dX4_fragmentLength_1 ?_
  refine call_lV (As := []) (rest := []) (wr := [(x, .inr (2, [.ref (d), .ref (q), .long (lN (SL))])), (d, .inr (0, [.ref (v), .int (nI (cnt)), .int (nI (ll))])), (v, .inl (g.2.2.1, 50, .inr (.inl (f))))]) ⟨hx, hb, hml, hown, hts⟩ (c_X1_fragment l g q u k (nI np) mv lm ch (lN F)) (cwV 0 hts gX4_fragmentLength_X1_fragment rfl rfl rfl (by decide +kernel) ⟨Nat.le_of_ble_eq_true rfl, Nat.le_of_ble_eq_true rfl⟩) hP hK hD hS hA [1, 2] [0, 3, 4] rfl rfl (by decide) (by decide) (by decide) 0 rfl rfl rfl rfl hl.1 rfl (Nat.le_of_ble_eq_true rfl) dX4_fragmentLength_4 ⟨Nat.le_refl _, Nat.le_refl _⟩ (fun r_4 w H locs h_4 hP hD hS => ?_)
  obtain ⟨rfl, h_4⟩ := h_4
  subst h_4
  have hP := hP.sub [0, 3, 4, 1, 2] (ws' := (FW g x (lN SL) q u k (nI np) mv lm ch (lN F) d v f (nI cnt) (nI ll))) rfl
  have hD := hD.sub [0, 3, 4, 1, 2] (ws' := (FW g x (lN SL) q u k (nI np) mv lm ch (lN F) d v f (nI cnt) (nI ll))) (by decide) rfl
  have hP : va_P g.1 vwCl (FW g x (lN SL) q u k (nI np) mv lm ch (lN F) d v f (nI cnt) (nI ll)) H := hP
  have hD : va_D A (FW g x (lN SL) q u k (nI np) mv lm ch (lN F) d v f (nI cnt) (nI ll)) := hD
  refine call_iP (As := [.long (lN (F))]) (rest := []) ⟨hx, hb, hml, hown, hts⟩ (c_X2_lengthOf l F (hF).lt) (va_cwS 1 hts gX4_fragmentLength_X2_lengthOf rfl rfl rfl (by decide +kernel) ⟨Nat.le_of_ble_eq_true rfl, Nat.le_of_ble_eq_true rfl⟩) hP hK hD hS hA rfl hl.1 rfl (Nat.le_of_ble_eq_true rfl) dX4_fragmentLength_7 ⟨Nat.le_refl _, Nat.le_refl _⟩ (fun r_7 H locs h_7 hP hD hS => ?_)
  subst h_7
  exact hret (nI (rwL F)) (FW g x (lN SL) q u k (nI np) mv lm ch (lN F) d v f (nI cnt) (nI ll)) _ _ _ _ dX4_fragmentLength_10 (⟨rfl, rfl⟩) hP hD hS

abbrev rm_X4_wipe : Room := { frames := 1, cells := 0, slots := 0, locals := 21 }
set_option maxHeartbeats 4000000 in
set_option maxRecDepth 100000 in
theorem c_X4_wipe (l : Launch) (g : GG) (x q u d v : Nat) (SL : Nat) (k : Nat → Int32) (K : Nat → Nat) (np : Nat) (mv lm ch : Int32) (F : Nat) (f : Nat → Int64) (S : Nat → Nat) (cnt ll : Nat) (hSL : RV SL) (hF : RV F) (hk : GK k K) (hp : np ≤ 4) (hf : DR f S cnt) (hc : cnt ≤ 50) (hll : ll ≤ 10) : Ci l yX4_wipe wsX4_wipe rm_X4_wipe g [.ref (x)] (FW g x (lN SL) q u k (nI np) mv lm ch (lN F) d v f (nI cnt) (nI ll)) (fun r w => w = (FW g x (lN 0) q u k (nI np) mv lm ch (lN F) d v f (nI cnt) (nI ll)) ∧ r = nI (rwL SL)) := by
  refine Ci.ofI (cc := cX4_wipe) (maxL := 2) (by decide) rfl (Nat.le_of_ble_eq_true rfl) ?_
  intro p e s m args below meth c A Z hx hb hml hts hown hK hA hret H locs ls hP hD hS hl
  have f_25 := hts (.fieldLink RX4 25 "GhostGame" "slip" "J") (by decide +kernel)
  have hi_2 : ∀ w ∈ wsX40, w ∈ wsX4_wipe := by decide +kernel
  have hl : lv_has ls 2 [(0, .ref (x))] := hl
  refine lv_aload_n hx hb dX4_wipe_0 rfl (lv_at hl 0 rfl) ?_
  refine va_get (D := g.1) (ci := 2) (v := .long (lN (SL))) (C := RX4) (T := TX4) (N := 3) hx hb hts hi_2 hown hK hP 0 rfl rfl 2 (by decide) f_25 (fun _ h9 => h9) rfl dX4_wipe_1 ?_
  refine call_iP (As := [.long (lN (SL))]) (rest := []) ⟨hx, hb, hml, hown, hts⟩ (c_X2_lengthOf l SL (hSL).lt) (va_cwS 1 hts gX4_wipe_X2_lengthOf rfl rfl rfl (by decide +kernel) ⟨Nat.le_of_ble_eq_true rfl, Nat.le_of_ble_eq_true rfl⟩) hP hK hD hS hA rfl hl.1 rfl (Nat.le_of_ble_eq_true rfl) dX4_wipe_4 ⟨Nat.le_refl _, Nat.le_refl _⟩ (fun r_4 H locs h_4 hP hD hS => ?_)
  subst h_4
  refine lv_istore_n (lv' := [(1, .int (nI (rwL SL))), (0, .ref (x))]) hx hb dX4_wipe_7 rfl hl (by decide) rfl (fun ls hl => ?_)
  refine lv_aload_n hx hb dX4_wipe_8 rfl (lv_at hl 1 rfl) ?_
  refine lv_lconst (v := lN 0) hx hb dX4_wipe_9 (by decide) ?_
  refine va_put (D := g.1) (ci := 2) (v := .long (lN (0))) (ty := .long) (C := RX4) (T := TX4) (N := 3) hx hb hts hi_2 tyX4 tyX4_ok nmX4 hown hK hP hD hS 0 rfl rfl 2 (by decide) f_25 (fun _ h9 => h9) rfl (by decide +kernel) rfl rfl (Nat.le_of_ble_eq_true rfl) dX4_wipe_10 (fun H locs hP hD hS => ?_)
  have hP : va_P g.1 vwCl (FW g x (lN 0) q u k (nI np) mv lm ch (lN F) d v f (nI cnt) (nI ll)) H := hP
  have hD : va_D A (FW g x (lN 0) q u k (nI np) mv lm ch (lN F) d v f (nI cnt) (nI ll)) := hD
  refine lv_iload_n hx hb dX4_wipe_13 rfl (lv_at hl 0 rfl) ?_
  exact hret (nI (rwL SL)) (FW g x (lN 0) q u k (nI np) mv lm ch (lN F) d v f (nI cnt) (nI ll)) _ _ _ _ dX4_wipe_14 (⟨rfl, rfl⟩) hP hD hS

abbrev rm_X4_isWord : Room := { frames := 2, cells := 0, slots := 0, locals := 45 }
set_option maxHeartbeats 4000000 in
set_option maxRecDepth 100000 in
theorem c_X4_isWord (l : Launch) (g : GG) (x q u d v : Nat) (SL : Nat) (k : Nat → Int32) (K : Nat → Nat) (np : Nat) (mv lm ch : Int32) (F : Nat) (f : Nat → Int64) (S : Nat → Nat) (cnt ll : Nat) (hSL : RV SL) (hF : RV F) (hk : GK k K) (hp : np ≤ 4) (hf : DR f S cnt) (hc : cnt ≤ 50) (hll : ll ≤ 10) : Ci l yX4_isWord wsX4_isWord rm_X4_isWord g [.ref (x)] (FW g x (lN SL) q u k (nI np) mv lm ch (lN F) d v f (nI cnt) (nI ll)) (fun r w => w = (FW g x (lN SL) q u k (nI np) mv lm ch (lN F) d v f (nI cnt) (nI ll)) ∧ Bv r (inS S cnt SL)) := by
  refine Ci.ofZ (cc := cX4_isWord) (maxL := 1) (by decide) rfl (Nat.le_of_ble_eq_true rfl) ?_
  intro p e s m args below meth c A Z hx hb hml hts hown hK hA hret H locs ls hP hD hS hl
  have f_10 := hts (.fieldLink RX4 10 "GhostGame" "dictionary" "LGhostGame$Dictionary;") (by decide +kernel)
  have f_25 := hts (.fieldLink RX4 25 "GhostGame" "slip" "J") (by decide +kernel)
  have hi_2 : ∀ w ∈ wsX40, w ∈ wsX4_isWord := by decide +kernel
  have hl : lv_has ls 1 [(0, .ref (x))] := hl
  refine lv_aload_n hx hb dX4_isWord_0 rfl (lv_at hl 0 rfl) ?_
  refine va_get (D := g.1) (ci := 2) (v := .ref (d)) (C := RX4) (T := TX4) (N := 3) hx hb hts hi_2 hown hK hP 0 rfl rfl 0 (by decide) f_10 (fun _ h9 => h9) rfl dX4_isWord_1 ?_
  refine lv_aload_n hx hb dX4_isWord_4 rfl (lv_at hl 0 rfl) ?_
  refine va_get (D := g.1) (ci := 2) (v := .long (lN (SL))) (C := RX4) (T := TX4) (N := 3) hx hb hts hi_2 hown hK hP 0 rfl rfl 2 (by decide) f_25 (fun _ h9 => h9) rfl dX4_isWord_5 ?_
  refine call_iV (As := [.long (lN (SL))]) (rest := []) (wr := [(x, .inr (2, [.ref (d), .ref (q), .long (lN (SL))])), (q, .inr (1, [.ref (u), .int (nI (np)), .int (mv), .int (lm), .int (ch), .long (lN (F))])), (u, .inl (g.2.1, 4, .inl (k)))]) ⟨hx, hb, hml, hown, hts⟩ (c_X0_has l g d v f S cnt ll hf hc SL hSL) (cwV 1 hts gX4_isWord_X0_has rfl rfl rfl (by decide +kernel) ⟨Nat.le_of_ble_eq_true rfl, Nat.le_of_ble_eq_true rfl⟩) hP hK hD hS hA [3, 4] [0, 1, 2] rfl rfl (by decide) (by decide) (by decide) 0 rfl rfl rfl rfl hl.1 rfl (Nat.le_of_ble_eq_true rfl) dX4_isWord_8 ⟨Nat.le_refl _, Nat.le_refl _⟩ (fun r_8 w H locs h_8 hP hD hS => ?_)
  obtain ⟨rfl, h_8⟩ := h_8
  have hP : va_P g.1 vwCl (FW g x (lN SL) q u k (nI np) mv lm ch (lN F) d v f (nI cnt) (nI ll)) H := hP
  have hD : va_D A (FW g x (lN SL) q u k (nI np) mv lm ch (lN F) d v f (nI cnt) (nI ll)) := hD
  exact hret (r_8) (FW g x (lN SL) q u k (nI np) mv lm ch (lN F) d v f (nI cnt) (nI ll)) _ _ _ _ dX4_isWord_11 (Bv.z h_8) (⟨rfl, h_8⟩) hP hD hS

abbrev rm_X4_words : Room := { frames := 1, cells := 0, slots := 0, locals := 20 }
set_option maxHeartbeats 4000000 in
set_option maxRecDepth 100000 in
theorem c_X4_words (l : Launch) (g : GG) (x q u d v : Nat) (SL : Nat) (k : Nat → Int32) (K : Nat → Nat) (np : Nat) (mv lm ch : Int32) (F : Nat) (f : Nat → Int64) (S : Nat → Nat) (cnt ll : Nat) (hSL : RV SL) (hF : RV F) (hk : GK k K) (hp : np ≤ 4) (hf : DR f S cnt) (hc : cnt ≤ 50) (hll : ll ≤ 10) : Ci l yX4_words wsX4_words rm_X4_words g [.ref (x)] (FW g x (lN SL) q u k (nI np) mv lm ch (lN F) d v f (nI cnt) (nI ll)) (fun r w => w = (FW g x (lN SL) q u k (nI np) mv lm ch (lN F) d v f (nI cnt) (nI ll)) ∧ r = nI cnt) := by
  refine Ci.ofI (cc := cX4_words) (maxL := 1) (by decide) rfl (Nat.le_of_ble_eq_true rfl) ?_
  intro p e s m args below meth c A Z hx hb hml hts hown hK hA hret H locs ls hP hD hS hl
  have f_10 := hts (.fieldLink RX4 10 "GhostGame" "dictionary" "LGhostGame$Dictionary;") (by decide +kernel)
  have hi_2 : ∀ w ∈ wsX40, w ∈ wsX4_words := by decide +kernel
  have hl : lv_has ls 1 [(0, .ref (x))] := hl
  refine lv_aload_n hx hb dX4_words_0 rfl (lv_at hl 0 rfl) ?_
  refine va_get (D := g.1) (ci := 2) (v := .ref (d)) (C := RX4) (T := TX4) (N := 3) hx hb hts hi_2 hown hK hP 0 rfl rfl 0 (by decide) f_10 (fun _ h9 => h9) rfl dX4_words_1 ?_
  refine call_iV (As := []) (rest := []) (wr := [(x, .inr (2, [.ref (d), .ref (q), .long (lN (SL))])), (q, .inr (1, [.ref (u), .int (nI (np)), .int (mv), .int (lm), .int (ch), .long (lN (F))])), (u, .inl (g.2.1, 4, .inl (k)))]) ⟨hx, hb, hml, hown, hts⟩ (c_X0_size l g d v f S cnt ll hf hc) (cwV 0 hts gX4_words_X0_size rfl rfl rfl (by decide +kernel) ⟨Nat.le_of_ble_eq_true rfl, Nat.le_of_ble_eq_true rfl⟩) hP hK hD hS hA [3, 4] [0, 1, 2] rfl rfl (by decide) (by decide) (by decide) 0 rfl rfl rfl rfl hl.1 rfl (Nat.le_of_ble_eq_true rfl) dX4_words_4 ⟨Nat.le_refl _, Nat.le_refl _⟩ (fun r_4 w H locs h_4 hP hD hS => ?_)
  obtain ⟨rfl, h_4⟩ := h_4
  subst h_4
  have hP : va_P g.1 vwCl (FW g x (lN SL) q u k (nI np) mv lm ch (lN F) d v f (nI cnt) (nI ll)) H := hP
  have hD : va_D A (FW g x (lN SL) q u k (nI np) mv lm ch (lN F) d v f (nI cnt) (nI ll)) := hD
  exact hret (nI (cnt)) (FW g x (lN SL) q u k (nI np) mv lm ch (lN F) d v f (nI cnt) (nI ll)) _ _ _ _ dX4_words_7 (⟨rfl, rfl⟩) hP hD hS

abbrev rm_X4_wordsFromSlip : Room := { frames := 3, cells := 0, slots := 0, locals := 69 }
set_option maxHeartbeats 4000000 in
set_option maxRecDepth 100000 in
theorem c_X4_wordsFromSlip (l : Launch) (g : GG) (x q u d v : Nat) (SL : Nat) (k : Nat → Int32) (K : Nat → Nat) (np : Nat) (mv lm ch : Int32) (F : Nat) (f : Nat → Int64) (S : Nat → Nat) (cnt ll : Nat) (hSL : RV SL) (hF : RV F) (hk : GK k K) (hp : np ≤ 4) (hf : DR f S cnt) (hc : cnt ≤ 50) (hll : ll ≤ 10) : Ci l yX4_wordsFromSlip wsX4_wordsFromSlip rm_X4_wordsFromSlip g [.ref (x)] (FW g x (lN SL) q u k (nI np) mv lm ch (lN F) d v f (nI cnt) (nI ll)) (fun r w => w = (FW g x (lN SL) q u k (nI np) mv lm ch (lN F) d v f (nI cnt) (nI ll)) ∧ r = nI (fb_ct (fun i => bgB (S i) SL) cnt)) := by
  refine Ci.ofI (cc := cX4_wordsFromSlip) (maxL := 1) (by decide) rfl (Nat.le_of_ble_eq_true rfl) ?_
  intro p e s m args below meth c A Z hx hb hml hts hown hK hA hret H locs ls hP hD hS hl
  have f_10 := hts (.fieldLink RX4 10 "GhostGame" "dictionary" "LGhostGame$Dictionary;") (by decide +kernel)
  have f_25 := hts (.fieldLink RX4 25 "GhostGame" "slip" "J") (by decide +kernel)
  have hi_2 : ∀ w ∈ wsX40, w ∈ wsX4_wordsFromSlip := by decide +kernel
  have hl : lv_has ls 1 [(0, .ref (x))] := hl
  refine lv_aload_n hx hb dX4_wordsFromSlip_0 rfl (lv_at hl 0 rfl) ?_
  refine va_get (D := g.1) (ci := 2) (v := .ref (d)) (C := RX4) (T := TX4) (N := 3) hx hb hts hi_2 hown hK hP 0 rfl rfl 0 (by decide) f_10 (fun _ h9 => h9) rfl dX4_wordsFromSlip_1 ?_
  refine lv_aload_n hx hb dX4_wordsFromSlip_4 rfl (lv_at hl 0 rfl) ?_
  refine va_get (D := g.1) (ci := 2) (v := .long (lN (SL))) (C := RX4) (T := TX4) (N := 3) hx hb hts hi_2 hown hK hP 0 rfl rfl 2 (by decide) f_25 (fun _ h9 => h9) rfl dX4_wordsFromSlip_5 ?_
  refine call_iV (As := [.long (lN (SL))]) (rest := []) (wr := [(x, .inr (2, [.ref (d), .ref (q), .long (lN (SL))])), (q, .inr (1, [.ref (u), .int (nI (np)), .int (mv), .int (lm), .int (ch), .long (lN (F))])), (u, .inl (g.2.1, 4, .inl (k)))]) ⟨hx, hb, hml, hown, hts⟩ (c_X0_countFrom l g d v f S cnt ll hf hc SL hSL) (cwV 1 hts gX4_wordsFromSlip_X0_countFrom rfl rfl rfl (by decide +kernel) ⟨Nat.le_of_ble_eq_true rfl, Nat.le_of_ble_eq_true rfl⟩) hP hK hD hS hA [3, 4] [0, 1, 2] rfl rfl (by decide) (by decide) (by decide) 0 rfl rfl rfl rfl hl.1 rfl (Nat.le_of_ble_eq_true rfl) dX4_wordsFromSlip_8 ⟨Nat.le_refl _, Nat.le_refl _⟩ (fun r_8 w H locs h_8 hP hD hS => ?_)
  obtain ⟨rfl, h_8⟩ := h_8
  subst h_8
  have hP : va_P g.1 vwCl (FW g x (lN SL) q u k (nI np) mv lm ch (lN F) d v f (nI cnt) (nI ll)) H := hP
  have hD : va_D A (FW g x (lN SL) q u k (nI np) mv lm ch (lN F) d v f (nI cnt) (nI ll)) := hD
  exact hret (nI (fb_ct (fun i => bgB (S i) SL) cnt)) (FW g x (lN SL) q u k (nI np) mv lm ch (lN F) d v f (nI cnt) (nI ll)) _ _ _ _ dX4_wordsFromSlip_11 (⟨rfl, rfl⟩) hP hD hS

abbrev rm_X4_beginnings : Room := { frames := 5, cells := 0, slots := 0, locals := 114 }
set_option maxHeartbeats 4000000 in
set_option maxRecDepth 100000 in
theorem c_X4_beginnings (l : Launch) (g : GG) (x q u d v : Nat) (SL : Nat) (k : Nat → Int32) (K : Nat → Nat) (np : Nat) (mv lm ch : Int32) (F : Nat) (f : Nat → Int64) (S : Nat → Nat) (cnt ll : Nat) (hSL : RV SL) (hF : RV F) (hk : GK k K) (hp : np ≤ 4) (hf : DR f S cnt) (hc : cnt ≤ 50) (hll : ll ≤ 10) : Ci l yX4_beginnings wsX4_beginnings rm_X4_beginnings g [.ref (x)] (FW g x (lN SL) q u k (nI np) mv lm ch (lN F) d v f (nI cnt) (nI ll)) (fun r w => w = (FW g x (lN SL) q u k (nI np) mv lm ch (lN F) d v f (nI cnt) (nI ll)) ∧ r = nI (bgnN S cnt)) := by
  refine Ci.ofI (cc := cX4_beginnings) (maxL := 1) (by decide) rfl (Nat.le_of_ble_eq_true rfl) ?_
  intro p e s m args below meth c A Z hx hb hml hts hown hK hA hret H locs ls hP hD hS hl
  have f_10 := hts (.fieldLink RX4 10 "GhostGame" "dictionary" "LGhostGame$Dictionary;") (by decide +kernel)
  have hi_2 : ∀ w ∈ wsX40, w ∈ wsX4_beginnings := by decide +kernel
  have hl : lv_has ls 1 [(0, .ref (x))] := hl
  refine lv_aload_n hx hb dX4_beginnings_0 rfl (lv_at hl 0 rfl) ?_
  refine va_get (D := g.1) (ci := 2) (v := .ref (d)) (C := RX4) (T := TX4) (N := 3) hx hb hts hi_2 hown hK hP 0 rfl rfl 0 (by decide) f_10 (fun _ h9 => h9) rfl dX4_beginnings_1 ?_
  refine call_iV (As := []) (rest := []) (wr := [(x, .inr (2, [.ref (d), .ref (q), .long (lN (SL))])), (q, .inr (1, [.ref (u), .int (nI (np)), .int (mv), .int (lm), .int (ch), .long (lN (F))])), (u, .inl (g.2.1, 4, .inl (k)))]) ⟨hx, hb, hml, hown, hts⟩ (c_X0_countBeginnings l g d v f S cnt ll hf hc) (cwV 0 hts gX4_beginnings_X0_countBeginnings rfl rfl rfl (by decide +kernel) ⟨Nat.le_of_ble_eq_true rfl, Nat.le_of_ble_eq_true rfl⟩) hP hK hD hS hA [3, 4] [0, 1, 2] rfl rfl (by decide) (by decide) (by decide) 0 rfl rfl rfl rfl hl.1 rfl (Nat.le_of_ble_eq_true rfl) dX4_beginnings_4 ⟨Nat.le_refl _, Nat.le_refl _⟩ (fun r_4 w H locs h_4 hP hD hS => ?_)
  obtain ⟨rfl, h_4⟩ := h_4
  subst h_4
  have hP : va_P g.1 vwCl (FW g x (lN SL) q u k (nI np) mv lm ch (lN F) d v f (nI cnt) (nI ll)) H := hP
  have hD : va_D A (FW g x (lN SL) q u k (nI np) mv lm ch (lN F) d v f (nI cnt) (nI ll)) := hD
  exact hret (nI (bgnN S cnt)) (FW g x (lN SL) q u k (nI np) mv lm ch (lN F) d v f (nI cnt) (nI ll)) _ _ _ _ dX4_beginnings_7 (⟨rfl, rfl⟩) hP hD hS

abbrev rm_X4_turn : Room := { frames := 1, cells := 0, slots := 0, locals := 20 }
set_option maxHeartbeats 4000000 in
set_option maxRecDepth 100000 in
theorem c_X4_turn (l : Launch) (g : GG) (x q u d v : Nat) (SL : Nat) (k : Nat → Int32) (K : Nat → Nat) (np : Nat) (mv lm ch : Int32) (F : Nat) (f : Nat → Int64) (S : Nat → Nat) (cnt ll : Nat) (hSL : RV SL) (hF : RV F) (hk : GK k K) (hp : np ≤ 4) (hf : DR f S cnt) (hc : cnt ≤ 50) (hll : ll ≤ 10) : Ci l yX4_turn wsX4_turn rm_X4_turn g [.ref (x)] (FW g x (lN SL) q u k (nI np) mv lm ch (lN F) d v f (nI cnt) (nI ll)) (fun r w => w = (FW g x (lN SL) q u k (nI np) mv lm ch (lN F) d v f (nI cnt) (nI ll)) ∧ r = mv) := by
  refine Ci.ofI (cc := cX4_turn) (maxL := 1) (by decide) rfl (Nat.le_of_ble_eq_true rfl) ?_
  intro p e s m args below meth c A Z hx hb hml hts hown hK hA hret H locs ls hP hD hS hl
  have f_19 := hts (.fieldLink RX4 19 "GhostGame" "game" "LGhostGame$Game;") (by decide +kernel)
  have hi_2 : ∀ w ∈ wsX40, w ∈ wsX4_turn := by decide +kernel
  have hl : lv_has ls 1 [(0, .ref (x))] := hl
  refine lv_aload_n hx hb dX4_turn_0 rfl (lv_at hl 0 rfl) ?_
  refine va_get (D := g.1) (ci := 2) (v := .ref (q)) (C := RX4) (T := TX4) (N := 3) hx hb hts hi_2 hown hK hP 0 rfl rfl 1 (by decide) f_19 (fun _ h9 => h9) rfl dX4_turn_1 ?_
  refine call_iV (As := []) (rest := []) (wr := [(x, .inr (2, [.ref (d), .ref (q), .long (lN (SL))])), (d, .inr (0, [.ref (v), .int (nI (cnt)), .int (nI (ll))])), (v, .inl (g.2.2.1, 50, .inr (.inl (f))))]) ⟨hx, hb, hml, hown, hts⟩ (c_X1_mover l g q u k (nI np) mv lm ch (lN F)) (cwV 0 hts gX4_turn_X1_mover rfl rfl rfl (by decide +kernel) ⟨Nat.le_of_ble_eq_true rfl, Nat.le_of_ble_eq_true rfl⟩) hP hK hD hS hA [1, 2] [0, 3, 4] rfl rfl (by decide) (by decide) (by decide) 0 rfl rfl rfl rfl hl.1 rfl (Nat.le_of_ble_eq_true rfl) dX4_turn_4 ⟨Nat.le_refl _, Nat.le_refl _⟩ (fun r_4 w H locs h_4 hP hD hS => ?_)
  obtain ⟨rfl, h_4⟩ := h_4
  have hP := hP.sub [0, 3, 4, 1, 2] (ws' := (FW g x (lN SL) q u k (nI np) mv lm ch (lN F) d v f (nI cnt) (nI ll))) rfl
  have hD := hD.sub [0, 3, 4, 1, 2] (ws' := (FW g x (lN SL) q u k (nI np) mv lm ch (lN F) d v f (nI cnt) (nI ll))) (by decide) rfl
  have hP : va_P g.1 vwCl (FW g x (lN SL) q u k (nI np) mv lm ch (lN F) d v f (nI cnt) (nI ll)) H := hP
  have hD : va_D A (FW g x (lN SL) q u k (nI np) mv lm ch (lN F) d v f (nI cnt) (nI ll)) := hD
  exact hret (r_4) (FW g x (lN SL) q u k (nI np) mv lm ch (lN F) d v f (nI cnt) (nI ll)) _ _ _ _ dX4_turn_7 (⟨rfl, h_4⟩) hP hD hS

abbrev rm_X4_winner : Room := { frames := 1, cells := 0, slots := 0, locals := 20 }
set_option maxHeartbeats 4000000 in
set_option maxRecDepth 100000 in
theorem c_X4_winner (l : Launch) (g : GG) (x q u d v : Nat) (SL : Nat) (k : Nat → Int32) (K : Nat → Nat) (np : Nat) (mv lm ch : Int32) (F : Nat) (f : Nat → Int64) (S : Nat → Nat) (cnt ll : Nat) (hSL : RV SL) (hF : RV F) (hk : GK k K) (hp : np ≤ 4) (hf : DR f S cnt) (hc : cnt ≤ 50) (hll : ll ≤ 10) : Ci l yX4_winner wsX4_winner rm_X4_winner g [.ref (x)] (FW g x (lN SL) q u k (nI np) mv lm ch (lN F) d v f (nI cnt) (nI ll)) (fun r w => w = (FW g x (lN SL) q u k (nI np) mv lm ch (lN F) d v f (nI cnt) (nI ll)) ∧ r = ch) := by
  refine Ci.ofI (cc := cX4_winner) (maxL := 1) (by decide) rfl (Nat.le_of_ble_eq_true rfl) ?_
  intro p e s m args below meth c A Z hx hb hml hts hown hK hA hret H locs ls hP hD hS hl
  have f_19 := hts (.fieldLink RX4 19 "GhostGame" "game" "LGhostGame$Game;") (by decide +kernel)
  have hi_2 : ∀ w ∈ wsX40, w ∈ wsX4_winner := by decide +kernel
  have hl : lv_has ls 1 [(0, .ref (x))] := hl
  refine lv_aload_n hx hb dX4_winner_0 rfl (lv_at hl 0 rfl) ?_
  refine va_get (D := g.1) (ci := 2) (v := .ref (q)) (C := RX4) (T := TX4) (N := 3) hx hb hts hi_2 hown hK hP 0 rfl rfl 1 (by decide) f_19 (fun _ h9 => h9) rfl dX4_winner_1 ?_
  refine call_iV (As := []) (rest := []) (wr := [(x, .inr (2, [.ref (d), .ref (q), .long (lN (SL))])), (d, .inr (0, [.ref (v), .int (nI (cnt)), .int (nI (ll))])), (v, .inl (g.2.2.1, 50, .inr (.inl (f))))]) ⟨hx, hb, hml, hown, hts⟩ (c_X1_champion l g q u k (nI np) mv lm ch (lN F)) (cwV 0 hts gX4_winner_X1_champion rfl rfl rfl (by decide +kernel) ⟨Nat.le_of_ble_eq_true rfl, Nat.le_of_ble_eq_true rfl⟩) hP hK hD hS hA [1, 2] [0, 3, 4] rfl rfl (by decide) (by decide) (by decide) 0 rfl rfl rfl rfl hl.1 rfl (Nat.le_of_ble_eq_true rfl) dX4_winner_4 ⟨Nat.le_refl _, Nat.le_refl _⟩ (fun r_4 w H locs h_4 hP hD hS => ?_)
  obtain ⟨rfl, h_4⟩ := h_4
  have hP := hP.sub [0, 3, 4, 1, 2] (ws' := (FW g x (lN SL) q u k (nI np) mv lm ch (lN F) d v f (nI cnt) (nI ll))) rfl
  have hD := hD.sub [0, 3, 4, 1, 2] (ws' := (FW g x (lN SL) q u k (nI np) mv lm ch (lN F) d v f (nI cnt) (nI ll))) (by decide) rfl
  have hP : va_P g.1 vwCl (FW g x (lN SL) q u k (nI np) mv lm ch (lN F) d v f (nI cnt) (nI ll)) H := hP
  have hD : va_D A (FW g x (lN SL) q u k (nI np) mv lm ch (lN F) d v f (nI cnt) (nI ll)) := hD
  exact hret (r_4) (FW g x (lN SL) q u k (nI np) mv lm ch (lN F) d v f (nI cnt) (nI ll)) _ _ _ _ dX4_winner_7 (⟨rfl, h_4⟩) hP hD hS

abbrev rm_X4_players : Room := { frames := 1, cells := 0, slots := 0, locals := 20 }
set_option maxHeartbeats 4000000 in
set_option maxRecDepth 100000 in
theorem c_X4_players (l : Launch) (g : GG) (x q u d v : Nat) (SL : Nat) (k : Nat → Int32) (K : Nat → Nat) (np : Nat) (mv lm ch : Int32) (F : Nat) (f : Nat → Int64) (S : Nat → Nat) (cnt ll : Nat) (hSL : RV SL) (hF : RV F) (hk : GK k K) (hp : np ≤ 4) (hf : DR f S cnt) (hc : cnt ≤ 50) (hll : ll ≤ 10) : Ci l yX4_players wsX4_players rm_X4_players g [.ref (x)] (FW g x (lN SL) q u k (nI np) mv lm ch (lN F) d v f (nI cnt) (nI ll)) (fun r w => w = (FW g x (lN SL) q u k (nI np) mv lm ch (lN F) d v f (nI cnt) (nI ll)) ∧ r = nI np) := by
  refine Ci.ofI (cc := cX4_players) (maxL := 1) (by decide) rfl (Nat.le_of_ble_eq_true rfl) ?_
  intro p e s m args below meth c A Z hx hb hml hts hown hK hA hret H locs ls hP hD hS hl
  have f_19 := hts (.fieldLink RX4 19 "GhostGame" "game" "LGhostGame$Game;") (by decide +kernel)
  have hi_2 : ∀ w ∈ wsX40, w ∈ wsX4_players := by decide +kernel
  have hl : lv_has ls 1 [(0, .ref (x))] := hl
  refine lv_aload_n hx hb dX4_players_0 rfl (lv_at hl 0 rfl) ?_
  refine va_get (D := g.1) (ci := 2) (v := .ref (q)) (C := RX4) (T := TX4) (N := 3) hx hb hts hi_2 hown hK hP 0 rfl rfl 1 (by decide) f_19 (fun _ h9 => h9) rfl dX4_players_1 ?_
  refine call_iV (As := []) (rest := []) (wr := [(x, .inr (2, [.ref (d), .ref (q), .long (lN (SL))])), (d, .inr (0, [.ref (v), .int (nI (cnt)), .int (nI (ll))])), (v, .inl (g.2.2.1, 50, .inr (.inl (f))))]) ⟨hx, hb, hml, hown, hts⟩ (c_X1_playerCount l g q u k (nI np) mv lm ch (lN F)) (cwV 0 hts gX4_players_X1_playerCount rfl rfl rfl (by decide +kernel) ⟨Nat.le_of_ble_eq_true rfl, Nat.le_of_ble_eq_true rfl⟩) hP hK hD hS hA [1, 2] [0, 3, 4] rfl rfl (by decide) (by decide) (by decide) 0 rfl rfl rfl rfl hl.1 rfl (Nat.le_of_ble_eq_true rfl) dX4_players_4 ⟨Nat.le_refl _, Nat.le_refl _⟩ (fun r_4 w H locs h_4 hP hD hS => ?_)
  obtain ⟨rfl, h_4⟩ := h_4
  subst h_4
  have hP := hP.sub [0, 3, 4, 1, 2] (ws' := (FW g x (lN SL) q u k (nI np) mv lm ch (lN F) d v f (nI cnt) (nI ll))) rfl
  have hD := hD.sub [0, 3, 4, 1, 2] (ws' := (FW g x (lN SL) q u k (nI np) mv lm ch (lN F) d v f (nI cnt) (nI ll))) (by decide) rfl
  have hP : va_P g.1 vwCl (FW g x (lN SL) q u k (nI np) mv lm ch (lN F) d v f (nI cnt) (nI ll)) H := hP
  have hD : va_D A (FW g x (lN SL) q u k (nI np) mv lm ch (lN F) d v f (nI cnt) (nI ll)) := hD
  exact hret (nI (np)) (FW g x (lN SL) q u k (nI np) mv lm ch (lN F) d v f (nI cnt) (nI ll)) _ _ _ _ dX4_players_7 (⟨rfl, rfl⟩) hP hD hS

abbrev rm_X4_openLetters : Room := { frames := 4, cells := 0, slots := 0, locals := 95 }
set_option maxHeartbeats 4000000 in
set_option maxRecDepth 100000 in
theorem c_X4_openLetters (l : Launch) (g : GG) (x q u d v : Nat) (SL : Nat) (k : Nat → Int32) (K : Nat → Nat) (np : Nat) (mv lm ch : Int32) (F : Nat) (f : Nat → Int64) (S : Nat → Nat) (cnt ll : Nat) (hSL : RV SL) (hF : RV F) (hk : GK k K) (hp : np ≤ 4) (hf : DR f S cnt) (hc : cnt ≤ 50) (hll : ll ≤ 10) : Ci l yX4_openLetters wsX4_openLetters rm_X4_openLetters g [.ref (x)] (FW g x (lN SL) q u k (nI np) mv lm ch (lN F) d v f (nI cnt) (nI ll)) (fun r w => w = (FW g x (lN SL) q u k (nI np) mv lm ch (lN F) d v f (nI cnt) (nI ll)) ∧ r = nI (opM S ll F cnt)) := by
  refine Ci.ofI (cc := cX4_openLetters) (maxL := 1) (by decide) rfl (Nat.le_of_ble_eq_true rfl) ?_
  intro p e s m args below meth c A Z hx hb hml hts hown hK hA hret H locs ls hP hD hS hl
  have f_10 := hts (.fieldLink RX4 10 "GhostGame" "dictionary" "LGhostGame$Dictionary;") (by decide +kernel)
  have f_19 := hts (.fieldLink RX4 19 "GhostGame" "game" "LGhostGame$Game;") (by decide +kernel)
  have hi_2 : ∀ w ∈ wsX40, w ∈ wsX4_openLetters := by decide +kernel
  have hl : lv_has ls 1 [(0, .ref (x))] := hl
  refine lv_aload_n hx hb dX4_openLetters_0 rfl (lv_at hl 0 rfl) ?_
  refine va_get (D := g.1) (ci := 2) (v := .ref (d)) (C := RX4) (T := TX4) (N := 3) hx hb hts hi_2 hown hK hP 0 rfl rfl 0 (by decide) f_10 (fun _ h9 => h9) rfl dX4_openLetters_1 ?_
  refine lv_aload_n hx hb dX4_openLetters_4 rfl (lv_at hl 0 rfl) ?_
  refine va_get (D := g.1) (ci := 2) (v := .ref (q)) (C := RX4) (T := TX4) (N := 3) hx hb hts hi_2 hown hK hP 0 rfl rfl 1 (by decide) f_19 (fun _ h9 => h9) rfl dX4_openLetters_5 ?_
  refine call_lV (As := []) (rest := [.ref (d)]) (wr := [(x, .inr (2, [.ref (d), .ref (q), .long (lN (SL))])), (d, .inr (0, [.ref (v), .int (nI (cnt)), .int (nI (ll))])), (v, .inl (g.2.2.1, 50, .inr (.inl (f))))]) ⟨hx, hb, hml, hown, hts⟩ (c_X1_fragment l g q u k (nI np) mv lm ch (lN F)) (cwV 0 hts gX4_openLetters_X1_fragment rfl rfl rfl (by decide +kernel) ⟨Nat.le_of_ble_eq_true rfl, Nat.le_of_ble_eq_true rfl⟩) hP hK hD hS hA [1, 2] [0, 3, 4] rfl rfl (by decide) (by decide) (by decide) 0 rfl rfl rfl rfl hl.1 rfl (Nat.le_of_ble_eq_true rfl) dX4_openLetters_8 ⟨Nat.le_refl _, Nat.le_refl _⟩ (fun r_8 w H locs h_8 hP hD hS => ?_)
  obtain ⟨rfl, h_8⟩ := h_8
  subst h_8
  have hP := hP.sub [0, 3, 4, 1, 2] (ws' := (FW g x (lN SL) q u k (nI np) mv lm ch (lN F) d v f (nI cnt) (nI ll))) rfl
  have hD := hD.sub [0, 3, 4, 1, 2] (ws' := (FW g x (lN SL) q u k (nI np) mv lm ch (lN F) d v f (nI cnt) (nI ll))) (by decide) rfl
  have hP : va_P g.1 vwCl (FW g x (lN SL) q u k (nI np) mv lm ch (lN F) d v f (nI cnt) (nI ll)) H := hP
  have hD : va_D A (FW g x (lN SL) q u k (nI np) mv lm ch (lN F) d v f (nI cnt) (nI ll)) := hD
  refine call_iS (As := [.ref (d), .long (lN (F))]) (rest := []) (wr := [(x, .inr (2, [.ref (d), .ref (q), .long (lN (SL))])), (q, .inr (1, [.ref (u), .int (nI (np)), .int (mv), .int (lm), .int (ch), .long (lN (F))])), (u, .inl (g.2.1, 4, .inl (k)))]) ⟨hx, hb, hml, hown, hts⟩ (c_X3_lettersOpenBehind l g d v f S cnt ll hf hc hll F hF) (va_cwS 2 hts gX4_openLetters_X3_lettersOpenBehind rfl rfl rfl (by decide +kernel) ⟨Nat.le_of_ble_eq_true rfl, Nat.le_of_ble_eq_true rfl⟩) hP hK hD hS hA [3, 4] [0, 1, 2] rfl rfl (by decide) (by decide) (by decide) rfl hl.1 rfl (Nat.le_of_ble_eq_true rfl) dX4_openLetters_11 ⟨Nat.le_refl _, Nat.le_refl _⟩ (fun r_11 w H locs h_11 hP hD hS => ?_)
  obtain ⟨rfl, h_11⟩ := h_11
  subst h_11
  have hP : va_P g.1 vwCl (FW g x (lN SL) q u k (nI np) mv lm ch (lN F) d v f (nI cnt) (nI ll)) H := hP
  have hD : va_D A (FW g x (lN SL) q u k (nI np) mv lm ch (lN F) d v f (nI cnt) (nI ll)) := hD
  exact hret (nI (opM S ll F cnt)) (FW g x (lN SL) q u k (nI np) mv lm ch (lN F) d v f (nI cnt) (nI ll)) _ _ _ _ dX4_openLetters_14 (⟨rfl, rfl⟩) hP hD hS

abbrev rm_X4_winningLetters : Room := { frames := 33, cells := 0, slots := 0, locals := 1291 }
set_option maxHeartbeats 4000000 in
set_option maxRecDepth 100000 in
theorem c_X4_winningLetters (l : Launch) (g : GG) (x q u d v : Nat) (SL : Nat) (k : Nat → Int32) (K : Nat → Nat) (np : Nat) (mv lm ch : Int32) (F : Nat) (f : Nat → Int64) (S : Nat → Nat) (cnt ll : Nat) (hSL : RV SL) (hF : RV F) (hk : GK k K) (hp : np ≤ 4) (hf : DR f S cnt) (hc : cnt ≤ 50) (hll : ll ≤ 10) : Ci l yX4_winningLetters wsX4_winningLetters rm_X4_winningLetters g [.ref (x)] (FW g x (lN SL) q u k (nI np) mv lm ch (lN F) d v f (nI cnt) (nI ll)) (fun r w => w = (FW g x (lN SL) q u k (nI np) mv lm ch (lN F) d v f (nI cnt) (nI ll)) ∧ r = nI (scW (fun F => opM S ll F cnt) (hwB S cnt ll) (9 - rwL F) F 26)) := by
  refine Ci.ofI (cc := cX4_winningLetters) (maxL := 1) (by decide) rfl (Nat.le_of_ble_eq_true rfl) ?_
  intro p e s m args below meth c A Z hx hb hml hts hown hK hA hret H locs ls hP hD hS hl
  have f_10 := hts (.fieldLink RX4 10 "GhostGame" "dictionary" "LGhostGame$Dictionary;") (by decide +kernel)
  have f_19 := hts (.fieldLink RX4 19 "GhostGame" "game" "LGhostGame$Game;") (by decide +kernel)
  have hi_2 : ∀ w ∈ wsX40, w ∈ wsX4_winningLetters := by decide +kernel
  have hl : lv_has ls 1 [(0, .ref (x))] := hl
  refine lv_aload_n hx hb dX4_winningLetters_0 rfl (lv_at hl 0 rfl) ?_
  refine va_get (D := g.1) (ci := 2) (v := .ref (d)) (C := RX4) (T := TX4) (N := 3) hx hb hts hi_2 hown hK hP 0 rfl rfl 0 (by decide) f_10 (fun _ h9 => h9) rfl dX4_winningLetters_1 ?_
  refine lv_aload_n hx hb dX4_winningLetters_4 rfl (lv_at hl 0 rfl) ?_
  refine va_get (D := g.1) (ci := 2) (v := .ref (q)) (C := RX4) (T := TX4) (N := 3) hx hb hts hi_2 hown hK hP 0 rfl rfl 1 (by decide) f_19 (fun _ h9 => h9) rfl dX4_winningLetters_5 ?_
  refine call_lV (As := []) (rest := [.ref (d)]) (wr := [(x, .inr (2, [.ref (d), .ref (q), .long (lN (SL))])), (d, .inr (0, [.ref (v), .int (nI (cnt)), .int (nI (ll))])), (v, .inl (g.2.2.1, 50, .inr (.inl (f))))]) ⟨hx, hb, hml, hown, hts⟩ (c_X1_fragment l g q u k (nI np) mv lm ch (lN F)) (cwV 0 hts gX4_winningLetters_X1_fragment rfl rfl rfl (by decide +kernel) ⟨Nat.le_of_ble_eq_true rfl, Nat.le_of_ble_eq_true rfl⟩) hP hK hD hS hA [1, 2] [0, 3, 4] rfl rfl (by decide) (by decide) (by decide) 0 rfl rfl rfl rfl hl.1 rfl (Nat.le_of_ble_eq_true rfl) dX4_winningLetters_8 ⟨Nat.le_refl _, Nat.le_refl _⟩ (fun r_8 w H locs h_8 hP hD hS => ?_)
  obtain ⟨rfl, h_8⟩ := h_8
  subst h_8
  have hP := hP.sub [0, 3, 4, 1, 2] (ws' := (FW g x (lN SL) q u k (nI np) mv lm ch (lN F) d v f (nI cnt) (nI ll))) rfl
  have hD := hD.sub [0, 3, 4, 1, 2] (ws' := (FW g x (lN SL) q u k (nI np) mv lm ch (lN F) d v f (nI cnt) (nI ll))) (by decide) rfl
  have hP : va_P g.1 vwCl (FW g x (lN SL) q u k (nI np) mv lm ch (lN F) d v f (nI cnt) (nI ll)) H := hP
  have hD : va_D A (FW g x (lN SL) q u k (nI np) mv lm ch (lN F) d v f (nI cnt) (nI ll)) := hD
  refine call_iS (As := [.ref (d), .long (lN (F))]) (rest := []) (wr := [(x, .inr (2, [.ref (d), .ref (q), .long (lN (SL))])), (q, .inr (1, [.ref (u), .int (nI (np)), .int (mv), .int (lm), .int (ch), .long (lN (F))])), (u, .inl (g.2.1, 4, .inl (k)))]) ⟨hx, hb, hml, hown, hts⟩ (c_X3_lettersWinningBehind l g d v f S cnt ll hf hc hll F hF) (va_cwS 2 hts gX4_winningLetters_X3_lettersWinningBehind rfl rfl rfl (by decide +kernel) ⟨Nat.le_of_ble_eq_true rfl, Nat.le_of_ble_eq_true rfl⟩) hP hK hD hS hA [3, 4] [0, 1, 2] rfl rfl (by decide) (by decide) (by decide) rfl hl.1 rfl (Nat.le_of_ble_eq_true rfl) dX4_winningLetters_11 ⟨Nat.le_refl _, Nat.le_refl _⟩ (fun r_11 w H locs h_11 hP hD hS => ?_)
  obtain ⟨rfl, h_11⟩ := h_11
  subst h_11
  have hP : va_P g.1 vwCl (FW g x (lN SL) q u k (nI np) mv lm ch (lN F) d v f (nI cnt) (nI ll)) H := hP
  have hD : va_D A (FW g x (lN SL) q u k (nI np) mv lm ch (lN F) d v f (nI cnt) (nI ll)) := hD
  exact hret (nI (scW (fun F => opM S ll F cnt) (hwB S cnt ll) (9 - rwL F) F 26)) (FW g x (lN SL) q u k (nI np) mv lm ch (lN F) d v f (nI cnt) (nI ll)) _ _ _ _ dX4_winningLetters_14 (⟨rfl, rfl⟩) hP hD hS

abbrev rm_X4_canWin : Room := { frames := 32, cells := 0, slots := 0, locals := 1247 }
set_option maxHeartbeats 4000000 in
set_option maxRecDepth 100000 in
theorem c_X4_canWin (l : Launch) (g : GG) (x q u d v : Nat) (SL : Nat) (k : Nat → Int32) (K : Nat → Nat) (np : Nat) (mv lm ch : Int32) (F : Nat) (f : Nat → Int64) (S : Nat → Nat) (cnt ll : Nat) (hSL : RV SL) (hF : RV F) (hk : GK k K) (hp : np ≤ 4) (hf : DR f S cnt) (hc : cnt ≤ 50) (hll : ll ≤ 10) : Ci l yX4_canWin wsX4_canWin rm_X4_canWin g [.ref (x)] (FW g x (lN SL) q u k (nI np) mv lm ch (lN F) d v f (nI cnt) (nI ll)) (fun r w => w = (FW g x (lN SL) q u k (nI np) mv lm ch (lN F) d v f (nI cnt) (nI ll)) ∧ Bv r (0 < sc (fun F => opM S ll F cnt) (hwB S cnt ll) (10 - rwL F) F)) := by
  refine Ci.ofZ (cc := cX4_canWin) (maxL := 1) (by decide) rfl (Nat.le_of_ble_eq_true rfl) ?_
  intro p e s m args below meth c A Z hx hb hml hts hown hK hA hret H locs ls hP hD hS hl
  have f_10 := hts (.fieldLink RX4 10 "GhostGame" "dictionary" "LGhostGame$Dictionary;") (by decide +kernel)
  have f_19 := hts (.fieldLink RX4 19 "GhostGame" "game" "LGhostGame$Game;") (by decide +kernel)
  have hi_2 : ∀ w ∈ wsX40, w ∈ wsX4_canWin := by decide +kernel
  have hl : lv_has ls 1 [(0, .ref (x))] := hl
  refine lv_aload_n hx hb dX4_canWin_0 rfl (lv_at hl 0 rfl) ?_
  refine va_get (D := g.1) (ci := 2) (v := .ref (d)) (C := RX4) (T := TX4) (N := 3) hx hb hts hi_2 hown hK hP 0 rfl rfl 0 (by decide) f_10 (fun _ h9 => h9) rfl dX4_canWin_1 ?_
  refine lv_aload_n hx hb dX4_canWin_4 rfl (lv_at hl 0 rfl) ?_
  refine va_get (D := g.1) (ci := 2) (v := .ref (q)) (C := RX4) (T := TX4) (N := 3) hx hb hts hi_2 hown hK hP 0 rfl rfl 1 (by decide) f_19 (fun _ h9 => h9) rfl dX4_canWin_5 ?_
  refine call_lV (As := []) (rest := [.ref (d)]) (wr := [(x, .inr (2, [.ref (d), .ref (q), .long (lN (SL))])), (d, .inr (0, [.ref (v), .int (nI (cnt)), .int (nI (ll))])), (v, .inl (g.2.2.1, 50, .inr (.inl (f))))]) ⟨hx, hb, hml, hown, hts⟩ (c_X1_fragment l g q u k (nI np) mv lm ch (lN F)) (cwV 0 hts gX4_canWin_X1_fragment rfl rfl rfl (by decide +kernel) ⟨Nat.le_of_ble_eq_true rfl, Nat.le_of_ble_eq_true rfl⟩) hP hK hD hS hA [1, 2] [0, 3, 4] rfl rfl (by decide) (by decide) (by decide) 0 rfl rfl rfl rfl hl.1 rfl (Nat.le_of_ble_eq_true rfl) dX4_canWin_8 ⟨Nat.le_refl _, Nat.le_refl _⟩ (fun r_8 w H locs h_8 hP hD hS => ?_)
  obtain ⟨rfl, h_8⟩ := h_8
  subst h_8
  have hP := hP.sub [0, 3, 4, 1, 2] (ws' := (FW g x (lN SL) q u k (nI np) mv lm ch (lN F) d v f (nI cnt) (nI ll))) rfl
  have hD := hD.sub [0, 3, 4, 1, 2] (ws' := (FW g x (lN SL) q u k (nI np) mv lm ch (lN F) d v f (nI cnt) (nI ll))) (by decide) rfl
  have hP : va_P g.1 vwCl (FW g x (lN SL) q u k (nI np) mv lm ch (lN F) d v f (nI cnt) (nI ll)) H := hP
  have hD : va_D A (FW g x (lN SL) q u k (nI np) mv lm ch (lN F) d v f (nI cnt) (nI ll)) := hD
  refine call_iS (As := [.ref (d), .long (lN (F))]) (rest := []) (wr := [(x, .inr (2, [.ref (d), .ref (q), .long (lN (SL))])), (q, .inr (1, [.ref (u), .int (nI (np)), .int (mv), .int (lm), .int (ch), .long (lN (F))])), (u, .inl (g.2.1, 4, .inl (k)))]) ⟨hx, hb, hml, hown, hts⟩ (c_X3_moverWins l g d v f S cnt ll hf hc hll F hF) (va_cwS 2 hts gX4_canWin_X3_moverWins rfl rfl rfl (by decide +kernel) ⟨Nat.le_of_ble_eq_true rfl, Nat.le_of_ble_eq_true rfl⟩) hP hK hD hS hA [3, 4] [0, 1, 2] rfl rfl (by decide) (by decide) (by decide) rfl hl.1 rfl (Nat.le_of_ble_eq_true rfl) dX4_canWin_11 ⟨Nat.le_refl _, Nat.le_refl _⟩ (fun r_11 w H locs h_11 hP hD hS => ?_)
  obtain ⟨rfl, h_11⟩ := h_11
  have hP : va_P g.1 vwCl (FW g x (lN SL) q u k (nI np) mv lm ch (lN F) d v f (nI cnt) (nI ll)) H := hP
  have hD : va_D A (FW g x (lN SL) q u k (nI np) mv lm ch (lN F) d v f (nI cnt) (nI ll)) := hD
  exact hret (r_11) (FW g x (lN SL) q u k (nI np) mv lm ch (lN F) d v f (nI cnt) (nI ll)) _ _ _ _ dX4_canWin_14 (Bv.z h_11) (⟨rfl, h_11⟩) hP hD hS

abbrev rm_X4_end : Room := { frames := 32, cells := 0, slots := 0, locals := 1247 }
set_option maxHeartbeats 4000000 in
set_option maxRecDepth 100000 in
theorem c_X4_end (l : Launch) (g : GG) (x q u d v : Nat) (SL : Nat) (k : Nat → Int32) (K : Nat → Nat) (np : Nat) (mv lm ch : Int32) (F : Nat) (f : Nat → Int64) (S : Nat → Nat) (cnt ll : Nat) (hSL : RV SL) (hF : RV F) (hk : GK k K) (hp : np ≤ 4) (hf : DR f S cnt) (hc : cnt ≤ 50) (hll : ll ≤ 10) : Ci l yX4_end wsX4_end rm_X4_end g [.ref (x)] (FW g x (lN SL) q u k (nI np) mv lm ch (lN F) d v f (nI cnt) (nI ll)) (fun r w => w = (FW g x (lN SL) q u k (nI np) mv lm ch (lN F) d v f (nI cnt) (nI ll)) ∧ r = nI (100 - (sc (fun F => opM S ll F cnt) (hwB S cnt ll) (10 - rwL F) F).natAbs)) := by
  refine Ci.ofI (cc := cX4_end) (maxL := 1) (by decide) rfl (Nat.le_of_ble_eq_true rfl) ?_
  intro p e s m args below meth c A Z hx hb hml hts hown hK hA hret H locs ls hP hD hS hl
  have f_10 := hts (.fieldLink RX4 10 "GhostGame" "dictionary" "LGhostGame$Dictionary;") (by decide +kernel)
  have f_19 := hts (.fieldLink RX4 19 "GhostGame" "game" "LGhostGame$Game;") (by decide +kernel)
  have hi_2 : ∀ w ∈ wsX40, w ∈ wsX4_end := by decide +kernel
  have hl : lv_has ls 1 [(0, .ref (x))] := hl
  refine lv_aload_n hx hb dX4_end_0 rfl (lv_at hl 0 rfl) ?_
  refine va_get (D := g.1) (ci := 2) (v := .ref (d)) (C := RX4) (T := TX4) (N := 3) hx hb hts hi_2 hown hK hP 0 rfl rfl 0 (by decide) f_10 (fun _ h9 => h9) rfl dX4_end_1 ?_
  refine lv_aload_n hx hb dX4_end_4 rfl (lv_at hl 0 rfl) ?_
  refine va_get (D := g.1) (ci := 2) (v := .ref (q)) (C := RX4) (T := TX4) (N := 3) hx hb hts hi_2 hown hK hP 0 rfl rfl 1 (by decide) f_19 (fun _ h9 => h9) rfl dX4_end_5 ?_
  refine call_lV (As := []) (rest := [.ref (d)]) (wr := [(x, .inr (2, [.ref (d), .ref (q), .long (lN (SL))])), (d, .inr (0, [.ref (v), .int (nI (cnt)), .int (nI (ll))])), (v, .inl (g.2.2.1, 50, .inr (.inl (f))))]) ⟨hx, hb, hml, hown, hts⟩ (c_X1_fragment l g q u k (nI np) mv lm ch (lN F)) (cwV 0 hts gX4_end_X1_fragment rfl rfl rfl (by decide +kernel) ⟨Nat.le_of_ble_eq_true rfl, Nat.le_of_ble_eq_true rfl⟩) hP hK hD hS hA [1, 2] [0, 3, 4] rfl rfl (by decide) (by decide) (by decide) 0 rfl rfl rfl rfl hl.1 rfl (Nat.le_of_ble_eq_true rfl) dX4_end_8 ⟨Nat.le_refl _, Nat.le_refl _⟩ (fun r_8 w H locs h_8 hP hD hS => ?_)
  obtain ⟨rfl, h_8⟩ := h_8
  subst h_8
  have hP := hP.sub [0, 3, 4, 1, 2] (ws' := (FW g x (lN SL) q u k (nI np) mv lm ch (lN F) d v f (nI cnt) (nI ll))) rfl
  have hD := hD.sub [0, 3, 4, 1, 2] (ws' := (FW g x (lN SL) q u k (nI np) mv lm ch (lN F) d v f (nI cnt) (nI ll))) (by decide) rfl
  have hP : va_P g.1 vwCl (FW g x (lN SL) q u k (nI np) mv lm ch (lN F) d v f (nI cnt) (nI ll)) H := hP
  have hD : va_D A (FW g x (lN SL) q u k (nI np) mv lm ch (lN F) d v f (nI cnt) (nI ll)) := hD
  refine call_iS (As := [.ref (d), .long (lN (F))]) (rest := []) (wr := [(x, .inr (2, [.ref (d), .ref (q), .long (lN (SL))])), (q, .inr (1, [.ref (u), .int (nI (np)), .int (mv), .int (lm), .int (ch), .long (lN (F))])), (u, .inl (g.2.1, 4, .inl (k)))]) ⟨hx, hb, hml, hown, hts⟩ (c_X3_endBehind l g d v f S cnt ll hf hc hll F hF) (va_cwS 2 hts gX4_end_X3_endBehind rfl rfl rfl (by decide +kernel) ⟨Nat.le_of_ble_eq_true rfl, Nat.le_of_ble_eq_true rfl⟩) hP hK hD hS hA [3, 4] [0, 1, 2] rfl rfl (by decide) (by decide) (by decide) rfl hl.1 rfl (Nat.le_of_ble_eq_true rfl) dX4_end_11 ⟨Nat.le_refl _, Nat.le_refl _⟩ (fun r_11 w H locs h_11 hP hD hS => ?_)
  obtain ⟨rfl, h_11⟩ := h_11
  subst h_11
  have hP : va_P g.1 vwCl (FW g x (lN SL) q u k (nI np) mv lm ch (lN F) d v f (nI cnt) (nI ll)) H := hP
  have hD : va_D A (FW g x (lN SL) q u k (nI np) mv lm ch (lN F) d v f (nI cnt) (nI ll)) := hD
  exact hret (nI (100 - (sc (fun F => opM S ll F cnt) (hwB S cnt ll) (10 - rwL F) F).natAbs)) (FW g x (lN SL) q u k (nI np) mv lm ch (lN F) d v f (nI cnt) (nI ll)) _ _ _ _ dX4_end_14 (⟨rfl, rfl⟩) hP hD hS

abbrev rm_X4_bestLetter : Room := { frames := 33, cells := 0, slots := 0, locals := 1291 }
set_option maxHeartbeats 4000000 in
set_option maxRecDepth 100000 in
theorem c_X4_bestLetter (l : Launch) (g : GG) (x q u d v : Nat) (SL : Nat) (k : Nat → Int32) (K : Nat → Nat) (np : Nat) (mv lm ch : Int32) (F : Nat) (f : Nat → Int64) (S : Nat → Nat) (cnt ll : Nat) (hSL : RV SL) (hF : RV F) (hk : GK k K) (hp : np ≤ 4) (hf : DR f S cnt) (hc : cnt ≤ 50) (hll : ll ≤ 10) : Ci l yX4_bestLetter wsX4_bestLetter rm_X4_bestLetter g [.ref (x)] (FW g x (lN SL) q u k (nI np) mv lm ch (lN F) d v f (nI cnt) (nI ll)) (fun r w => w = (FW g x (lN SL) q u k (nI np) mv lm ch (lN F) d v f (nI cnt) (nI ll)) ∧ ((∃ a, a < 26 ∧ ((opM S ll F cnt).testBit a = true ∧ scL (fun F => opM S ll F cnt) (hwB S cnt ll) (9 - rwL F) F a = sc (fun F => opM S ll F cnt) (hwB S cnt ll) (10 - rwL F) F) ∧ (∀ b, b < a → ¬ ((opM S ll F cnt).testBit b = true ∧ scL (fun F => opM S ll F cnt) (hwB S cnt ll) (9 - rwL F) F b = sc (fun F => opM S ll F cnt) (hwB S cnt ll) (10 - rwL F) F)) ∧ r = nI a) ∨ ((∀ b, b < 26 → ¬ ((opM S ll F cnt).testBit b = true ∧ scL (fun F => opM S ll F cnt) (hwB S cnt ll) (9 - rwL F) F b = sc (fun F => opM S ll F cnt) (hwB S cnt ll) (10 - rwL F) F)) ∧ r = -1))) := by
  refine Ci.ofI (cc := cX4_bestLetter) (maxL := 1) (by decide) rfl (Nat.le_of_ble_eq_true rfl) ?_
  intro p e s m args below meth c A Z hx hb hml hts hown hK hA hret H locs ls hP hD hS hl
  have f_10 := hts (.fieldLink RX4 10 "GhostGame" "dictionary" "LGhostGame$Dictionary;") (by decide +kernel)
  have f_19 := hts (.fieldLink RX4 19 "GhostGame" "game" "LGhostGame$Game;") (by decide +kernel)
  have hi_2 : ∀ w ∈ wsX40, w ∈ wsX4_bestLetter := by decide +kernel
  have hl : lv_has ls 1 [(0, .ref (x))] := hl
  refine lv_aload_n hx hb dX4_bestLetter_0 rfl (lv_at hl 0 rfl) ?_
  refine va_get (D := g.1) (ci := 2) (v := .ref (d)) (C := RX4) (T := TX4) (N := 3) hx hb hts hi_2 hown hK hP 0 rfl rfl 0 (by decide) f_10 (fun _ h9 => h9) rfl dX4_bestLetter_1 ?_
  refine lv_aload_n hx hb dX4_bestLetter_4 rfl (lv_at hl 0 rfl) ?_
  refine va_get (D := g.1) (ci := 2) (v := .ref (q)) (C := RX4) (T := TX4) (N := 3) hx hb hts hi_2 hown hK hP 0 rfl rfl 1 (by decide) f_19 (fun _ h9 => h9) rfl dX4_bestLetter_5 ?_
  refine call_lV (As := []) (rest := [.ref (d)]) (wr := [(x, .inr (2, [.ref (d), .ref (q), .long (lN (SL))])), (d, .inr (0, [.ref (v), .int (nI (cnt)), .int (nI (ll))])), (v, .inl (g.2.2.1, 50, .inr (.inl (f))))]) ⟨hx, hb, hml, hown, hts⟩ (c_X1_fragment l g q u k (nI np) mv lm ch (lN F)) (cwV 0 hts gX4_bestLetter_X1_fragment rfl rfl rfl (by decide +kernel) ⟨Nat.le_of_ble_eq_true rfl, Nat.le_of_ble_eq_true rfl⟩) hP hK hD hS hA [1, 2] [0, 3, 4] rfl rfl (by decide) (by decide) (by decide) 0 rfl rfl rfl rfl hl.1 rfl (Nat.le_of_ble_eq_true rfl) dX4_bestLetter_8 ⟨Nat.le_refl _, Nat.le_refl _⟩ (fun r_8 w H locs h_8 hP hD hS => ?_)
  obtain ⟨rfl, h_8⟩ := h_8
  subst h_8
  have hP := hP.sub [0, 3, 4, 1, 2] (ws' := (FW g x (lN SL) q u k (nI np) mv lm ch (lN F) d v f (nI cnt) (nI ll))) rfl
  have hD := hD.sub [0, 3, 4, 1, 2] (ws' := (FW g x (lN SL) q u k (nI np) mv lm ch (lN F) d v f (nI cnt) (nI ll))) (by decide) rfl
  have hP : va_P g.1 vwCl (FW g x (lN SL) q u k (nI np) mv lm ch (lN F) d v f (nI cnt) (nI ll)) H := hP
  have hD : va_D A (FW g x (lN SL) q u k (nI np) mv lm ch (lN F) d v f (nI cnt) (nI ll)) := hD
  refine call_iS (As := [.ref (d), .long (lN (F))]) (rest := []) (wr := [(x, .inr (2, [.ref (d), .ref (q), .long (lN (SL))])), (q, .inr (1, [.ref (u), .int (nI (np)), .int (mv), .int (lm), .int (ch), .long (lN (F))])), (u, .inl (g.2.1, 4, .inl (k)))]) ⟨hx, hb, hml, hown, hts⟩ (c_X3_letterChosenBehind l g d v f S cnt ll hf hc hll F hF) (va_cwS 2 hts gX4_bestLetter_X3_letterChosenBehind rfl rfl rfl (by decide +kernel) ⟨Nat.le_of_ble_eq_true rfl, Nat.le_of_ble_eq_true rfl⟩) hP hK hD hS hA [3, 4] [0, 1, 2] rfl rfl (by decide) (by decide) (by decide) rfl hl.1 rfl (Nat.le_of_ble_eq_true rfl) dX4_bestLetter_11 ⟨Nat.le_refl _, Nat.le_refl _⟩ (fun r_11 w H locs h_11 hP hD hS => ?_)
  obtain ⟨rfl, h_11⟩ := h_11
  have hP : va_P g.1 vwCl (FW g x (lN SL) q u k (nI np) mv lm ch (lN F) d v f (nI cnt) (nI ll)) H := hP
  have hD : va_D A (FW g x (lN SL) q u k (nI np) mv lm ch (lN F) d v f (nI cnt) (nI ll)) := hD
  exact hret (r_11) (FW g x (lN SL) q u k (nI np) mv lm ch (lN F) d v f (nI cnt) (nI ll)) _ _ _ _ dX4_bestLetter_14 (⟨rfl, h_11⟩) hP hD hS

abbrev rm_X4_waysToPlay : Room := { frames := 5, cells := 0, slots := 0, locals := 118 }
set_option maxHeartbeats 4000000 in
set_option maxRecDepth 100000 in
theorem c_X4_waysToPlay (l : Launch) (g : GG) (x q u d v : Nat) (SL : Nat) (k : Nat → Int32) (K : Nat → Nat) (np : Nat) (mv lm ch : Int32) (F : Nat) (f : Nat → Int64) (S : Nat → Nat) (cnt ll : Nat) (hSL : RV SL) (hF : RV F) (hk : GK k K) (hp : np ≤ 4) (hf : DR f S cnt) (hc : cnt ≤ 50) (hll : ll ≤ 10) : Ci l yX4_waysToPlay wsX4_waysToPlay rm_X4_waysToPlay g [.ref (x)] (FW g x (lN SL) q u k (nI np) mv lm ch (lN F) d v f (nI cnt) (nI ll)) (fun r w => w = (FW g x (lN SL) q u k (nI np) mv lm ch (lN F) d v f (nI cnt) (nI ll)) ∧ r = nI (fb_ct (fun i => bB (wyP S cnt ll F (S i))) cnt)) := by
  refine Ci.ofI (cc := cX4_waysToPlay) (maxL := 1) (by decide) rfl (Nat.le_of_ble_eq_true rfl) ?_
  intro p e s m args below meth c A Z hx hb hml hts hown hK hA hret H locs ls hP hD hS hl
  have f_10 := hts (.fieldLink RX4 10 "GhostGame" "dictionary" "LGhostGame$Dictionary;") (by decide +kernel)
  have f_19 := hts (.fieldLink RX4 19 "GhostGame" "game" "LGhostGame$Game;") (by decide +kernel)
  have hi_2 : ∀ w ∈ wsX40, w ∈ wsX4_waysToPlay := by decide +kernel
  have hl : lv_has ls 1 [(0, .ref (x))] := hl
  refine lv_aload_n hx hb dX4_waysToPlay_0 rfl (lv_at hl 0 rfl) ?_
  refine va_get (D := g.1) (ci := 2) (v := .ref (d)) (C := RX4) (T := TX4) (N := 3) hx hb hts hi_2 hown hK hP 0 rfl rfl 0 (by decide) f_10 (fun _ h9 => h9) rfl dX4_waysToPlay_1 ?_
  refine lv_aload_n hx hb dX4_waysToPlay_4 rfl (lv_at hl 0 rfl) ?_
  refine va_get (D := g.1) (ci := 2) (v := .ref (q)) (C := RX4) (T := TX4) (N := 3) hx hb hts hi_2 hown hK hP 0 rfl rfl 1 (by decide) f_19 (fun _ h9 => h9) rfl dX4_waysToPlay_5 ?_
  refine call_lV (As := []) (rest := [.ref (d)]) (wr := [(x, .inr (2, [.ref (d), .ref (q), .long (lN (SL))])), (d, .inr (0, [.ref (v), .int (nI (cnt)), .int (nI (ll))])), (v, .inl (g.2.2.1, 50, .inr (.inl (f))))]) ⟨hx, hb, hml, hown, hts⟩ (c_X1_fragment l g q u k (nI np) mv lm ch (lN F)) (cwV 0 hts gX4_waysToPlay_X1_fragment rfl rfl rfl (by decide +kernel) ⟨Nat.le_of_ble_eq_true rfl, Nat.le_of_ble_eq_true rfl⟩) hP hK hD hS hA [1, 2] [0, 3, 4] rfl rfl (by decide) (by decide) (by decide) 0 rfl rfl rfl rfl hl.1 rfl (Nat.le_of_ble_eq_true rfl) dX4_waysToPlay_8 ⟨Nat.le_refl _, Nat.le_refl _⟩ (fun r_8 w H locs h_8 hP hD hS => ?_)
  obtain ⟨rfl, h_8⟩ := h_8
  subst h_8
  have hP := hP.sub [0, 3, 4, 1, 2] (ws' := (FW g x (lN SL) q u k (nI np) mv lm ch (lN F) d v f (nI cnt) (nI ll))) rfl
  have hD := hD.sub [0, 3, 4, 1, 2] (ws' := (FW g x (lN SL) q u k (nI np) mv lm ch (lN F) d v f (nI cnt) (nI ll))) (by decide) rfl
  have hP : va_P g.1 vwCl (FW g x (lN SL) q u k (nI np) mv lm ch (lN F) d v f (nI cnt) (nI ll)) H := hP
  have hD : va_D A (FW g x (lN SL) q u k (nI np) mv lm ch (lN F) d v f (nI cnt) (nI ll)) := hD
  refine call_iS (As := [.ref (d), .long (lN (F))]) (rest := []) (wr := [(x, .inr (2, [.ref (d), .ref (q), .long (lN (SL))])), (q, .inr (1, [.ref (u), .int (nI (np)), .int (mv), .int (lm), .int (ch), .long (lN (F))])), (u, .inl (g.2.1, 4, .inl (k)))]) ⟨hx, hb, hml, hown, hts⟩ (c_X3_countWays l g d v f S cnt ll hf hc hll F hF) (va_cwS 2 hts gX4_waysToPlay_X3_countWays rfl rfl rfl (by decide +kernel) ⟨Nat.le_of_ble_eq_true rfl, Nat.le_of_ble_eq_true rfl⟩) hP hK hD hS hA [3, 4] [0, 1, 2] rfl rfl (by decide) (by decide) (by decide) rfl hl.1 rfl (Nat.le_of_ble_eq_true rfl) dX4_waysToPlay_11 ⟨Nat.le_refl _, Nat.le_refl _⟩ (fun r_11 w H locs h_11 hP hD hS => ?_)
  obtain ⟨rfl, h_11⟩ := h_11
  subst h_11
  have hP : va_P g.1 vwCl (FW g x (lN SL) q u k (nI np) mv lm ch (lN F) d v f (nI cnt) (nI ll)) H := hP
  have hD : va_D A (FW g x (lN SL) q u k (nI np) mv lm ch (lN F) d v f (nI cnt) (nI ll)) := hD
  exact hret (nI (fb_ct (fun i => bB (wyP S cnt ll F (S i))) cnt)) (FW g x (lN SL) q u k (nI np) mv lm ch (lN F) d v f (nI cnt) (nI ll)) _ _ _ _ dX4_waysToPlay_14 (⟨rfl, rfl⟩) hP hD hS

abbrev rm_X4_waysToWin : Room := { frames := 5, cells := 0, slots := 0, locals := 120 }
set_option maxHeartbeats 4000000 in
set_option maxRecDepth 100000 in
theorem c_X4_waysToWin (l : Launch) (g : GG) (x q u d v : Nat) (SL : Nat) (k : Nat → Int32) (K : Nat → Nat) (np : Nat) (mv lm ch : Int32) (F : Nat) (f : Nat → Int64) (S : Nat → Nat) (cnt ll : Nat) (hSL : RV SL) (hF : RV F) (hk : GK k K) (hp : np ≤ 4) (hf : DR f S cnt) (hc : cnt ≤ 50) (hll : ll ≤ 10) : Ci l yX4_waysToWin wsX4_waysToWin rm_X4_waysToWin g [.ref (x)] (FW g x (lN SL) q u k (nI np) mv lm ch (lN F) d v f (nI cnt) (nI ll)) (fun r w => w = (FW g x (lN SL) q u k (nI np) mv lm ch (lN F) d v f (nI cnt) (nI ll)) ∧ r = nI (fb_ct (fun i => bB (wyP S cnt ll F (S i) ∧ (rwL (S i) - rwL F) % 2 = 0)) cnt)) := by
  refine Ci.ofI (cc := cX4_waysToWin) (maxL := 1) (by decide) rfl (Nat.le_of_ble_eq_true rfl) ?_
  intro p e s m args below meth c A Z hx hb hml hts hown hK hA hret H locs ls hP hD hS hl
  have f_10 := hts (.fieldLink RX4 10 "GhostGame" "dictionary" "LGhostGame$Dictionary;") (by decide +kernel)
  have f_19 := hts (.fieldLink RX4 19 "GhostGame" "game" "LGhostGame$Game;") (by decide +kernel)
  have hi_2 : ∀ w ∈ wsX40, w ∈ wsX4_waysToWin := by decide +kernel
  have hl : lv_has ls 1 [(0, .ref (x))] := hl
  refine lv_aload_n hx hb dX4_waysToWin_0 rfl (lv_at hl 0 rfl) ?_
  refine va_get (D := g.1) (ci := 2) (v := .ref (d)) (C := RX4) (T := TX4) (N := 3) hx hb hts hi_2 hown hK hP 0 rfl rfl 0 (by decide) f_10 (fun _ h9 => h9) rfl dX4_waysToWin_1 ?_
  refine lv_aload_n hx hb dX4_waysToWin_4 rfl (lv_at hl 0 rfl) ?_
  refine va_get (D := g.1) (ci := 2) (v := .ref (q)) (C := RX4) (T := TX4) (N := 3) hx hb hts hi_2 hown hK hP 0 rfl rfl 1 (by decide) f_19 (fun _ h9 => h9) rfl dX4_waysToWin_5 ?_
  refine call_lV (As := []) (rest := [.ref (d)]) (wr := [(x, .inr (2, [.ref (d), .ref (q), .long (lN (SL))])), (d, .inr (0, [.ref (v), .int (nI (cnt)), .int (nI (ll))])), (v, .inl (g.2.2.1, 50, .inr (.inl (f))))]) ⟨hx, hb, hml, hown, hts⟩ (c_X1_fragment l g q u k (nI np) mv lm ch (lN F)) (cwV 0 hts gX4_waysToWin_X1_fragment rfl rfl rfl (by decide +kernel) ⟨Nat.le_of_ble_eq_true rfl, Nat.le_of_ble_eq_true rfl⟩) hP hK hD hS hA [1, 2] [0, 3, 4] rfl rfl (by decide) (by decide) (by decide) 0 rfl rfl rfl rfl hl.1 rfl (Nat.le_of_ble_eq_true rfl) dX4_waysToWin_8 ⟨Nat.le_refl _, Nat.le_refl _⟩ (fun r_8 w H locs h_8 hP hD hS => ?_)
  obtain ⟨rfl, h_8⟩ := h_8
  subst h_8
  have hP := hP.sub [0, 3, 4, 1, 2] (ws' := (FW g x (lN SL) q u k (nI np) mv lm ch (lN F) d v f (nI cnt) (nI ll))) rfl
  have hD := hD.sub [0, 3, 4, 1, 2] (ws' := (FW g x (lN SL) q u k (nI np) mv lm ch (lN F) d v f (nI cnt) (nI ll))) (by decide) rfl
  have hP : va_P g.1 vwCl (FW g x (lN SL) q u k (nI np) mv lm ch (lN F) d v f (nI cnt) (nI ll)) H := hP
  have hD : va_D A (FW g x (lN SL) q u k (nI np) mv lm ch (lN F) d v f (nI cnt) (nI ll)) := hD
  refine call_iS (As := [.ref (d), .long (lN (F))]) (rest := []) (wr := [(x, .inr (2, [.ref (d), .ref (q), .long (lN (SL))])), (q, .inr (1, [.ref (u), .int (nI (np)), .int (mv), .int (lm), .int (ch), .long (lN (F))])), (u, .inl (g.2.1, 4, .inl (k)))]) ⟨hx, hb, hml, hown, hts⟩ (c_X3_countWonWays l g d v f S cnt ll hf hc hll F hF) (va_cwS 2 hts gX4_waysToWin_X3_countWonWays rfl rfl rfl (by decide +kernel) ⟨Nat.le_of_ble_eq_true rfl, Nat.le_of_ble_eq_true rfl⟩) hP hK hD hS hA [3, 4] [0, 1, 2] rfl rfl (by decide) (by decide) (by decide) rfl hl.1 rfl (Nat.le_of_ble_eq_true rfl) dX4_waysToWin_11 ⟨Nat.le_refl _, Nat.le_refl _⟩ (fun r_11 w H locs h_11 hP hD hS => ?_)
  obtain ⟨rfl, h_11⟩ := h_11
  subst h_11
  have hP : va_P g.1 vwCl (FW g x (lN SL) q u k (nI np) mv lm ch (lN F) d v f (nI cnt) (nI ll)) H := hP
  have hD : va_D A (FW g x (lN SL) q u k (nI np) mv lm ch (lN F) d v f (nI cnt) (nI ll)) := hD
  exact hret (nI (fb_ct (fun i => bB (wyP S cnt ll F (S i) ∧ (rwL (S i) - rwL F) % 2 = 0)) cnt)) (FW g x (lN SL) q u k (nI np) mv lm ch (lN F) d v f (nI cnt) (nI ll)) _ _ _ _ dX4_waysToWin_14 (⟨rfl, rfl⟩) hP hD hS

abbrev rm_X4_write : Room := { frames := 6, cells := 1, slots := 6, locals := 90 }
set_option maxHeartbeats 4000000 in
set_option maxRecDepth 100000 in
theorem c_X4_write (l : Launch) (hl0 : l.flags = flags0) (g : GG) (x q u d v : Nat) (SL : Nat) (k : Nat → Int32) (K : Nat → Nat) (np : Nat) (mv lm ch : Int32) (F : Nat) (f : Nat → Int64) (S : Nat → Nat) (cnt ll : Nat) (hSL : RV SL) (hF : RV F) (hk : GK k K) (hp : np ≤ 4) (hf : DR f S cnt) (hc : cnt ≤ 50) (hll : ll ≤ 10) (x0 : Int32) : Xi l yX4_write wsX4_write rm_X4_write g [.ref (x), .int (x0)] (FW g x (lN SL) q u k (nI np) mv lm ch (lN F) d v f (nI cnt) (nI ll)) (fun r w => ∃ a : Nat, a < 26 ∧ nI a = x0 ∧ rwL SL < 10 ∧ r = nI (rwL SL + 1) ∧ w = (FW g x (lN (rwX SL a)) q u k (nI np) mv lm ch (lN F) d v f (nI cnt) (nI ll))) (fun E => (E = "java/lang/IllegalArgumentException" ∧ ¬ (∃ a : Nat, a < 26 ∧ nI a = x0)) ∨ (E = "java/lang/IllegalStateException" ∧ (∃ a : Nat, a < 26 ∧ nI a = x0) ∧ 10 ≤ rwL SL)) := by
  refine Xi.of (cc := cX4_write) (maxL := 2) hl0 rfl (by decide) rfl (Nat.le_of_ble_eq_true rfl) ⟨rfl, rfl⟩ ?_
  intro p e s m args below meth c A Z hx hb hml hts hown hK hA hret hthr H locs ls hP hD hS hl
  have f_25 := hts (.fieldLink RX4 25 "GhostGame" "slip" "J") (by decide +kernel)
  have hi_2 : ∀ w ∈ wsX40, w ∈ wsX4_write := by decide +kernel
  have hl : lv_has ls 2 [(0, .ref (x)), (1, .int (x0))] := hl
  refine lv_iload_n hx hb dX4_write_0 rfl (lv_at hl 1 rfl) ?_
  refine call_iP (As := [.int (x0)]) (rest := []) ⟨hx, hb, hml, hown, hts⟩ (c_X4_isLetter l (x0)) (va_cwS 1 hts gX4_write_X4_isLetter rfl rfl rfl (by decide +kernel) ⟨Nat.le_of_ble_eq_true rfl, Nat.le_of_ble_eq_true rfl⟩) hP hK hD hS hA rfl hl.1 rfl (Nat.le_of_ble_eq_true rfl) dX4_write_1 ⟨Nat.le_of_ble_eq_true rfl, Nat.le_of_ble_eq_true rfl⟩ (fun r_1 H locs h_1 hP hD hS => ?_)
  refine lv_if_ne (tgt := 17) hx hb dX4_write_4 (by decide) (fun c_4_1 => ?_) (fun c_4_1 => ?_)
  · skip
    have n_4_1 := Bv.t h_1 c_4_1
    obtain ⟨a, ha, rfl⟩ := n_4_1
    refine lv_aload_n hx hb dX4_write_17 rfl (lv_at hl 0 rfl) ?_
    refine va_get (D := g.1) (ci := 2) (v := .long (lN (SL))) (C := RX4) (T := TX4) (N := 3) hx hb hts hi_2 hown hK hP 0 rfl rfl 2 (by decide) f_25 (fun _ h9 => h9) rfl dX4_write_18 ?_
    refine call_iP (As := [.long (lN (SL))]) (rest := []) ⟨hx, hb, hml, hown, hts⟩ (c_X2_isFull l SL hSL) (va_cwS 1 hts gX4_write_X2_isFull rfl rfl rfl (by decide +kernel) ⟨Nat.le_of_ble_eq_true rfl, Nat.le_of_ble_eq_true rfl⟩) hP hK hD hS hA rfl hl.1 rfl (Nat.le_of_ble_eq_true rfl) dX4_write_21 ⟨Nat.le_of_ble_eq_true rfl, Nat.le_of_ble_eq_true rfl⟩ (fun r_21 H locs h_21 hP hD hS => ?_)
    refine lv_if_eq (tgt := 37) hx hb dX4_write_24 (by decide) (fun c_24_2 => ?_) (fun c_24_2 => ?_)
    · skip
      have n_24_2 := Bv.f h_21 c_24_2
      refine lv_aload_n hx hb dX4_write_37 rfl (lv_at hl 0 rfl) ?_
      refine lv_aload_n hx hb dX4_write_38 rfl (lv_at hl 0 rfl) ?_
      refine va_get (D := g.1) (ci := 2) (v := .long (lN (SL))) (C := RX4) (T := TX4) (N := 3) hx hb hts hi_2 hown hK hP 0 rfl rfl 2 (by decide) f_25 (fun _ h9 => h9) rfl dX4_write_39 ?_
      refine lv_iload_n hx hb dX4_write_42 rfl (lv_at hl 1 rfl) ?_
      refine call_lP (As := [.long (lN (SL)), .int (nI (a))]) (rest := [.ref (x)]) ⟨hx, hb, hml, hown, hts⟩ (c_X2_with l SL a hSL (by omega) (by omega)) (va_cwS 2 hts gX4_write_X2_with rfl rfl rfl (by decide +kernel) ⟨Nat.le_of_ble_eq_true rfl, Nat.le_of_ble_eq_true rfl⟩) hP hK hD hS hA rfl hl.1 rfl (Nat.le_of_ble_eq_true rfl) dX4_write_43 ⟨Nat.le_of_ble_eq_true rfl, Nat.le_of_ble_eq_true rfl⟩ (fun r_43 H locs h_43 hP hD hS => ?_)
      subst h_43
      refine va_put (D := g.1) (ci := 2) (v := .long (lN (rwX SL a))) (ty := .long) (C := RX4) (T := TX4) (N := 3) hx hb hts hi_2 tyX4 tyX4_ok nmX4 hown hK hP hD hS 0 rfl rfl 2 (by decide) f_25 (fun _ h9 => h9) rfl (by decide +kernel) rfl rfl (Nat.le_of_ble_eq_true rfl) dX4_write_46 (fun H locs hP hD hS => ?_)
      have hP : va_P g.1 vwCl (FW g x (lN (rwX SL a)) q u k (nI np) mv lm ch (lN F) d v f (nI cnt) (nI ll)) H := hP
      have hD : va_D A (FW g x (lN (rwX SL a)) q u k (nI np) mv lm ch (lN F) d v f (nI cnt) (nI ll)) := hD
      refine lv_aload_n hx hb dX4_write_49 rfl (lv_at hl 0 rfl) ?_
      refine va_get (D := g.1) (ci := 2) (v := .long (lN (rwX SL a))) (C := RX4) (T := TX4) (N := 3) hx hb hts hi_2 hown hK hP 0 rfl rfl 2 (by decide) f_25 (fun _ h9 => h9) rfl dX4_write_50 ?_
      refine call_iP (As := [.long (lN (rwX SL a))]) (rest := []) ⟨hx, hb, hml, hown, hts⟩ (c_X2_lengthOf l (rwX SL a) (hSL.rx (by omega) ha).lt) (va_cwS 1 hts gX4_write_X2_lengthOf rfl rfl rfl (by decide +kernel) ⟨Nat.le_of_ble_eq_true rfl, Nat.le_of_ble_eq_true rfl⟩) hP hK hD hS hA rfl hl.1 rfl (Nat.le_of_ble_eq_true rfl) dX4_write_53 ⟨Nat.le_of_ble_eq_true rfl, Nat.le_of_ble_eq_true rfl⟩ (fun r_53 H locs h_53 hP hD hS => ?_)
      rw [hSL.rxl (by omega) (by omega)] at h_53
      subst h_53
      exact hret (nI (rwL SL + 1)) (FW g x (lN (rwX SL a)) q u k (nI np) mv lm ch (lN F) d v f (nI cnt) (nI ll)) _ _ _ _ dX4_write_56 (⟨a, ha, rfl, by omega, rfl, rfl⟩) hP hD hS
    · skip
      have n_24_2 := Bv.t h_21 c_24_2
      exact hthr "java/lang/IllegalStateException" "the slip has 10 letters" ["java/lang/RuntimeException", "java/lang/Exception"] 44 46 48 H locs ls [] 27 (by decide +kernel) (by decide +kernel) (by decide +kernel) (by decide +kernel) (by decide +kernel) (fun w h => List.mem_cons_of_mem _ (List.mem_append_right _ h)) (by decide +kernel) (by decide +kernel) hl.1 dX4_write_27 dX4_write_30 dX4_write_31 dX4_write_33 dX4_write_36 (Nat.le_of_ble_eq_true rfl) (Nat.le_of_ble_eq_true rfl) (Or.inr ⟨rfl, ⟨a, ha, rfl⟩, n_24_2⟩) hP hD hS
  · skip
    have n_4_1 := Bv.f h_1 c_4_1
    exact hthr "java/lang/IllegalArgumentException" "a letter is a number from 0 to 25" ["java/lang/RuntimeException", "java/lang/Exception"] 33 35 37 H locs ls [] 7 (by decide +kernel) (by decide +kernel) (by decide +kernel) (by decide +kernel) (by decide +kernel) (fun w h => List.mem_cons_of_mem _ (List.mem_append_left _ (List.mem_append_right _ h))) (by decide +kernel) (by decide +kernel) hl.1 dX4_write_7 dX4_write_10 dX4_write_11 dX4_write_13 dX4_write_16 (Nat.le_of_ble_eq_true rfl) (Nat.le_of_ble_eq_true rfl) (Or.inl ⟨rfl, n_4_1⟩) hP hD hS

abbrev rm_X4_slipAt : Room := { frames := 6, cells := 1, slots := 6, locals := 90 }
set_option maxHeartbeats 4000000 in
set_option maxRecDepth 100000 in
theorem c_X4_slipAt (l : Launch) (hl0 : l.flags = flags0) (g : GG) (x q u d v : Nat) (SL : Nat) (k : Nat → Int32) (K : Nat → Nat) (np : Nat) (mv lm ch : Int32) (F : Nat) (f : Nat → Int64) (S : Nat → Nat) (cnt ll : Nat) (hSL : RV SL) (hF : RV F) (hk : GK k K) (hp : np ≤ 4) (hf : DR f S cnt) (hc : cnt ≤ 50) (hll : ll ≤ 10) (x0 : Int32) : Xi l yX4_slipAt wsX4_slipAt rm_X4_slipAt g [.ref (x), .int (x0)] (FW g x (lN SL) q u k (nI np) mv lm ch (lN F) d v f (nI cnt) (nI ll)) (fun r w => w = (FW g x (lN SL) q u k (nI np) mv lm ch (lN F) d v f (nI cnt) (nI ll)) ∧ ∃ j : Nat, j < rwL SL ∧ nI j = x0 ∧ r = nI (rwA SL j)) (fun E => E = "java/lang/IndexOutOfBoundsException" ∧ ¬ ∃ j : Nat, j < rwL SL ∧ nI j = x0) := by
  refine Xi.of (cc := cX4_slipAt) (maxL := 3) hl0 rfl (by decide) rfl (Nat.le_of_ble_eq_true rfl) ⟨rfl, rfl⟩ ?_
  intro p e s m args below meth c A Z hx hb hml hts hown hK hA hret hthr H locs ls hP hD hS hl
  have f_25 := hts (.fieldLink RX4 25 "GhostGame" "slip" "J") (by decide +kernel)
  have hi_2 : ∀ w ∈ wsX40, w ∈ wsX4_slipAt := by decide +kernel
  have hl : lv_has ls 3 [(0, .ref (x)), (1, .int (x0))] := hl
  refine lv_aload_n hx hb dX4_slipAt_0 rfl (lv_at hl 0 rfl) ?_
  refine va_get (D := g.1) (ci := 2) (v := .long (lN (SL))) (C := RX4) (T := TX4) (N := 3) hx hb hts hi_2 hown hK hP 0 rfl rfl 2 (by decide) f_25 (fun _ h9 => h9) rfl dX4_slipAt_1 ?_
  refine lv_iload_n hx hb dX4_slipAt_4 rfl (lv_at hl 1 rfl) ?_
  refine call_iP (As := [.long (lN (SL)), .int (x0)]) (rest := []) ⟨hx, hb, hml, hown, hts⟩ (c_X2_letterAt l SL x0 hSL) (va_cwS 2 hts gX4_slipAt_X2_letterAt rfl rfl rfl (by decide +kernel) ⟨Nat.le_of_ble_eq_true rfl, Nat.le_of_ble_eq_true rfl⟩) hP hK hD hS hA rfl hl.1 rfl (Nat.le_of_ble_eq_true rfl) dX4_slipAt_5 ⟨Nat.le_of_ble_eq_true rfl, Nat.le_of_ble_eq_true rfl⟩ (fun r_5 H locs h_5 hP hD hS => ?_)
  refine lv_istore_n (lv' := [(2, .int (r_5)), (0, .ref (x)), (1, .int (x0))]) hx hb dX4_slipAt_8 rfl hl (by decide) rfl (fun ls hl => ?_)
  refine lv_iload_n hx hb dX4_slipAt_9 rfl (lv_at hl 0 rfl) ?_
  refine lv_iconst (v := -1) hx hb dX4_slipAt_10 (by decide) ?_
  refine lv_icmp_ne (tgt := 24) hx hb dX4_slipAt_11 (by decide) (fun c_11_1 => ?_) (fun c_11_1 => ?_)
  · skip
    have n9 : ∃ j : Nat, j < rwL SL ∧ nI j = x0 ∧ r_5 = nI (rwA SL j) := by
      rcases h_5 with h | ⟨-, h⟩
      · exact h
      · exact absurd h c_11_1
    refine lv_iload_n hx hb dX4_slipAt_24 rfl (lv_at hl 0 rfl) ?_
    exact hret (r_5) (FW g x (lN SL) q u k (nI np) mv lm ch (lN F) d v f (nI cnt) (nI ll)) _ _ _ _ dX4_slipAt_25 (⟨rfl, n9⟩) hP hD hS
  · skip
    have n9 : ¬ ∃ j : Nat, j < rwL SL ∧ nI j = x0 := by
      rcases h_5 with ⟨j, h1, h2, h3⟩ | ⟨h, -⟩
      · have hlt := hSL.2.2 j h1
        rw [h3] at c_11_1
        exact absurd c_11_1 (nI_nem1 (by omega))
      · exact h
    exact hthr "java/lang/IndexOutOfBoundsException" "the slip has no such letter" ["java/lang/RuntimeException", "java/lang/Exception"] 61 63 65 H locs ls [] 14 (by decide +kernel) (by decide +kernel) (by decide +kernel) (by decide +kernel) (by decide +kernel) (fun w h => List.mem_cons_of_mem _ (List.mem_append_right _ h)) (by decide +kernel) (by decide +kernel) hl.1 dX4_slipAt_14 dX4_slipAt_17 dX4_slipAt_18 dX4_slipAt_20 dX4_slipAt_23 (Nat.le_of_ble_eq_true rfl) (Nat.le_of_ble_eq_true rfl) (⟨rfl, n9⟩) hP hD hS

abbrev rm_X4_fragmentAt : Room := { frames := 6, cells := 1, slots := 6, locals := 90 }
set_option maxHeartbeats 4000000 in
set_option maxRecDepth 100000 in
theorem c_X4_fragmentAt (l : Launch) (hl0 : l.flags = flags0) (g : GG) (x q u d v : Nat) (SL : Nat) (k : Nat → Int32) (K : Nat → Nat) (np : Nat) (mv lm ch : Int32) (F : Nat) (f : Nat → Int64) (S : Nat → Nat) (cnt ll : Nat) (hSL : RV SL) (hF : RV F) (hk : GK k K) (hp : np ≤ 4) (hf : DR f S cnt) (hc : cnt ≤ 50) (hll : ll ≤ 10) (x0 : Int32) : Xi l yX4_fragmentAt wsX4_fragmentAt rm_X4_fragmentAt g [.ref (x), .int (x0)] (FW g x (lN SL) q u k (nI np) mv lm ch (lN F) d v f (nI cnt) (nI ll)) (fun r w => w = (FW g x (lN SL) q u k (nI np) mv lm ch (lN F) d v f (nI cnt) (nI ll)) ∧ ∃ j : Nat, j < rwL F ∧ nI j = x0 ∧ r = nI (rwA F j)) (fun E => E = "java/lang/IndexOutOfBoundsException" ∧ ¬ ∃ j : Nat, j < rwL F ∧ nI j = x0) := by
  refine Xi.of (cc := cX4_fragmentAt) (maxL := 3) hl0 rfl (by decide) rfl (Nat.le_of_ble_eq_true rfl) ⟨rfl, rfl⟩ ?_
  intro p e s m args below meth c A Z hx hb hml hts hown hK hA hret hthr H locs ls hP hD hS hl
  have f_19 := hts (.fieldLink RX4 19 "GhostGame" "game" "LGhostGame$Game;") (by decide +kernel)
  have hi_2 : ∀ w ∈ wsX40, w ∈ wsX4_fragmentAt := by decide +kernel
  have hl : lv_has ls 3 [(0, .ref (x)), (1, .int (x0))] := hl
  refine lv_aload_n hx hb dX4_fragmentAt_0 rfl (lv_at hl 0 rfl) ?_
  refine va_get (D := g.1) (ci := 2) (v := .ref (q)) (C := RX4) (T := TX4) (N := 3) hx hb hts hi_2 hown hK hP 0 rfl rfl 1 (by decide) f_19 (fun _ h9 => h9) rfl dX4_fragmentAt_1 ?_
  refine call_lV (As := []) (rest := []) (wr := [(x, .inr (2, [.ref (d), .ref (q), .long (lN (SL))])), (d, .inr (0, [.ref (v), .int (nI (cnt)), .int (nI (ll))])), (v, .inl (g.2.2.1, 50, .inr (.inl (f))))]) ⟨hx, hb, hml, hown, hts⟩ (c_X1_fragment l g q u k (nI np) mv lm ch (lN F)) (cwV 0 hts gX4_fragmentAt_X1_fragment rfl rfl rfl (by decide +kernel) ⟨Nat.le_of_ble_eq_true rfl, Nat.le_of_ble_eq_true rfl⟩) hP hK hD hS hA [1, 2] [0, 3, 4] rfl rfl (by decide) (by decide) (by decide) 0 rfl rfl rfl rfl hl.1 rfl (Nat.le_of_ble_eq_true rfl) dX4_fragmentAt_4 ⟨Nat.le_of_ble_eq_true rfl, Nat.le_of_ble_eq_true rfl⟩ (fun r_4 w H locs h_4 hP hD hS => ?_)
  obtain ⟨rfl, h_4⟩ := h_4
  subst h_4
  have hP := hP.sub [0, 3, 4, 1, 2] (ws' := (FW g x (lN SL) q u k (nI np) mv lm ch (lN F) d v f (nI cnt) (nI ll))) rfl
  have hD := hD.sub [0, 3, 4, 1, 2] (ws' := (FW g x (lN SL) q u k (nI np) mv lm ch (lN F) d v f (nI cnt) (nI ll))) (by decide) rfl
  have hP : va_P g.1 vwCl (FW g x (lN SL) q u k (nI np) mv lm ch (lN F) d v f (nI cnt) (nI ll)) H := hP
  have hD : va_D A (FW g x (lN SL) q u k (nI np) mv lm ch (lN F) d v f (nI cnt) (nI ll)) := hD
  refine lv_iload_n hx hb dX4_fragmentAt_7 rfl (lv_at hl 1 rfl) ?_
  refine call_iP (As := [.long (lN (F)), .int (x0)]) (rest := []) ⟨hx, hb, hml, hown, hts⟩ (c_X2_letterAt l F x0 hF) (va_cwS 2 hts gX4_fragmentAt_X2_letterAt rfl rfl rfl (by decide +kernel) ⟨Nat.le_of_ble_eq_true rfl, Nat.le_of_ble_eq_true rfl⟩) hP hK hD hS hA rfl hl.1 rfl (Nat.le_of_ble_eq_true rfl) dX4_fragmentAt_8 ⟨Nat.le_of_ble_eq_true rfl, Nat.le_of_ble_eq_true rfl⟩ (fun r_8 H locs h_8 hP hD hS => ?_)
  refine lv_istore_n (lv' := [(2, .int (r_8)), (0, .ref (x)), (1, .int (x0))]) hx hb dX4_fragmentAt_11 rfl hl (by decide) rfl (fun ls hl => ?_)
  refine lv_iload_n hx hb dX4_fragmentAt_12 rfl (lv_at hl 0 rfl) ?_
  refine lv_iconst (v := -1) hx hb dX4_fragmentAt_13 (by decide) ?_
  refine lv_icmp_ne (tgt := 27) hx hb dX4_fragmentAt_14 (by decide) (fun c_14_1 => ?_) (fun c_14_1 => ?_)
  · skip
    have n9 : ∃ j : Nat, j < rwL F ∧ nI j = x0 ∧ r_8 = nI (rwA F j) := by
      rcases h_8 with h | ⟨-, h⟩
      · exact h
      · exact absurd h c_14_1
    refine lv_iload_n hx hb dX4_fragmentAt_27 rfl (lv_at hl 0 rfl) ?_
    exact hret (r_8) (FW g x (lN SL) q u k (nI np) mv lm ch (lN F) d v f (nI cnt) (nI ll)) _ _ _ _ dX4_fragmentAt_28 (⟨rfl, n9⟩) hP hD hS
  · skip
    have n9 : ¬ ∃ j : Nat, j < rwL F ∧ nI j = x0 := by
      rcases h_8 with ⟨j, h1, h2, h3⟩ | ⟨h, -⟩
      · have hlt := hF.2.2 j h1
        rw [h3] at c_14_1
        exact absurd c_14_1 (nI_nem1 (by omega))
      · exact h
    exact hthr "java/lang/IndexOutOfBoundsException" "the fragment has no such letter" ["java/lang/RuntimeException", "java/lang/Exception"] 61 143 65 H locs ls [] 17 (by decide +kernel) (by decide +kernel) (by decide +kernel) (by decide +kernel) (by decide +kernel) (fun w h => List.mem_cons_of_mem _ (List.mem_append_right _ h)) (by decide +kernel) (by decide +kernel) hl.1 dX4_fragmentAt_17 dX4_fragmentAt_20 dX4_fragmentAt_21 dX4_fragmentAt_23 dX4_fragmentAt_26 (Nat.le_of_ble_eq_true rfl) (Nat.le_of_ble_eq_true rfl) (⟨rfl, n9⟩) hP hD hS

abbrev rm_X4_strikes : Room := { frames := 6, cells := 1, slots := 6, locals := 90 }
set_option maxHeartbeats 4000000 in
set_option maxRecDepth 100000 in
theorem c_X4_strikes (l : Launch) (hl0 : l.flags = flags0) (g : GG) (x q u d v : Nat) (SL : Nat) (k : Nat → Int32) (K : Nat → Nat) (np : Nat) (mv lm ch : Int32) (F : Nat) (f : Nat → Int64) (S : Nat → Nat) (cnt ll : Nat) (hSL : RV SL) (hF : RV F) (hk : GK k K) (hp : np ≤ 4) (hf : DR f S cnt) (hc : cnt ≤ 50) (hll : ll ≤ 10) (x0 : Int32) : Xi l yX4_strikes wsX4_strikes rm_X4_strikes g [.ref (x), .int (x0)] (FW g x (lN SL) q u k (nI np) mv lm ch (lN F) d v f (nI cnt) (nI ll)) (fun r w => w = (FW g x (lN SL) q u k (nI np) mv lm ch (lN F) d v f (nI cnt) (nI ll)) ∧ ∃ j : Nat, j < np ∧ nI j = x0 ∧ r = nI (K j)) (fun E => E = "java/lang/IndexOutOfBoundsException" ∧ ¬ ∃ j : Nat, j < np ∧ nI j = x0) := by
  refine Xi.of (cc := cX4_strikes) (maxL := 3) hl0 rfl (by decide) rfl (Nat.le_of_ble_eq_true rfl) ⟨rfl, rfl⟩ ?_
  intro p e s m args below meth c A Z hx hb hml hts hown hK hA hret hthr H locs ls hP hD hS hl
  have f_19 := hts (.fieldLink RX4 19 "GhostGame" "game" "LGhostGame$Game;") (by decide +kernel)
  have hi_2 : ∀ w ∈ wsX40, w ∈ wsX4_strikes := by decide +kernel
  have hl : lv_has ls 3 [(0, .ref (x)), (1, .int (x0))] := hl
  refine lv_aload_n hx hb dX4_strikes_0 rfl (lv_at hl 0 rfl) ?_
  refine va_get (D := g.1) (ci := 2) (v := .ref (q)) (C := RX4) (T := TX4) (N := 3) hx hb hts hi_2 hown hK hP 0 rfl rfl 1 (by decide) f_19 (fun _ h9 => h9) rfl dX4_strikes_1 ?_
  refine lv_iload_n hx hb dX4_strikes_4 rfl (lv_at hl 1 rfl) ?_
  refine call_iV (As := [.int (x0)]) (rest := []) (wr := [(x, .inr (2, [.ref (d), .ref (q), .long (lN (SL))])), (d, .inr (0, [.ref (v), .int (nI (cnt)), .int (nI (ll))])), (v, .inl (g.2.2.1, 50, .inr (.inl (f))))]) ⟨hx, hb, hml, hown, hts⟩ (c_X1_strikesOf l g q u k np mv lm ch (lN F) hp x0) (cwV 1 hts gX4_strikes_X1_strikesOf rfl rfl rfl (by decide +kernel) ⟨Nat.le_of_ble_eq_true rfl, Nat.le_of_ble_eq_true rfl⟩) hP hK hD hS hA [1, 2] [0, 3, 4] rfl rfl (by decide) (by decide) (by decide) 0 rfl rfl rfl rfl hl.1 rfl (Nat.le_of_ble_eq_true rfl) dX4_strikes_5 ⟨Nat.le_of_ble_eq_true rfl, Nat.le_of_ble_eq_true rfl⟩ (fun r_5 w H locs h_5 hP hD hS => ?_)
  obtain ⟨rfl, h_5⟩ := h_5
  have hP := hP.sub [0, 3, 4, 1, 2] (ws' := (FW g x (lN SL) q u k (nI np) mv lm ch (lN F) d v f (nI cnt) (nI ll))) rfl
  have hD := hD.sub [0, 3, 4, 1, 2] (ws' := (FW g x (lN SL) q u k (nI np) mv lm ch (lN F) d v f (nI cnt) (nI ll))) (by decide) rfl
  have hP : va_P g.1 vwCl (FW g x (lN SL) q u k (nI np) mv lm ch (lN F) d v f (nI cnt) (nI ll)) H := hP
  have hD : va_D A (FW g x (lN SL) q u k (nI np) mv lm ch (lN F) d v f (nI cnt) (nI ll)) := hD
  refine lv_istore_n (lv' := [(2, .int (r_5)), (0, .ref (x)), (1, .int (x0))]) hx hb dX4_strikes_8 rfl hl (by decide) rfl (fun ls hl => ?_)
  refine lv_iload_n hx hb dX4_strikes_9 rfl (lv_at hl 0 rfl) ?_
  refine lv_iconst (v := -1) hx hb dX4_strikes_10 (by decide) ?_
  refine lv_icmp_ne (tgt := 24) hx hb dX4_strikes_11 (by decide) (fun c_11_1 => ?_) (fun c_11_1 => ?_)
  · skip
    have n9 : ∃ j : Nat, j < np ∧ nI j = x0 ∧ r_5 = nI (K j) := by
      rcases h_5 with ⟨j, h1, h2, h3⟩ | ⟨-, h⟩
      · exact ⟨j, h1, h2, h3.trans (hk j (by omega)).1⟩
      · exact absurd h c_11_1
    refine lv_iload_n hx hb dX4_strikes_24 rfl (lv_at hl 0 rfl) ?_
    exact hret (r_5) (FW g x (lN SL) q u k (nI np) mv lm ch (lN F) d v f (nI cnt) (nI ll)) _ _ _ _ dX4_strikes_25 (⟨rfl, n9⟩) hP hD hS
  · skip
    have n9 : ¬ ∃ j : Nat, j < np ∧ nI j = x0 := by
      rcases h_5 with ⟨j, h1, h2, h3⟩ | ⟨h, -⟩
      · have hlt := hk j (by omega)
        rw [h3, hlt.1] at c_11_1
        exact absurd c_11_1 (nI_nem1 (by omega))
      · exact h
    exact hthr "java/lang/IndexOutOfBoundsException" "there is no such player" ["java/lang/RuntimeException", "java/lang/Exception"] 61 141 65 H locs ls [] 14 (by decide +kernel) (by decide +kernel) (by decide +kernel) (by decide +kernel) (by decide +kernel) (fun w h => List.mem_cons_of_mem _ (List.mem_append_right _ h)) (by decide +kernel) (by decide +kernel) hl.1 dX4_strikes_14 dX4_strikes_17 dX4_strikes_18 dX4_strikes_20 dX4_strikes_23 (Nat.le_of_ble_eq_true rfl) (Nat.le_of_ble_eq_true rfl) (⟨rfl, n9⟩) hP hD hS

abbrev rm_X4_addWord : Room := { frames := 6, cells := 1, slots := 6, locals := 90 }
set_option maxHeartbeats 4000000 in
set_option maxRecDepth 100000 in
theorem c_X4_addWord (l : Launch) (hl0 : l.flags = flags0) (g : GG) (x q u d v : Nat) (SL : Nat) (k : Nat → Int32) (K : Nat → Nat) (np : Nat) (mv lm ch : Int32) (F : Nat) (f : Nat → Int64) (S : Nat → Nat) (cnt ll : Nat) (hSL : RV SL) (hF : RV F) (hk : GK k K) (hp : np ≤ 4) (hf : DR f S cnt) (hc : cnt ≤ 50) (hll : ll ≤ 10) : Xi l yX4_addWord wsX4_addWord rm_X4_addWord g [.ref (x)] (FW g x (lN SL) q u k (nI np) mv lm ch (lN F) d v f (nI cnt) (nI ll)) (fun r w => 2 ≤ rwL SL ∧ cnt < 50 ∧ ¬ inS S cnt SL ∧ r = nI (cnt + 1) ∧ ∃ (f9 : Nat → Int64) (S9 : Nat → Nat) (t : Nat), w = FW g x (lN SL) q u k (nI np) mv lm ch (lN F) d v f9 (nI (cnt + 1)) (nI ll) ∧ DR f9 S9 (cnt + 1) ∧ InsAt S cnt t SL S9) (fun E => (E = "java/lang/IllegalArgumentException" ∧ ¬ 2 ≤ rwL SL) ∨ (E = "java/lang/IllegalStateException" ∧ 2 ≤ rwL SL ∧ (50 ≤ cnt ∨ inS S cnt SL))) := by
  refine Xi.of (cc := cX4_addWord) (maxL := 1) hl0 rfl (by decide) rfl (Nat.le_of_ble_eq_true rfl) ⟨rfl, rfl⟩ ?_
  intro p e s m args below meth c A Z hx hb hml hts hown hK hA hret hthr H locs ls hP hD hS hl
  have f_10 := hts (.fieldLink RX4 10 "GhostGame" "dictionary" "LGhostGame$Dictionary;") (by decide +kernel)
  have f_25 := hts (.fieldLink RX4 25 "GhostGame" "slip" "J") (by decide +kernel)
  have hi_2 : ∀ w ∈ wsX40, w ∈ wsX4_addWord := by decide +kernel
  have hl : lv_has ls 1 [(0, .ref (x))] := hl
  have h10 := hSL.1
  refine lv_aload_n hx hb dX4_addWord_0 rfl (lv_at hl 0 rfl) ?_
  refine va_get (D := g.1) (ci := 2) (v := .long (lN (SL))) (C := RX4) (T := TX4) (N := 3) hx hb hts hi_2 hown hK hP 0 rfl rfl 2 (by decide) f_25 (fun _ h9 => h9) rfl dX4_addWord_1 ?_
  refine call_iP (As := [.long (lN (SL))]) (rest := []) ⟨hx, hb, hml, hown, hts⟩ (c_X2_lengthOf l SL (hSL).lt) (va_cwS 1 hts gX4_addWord_X2_lengthOf rfl rfl rfl (by decide +kernel) ⟨Nat.le_of_ble_eq_true rfl, Nat.le_of_ble_eq_true rfl⟩) hP hK hD hS hA rfl hl.1 rfl (Nat.le_of_ble_eq_true rfl) dX4_addWord_4 ⟨Nat.le_of_ble_eq_true rfl, Nat.le_of_ble_eq_true rfl⟩ (fun r_4 H locs h_4 hP hD hS => ?_)
  subst h_4
  refine lv_iconst (v := nI 2) hx hb dX4_addWord_7 (by decide) ?_
  refine lv_icmp_ge (tgt := 21) hx hb dX4_addWord_8 (by decide) (fun c_8_1 => ?_) (fun c_8_1 => ?_)
  · skip
    have n_8_1 : 2 ≤ rwL SL := (nI_leI (a := 2) (b := rwL SL) (by omega) (by omega)).mp c_8_1
    refine lv_aload_n hx hb dX4_addWord_21 rfl (lv_at hl 0 rfl) ?_
    refine va_get (D := g.1) (ci := 2) (v := .ref (d)) (C := RX4) (T := TX4) (N := 3) hx hb hts hi_2 hown hK hP 0 rfl rfl 0 (by decide) f_10 (fun _ h9 => h9) rfl dX4_addWord_22 ?_
    refine lv_aload_n hx hb dX4_addWord_25 rfl (lv_at hl 0 rfl) ?_
    refine va_get (D := g.1) (ci := 2) (v := .long (lN (SL))) (C := RX4) (T := TX4) (N := 3) hx hb hts hi_2 hown hK hP 0 rfl rfl 2 (by decide) f_25 (fun _ h9 => h9) rfl dX4_addWord_26 ?_
    refine call_iV (As := [.long (lN (SL))]) (rest := []) (wr := [(x, .inr (2, [.ref (d), .ref (q), .long (lN (SL))])), (q, .inr (1, [.ref (u), .int (nI (np)), .int (mv), .int (lm), .int (ch), .long (lN (F))])), (u, .inl (g.2.1, 4, .inl (k)))]) ⟨hx, hb, hml, hown, hts⟩ (c_X0_add l g d v f S cnt ll hf hc SL hSL) (cwV 1 hts gX4_addWord_X0_add rfl rfl rfl (by decide +kernel) ⟨Nat.le_of_ble_eq_true rfl, Nat.le_of_ble_eq_true rfl⟩) hP hK hD hS hA [3, 4] [0, 1, 2] rfl rfl (by decide) (by decide) (by decide) 0 rfl rfl rfl rfl hl.1 rfl (Nat.le_of_ble_eq_true rfl) dX4_addWord_29 ⟨Nat.le_of_ble_eq_true rfl, Nat.le_of_ble_eq_true rfl⟩ (fun r_29 w H locs h_29 hP hD hS => ?_)
    rcases h_29 with ⟨rfl, rfl, n32⟩ | ⟨rfl, h32, h33, f9, S9, t9, rfl, hS9, hI9⟩
    · skip
      have hP : va_P g.1 vwCl (FW g x (lN SL) q u k (nI np) mv lm ch (lN F) d v f (nI cnt) (nI ll)) H := hP
      have hD : va_D A (FW g x (lN SL) q u k (nI np) mv lm ch (lN F) d v f (nI cnt) (nI ll)) := hD
      refine lv_if_ne (tgt := 45) hx hb dX4_addWord_32 (by decide) (fun c_32_2 => absurd (by decide) c_32_2) (fun c_32_2 => ?_)
      exact hthr "java/lang/IllegalStateException" "there are 50 words, or this one is there" ["java/lang/RuntimeException", "java/lang/Exception"] 44 71 48 H locs ls [] 35 (by decide +kernel) (by decide +kernel) (by decide +kernel) (by decide +kernel) (by decide +kernel) (fun w h => List.mem_cons_of_mem _ (List.mem_append_right _ h)) (by decide +kernel) (by decide +kernel) hl.1 dX4_addWord_35 dX4_addWord_38 dX4_addWord_39 dX4_addWord_41 dX4_addWord_44 (Nat.le_of_ble_eq_true rfl) (Nat.le_of_ble_eq_true rfl) (Or.inr ⟨rfl, by omega, n32⟩) hP hD hS
    · skip
      have hP : va_P g.1 vwCl (FW g x (lN SL) q u k (nI np) mv lm ch (lN F) d v f9 (nI (cnt + 1)) (nI ll)) H := hP
      have hD : va_D A (FW g x (lN SL) q u k (nI np) mv lm ch (lN F) d v f9 (nI (cnt + 1)) (nI ll)) := hD
      refine lv_if_ne (tgt := 45) hx hb dX4_addWord_32 (by decide) (fun c_32_3 => ?_) (fun c_32_3 => absurd c_32_3 (by decide))
      refine lv_aload_n hx hb dX4_addWord_45 rfl (lv_at hl 0 rfl) ?_
      refine va_get (D := g.1) (ci := 2) (v := .ref (d)) (C := RX4) (T := TX4) (N := 3) hx hb hts hi_2 hown hK hP 0 rfl rfl 0 (by decide) f_10 (fun _ h9 => h9) rfl dX4_addWord_46 ?_
      refine call_iV (As := []) (rest := []) (wr := [(x, .inr (2, [.ref (d), .ref (q), .long (lN (SL))])), (q, .inr (1, [.ref (u), .int (nI (np)), .int (mv), .int (lm), .int (ch), .long (lN (F))])), (u, .inl (g.2.1, 4, .inl (k)))]) ⟨hx, hb, hml, hown, hts⟩ (c_X0_size l g d v f9 S9 (cnt + 1) ll hS9 (by omega)) (cwV 0 hts gX4_addWord_X0_size rfl rfl rfl (by decide +kernel) ⟨Nat.le_of_ble_eq_true rfl, Nat.le_of_ble_eq_true rfl⟩) hP hK hD hS hA [3, 4] [0, 1, 2] rfl rfl (by decide) (by decide) (by decide) 0 rfl rfl rfl rfl hl.1 rfl (Nat.le_of_ble_eq_true rfl) dX4_addWord_49 ⟨Nat.le_of_ble_eq_true rfl, Nat.le_of_ble_eq_true rfl⟩ (fun r_49 w H locs h_49 hP hD hS => ?_)
      obtain ⟨rfl, h_49⟩ := h_49
      subst h_49
      have hP : va_P g.1 vwCl (FW g x (lN SL) q u k (nI np) mv lm ch (lN F) d v f9 (nI (cnt + 1)) (nI ll)) H := hP
      have hD : va_D A (FW g x (lN SL) q u k (nI np) mv lm ch (lN F) d v f9 (nI (cnt + 1)) (nI ll)) := hD
      exact hret (nI (cnt + 1)) (FW g x (lN SL) q u k (nI np) mv lm ch (lN F) d v f9 (nI (cnt + 1)) (nI ll)) _ _ _ _ dX4_addWord_52 (⟨by omega, h32, h33, rfl, f9, S9, t9, rfl, hS9, hI9⟩) hP hD hS
  · skip
    have n_8_1 : ¬ 2 ≤ rwL SL := fun q9 => c_8_1 ((nI_leI (a := 2) (b := rwL SL) (by omega) (by omega)).mpr q9)
    exact hthr "java/lang/IllegalArgumentException" "a word has at least 2 letters" ["java/lang/RuntimeException", "java/lang/Exception"] 33 66 37 H locs ls [] 11 (by decide +kernel) (by decide +kernel) (by decide +kernel) (by decide +kernel) (by decide +kernel) (fun w h => List.mem_cons_of_mem _ (List.mem_append_left _ (List.mem_append_right _ h))) (by decide +kernel) (by decide +kernel) hl.1 dX4_addWord_11 dX4_addWord_14 dX4_addWord_15 dX4_addWord_17 dX4_addWord_20 (Nat.le_of_ble_eq_true rfl) (Nat.le_of_ble_eq_true rfl) (Or.inl ⟨rfl, by omega⟩) hP hD hS

abbrev rm_X4_removeWord : Room := { frames := 6, cells := 1, slots := 6, locals := 90 }
set_option maxHeartbeats 4000000 in
set_option maxRecDepth 100000 in
theorem c_X4_removeWord (l : Launch) (hl0 : l.flags = flags0) (g : GG) (x q u d v : Nat) (SL : Nat) (k : Nat → Int32) (K : Nat → Nat) (np : Nat) (mv lm ch : Int32) (F : Nat) (f : Nat → Int64) (S : Nat → Nat) (cnt ll : Nat) (hSL : RV SL) (hF : RV F) (hk : GK k K) (hp : np ≤ 4) (hf : DR f S cnt) (hc : cnt ≤ 50) (hll : ll ≤ 10) : Xi l yX4_removeWord wsX4_removeWord rm_X4_removeWord g [.ref (x)] (FW g x (lN SL) q u k (nI np) mv lm ch (lN F) d v f (nI cnt) (nI ll)) (fun r w => r = nI (cnt - 1) ∧ ∃ (f9 : Nat → Int64) (S9 : Nat → Nat) (t : Nat), w = FW g x (lN SL) q u k (nI np) mv lm ch (lN F) d v f9 (nI (cnt - 1)) (nI ll) ∧ S t = SL ∧ DR f9 S9 (cnt - 1) ∧ RemAt S cnt t S9) (fun E => E = "java/lang/IllegalStateException" ∧ ¬ inS S cnt SL) := by
  refine Xi.of (cc := cX4_removeWord) (maxL := 1) hl0 rfl (by decide) rfl (Nat.le_of_ble_eq_true rfl) ⟨rfl, rfl⟩ ?_
  intro p e s m args below meth c A Z hx hb hml hts hown hK hA hret hthr H locs ls hP hD hS hl
  have f_10 := hts (.fieldLink RX4 10 "GhostGame" "dictionary" "LGhostGame$Dictionary;") (by decide +kernel)
  have f_25 := hts (.fieldLink RX4 25 "GhostGame" "slip" "J") (by decide +kernel)
  have hi_2 : ∀ w ∈ wsX40, w ∈ wsX4_removeWord := by decide +kernel
  have hl : lv_has ls 1 [(0, .ref (x))] := hl
  refine lv_aload_n hx hb dX4_removeWord_0 rfl (lv_at hl 0 rfl) ?_
  refine va_get (D := g.1) (ci := 2) (v := .ref (d)) (C := RX4) (T := TX4) (N := 3) hx hb hts hi_2 hown hK hP 0 rfl rfl 0 (by decide) f_10 (fun _ h9 => h9) rfl dX4_removeWord_1 ?_
  refine lv_aload_n hx hb dX4_removeWord_4 rfl (lv_at hl 0 rfl) ?_
  refine va_get (D := g.1) (ci := 2) (v := .long (lN (SL))) (C := RX4) (T := TX4) (N := 3) hx hb hts hi_2 hown hK hP 0 rfl rfl 2 (by decide) f_25 (fun _ h9 => h9) rfl dX4_removeWord_5 ?_
  refine call_iV (As := [.long (lN (SL))]) (rest := []) (wr := [(x, .inr (2, [.ref (d), .ref (q), .long (lN (SL))])), (q, .inr (1, [.ref (u), .int (nI (np)), .int (mv), .int (lm), .int (ch), .long (lN (F))])), (u, .inl (g.2.1, 4, .inl (k)))]) ⟨hx, hb, hml, hown, hts⟩ (c_X0_remove l g d v f S cnt ll hf hc SL hSL) (cwV 1 hts gX4_removeWord_X0_remove rfl rfl rfl (by decide +kernel) ⟨Nat.le_of_ble_eq_true rfl, Nat.le_of_ble_eq_true rfl⟩) hP hK hD hS hA [3, 4] [0, 1, 2] rfl rfl (by decide) (by decide) (by decide) 0 rfl rfl rfl rfl hl.1 rfl (Nat.le_of_ble_eq_true rfl) dX4_removeWord_8 ⟨Nat.le_of_ble_eq_true rfl, Nat.le_of_ble_eq_true rfl⟩ (fun r_8 w H locs h_8 hP hD hS => ?_)
  rcases h_8 with ⟨rfl, rfl, n11⟩ | ⟨rfl, f9, S9, t9, rfl, h32, hS9, hI9⟩
  · skip
    have hP : va_P g.1 vwCl (FW g x (lN SL) q u k (nI np) mv lm ch (lN F) d v f (nI cnt) (nI ll)) H := hP
    have hD : va_D A (FW g x (lN SL) q u k (nI np) mv lm ch (lN F) d v f (nI cnt) (nI ll)) := hD
    refine lv_if_ne (tgt := 24) hx hb dX4_removeWord_11 (by decide) (fun c_11_1 => absurd (by decide) c_11_1) (fun c_11_1 => ?_)
    exact hthr "java/lang/IllegalStateException" "the dictionary does not have this word" ["java/lang/RuntimeException", "java/lang/Exception"] 44 80 48 H locs ls [] 14 (by decide +kernel) (by decide +kernel) (by decide +kernel) (by decide +kernel) (by decide +kernel) (fun w h => List.mem_cons_of_mem _ (List.mem_append_right _ h)) (by decide +kernel) (by decide +kernel) hl.1 dX4_removeWord_14 dX4_removeWord_17 dX4_removeWord_18 dX4_removeWord_20 dX4_removeWord_23 (Nat.le_of_ble_eq_true rfl) (Nat.le_of_ble_eq_true rfl) (⟨rfl, fun ⟨i, a, b⟩ => n11 i a b⟩) hP hD hS
  · skip
    have hP : va_P g.1 vwCl (FW g x (lN SL) q u k (nI np) mv lm ch (lN F) d v f9 (nI (cnt - 1)) (nI ll)) H := hP
    have hD : va_D A (FW g x (lN SL) q u k (nI np) mv lm ch (lN F) d v f9 (nI (cnt - 1)) (nI ll)) := hD
    refine lv_if_ne (tgt := 24) hx hb dX4_removeWord_11 (by decide) (fun c_11_2 => ?_) (fun c_11_2 => absurd c_11_2 (by decide))
    refine lv_aload_n hx hb dX4_removeWord_24 rfl (lv_at hl 0 rfl) ?_
    refine va_get (D := g.1) (ci := 2) (v := .ref (d)) (C := RX4) (T := TX4) (N := 3) hx hb hts hi_2 hown hK hP 0 rfl rfl 0 (by decide) f_10 (fun _ h9 => h9) rfl dX4_removeWord_25 ?_
    refine call_iV (As := []) (rest := []) (wr := [(x, .inr (2, [.ref (d), .ref (q), .long (lN (SL))])), (q, .inr (1, [.ref (u), .int (nI (np)), .int (mv), .int (lm), .int (ch), .long (lN (F))])), (u, .inl (g.2.1, 4, .inl (k)))]) ⟨hx, hb, hml, hown, hts⟩ (c_X0_size l g d v f9 S9 (cnt - 1) ll hS9 (by omega)) (cwV 0 hts gX4_removeWord_X0_size rfl rfl rfl (by decide +kernel) ⟨Nat.le_of_ble_eq_true rfl, Nat.le_of_ble_eq_true rfl⟩) hP hK hD hS hA [3, 4] [0, 1, 2] rfl rfl (by decide) (by decide) (by decide) 0 rfl rfl rfl rfl hl.1 rfl (Nat.le_of_ble_eq_true rfl) dX4_removeWord_28 ⟨Nat.le_of_ble_eq_true rfl, Nat.le_of_ble_eq_true rfl⟩ (fun r_28 w H locs h_28 hP hD hS => ?_)
    obtain ⟨rfl, h_28⟩ := h_28
    subst h_28
    have hP : va_P g.1 vwCl (FW g x (lN SL) q u k (nI np) mv lm ch (lN F) d v f9 (nI (cnt - 1)) (nI ll)) H := hP
    have hD : va_D A (FW g x (lN SL) q u k (nI np) mv lm ch (lN F) d v f9 (nI (cnt - 1)) (nI ll)) := hD
    exact hret (nI (cnt - 1)) (FW g x (lN SL) q u k (nI np) mv lm ch (lN F) d v f9 (nI (cnt - 1)) (nI ll)) _ _ _ _ dX4_removeWord_31 (⟨rfl, f9, S9, t9, rfl, h32, hS9, hI9⟩) hP hD hS

abbrev rm_X4_copyWord : Room := { frames := 6, cells := 1, slots := 6, locals := 90 }
set_option maxHeartbeats 4000000 in
set_option maxRecDepth 100000 in
theorem c_X4_copyWord (l : Launch) (hl0 : l.flags = flags0) (g : GG) (x q u d v : Nat) (SL : Nat) (k : Nat → Int32) (K : Nat → Nat) (np : Nat) (mv lm ch : Int32) (F : Nat) (f : Nat → Int64) (S : Nat → Nat) (cnt ll : Nat) (hSL : RV SL) (hF : RV F) (hk : GK k K) (hp : np ≤ 4) (hf : DR f S cnt) (hc : cnt ≤ 50) (hll : ll ≤ 10) (h2l : ∀ i, i < cnt → 2 ≤ rwL (S i)) (x0 : Int32) : Xi l yX4_copyWord wsX4_copyWord rm_X4_copyWord g [.ref (x), .int (x0)] (FW g x (lN SL) q u k (nI np) mv lm ch (lN F) d v f (nI cnt) (nI ll)) (fun r w => ∃ j : Nat, j < cnt ∧ nI j = x0 ∧ r = nI (rwL (S j)) ∧ w = (FW g x (lN (S j)) q u k (nI np) mv lm ch (lN F) d v f (nI cnt) (nI ll))) (fun E => E = "java/lang/IndexOutOfBoundsException" ∧ ¬ ∃ j : Nat, j < cnt ∧ nI j = x0) := by
  refine Xi.of (cc := cX4_copyWord) (maxL := 4) hl0 rfl (by decide) rfl (Nat.le_of_ble_eq_true rfl) ⟨rfl, rfl⟩ ?_
  intro p e s m args below meth c A Z hx hb hml hts hown hK hA hret hthr H locs ls hP hD hS hl
  have f_10 := hts (.fieldLink RX4 10 "GhostGame" "dictionary" "LGhostGame$Dictionary;") (by decide +kernel)
  have f_25 := hts (.fieldLink RX4 25 "GhostGame" "slip" "J") (by decide +kernel)
  have hi_2 : ∀ w ∈ wsX40, w ∈ wsX4_copyWord := by decide +kernel
  have hl : lv_has ls 4 [(0, .ref (x)), (1, .int (x0))] := hl
  refine lv_aload_n hx hb dX4_copyWord_0 rfl (lv_at hl 0 rfl) ?_
  refine va_get (D := g.1) (ci := 2) (v := .ref (d)) (C := RX4) (T := TX4) (N := 3) hx hb hts hi_2 hown hK hP 0 rfl rfl 0 (by decide) f_10 (fun _ h9 => h9) rfl dX4_copyWord_1 ?_
  refine lv_iload_n hx hb dX4_copyWord_4 rfl (lv_at hl 1 rfl) ?_
  refine call_lV (As := [.int (x0)]) (rest := []) (wr := [(x, .inr (2, [.ref (d), .ref (q), .long (lN (SL))])), (q, .inr (1, [.ref (u), .int (nI (np)), .int (mv), .int (lm), .int (ch), .long (lN (F))])), (u, .inl (g.2.1, 4, .inl (k)))]) ⟨hx, hb, hml, hown, hts⟩ (c_X0_wordAt l g d v f S cnt ll hf hc x0) (cwV 1 hts gX4_copyWord_X0_wordAt rfl rfl rfl (by decide +kernel) ⟨Nat.le_of_ble_eq_true rfl, Nat.le_of_ble_eq_true rfl⟩) hP hK hD hS hA [3, 4] [0, 1, 2] rfl rfl (by decide) (by decide) (by decide) 0 rfl rfl rfl rfl hl.1 rfl (Nat.le_of_ble_eq_true rfl) dX4_copyWord_5 ⟨Nat.le_of_ble_eq_true rfl, Nat.le_of_ble_eq_true rfl⟩ (fun r_5 w H locs h_5 hP hD hS => ?_)
  rcases h_5 with ⟨rfl, ⟨j, hj, rfl, rfl⟩ | ⟨n9, rfl⟩⟩
  · skip
    have hSj := (hf j hj).2.lt
    have h2j := h2l j hj
    have hP : va_P g.1 vwCl (FW g x (lN SL) q u k (nI np) mv lm ch (lN F) d v f (nI cnt) (nI ll)) H := hP
    have hD : va_D A (FW g x (lN SL) q u k (nI np) mv lm ch (lN F) d v f (nI cnt) (nI ll)) := hD
    refine lv_lstore_n (lv' := [(2, .long (lN (S j))), (0, .ref (x)), (1, .int (nI (j)))]) hx hb dX4_copyWord_8 rfl hl (by decide) rfl (fun ls hl => ?_)
    refine lv_lload_n hx hb dX4_copyWord_9 rfl (lv_at hl 0 rfl) ?_
    refine lv_lconst (v := lN 0) hx hb dX4_copyWord_10 (by decide) ?_
    refine W.lcmp hx hb dX4_copyWord_11 ?_
    refine lv_if_ne (tgt := 25) hx hb dX4_copyWord_12 (by decide) (fun c_12_1 => ?_) (fun c_12_1 => ?_)
    · skip
      have n_12_1 : ¬ S j = 0 := fun q9 => c_12_1 ((lc_eq (a := S j) (b := 0) (by omega) (by omega)).mpr q9)
      refine lv_aload_n hx hb dX4_copyWord_25 rfl (lv_at hl 1 rfl) ?_
      refine lv_lload_n hx hb dX4_copyWord_26 rfl (lv_at hl 0 rfl) ?_
      refine va_put (D := g.1) (ci := 2) (v := .long (lN (S j))) (ty := .long) (C := RX4) (T := TX4) (N := 3) hx hb hts hi_2 tyX4 tyX4_ok nmX4 hown hK hP hD hS 0 rfl rfl 2 (by decide) f_25 (fun _ h9 => h9) rfl (by decide +kernel) rfl rfl (Nat.le_of_ble_eq_true rfl) dX4_copyWord_27 (fun H locs hP hD hS => ?_)
      have hP : va_P g.1 vwCl (FW g x (lN (S j)) q u k (nI np) mv lm ch (lN F) d v f (nI cnt) (nI ll)) H := hP
      have hD : va_D A (FW g x (lN (S j)) q u k (nI np) mv lm ch (lN F) d v f (nI cnt) (nI ll)) := hD
      refine lv_aload_n hx hb dX4_copyWord_30 rfl (lv_at hl 1 rfl) ?_
      refine va_get (D := g.1) (ci := 2) (v := .long (lN (S j))) (C := RX4) (T := TX4) (N := 3) hx hb hts hi_2 hown hK hP 0 rfl rfl 2 (by decide) f_25 (fun _ h9 => h9) rfl dX4_copyWord_31 ?_
      refine call_iP (As := [.long (lN (S j))]) (rest := []) ⟨hx, hb, hml, hown, hts⟩ (c_X2_lengthOf l (S j) ((hf j hj).2).lt) (va_cwS 1 hts gX4_copyWord_X2_lengthOf rfl rfl rfl (by decide +kernel) ⟨Nat.le_of_ble_eq_true rfl, Nat.le_of_ble_eq_true rfl⟩) hP hK hD hS hA rfl hl.1 rfl (Nat.le_of_ble_eq_true rfl) dX4_copyWord_34 ⟨Nat.le_of_ble_eq_true rfl, Nat.le_of_ble_eq_true rfl⟩ (fun r_34 H locs h_34 hP hD hS => ?_)
      subst h_34
      exact hret (nI (rwL (S j))) (FW g x (lN (S j)) q u k (nI np) mv lm ch (lN F) d v f (nI cnt) (nI ll)) _ _ _ _ dX4_copyWord_37 (⟨j, hj, rfl, rfl, rfl⟩) hP hD hS
    · skip
      have n_12_1 : S j = 0 := (lc_eq (a := S j) (b := 0) (by omega) (by omega)).mp c_12_1
      rw [n_12_1] at h2j
      exact absurd h2j (by decide)
  · skip
    have hP : va_P g.1 vwCl (FW g x (lN SL) q u k (nI np) mv lm ch (lN F) d v f (nI cnt) (nI ll)) H := hP
    have hD : va_D A (FW g x (lN SL) q u k (nI np) mv lm ch (lN F) d v f (nI cnt) (nI ll)) := hD
    refine lv_lstore_n (lv' := [(2, .long (lN (0))), (0, .ref (x)), (1, .int (x0))]) hx hb dX4_copyWord_8 rfl hl (by decide) rfl (fun ls hl => ?_)
    refine lv_lload_n hx hb dX4_copyWord_9 rfl (lv_at hl 0 rfl) ?_
    refine lv_lconst (v := lN 0) hx hb dX4_copyWord_10 (by decide) ?_
    refine W.lcmp hx hb dX4_copyWord_11 ?_
    refine lv_if_ne (tgt := 25) hx hb dX4_copyWord_12 (by decide) (fun c_12_2 => ?_) (fun c_12_2 => ?_)
    · skip
      have n_12_2 : ¬ 0 = 0 := fun q9 => c_12_2 ((lc_eq (a := 0) (b := 0) (by omega) (by omega)).mpr q9)
      exact absurd rfl n_12_2
    · skip
      have n_12_2 : 0 = 0 := (lc_eq (a := 0) (b := 0) (by omega) (by omega)).mp c_12_2
      exact hthr "java/lang/IndexOutOfBoundsException" "there is no such word" ["java/lang/RuntimeException", "java/lang/Exception"] 61 95 65 H locs ls [] 15 (by decide +kernel) (by decide +kernel) (by decide +kernel) (by decide +kernel) (by decide +kernel) (fun w h => List.mem_cons_of_mem _ (List.mem_append_right _ h)) (by decide +kernel) (by decide +kernel) hl.1 dX4_copyWord_15 dX4_copyWord_18 dX4_copyWord_19 dX4_copyWord_21 dX4_copyWord_24 (Nat.le_of_ble_eq_true rfl) (Nat.le_of_ble_eq_true rfl) (⟨rfl, n9⟩) hP hD hS

abbrev rm_X4_setLeastLength : Room := { frames := 6, cells := 1, slots := 6, locals := 90 }
set_option maxHeartbeats 4000000 in
set_option maxRecDepth 100000 in
theorem c_X4_setLeastLength (l : Launch) (hl0 : l.flags = flags0) (g : GG) (x q u d v : Nat) (SL : Nat) (k : Nat → Int32) (K : Nat → Nat) (np : Nat) (mv lm ch : Int32) (F : Nat) (f : Nat → Int64) (S : Nat → Nat) (cnt ll : Nat) (hSL : RV SL) (hF : RV F) (hk : GK k K) (hp : np ≤ 4) (hf : DR f S cnt) (hc : cnt ≤ 50) (hll : ll ≤ 10) (x0 : Int32) : Xi l yX4_setLeastLength wsX4_setLeastLength rm_X4_setLeastLength g [.ref (x), .int (x0)] (FW g x (lN SL) q u k (nI np) mv lm ch (lN F) d v f (nI cnt) (nI ll)) (fun r w => ∃ n0 : Nat, 2 ≤ n0 ∧ n0 ≤ 10 ∧ nI n0 = x0 ∧ r = nI ll ∧ w = (FW g x (lN SL) q u k (nI np) mv lm ch (lN F) d v f (nI cnt) (nI n0))) (fun E => E = "java/lang/IllegalArgumentException" ∧ ¬ (∃ n0 : Nat, 2 ≤ n0 ∧ n0 ≤ 10 ∧ nI n0 = x0)) := by
  refine Xi.of (cc := cX4_setLeastLength) (maxL := 2) hl0 rfl (by decide) rfl (Nat.le_of_ble_eq_true rfl) ⟨rfl, rfl⟩ ?_
  intro p e s m args below meth c A Z hx hb hml hts hown hK hA hret hthr H locs ls hP hD hS hl
  have f_10 := hts (.fieldLink RX4 10 "GhostGame" "dictionary" "LGhostGame$Dictionary;") (by decide +kernel)
  have hi_2 : ∀ w ∈ wsX40, w ∈ wsX4_setLeastLength := by decide +kernel
  have hl : lv_has ls 2 [(0, .ref (x)), (1, .int (x0))] := hl
  refine lv_iload_n hx hb dX4_setLeastLength_0 rfl (lv_at hl 1 rfl) ?_
  refine lv_iconst (v := nI 2) hx hb dX4_setLeastLength_1 (by decide) ?_
  refine lv_icmp_lt (tgt := 11) hx hb dX4_setLeastLength_2 (by decide) (fun c_2_1 => ?_) (fun c_2_1 => ?_)
  · skip
    have n9 : ¬ (∃ n0 : Nat, 2 ≤ n0 ∧ n0 ≤ 10 ∧ nI n0 = x0) := by
      rintro ⟨n0, h1, h2, rfl⟩
      have := (nI_ltI (by omega) (by omega)).mp c_2_1
      omega
    exact hthr "java/lang/IllegalArgumentException" "the least length is from 2 to 10" ["java/lang/RuntimeException", "java/lang/Exception"] 33 97 37 H locs ls [] 11 (by decide +kernel) (by decide +kernel) (by decide +kernel) (by decide +kernel) (by decide +kernel) (fun w h => List.mem_cons_of_mem _ (List.mem_append_right _ h)) (by decide +kernel) (by decide +kernel) hl.1 dX4_setLeastLength_11 dX4_setLeastLength_14 dX4_setLeastLength_15 dX4_setLeastLength_17 dX4_setLeastLength_20 (Nat.le_of_ble_eq_true rfl) (Nat.le_of_ble_eq_true rfl) (⟨rfl, n9⟩) hP hD hS
  · skip
    refine lv_iload_n hx hb dX4_setLeastLength_5 rfl (lv_at hl 1 rfl) ?_
    refine lv_bipush (v := nI 10) hx hb dX4_setLeastLength_6 (by decide) ?_
    refine lv_icmp_le (tgt := 21) hx hb dX4_setLeastLength_8 (by decide) (fun c_8_2 => ?_) (fun c_8_2 => ?_)
    · skip
      obtain ⟨n0, hn1, hn2, rfl⟩ : (∃ n0 : Nat, 2 ≤ n0 ∧ n0 ≤ 10 ∧ nI n0 = x0) := by
        rcases pk_ix x0 (n := 11) (by omega) with h | h | ⟨j, h1, h2⟩
        · exact absurd (fa_trans h (by decide : (0 : Int32) ≤ nI 2)) c_2_1
        · exact absurd (Int32.le_trans h c_8_2) (by decide)
        · refine ⟨j, ?_, by omega, h2.symm⟩
          rcases Nat.lt_or_ge j 2 with q | q
          · exact absurd (by rw [h2]; exact (nI_ltI (by omega) (by omega)).mpr q) c_2_1
          · exact q
      refine lv_aload_n hx hb dX4_setLeastLength_21 rfl (lv_at hl 0 rfl) ?_
      refine va_get (D := g.1) (ci := 2) (v := .ref (d)) (C := RX4) (T := TX4) (N := 3) hx hb hts hi_2 hown hK hP 0 rfl rfl 0 (by decide) f_10 (fun _ h9 => h9) rfl dX4_setLeastLength_22 ?_
      refine lv_iload_n hx hb dX4_setLeastLength_25 rfl (lv_at hl 1 rfl) ?_
      refine call_iV (As := [.int (nI (n0))]) (rest := []) (wr := [(x, .inr (2, [.ref (d), .ref (q), .long (lN (SL))])), (q, .inr (1, [.ref (u), .int (nI (np)), .int (mv), .int (lm), .int (ch), .long (lN (F))])), (u, .inl (g.2.1, 4, .inl (k)))]) ⟨hx, hb, hml, hown, hts⟩ (c_X0_changeLeastLength l g d v f S cnt ll hf hc n0) (cwV 1 hts gX4_setLeastLength_X0_changeLeastLength rfl rfl rfl (by decide +kernel) ⟨Nat.le_of_ble_eq_true rfl, Nat.le_of_ble_eq_true rfl⟩) hP hK hD hS hA [3, 4] [0, 1, 2] rfl rfl (by decide) (by decide) (by decide) 0 rfl rfl rfl rfl hl.1 rfl (Nat.le_of_ble_eq_true rfl) dX4_setLeastLength_26 ⟨Nat.le_of_ble_eq_true rfl, Nat.le_of_ble_eq_true rfl⟩ (fun r_26 w H locs h_26 hP hD hS => ?_)
      obtain ⟨rfl, h_26⟩ := h_26
      subst h_26
      have hP : va_P g.1 vwCl (FW g x (lN SL) q u k (nI np) mv lm ch (lN F) d v f (nI cnt) (nI n0)) H := hP
      have hD : va_D A (FW g x (lN SL) q u k (nI np) mv lm ch (lN F) d v f (nI cnt) (nI n0)) := hD
      exact hret (nI (ll)) (FW g x (lN SL) q u k (nI np) mv lm ch (lN F) d v f (nI cnt) (nI n0)) _ _ _ _ dX4_setLeastLength_29 (⟨n0, hn1, hn2, rfl, rfl, rfl⟩) hP hD hS
    · skip
      have n9 : ¬ (∃ n0 : Nat, 2 ≤ n0 ∧ n0 ≤ 10 ∧ nI n0 = x0) := by
        rintro ⟨n0, h1, h2, rfl⟩
        exact c_8_2 ((nI_leI (by omega) (by omega)).mpr h2)
      exact hthr "java/lang/IllegalArgumentException" "the least length is from 2 to 10" ["java/lang/RuntimeException", "java/lang/Exception"] 33 97 37 H locs ls [] 11 (by decide +kernel) (by decide +kernel) (by decide +kernel) (by decide +kernel) (by decide +kernel) (fun w h => List.mem_cons_of_mem _ (List.mem_append_right _ h)) (by decide +kernel) (by decide +kernel) hl.1 dX4_setLeastLength_11 dX4_setLeastLength_14 dX4_setLeastLength_15 dX4_setLeastLength_17 dX4_setLeastLength_20 (Nat.le_of_ble_eq_true rfl) (Nat.le_of_ble_eq_true rfl) (⟨rfl, n9⟩) hP hD hS

abbrev rm_X4_start : Room := { frames := 6, cells := 1, slots := 6, locals := 90 }
set_option maxHeartbeats 4000000 in
set_option maxRecDepth 100000 in
theorem c_X4_start (l : Launch) (hl0 : l.flags = flags0) (g : GG) (x q u d v : Nat) (SL : Nat) (k : Nat → Int32) (K : Nat → Nat) (np : Nat) (mv lm ch : Int32) (F : Nat) (f : Nat → Int64) (S : Nat → Nat) (cnt ll : Nat) (hSL : RV SL) (hF : RV F) (hk : GK k K) (hp : np ≤ 4) (hf : DR f S cnt) (hc : cnt ≤ 50) (hll : ll ≤ 10) (x0 : Int32) : Xv l yX4_start wsX4_start rm_X4_start g [.ref (x), .int (x0)] (FW g x (lN SL) q u k (nI np) mv lm ch (lN F) d v f (nI cnt) (nI ll)) (fun w => ∃ (n0 : Nat) (k9 : Nat → Int32), 2 ≤ n0 ∧ n0 ≤ 4 ∧ nI n0 = x0 ∧ GK k9 (fun _ => 0) ∧ w = (FW g x (lN SL) q u k9 (nI n0) (nI 0) (-1) (-1) (lN 0) d v f (nI cnt) (nI ll))) (fun E => E = "java/lang/IllegalArgumentException" ∧ ¬ (∃ n0 : Nat, 2 ≤ n0 ∧ n0 ≤ 4 ∧ nI n0 = x0)) := by
  refine Xv.of (cc := cX4_start) (maxL := 2) hl0 rfl (by decide) rfl (Nat.le_of_ble_eq_true rfl) ⟨rfl, rfl⟩ ?_
  intro p e s m args below meth c A Z hx hb hml hts hown hK hA hret hthr H locs ls hP hD hS hl
  have f_19 := hts (.fieldLink RX4 19 "GhostGame" "game" "LGhostGame$Game;") (by decide +kernel)
  have hi_2 : ∀ w ∈ wsX40, w ∈ wsX4_start := by decide +kernel
  have hl : lv_has ls 2 [(0, .ref (x)), (1, .int (x0))] := hl
  refine lv_iload_n hx hb dX4_start_0 rfl (lv_at hl 1 rfl) ?_
  refine lv_iconst (v := nI 2) hx hb dX4_start_1 (by decide) ?_
  refine lv_icmp_lt (tgt := 10) hx hb dX4_start_2 (by decide) (fun c_2_1 => ?_) (fun c_2_1 => ?_)
  · skip
    have n9 : ¬ (∃ n0 : Nat, 2 ≤ n0 ∧ n0 ≤ 4 ∧ nI n0 = x0) := by
      rintro ⟨n0, h1, h2, rfl⟩
      have := (nI_ltI (by omega) (by omega)).mp c_2_1
      omega
    exact hthr "java/lang/IllegalArgumentException" "a game has 2 to 4 players" ["java/lang/RuntimeException", "java/lang/Exception"] 33 103 37 H locs ls [] 10 (by decide +kernel) (by decide +kernel) (by decide +kernel) (by decide +kernel) (by decide +kernel) (fun w h => List.mem_cons_of_mem _ (List.mem_append_right _ h)) (by decide +kernel) (by decide +kernel) hl.1 dX4_start_10 dX4_start_13 dX4_start_14 dX4_start_16 dX4_start_19 (Nat.le_of_ble_eq_true rfl) (Nat.le_of_ble_eq_true rfl) (⟨rfl, n9⟩) hP hD hS
  · skip
    refine lv_iload_n hx hb dX4_start_5 rfl (lv_at hl 1 rfl) ?_
    refine lv_iconst (v := nI 4) hx hb dX4_start_6 (by decide) ?_
    refine lv_icmp_le (tgt := 20) hx hb dX4_start_7 (by decide) (fun c_7_2 => ?_) (fun c_7_2 => ?_)
    · skip
      obtain ⟨n0, hn1, hn2, rfl⟩ : (∃ n0 : Nat, 2 ≤ n0 ∧ n0 ≤ 4 ∧ nI n0 = x0) := by
        rcases pk_ix x0 (n := 5) (by omega) with h | h | ⟨j, h1, h2⟩
        · exact absurd (fa_trans h (by decide : (0 : Int32) ≤ nI 2)) c_2_1
        · exact absurd (Int32.le_trans h c_7_2) (by decide)
        · refine ⟨j, ?_, by omega, h2.symm⟩
          rcases Nat.lt_or_ge j 2 with q | q
          · exact absurd (by rw [h2]; exact (nI_ltI (by omega) (by omega)).mpr q) c_2_1
          · exact q
      refine lv_aload_n hx hb dX4_start_20 rfl (lv_at hl 0 rfl) ?_
      refine va_get (D := g.1) (ci := 2) (v := .ref (q)) (C := RX4) (T := TX4) (N := 3) hx hb hts hi_2 hown hK hP 0 rfl rfl 1 (by decide) f_19 (fun _ h9 => h9) rfl dX4_start_21 ?_
      refine lv_iload_n hx hb dX4_start_24 rfl (lv_at hl 1 rfl) ?_
      refine call_vV (As := [.int (nI (n0))]) (rest := []) (wr := [(x, .inr (2, [.ref (d), .ref (q), .long (lN (SL))])), (d, .inr (0, [.ref (v), .int (nI (cnt)), .int (nI (ll))])), (v, .inl (g.2.2.1, 50, .inr (.inl (f))))]) ⟨hx, hb, hml, hown, hts⟩ (c_X1_begin l g q u k (nI np) mv lm ch (lN F) n0) (cwV 1 hts gX4_start_X1_begin rfl rfl rfl (by decide +kernel) ⟨Nat.le_of_ble_eq_true rfl, Nat.le_of_ble_eq_true rfl⟩) hP hK hD hS hA [1, 2] [0, 3, 4] rfl rfl (by decide) (by decide) (by decide) 0 rfl rfl rfl rfl hl.1 rfl (Nat.le_of_ble_eq_true rfl) dX4_start_25 ⟨Nat.le_of_ble_eq_true rfl, Nat.le_of_ble_eq_true rfl⟩ (fun w H locs h_25 hP hD hS => ?_)
      obtain ⟨k9, hk9, rfl⟩ := h_25
      have hP := hP.sub [0, 3, 4, 1, 2] (ws' := (FW g x (lN SL) q u k9 (nI n0) (nI 0) (-1) (-1) (lN 0) d v f (nI cnt) (nI ll))) rfl
      have hD := hD.sub [0, 3, 4, 1, 2] (ws' := (FW g x (lN SL) q u k9 (nI n0) (nI 0) (-1) (-1) (lN 0) d v f (nI cnt) (nI ll))) (by decide) rfl
      have hP : va_P g.1 vwCl (FW g x (lN SL) q u k9 (nI n0) (nI 0) (-1) (-1) (lN 0) d v f (nI cnt) (nI ll)) H := hP
      have hD : va_D A (FW g x (lN SL) q u k9 (nI n0) (nI 0) (-1) (-1) (lN 0) d v f (nI cnt) (nI ll)) := hD
      exact hret (FW g x (lN SL) q u k9 (nI n0) (nI 0) (-1) (-1) (lN 0) d v f (nI cnt) (nI ll)) _ _ _ _ dX4_start_28 (⟨n0, k9, hn1, hn2, rfl, hk9, rfl⟩) hP hD hS
    · skip
      have n9 : ¬ (∃ n0 : Nat, 2 ≤ n0 ∧ n0 ≤ 4 ∧ nI n0 = x0) := by
        rintro ⟨n0, h1, h2, rfl⟩
        exact c_7_2 ((nI_leI (by omega) (by omega)).mpr h2)
      exact hthr "java/lang/IllegalArgumentException" "a game has 2 to 4 players" ["java/lang/RuntimeException", "java/lang/Exception"] 33 103 37 H locs ls [] 10 (by decide +kernel) (by decide +kernel) (by decide +kernel) (by decide +kernel) (by decide +kernel) (fun w h => List.mem_cons_of_mem _ (List.mem_append_right _ h)) (by decide +kernel) (by decide +kernel) hl.1 dX4_start_10 dX4_start_13 dX4_start_14 dX4_start_16 dX4_start_19 (Nat.le_of_ble_eq_true rfl) (Nat.le_of_ble_eq_true rfl) (⟨rfl, n9⟩) hP hD hS

abbrev rm_X4_play : Room := { frames := 6, cells := 1, slots := 6, locals := 129 }
set_option maxHeartbeats 4000000 in
set_option maxRecDepth 100000 in
theorem c_X4_play (l : Launch) (hl0 : l.flags = flags0) (g : GG) (x q u d v : Nat) (SL : Nat) (k : Nat → Int32) (K : Nat → Nat) (np : Nat) (mv lm ch : Int32) (F : Nat) (f : Nat → Int64) (S : Nat → Nat) (cnt ll : Nat) (hSL : RV SL) (hF : RV F) (hk : GK k K) (hp : np ≤ 4) (hf : DR f S cnt) (hc : cnt ≤ 50) (hll : ll ≤ 10) (hmv : mv = -1 ∨ ∃ j, mv = nI j ∧ j < np ∧ K j < 5) (x0 : Int32) : Xi l yX4_play wsX4_play rm_X4_play g [.ref (x), .int (x0)] (FW g x (lN SL) q u k (nI np) mv lm ch (lN F) d v f (nI cnt) (nI ll)) (fun r w => ∃ a j : Nat, a < 26 ∧ nI a = x0 ∧ mv = nI j ∧ j < np ∧ K j < 5 ∧ rwL F < 10 ∧ (((ll ≤ rwL (rwX F a) ∧ inS S cnt (rwX F a)) ∧ r = nI j ∧ w = (FW g x (lN SL) q u (upd k j (nI (K j + 1))) (nI np) (erM K np j) lm (erC K np j ch) (lN 0) d v f (nI cnt) (nI ll))) ∨ (¬ (ll ≤ rwL (rwX F a) ∧ inS S cnt (rwX F a)) ∧ r = -1 ∧ w = (FW g x (lN SL) q u k (nI np) (oI (nxF K np np j)) (nI j) ch (lN (rwX F a)) d v f (nI cnt) (nI ll))))) (fun E => (E = "java/lang/IllegalArgumentException" ∧ ¬ (∃ a : Nat, a < 26 ∧ nI a = x0)) ∨ (E = "java/lang/IllegalStateException" ∧ (∃ a : Nat, a < 26 ∧ nI a = x0) ∧ (mv = -1 ∨ 10 ≤ rwL F))) := by
  refine Xi.of (cc := cX4_play) (maxL := 2) hl0 rfl (by decide) rfl (Nat.le_of_ble_eq_true rfl) ⟨rfl, rfl⟩ ?_
  intro p e s m args below meth c A Z hx hb hml hts hown hK hA hret hthr H locs ls hP hD hS hl
  have f_10 := hts (.fieldLink RX4 10 "GhostGame" "dictionary" "LGhostGame$Dictionary;") (by decide +kernel)
  have f_19 := hts (.fieldLink RX4 19 "GhostGame" "game" "LGhostGame$Game;") (by decide +kernel)
  have hi_2 : ∀ w ∈ wsX40, w ∈ wsX4_play := by decide +kernel
  have hl : lv_has ls 2 [(0, .ref (x)), (1, .int (x0))] := hl
  refine lv_iload_n hx hb dX4_play_0 rfl (lv_at hl 1 rfl) ?_
  refine call_iP (As := [.int (x0)]) (rest := []) ⟨hx, hb, hml, hown, hts⟩ (c_X4_isLetter l (x0)) (va_cwS 1 hts gX4_play_X4_isLetter rfl rfl rfl (by decide +kernel) ⟨Nat.le_of_ble_eq_true rfl, Nat.le_of_ble_eq_true rfl⟩) hP hK hD hS hA rfl hl.1 rfl (Nat.le_of_ble_eq_true rfl) dX4_play_1 ⟨Nat.le_of_ble_eq_true rfl, Nat.le_of_ble_eq_true rfl⟩ (fun r_1 H locs h_1 hP hD hS => ?_)
  refine lv_if_ne (tgt := 17) hx hb dX4_play_4 (by decide) (fun c_4_1 => ?_) (fun c_4_1 => ?_)
  · skip
    have n_4_1 := Bv.t h_1 c_4_1
    obtain ⟨a, ha, rfl⟩ := n_4_1
    refine lv_aload_n hx hb dX4_play_17 rfl (lv_at hl 0 rfl) ?_
    refine va_get (D := g.1) (ci := 2) (v := .ref (q)) (C := RX4) (T := TX4) (N := 3) hx hb hts hi_2 hown hK hP 0 rfl rfl 1 (by decide) f_19 (fun _ h9 => h9) rfl dX4_play_18 ?_
    refine call_iV (As := []) (rest := []) (wr := [(x, .inr (2, [.ref (d), .ref (q), .long (lN (SL))])), (d, .inr (0, [.ref (v), .int (nI (cnt)), .int (nI (ll))])), (v, .inl (g.2.2.1, 50, .inr (.inl (f))))]) ⟨hx, hb, hml, hown, hts⟩ (c_X1_isOn l g q u k (nI np) mv lm ch (lN F)) (cwV 0 hts gX4_play_X1_isOn rfl rfl rfl (by decide +kernel) ⟨Nat.le_of_ble_eq_true rfl, Nat.le_of_ble_eq_true rfl⟩) hP hK hD hS hA [1, 2] [0, 3, 4] rfl rfl (by decide) (by decide) (by decide) 0 rfl rfl rfl rfl hl.1 rfl (Nat.le_of_ble_eq_true rfl) dX4_play_21 ⟨Nat.le_of_ble_eq_true rfl, Nat.le_of_ble_eq_true rfl⟩ (fun r_21 w H locs h_21 hP hD hS => ?_)
    obtain ⟨rfl, h_21⟩ := h_21
    have hP := hP.sub [0, 3, 4, 1, 2] (ws' := (FW g x (lN SL) q u k (nI np) mv lm ch (lN F) d v f (nI cnt) (nI ll))) rfl
    have hD := hD.sub [0, 3, 4, 1, 2] (ws' := (FW g x (lN SL) q u k (nI np) mv lm ch (lN F) d v f (nI cnt) (nI ll))) (by decide) rfl
    have hP : va_P g.1 vwCl (FW g x (lN SL) q u k (nI np) mv lm ch (lN F) d v f (nI cnt) (nI ll)) H := hP
    have hD : va_D A (FW g x (lN SL) q u k (nI np) mv lm ch (lN F) d v f (nI cnt) (nI ll)) := hD
    refine lv_if_eq (tgt := 40) hx hb dX4_play_24 (by decide) (fun c_24_2 => ?_) (fun c_24_2 => ?_)
    · skip
      have n_24_2 := Bv.f h_21 c_24_2
      exact hthr "java/lang/IllegalStateException" "no letter can be played" ["java/lang/RuntimeException", "java/lang/Exception"] 44 117 48 H locs ls [] 40 (by decide +kernel) (by decide +kernel) (by decide +kernel) (by decide +kernel) (by decide +kernel) (fun w h => List.mem_cons_of_mem _ (List.mem_append_right _ h)) (by decide +kernel) (by decide +kernel) hl.1 dX4_play_40 dX4_play_43 dX4_play_44 dX4_play_46 dX4_play_49 (Nat.le_of_ble_eq_true rfl) (Nat.le_of_ble_eq_true rfl) (Or.inr ⟨rfl, ⟨a, ha, rfl⟩, Or.inl (Classical.byContradiction n_24_2)⟩) hP hD hS
    · skip
      have n_24_2 := Bv.t h_21 c_24_2
      obtain ⟨j, rfl, hj, hKj⟩ : ∃ j, mv = nI j ∧ j < np ∧ K j < 5 := by
        rcases hmv with h | h
        · exact absurd h n_24_2
        · exact h
      refine lv_aload_n hx hb dX4_play_27 rfl (lv_at hl 0 rfl) ?_
      refine va_get (D := g.1) (ci := 2) (v := .ref (q)) (C := RX4) (T := TX4) (N := 3) hx hb hts hi_2 hown hK hP 0 rfl rfl 1 (by decide) f_19 (fun _ h9 => h9) rfl dX4_play_28 ?_
      refine call_lV (As := []) (rest := []) (wr := [(x, .inr (2, [.ref (d), .ref (q), .long (lN (SL))])), (d, .inr (0, [.ref (v), .int (nI (cnt)), .int (nI (ll))])), (v, .inl (g.2.2.1, 50, .inr (.inl (f))))]) ⟨hx, hb, hml, hown, hts⟩ (c_X1_fragment l g q u k (nI np) (nI j) lm ch (lN F)) (cwV 0 hts gX4_play_X1_fragment rfl rfl rfl (by decide +kernel) ⟨Nat.le_of_ble_eq_true rfl, Nat.le_of_ble_eq_true rfl⟩) hP hK hD hS hA [1, 2] [0, 3, 4] rfl rfl (by decide) (by decide) (by decide) 0 rfl rfl rfl rfl hl.1 rfl (Nat.le_of_ble_eq_true rfl) dX4_play_31 ⟨Nat.le_of_ble_eq_true rfl, Nat.le_of_ble_eq_true rfl⟩ (fun r_31 w H locs h_31 hP hD hS => ?_)
      obtain ⟨rfl, h_31⟩ := h_31
      subst h_31
      have hP := hP.sub [0, 3, 4, 1, 2] (ws' := (FW g x (lN SL) q u k (nI np) (nI j) lm ch (lN F) d v f (nI cnt) (nI ll))) rfl
      have hD := hD.sub [0, 3, 4, 1, 2] (ws' := (FW g x (lN SL) q u k (nI np) (nI j) lm ch (lN F) d v f (nI cnt) (nI ll))) (by decide) rfl
      have hP : va_P g.1 vwCl (FW g x (lN SL) q u k (nI np) (nI j) lm ch (lN F) d v f (nI cnt) (nI ll)) H := hP
      have hD : va_D A (FW g x (lN SL) q u k (nI np) (nI j) lm ch (lN F) d v f (nI cnt) (nI ll)) := hD
      refine call_iP (As := [.long (lN (F))]) (rest := []) ⟨hx, hb, hml, hown, hts⟩ (c_X2_isFull l F hF) (va_cwS 1 hts gX4_play_X2_isFull rfl rfl rfl (by decide +kernel) ⟨Nat.le_of_ble_eq_true rfl, Nat.le_of_ble_eq_true rfl⟩) hP hK hD hS hA rfl hl.1 rfl (Nat.le_of_ble_eq_true rfl) dX4_play_34 ⟨Nat.le_of_ble_eq_true rfl, Nat.le_of_ble_eq_true rfl⟩ (fun r_34 H locs h_34 hP hD hS => ?_)
      refine lv_if_eq (tgt := 50) hx hb dX4_play_37 (by decide) (fun c_37_3 => ?_) (fun c_37_3 => ?_)
      · skip
        have n_37_3 := Bv.f h_34 c_37_3
        refine lv_aload_n hx hb dX4_play_50 rfl (lv_at hl 0 rfl) ?_
        refine va_get (D := g.1) (ci := 2) (v := .ref (q)) (C := RX4) (T := TX4) (N := 3) hx hb hts hi_2 hown hK hP 0 rfl rfl 1 (by decide) f_19 (fun _ h9 => h9) rfl dX4_play_51 ?_
        refine lv_iload_n hx hb dX4_play_54 rfl (lv_at hl 1 rfl) ?_
        refine lv_aload_n hx hb dX4_play_55 rfl (lv_at hl 0 rfl) ?_
        refine va_get (D := g.1) (ci := 2) (v := .ref (d)) (C := RX4) (T := TX4) (N := 3) hx hb hts hi_2 hown hK hP 0 rfl rfl 0 (by decide) f_10 (fun _ h9 => h9) rfl dX4_play_56 ?_
        refine call_iV (As := [.int (nI (a)), .ref (d)]) (rest := []) (wr := [(x, .inr (2, [.ref (d), .ref (q), .long (lN (SL))]))]) ⟨hx, hb, hml, hown, hts⟩ (c_X1_addLetter l g q u k K np lm ch hk hp d v f S cnt ll hf hc hll F a j hF (by omega) ha hj hKj) (cwV 2 hts gX4_play_X1_addLetter rfl rfl rfl (by decide +kernel) ⟨Nat.le_of_ble_eq_true rfl, Nat.le_of_ble_eq_true rfl⟩) hP hK hD hS hA [1, 2, 3, 4] [0] rfl rfl (by decide) (by decide) (by decide) 0 rfl rfl rfl rfl hl.1 rfl (Nat.le_of_ble_eq_true rfl) dX4_play_59 ⟨Nat.le_of_ble_eq_true rfl, Nat.le_of_ble_eq_true rfl⟩ (fun r_59 w H locs h_59 hP hD hS => ?_)
        rcases h_59 with ⟨h59, rfl, rfl⟩ | ⟨h59, rfl, rfl⟩
        · skip
          have hP : va_P g.1 vwCl (FW g x (lN SL) q u (upd k j (nI (K j + 1))) (nI np) (erM K np j) lm (erC K np j ch) (lN 0) d v f (nI cnt) (nI ll)) H := hP
          have hD : va_D A (FW g x (lN SL) q u (upd k j (nI (K j + 1))) (nI np) (erM K np j) lm (erC K np j ch) (lN 0) d v f (nI cnt) (nI ll)) := hD
          exact hret (nI (j)) (FW g x (lN SL) q u (upd k j (nI (K j + 1))) (nI np) (erM K np j) lm (erC K np j ch) (lN 0) d v f (nI cnt) (nI ll)) _ _ _ _ dX4_play_62 (⟨a, j, ha, rfl, rfl, hj, hKj, by omega, Or.inl ⟨h59, rfl, rfl⟩⟩) hP hD hS
        · skip
          have hP : va_P g.1 vwCl (FW g x (lN SL) q u k (nI np) (oI (nxF K np np j)) (nI j) ch (lN (rwX F a)) d v f (nI cnt) (nI ll)) H := hP
          have hD : va_D A (FW g x (lN SL) q u k (nI np) (oI (nxF K np np j)) (nI j) ch (lN (rwX F a)) d v f (nI cnt) (nI ll)) := hD
          exact hret (-1) (FW g x (lN SL) q u k (nI np) (oI (nxF K np np j)) (nI j) ch (lN (rwX F a)) d v f (nI cnt) (nI ll)) _ _ _ _ dX4_play_62 (⟨a, j, ha, rfl, rfl, hj, hKj, by omega, Or.inr ⟨h59, rfl, rfl⟩⟩) hP hD hS
      · skip
        have n_37_3 := Bv.t h_34 c_37_3
        exact hthr "java/lang/IllegalStateException" "no letter can be played" ["java/lang/RuntimeException", "java/lang/Exception"] 44 117 48 H locs ls [] 40 (by decide +kernel) (by decide +kernel) (by decide +kernel) (by decide +kernel) (by decide +kernel) (fun w h => List.mem_cons_of_mem _ (List.mem_append_right _ h)) (by decide +kernel) (by decide +kernel) hl.1 dX4_play_40 dX4_play_43 dX4_play_44 dX4_play_46 dX4_play_49 (Nat.le_of_ble_eq_true rfl) (Nat.le_of_ble_eq_true rfl) (Or.inr ⟨rfl, ⟨a, ha, rfl⟩, Or.inr n_37_3⟩) hP hD hS
  · skip
    have n_4_1 := Bv.f h_1 c_4_1
    exact hthr "java/lang/IllegalArgumentException" "a letter is a number from 0 to 25" ["java/lang/RuntimeException", "java/lang/Exception"] 33 35 37 H locs ls [] 7 (by decide +kernel) (by decide +kernel) (by decide +kernel) (by decide +kernel) (by decide +kernel) (fun w h => List.mem_cons_of_mem _ (List.mem_append_left _ (List.mem_append_right _ h))) (by decide +kernel) (by decide +kernel) hl.1 dX4_play_7 dX4_play_10 dX4_play_11 dX4_play_13 dX4_play_16 (Nat.le_of_ble_eq_true rfl) (Nat.le_of_ble_eq_true rfl) (Or.inl ⟨rfl, n_4_1⟩) hP hD hS

abbrev rm_X4_challenge : Room := { frames := 6, cells := 1, slots := 6, locals := 128 }
set_option maxHeartbeats 4000000 in
set_option maxRecDepth 100000 in
theorem c_X4_challenge (l : Launch) (hl0 : l.flags = flags0) (g : GG) (x q u d v : Nat) (SL : Nat) (k : Nat → Int32) (K : Nat → Nat) (np : Nat) (mv lm ch : Int32) (F : Nat) (f : Nat → Int64) (S : Nat → Nat) (cnt ll : Nat) (hSL : RV SL) (hF : RV F) (hk : GK k K) (hp : np ≤ 4) (hf : DR f S cnt) (hc : cnt ≤ 50) (hll : ll ≤ 10) (hmv : mv = -1 ∨ ∃ j, mv = nI j ∧ j < np ∧ K j < 5) (hlm : 0 < rwL F → ∃ j, lm = nI j ∧ j < np ∧ K j < 5) : Xi l yX4_challenge wsX4_challenge rm_X4_challenge g [.ref (x)] (FW g x (lN SL) q u k (nI np) mv lm ch (lN F) d v f (nI cnt) (nI ll)) (fun r w => ∃ j j2 : Nat, mv = nI j ∧ lm = nI j2 ∧ j < np ∧ K j < 5 ∧ j2 < np ∧ K j2 < 5 ∧ 0 < rwL F ∧ (((∃ i, i < cnt ∧ ll ≤ rwL (S i) ∧ bgP (S i) F) ∧ r = nI j ∧ w = (FW g x (lN SL) q u (upd k j (nI (K j + 1))) (nI np) (erM K np j) (nI j2) (erC K np j ch) (lN 0) d v f (nI cnt) (nI ll))) ∨ (¬ (∃ i, i < cnt ∧ ll ≤ rwL (S i) ∧ bgP (S i) F) ∧ r = nI j2 ∧ w = (FW g x (lN SL) q u (upd k j2 (nI (K j2 + 1))) (nI np) (erM K np j2) (nI j2) (erC K np j2 ch) (lN 0) d v f (nI cnt) (nI ll))))) (fun E => E = "java/lang/IllegalStateException" ∧ (mv = -1 ∨ rwL F = 0)) := by
  refine Xi.of (cc := cX4_challenge) (maxL := 1) hl0 rfl (by decide) rfl (Nat.le_of_ble_eq_true rfl) ⟨rfl, rfl⟩ ?_
  intro p e s m args below meth c A Z hx hb hml hts hown hK hA hret hthr H locs ls hP hD hS hl
  have f_10 := hts (.fieldLink RX4 10 "GhostGame" "dictionary" "LGhostGame$Dictionary;") (by decide +kernel)
  have f_19 := hts (.fieldLink RX4 19 "GhostGame" "game" "LGhostGame$Game;") (by decide +kernel)
  have hi_2 : ∀ w ∈ wsX40, w ∈ wsX4_challenge := by decide +kernel
  have hl : lv_has ls 1 [(0, .ref (x))] := hl
  refine lv_aload_n hx hb dX4_challenge_0 rfl (lv_at hl 0 rfl) ?_
  refine va_get (D := g.1) (ci := 2) (v := .ref (q)) (C := RX4) (T := TX4) (N := 3) hx hb hts hi_2 hown hK hP 0 rfl rfl 1 (by decide) f_19 (fun _ h9 => h9) rfl dX4_challenge_1 ?_
  refine call_iV (As := []) (rest := []) (wr := [(x, .inr (2, [.ref (d), .ref (q), .long (lN (SL))])), (d, .inr (0, [.ref (v), .int (nI (cnt)), .int (nI (ll))])), (v, .inl (g.2.2.1, 50, .inr (.inl (f))))]) ⟨hx, hb, hml, hown, hts⟩ (c_X1_isOn l g q u k (nI np) mv lm ch (lN F)) (cwV 0 hts gX4_challenge_X1_isOn rfl rfl rfl (by decide +kernel) ⟨Nat.le_of_ble_eq_true rfl, Nat.le_of_ble_eq_true rfl⟩) hP hK hD hS hA [1, 2] [0, 3, 4] rfl rfl (by decide) (by decide) (by decide) 0 rfl rfl rfl rfl hl.1 rfl (Nat.le_of_ble_eq_true rfl) dX4_challenge_4 ⟨Nat.le_of_ble_eq_true rfl, Nat.le_of_ble_eq_true rfl⟩ (fun r_4 w H locs h_4 hP hD hS => ?_)
  obtain ⟨rfl, h_4⟩ := h_4
  have hP := hP.sub [0, 3, 4, 1, 2] (ws' := (FW g x (lN SL) q u k (nI np) mv lm ch (lN F) d v f (nI cnt) (nI ll))) rfl
  have hD := hD.sub [0, 3, 4, 1, 2] (ws' := (FW g x (lN SL) q u k (nI np) mv lm ch (lN F) d v f (nI cnt) (nI ll))) (by decide) rfl
  have hP : va_P g.1 vwCl (FW g x (lN SL) q u k (nI np) mv lm ch (lN F) d v f (nI cnt) (nI ll)) H := hP
  have hD : va_D A (FW g x (lN SL) q u k (nI np) mv lm ch (lN F) d v f (nI cnt) (nI ll)) := hD
  refine lv_if_eq (tgt := 22) hx hb dX4_challenge_7 (by decide) (fun c_7_1 => ?_) (fun c_7_1 => ?_)
  · skip
    have n_7_1 := Bv.f h_4 c_7_1
    exact hthr "java/lang/IllegalStateException" "there is nothing to challenge" ["java/lang/RuntimeException", "java/lang/Exception"] 44 123 48 H locs ls [] 22 (by decide +kernel) (by decide +kernel) (by decide +kernel) (by decide +kernel) (by decide +kernel) (fun w h => List.mem_cons_of_mem _ (List.mem_append_right _ h)) (by decide +kernel) (by decide +kernel) hl.1 dX4_challenge_22 dX4_challenge_25 dX4_challenge_26 dX4_challenge_28 dX4_challenge_31 (Nat.le_of_ble_eq_true rfl) (Nat.le_of_ble_eq_true rfl) (⟨rfl, Or.inl (Classical.byContradiction n_7_1)⟩) hP hD hS
  · skip
    have n_7_1 := Bv.t h_4 c_7_1
    obtain ⟨j, rfl, hj, hKj⟩ : ∃ j, mv = nI j ∧ j < np ∧ K j < 5 := by
      rcases hmv with h | h
      · exact absurd h n_7_1
      · exact h
    refine lv_aload_n hx hb dX4_challenge_10 rfl (lv_at hl 0 rfl) ?_
    refine va_get (D := g.1) (ci := 2) (v := .ref (q)) (C := RX4) (T := TX4) (N := 3) hx hb hts hi_2 hown hK hP 0 rfl rfl 1 (by decide) f_19 (fun _ h9 => h9) rfl dX4_challenge_11 ?_
    refine call_lV (As := []) (rest := []) (wr := [(x, .inr (2, [.ref (d), .ref (q), .long (lN (SL))])), (d, .inr (0, [.ref (v), .int (nI (cnt)), .int (nI (ll))])), (v, .inl (g.2.2.1, 50, .inr (.inl (f))))]) ⟨hx, hb, hml, hown, hts⟩ (c_X1_fragment l g q u k (nI np) (nI j) lm ch (lN F)) (cwV 0 hts gX4_challenge_X1_fragment rfl rfl rfl (by decide +kernel) ⟨Nat.le_of_ble_eq_true rfl, Nat.le_of_ble_eq_true rfl⟩) hP hK hD hS hA [1, 2] [0, 3, 4] rfl rfl (by decide) (by decide) (by decide) 0 rfl rfl rfl rfl hl.1 rfl (Nat.le_of_ble_eq_true rfl) dX4_challenge_14 ⟨Nat.le_of_ble_eq_true rfl, Nat.le_of_ble_eq_true rfl⟩ (fun r_14 w H locs h_14 hP hD hS => ?_)
    obtain ⟨rfl, h_14⟩ := h_14
    subst h_14
    have hF1 := hF.lt
    have hP := hP.sub [0, 3, 4, 1, 2] (ws' := (FW g x (lN SL) q u k (nI np) (nI j) lm ch (lN F) d v f (nI cnt) (nI ll))) rfl
    have hD := hD.sub [0, 3, 4, 1, 2] (ws' := (FW g x (lN SL) q u k (nI np) (nI j) lm ch (lN F) d v f (nI cnt) (nI ll))) (by decide) rfl
    have hP : va_P g.1 vwCl (FW g x (lN SL) q u k (nI np) (nI j) lm ch (lN F) d v f (nI cnt) (nI ll)) H := hP
    have hD : va_D A (FW g x (lN SL) q u k (nI np) (nI j) lm ch (lN F) d v f (nI cnt) (nI ll)) := hD
    refine lv_lconst (v := lN 0) hx hb dX4_challenge_17 (by decide) ?_
    refine W.lcmp hx hb dX4_challenge_18 ?_
    refine lv_if_ne (tgt := 32) hx hb dX4_challenge_19 (by decide) (fun c_19_2 => ?_) (fun c_19_2 => ?_)
    · skip
      have n_19_2 : ¬ F = 0 := fun q9 => c_19_2 ((lc_eq (a := F) (b := 0) (by omega) (by omega)).mpr q9)
      have hF0 : 0 < rwL F := rl_pos hF n_19_2
      obtain ⟨j2, rfl, hj2, hKj2⟩ := hlm hF0
      refine lv_aload_n hx hb dX4_challenge_32 rfl (lv_at hl 0 rfl) ?_
      refine va_get (D := g.1) (ci := 2) (v := .ref (q)) (C := RX4) (T := TX4) (N := 3) hx hb hts hi_2 hown hK hP 0 rfl rfl 1 (by decide) f_19 (fun _ h9 => h9) rfl dX4_challenge_33 ?_
      refine lv_aload_n hx hb dX4_challenge_36 rfl (lv_at hl 0 rfl) ?_
      refine va_get (D := g.1) (ci := 2) (v := .ref (d)) (C := RX4) (T := TX4) (N := 3) hx hb hts hi_2 hown hK hP 0 rfl rfl 0 (by decide) f_10 (fun _ h9 => h9) rfl dX4_challenge_37 ?_
      refine call_iV (As := [.ref (d)]) (rest := []) (wr := [(x, .inr (2, [.ref (d), .ref (q), .long (lN (SL))]))]) ⟨hx, hb, hml, hown, hts⟩ (c_X1_settleChallenge l g q u k K np ch hk hp d v f S cnt ll hf hc hll F j j2 hF hj hKj hj2 hKj2) (cwV 1 hts gX4_challenge_X1_settleChallenge rfl rfl rfl (by decide +kernel) ⟨Nat.le_of_ble_eq_true rfl, Nat.le_of_ble_eq_true rfl⟩) hP hK hD hS hA [1, 2, 3, 4] [0] rfl rfl (by decide) (by decide) (by decide) 0 rfl rfl rfl rfl hl.1 rfl (Nat.le_of_ble_eq_true rfl) dX4_challenge_40 ⟨Nat.le_of_ble_eq_true rfl, Nat.le_of_ble_eq_true rfl⟩ (fun r_40 w H locs h_40 hP hD hS => ?_)
      rcases h_40 with ⟨h59, rfl, rfl⟩ | ⟨h59, rfl, rfl⟩
      · skip
        have hP : va_P g.1 vwCl (FW g x (lN SL) q u (upd k j (nI (K j + 1))) (nI np) (erM K np j) (nI j2) (erC K np j ch) (lN 0) d v f (nI cnt) (nI ll)) H := hP
        have hD : va_D A (FW g x (lN SL) q u (upd k j (nI (K j + 1))) (nI np) (erM K np j) (nI j2) (erC K np j ch) (lN 0) d v f (nI cnt) (nI ll)) := hD
        exact hret (nI (j)) (FW g x (lN SL) q u (upd k j (nI (K j + 1))) (nI np) (erM K np j) (nI j2) (erC K np j ch) (lN 0) d v f (nI cnt) (nI ll)) _ _ _ _ dX4_challenge_43 (⟨j, j2, rfl, rfl, hj, hKj, hj2, hKj2, hF0, Or.inl ⟨h59, rfl, rfl⟩⟩) hP hD hS
      · skip
        have hP : va_P g.1 vwCl (FW g x (lN SL) q u (upd k j2 (nI (K j2 + 1))) (nI np) (erM K np j2) (nI j2) (erC K np j2 ch) (lN 0) d v f (nI cnt) (nI ll)) H := hP
        have hD : va_D A (FW g x (lN SL) q u (upd k j2 (nI (K j2 + 1))) (nI np) (erM K np j2) (nI j2) (erC K np j2 ch) (lN 0) d v f (nI cnt) (nI ll)) := hD
        exact hret (nI (j2)) (FW g x (lN SL) q u (upd k j2 (nI (K j2 + 1))) (nI np) (erM K np j2) (nI j2) (erC K np j2 ch) (lN 0) d v f (nI cnt) (nI ll)) _ _ _ _ dX4_challenge_43 (⟨j, j2, rfl, rfl, hj, hKj, hj2, hKj2, hF0, Or.inr ⟨h59, rfl, rfl⟩⟩) hP hD hS
    · skip
      have n_19_2 : F = 0 := (lc_eq (a := F) (b := 0) (by omega) (by omega)).mp c_19_2
      exact hthr "java/lang/IllegalStateException" "there is nothing to challenge" ["java/lang/RuntimeException", "java/lang/Exception"] 44 123 48 H locs ls [] 22 (by decide +kernel) (by decide +kernel) (by decide +kernel) (by decide +kernel) (by decide +kernel) (fun w h => List.mem_cons_of_mem _ (List.mem_append_right _ h)) (by decide +kernel) (by decide +kernel) hl.1 dX4_challenge_22 dX4_challenge_25 dX4_challenge_26 dX4_challenge_28 dX4_challenge_31 (Nat.le_of_ble_eq_true rfl) (Nat.le_of_ble_eq_true rfl) (⟨rfl, Or.inr (by rw [n_19_2]; decide)⟩) hP hD hS
