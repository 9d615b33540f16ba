/-! the class's dictionary: f holds the words S 0, S 1 .. -/
def DR (f : Nat → Int64) (S : Nat → Nat) (cnt : Nat) : Prop := ∀ i, i < cnt → f i = lN (S i) ∧ RV (S i)
def inS (S : Nat → Nat) (cnt Q : Nat) : Prop := ∃ i, i < cnt ∧ S i = Q
def bgP (P Q : Nat) : Prop := rwL Q ≤ rwL P ∧ rwB P (rwL Q) = Q
def bgB (P Q : Nat) : Bool := decide (rwL Q ≤ rwL P ∧ rwB P (rwL Q) = Q)
theorem bgB_t {P Q : Nat} : bgB P Q = true ↔ bgP P Q := decide_eq_true_iff
theorem bgB_f {P Q : Nat} (h : ¬ bgP P Q) : bgB P Q = false := decide_eq_false h
def InsAt (S : Nat → Nat) (cnt t Q : Nat) (S' : Nat → Nat) : Prop := t ≤ cnt ∧ (∀ i, i < t → S' i = S i) ∧ S' t = Q ∧ (∀ i, t ≤ i → i < cnt → S' (i + 1) = S i) ∧ (t = 0 ∨ S (t - 1) ≤ Q) ∧ ∀ i, t ≤ i → i < cnt → Q < S i
def RemAt (S : Nat → Nat) (cnt t : Nat) (S' : Nat → Nat) : Prop := t < cnt ∧ (∀ i, i < t → S' i = S i) ∧ ∀ i, t ≤ i → i + 1 < cnt → S' i = S (i + 1)
theorem ins_end {f fc : Nat → Int64} {S : Nat → Nat} {cnt t Q : Nat} (hf : DR f S cnt) (hQ : RV Q) (ht : t ≤ cnt) (h1 : ∀ i, i < t → fc i = f i) (h2 : ∀ i, t ≤ i → i < cnt → fc (i + 1) = f i) (h3 : ∀ i, t ≤ i → i < cnt → Q < S i) (h4 : t = 0 ∨ S (t - 1) ≤ Q) : ∃ S', DR (vp_updL fc t (lN Q)) S' (cnt + 1) ∧ InsAt S cnt t Q S' := by
  refine ⟨fun i => if i < t then S i else if i = t then Q else S (i - 1), fun i hi => ?_, ht, fun i hi => if_pos hi, ?_, fun i hi hc => ?_, h4, h3⟩
  · dsimp only
    by_cases a : i < t
    · rw [pk_uLn (by omega), h1 i a, if_pos a]
      exact hf i (by omega)
    · by_cases b : i = t
      · subst b
        rw [pk_uLs, if_neg a, if_pos rfl]
        exact ⟨rfl, hQ⟩
      · rw [pk_uLn b, if_neg a, if_neg b]
        have := h2 (i - 1) (by omega) (by omega)
        rw [Nat.sub_add_cancel (by omega)] at this
        rw [this]
        exact hf (i - 1) (by omega)
  · show (if t < t then _ else if t = t then Q else _) = Q
    rw [if_neg (Nat.lt_irrefl _), if_pos rfl]
  · show (if i + 1 < t then _ else if i + 1 = t then Q else S (i + 1 - 1)) = S i
    rw [if_neg (by omega), if_neg (by omega), Nat.add_sub_cancel]
theorem ins_step {f fc : Nat → Int64} {cnt t : Nat} (ht : 0 < t) (h1 : ∀ i, i < t → fc i = f i) (h2 : ∀ i, t ≤ i → i < cnt → fc (i + 1) = f i) : (∀ i, i < t - 1 → vp_updL fc t (f (t - 1)) i = f i) ∧ (∀ i, t - 1 ≤ i → i < cnt → vp_updL fc t (f (t - 1)) (i + 1) = f i) := by
  refine ⟨fun i hi => by rw [pk_uLn (by omega), h1 i (by omega)], fun i hi hc => ?_⟩
  by_cases e : i + 1 = t
  · rw [e, pk_uLs, ← e, Nat.add_sub_cancel]
  · rw [pk_uLn e, h2 i (by omega) hc]
theorem rem_step {f fc : Nat → Int64} {t i : Nat} (ht : t ≤ i) (h1 : ∀ k, k < i → fc k = if k < t then f k else f (k + 1)) (h2 : ∀ k, i ≤ k → fc k = f k) : (∀ k, k < i + 1 → vp_updL fc i (fc (i + 1)) k = if k < t then f k else f (k + 1)) ∧ (∀ k, i + 1 ≤ k → vp_updL fc i (fc (i + 1)) k = f k) := by
  refine ⟨fun k hk => ?_, fun k hk => by rw [pk_uLn (by omega), h2 k (by omega)]⟩
  by_cases e : k = i
  · subst e
    rw [pk_uLs, h2 _ (by omega), if_neg (by omega)]
  · rw [pk_uLn e, h1 k (by omega)]
theorem rem_end {f fc : Nat → Int64} {S : Nat → Nat} {cnt t i : Nat} (hf : DR f S cnt) (ht : t < cnt) (hi : ¬ i < cnt - 1) (h1 : ∀ k, k < i → fc k = if k < t then f k else f (k + 1)) : ∃ S', DR fc S' (cnt - 1) ∧ RemAt S cnt t S' := by
  refine ⟨fun k => if k < t then S k else S (k + 1), fun k hk => ?_, ht, fun k hk => if_pos hk, fun k hk hc => if_neg (by omega)⟩
  dsimp only
  rw [h1 k (by omega)]
  by_cases a : k < t
  · rw [if_pos a, if_pos a]; exact hf k (by omega)
  · rw [if_neg a, if_neg a]; exact hf (k + 1) (by omega)
theorem rem_0 {f : Nat → Int64} {t : Nat} : ∀ k, k < t → f k = if k < t then f k else f (k + 1) := fun k hk => by rw [if_pos hk]
def lsF (S : Nat → Nat) (Q : Nat) : Nat → Nat
  | 0 => 0
  | j + 1 => max (lsF S Q j) (shr (S j) Q)
theorem lsF_le (S : Nat → Nat) (Q : Nat) : ∀ j, lsF S Q j ≤ rwL Q
  | 0 => Nat.zero_le _
  | j + 1 => Nat.max_le.mpr ⟨lsF_le S Q j, (shr_le _ _).2⟩
def bgnN (S : Nat → Nat) (cnt : Nat) : Nat := 1 + fb_sm (fun i => rwL (S i) - lsF S (S i) i) cnt
theorem ct_t {p : Nat → Bool} {c i : Nat} (hc : c = fb_ct p i) (h : p i = true) : c + 1 = fb_ct p (i + 1) := by rw [fb_ct_succ, h, hc]; rfl
theorem ct_f {p : Nat → Bool} {c i : Nat} (hc : c = fb_ct p i) (h : p i = false) : c = fb_ct p (i + 1) := by rw [fb_ct_succ, h, hc]; rfl
abbrev rm_X0_size : Room := { frames := 0, cells := 0, slots := 0, locals := 0 }
set_option maxHeartbeats 4000000 in
set_option maxRecDepth 100000 in
theorem c_X0_size (l : Launch) (g : GG) (d v : Nat) (f : Nat → Int64) (S : Nat → Nat) (cnt ll : Nat) (hf : DR f S cnt) (hc : cnt ≤ 50) : Ci l yX0_size wsX0_size rm_X0_size g [.ref (d)] (DW g d v f (nI cnt) (nI ll)) (fun r w => w = (DW g d v f (nI cnt) (nI ll)) ∧ r = nI cnt) := by
  refine Ci.ofI (cc := cX0_size) (maxL := 1) (by decide) rfl (Nat.le_of_ble_eq_true rfl) ?_
  intro p e s m args below meth c A Z hx hb hml hts hown hK hA hret H locs ls hP hD hS hl
  have f_15 := hts (.fieldLink RX0 15 "GhostGame$Dictionary" "count" "I") (by decide +kernel)
  have hi_0 : ∀ w ∈ wsX00, w ∈ wsX0_size := by decide +kernel
  have hl : lv_has ls 1 [(0, .ref (d))] := hl
  refine lv_aload_n hx hb dX0_size_0 rfl (lv_at hl 0 rfl) ?_
  refine va_get (D := g.1) (ci := 0) (v := .int (nI (cnt))) (C := RX0) (T := TX0) (N := 3) hx hb hts hi_0 hown hK hP 0 rfl rfl 1 (by decide) f_15 (fun _ h9 => h9) rfl dX0_size_1 ?_
  exact hret (nI (cnt)) (DW g d v f (nI cnt) (nI ll)) _ _ _ _ dX0_size_4 (⟨rfl, rfl⟩) hP hD hS

abbrev rm_X0_placeOf : Room := { frames := 0, cells := 0, slots := 0, locals := 0 }
set_option maxHeartbeats 4000000 in
set_option maxRecDepth 100000 in
theorem c_X0_placeOf (l : Launch) (g : GG) (d v : Nat) (f : Nat → Int64) (S : Nat → Nat) (cnt ll : Nat) (hf : DR f S cnt) (hc : cnt ≤ 50) (Q : Nat) (hQ : RV Q) : Ci l yX0_placeOf wsX0_placeOf rm_X0_placeOf g [.ref (d), .long (lN (Q))] (DW g d v f (nI cnt) (nI ll)) (fun r w => w = (DW g d v f (nI cnt) (nI ll)) ∧ ((∃ i, i < cnt ∧ S i = Q ∧ r = nI i) ∨ ((∀ j, j < cnt → S j ≠ Q) ∧ r = -1))) := by
  refine Ci.ofI (cc := cX0_placeOf) (maxL := 4) (by decide) rfl (Nat.le_of_ble_eq_true rfl) ?_
  intro p e s m args below meth c A Z hx hb hml hts hown hK hA hret H locs ls hP hD hS hl
  have f_9 := hts (.fieldLink RX0 9 "GhostGame$Dictionary" "words" "[J") (by decide +kernel)
  have f_15 := hts (.fieldLink RX0 15 "GhostGame$Dictionary" "count" "I") (by decide +kernel)
  have hi_0 : ∀ w ∈ wsX00, w ∈ wsX0_placeOf := by decide +kernel
  have hl : lv_has ls 4 [(0, .ref (d)), (1, .long (lN (Q)))] := hl
  have hQ0 := hQ.lt
  refine lv_iconst (v := nI 0) hx hb dX0_placeOf_0 (by decide) ?_
  refine lv_istore_n (lv' := [(3, .int (nI (0))), (0, .ref (d)), (1, .long (lN (Q)))]) hx hb dX0_placeOf_1 rfl hl (by decide) rfl (fun ls hl => ?_)
  have L_2 : ∀ (fu : Nat) (i : Nat), cnt - i < fu → (i ≤ cnt) → (∀ j, j < i → S j ≠ Q) → ∀ (H : Heap) (locs : List Loc) (ls : Array Slot), va_P g.1 vwCl (DW g d v f (nI cnt) (nI ll)) H → va_D A (DW g d v f (nI cnt) (nI ll)) → va_S A s.heap H locs → lv_has ls 4 [(0, .ref (d)), (1, .long (lN (Q))), (3, .int (nI (i)))] → W p l e rm_X0_placeOf s m args below meth c H locs 0 0 Z (F0 m 2 ls []) := by
    intro fu
    induction fu with
    | zero => intro _ h0; exact absurd h0 (Nat.not_lt_zero _)
    | succ fu ih_2 =>
      intro i hfu hi1 hi2 H locs ls hP hD hS hl
      refine lv_iload_n hx hb dX0_placeOf_2 rfl (lv_at hl 2 rfl) ?_
      refine lv_aload_n hx hb dX0_placeOf_3 rfl (lv_at hl 0 rfl) ?_
      refine va_get (D := g.1) (ci := 0) (v := .int (nI (cnt))) (C := RX0) (T := TX0) (N := 3) hx hb hts hi_0 hown hK hP 0 rfl rfl 1 (by decide) f_15 (fun _ h9 => h9) rfl dX0_placeOf_4 ?_
      refine lv_icmp_ge (tgt := 29) hx hb dX0_placeOf_7 (by decide) (fun c_7_1 => ?_) (fun c_7_1 => ?_)
      · skip
        have n_7_1 : cnt ≤ i := (nI_leI (a := cnt) (b := i) (by omega) (by omega)).mp c_7_1
        refine lv_iconst (v := -1) hx hb dX0_placeOf_29 (by decide) ?_
        exact hret (-1) (DW g d v f (nI cnt) (nI ll)) _ _ _ _ dX0_placeOf_30 (⟨rfl, Or.inr ⟨fun j hj => hi2 j (by omega), rfl⟩⟩) hP hD hS
      · skip
        have n_7_1 : ¬ cnt ≤ i := fun q9 => c_7_1 ((nI_leI (a := cnt) (b := i) (by omega) (by omega)).mpr q9)
        refine lv_aload_n hx hb dX0_placeOf_10 rfl (lv_at hl 0 rfl) ?_
        refine va_get (D := g.1) (ci := 0) (v := .ref (v)) (C := RX0) (T := TX0) (N := 3) hx hb hts hi_0 hown hK hP 0 rfl rfl 0 (by decide) f_9 (fun _ h9 => h9) rfl dX0_placeOf_11 ?_
        refine lv_iload_n hx hb dX0_placeOf_14 rfl (lv_at hl 2 rfl) ?_
        refine va_lald (n := 50) (f := f) hx hb hK hP 1 1 rfl rfl (vp_in_nI (n := i) (by omega) (by decide)) dX0_placeOf_15 ?_
        refine tp_l (congrArg f (nI_clamp (n := i) (by omega))) ?_
        refine tp_l (b := (lN (S i))) ((hf i (by omega)).1) ?_
        refine lv_lload_n hx hb dX0_placeOf_16 rfl (lv_at hl 1 rfl) ?_
        have hS0 := (hf i (by omega)).2.lt
        refine W.lcmp hx hb dX0_placeOf_17 ?_
        refine lv_if_ne (tgt := 23) hx hb dX0_placeOf_18 (by decide) (fun c_18_2 => ?_) (fun c_18_2 => ?_)
        · skip
          have n_18_2 : ¬ S i = Q := fun q9 => c_18_2 ((lc_eq (a := S i) (b := Q) (by omega) (by omega)).mpr q9)
          refine lv_iinc (v := (nI (i + 1))) (lv' := [(3, .int (nI (i + 1))), (0, .ref (d)), (1, .long (lN (Q)))]) hx hb dX0_placeOf_23 hl (k := 2) rfl (nI_add (i) 1) (by decide) rfl (fun ls hl => ?_)
          refine lv_goto (tgt := 2) hx hb dX0_placeOf_26 (by decide) ?_
          exact ih_2 (i + 1) (by omega) (by omega) (lt_s hi2 n_18_2) _ _ _ hP hD hS (lv_sub hl [1, 2, 0] rfl)
        · skip
          have n_18_2 : S i = Q := (lc_eq (a := S i) (b := Q) (by omega) (by omega)).mp c_18_2
          refine lv_iload_n hx hb dX0_placeOf_21 rfl (lv_at hl 2 rfl) ?_
          exact hret (nI (i)) (DW g d v f (nI cnt) (nI ll)) _ _ _ _ dX0_placeOf_22 (⟨rfl, Or.inl ⟨i, by omega, n_18_2, rfl⟩⟩) hP hD hS
  exact L_2 (_ + 1) 0 (Nat.lt_succ_self _) (Nat.zero_le _) (fun j h => absurd h (Nat.not_lt_zero _)) _ _ _ hP hD hS (lv_sub hl [1, 2, 0] rfl)

abbrev rm_X0_has : Room := { frames := 1, cells := 0, slots := 0, locals := 23 }
set_option maxHeartbeats 4000000 in
set_option maxRecDepth 100000 in
theorem c_X0_has (l : Launch) (g : GG) (d v : Nat) (f : Nat → Int64) (S : Nat → Nat) (cnt ll : Nat) (hf : DR f S cnt) (hc : cnt ≤ 50) (Q : Nat) (hQ : RV Q) : Ci l yX0_has wsX0_has rm_X0_has g [.ref (d), .long (lN (Q))] (DW g d v f (nI cnt) (nI ll)) (fun r w => w = (DW g d v f (nI cnt) (nI ll)) ∧ Bv r (inS S cnt Q)) := by
  refine Ci.ofZ (cc := cX0_has) (maxL := 3) (by decide) rfl (Nat.le_of_ble_eq_true rfl) ?_
  intro p e s m args below meth c A Z hx hb hml hts hown hK hA hret H locs ls hP hD hS hl
  have hl : lv_has ls 3 [(0, .ref (d)), (1, .long (lN (Q)))] := hl
  refine lv_aload_n hx hb dX0_has_0 rfl (lv_at hl 0 rfl) ?_
  refine lv_lload_n hx hb dX0_has_1 rfl (lv_at hl 1 rfl) ?_
  refine call_iVW (As := [.long (lN (Q))]) (rest := []) ⟨hx, hb, hml, hown, hts⟩ (c_X0_placeOf l g d v f S cnt ll hf hc Q hQ) (cwV 1 hts gX0_has_X0_placeOf rfl rfl rfl (by decide +kernel) ⟨Nat.le_of_ble_eq_true rfl, Nat.le_of_ble_eq_true rfl⟩) hP hK hD hS hA 0 rfl rfl rfl rfl hl.1 rfl (Nat.le_of_ble_eq_true rfl) dX0_has_2 ⟨Nat.le_refl _, Nat.le_refl _⟩ (fun r_2 w H locs h_2 hP hD hS => ?_)
  obtain ⟨rfl, h_2⟩ := h_2
  have hP : va_P g.1 vwCl (DW g d v f (nI cnt) (nI ll)) H := hP
  have hD : va_D A (DW g d v f (nI cnt) (nI ll)) := hD
  refine lv_iconst (v := -1) hx hb dX0_has_5 (by decide) ?_
  refine lv_icmp_eq (tgt := 13) hx hb dX0_has_6 (by decide) (fun c_6_1 => ?_) (fun c_6_1 => ?_)
  · skip
    have n6 : ¬ inS S cnt Q := by
      rcases h_2 with ⟨i, a, b, e9⟩ | ⟨a, e9⟩
      · rw [e9] at c_6_1
        exact absurd c_6_1 (nI_nem1 (by omega))
      · rintro ⟨i, x, y⟩; exact a i x y
    refine lv_iconst (v := nI 0) hx hb dX0_has_13 (by decide) ?_
    exact hret (nI (0)) (DW g d v f (nI cnt) (nI ll)) _ _ _ _ dX0_has_14 (Or.inl rfl) (⟨rfl, Bv.no n6⟩) hP hD hS
  · skip
    have n6 : inS S cnt Q := by
      rcases h_2 with ⟨i, a, b, e9⟩ | ⟨a, e9⟩
      · exact ⟨i, a, b⟩
      · exact absurd e9 c_6_1
    refine lv_iconst (v := nI 1) hx hb dX0_has_9 (by decide) ?_
    refine lv_goto (tgt := 14) hx hb dX0_has_10 (by decide) ?_
    exact hret (nI (1)) (DW g d v f (nI cnt) (nI ll)) _ _ _ _ dX0_has_14 (Or.inr rfl) (⟨rfl, Bv.yes n6⟩) hP hD hS

abbrev rm_X0_wordAt : Room := { frames := 0, cells := 0, slots := 0, locals := 0 }
set_option maxHeartbeats 4000000 in
set_option maxRecDepth 100000 in
theorem c_X0_wordAt (l : Launch) (g : GG) (d v : Nat) (f : Nat → Int64) (S : Nat → Nat) (cnt ll : Nat) (hf : DR f S cnt) (hc : cnt ≤ 50) (x : Int32) : Cl l yX0_wordAt wsX0_wordAt rm_X0_wordAt g [.ref (d), .int (x)] (DW g d v f (nI cnt) (nI ll)) (fun r w => w = (DW g d v f (nI cnt) (nI ll)) ∧ ((∃ j : Nat, j < cnt ∧ nI j = x ∧ r = lN (S j)) ∨ ((¬ ∃ j : Nat, j < cnt ∧ nI j = x) ∧ r = lN 0))) := by
  refine Cl.ofL (cc := cX0_wordAt) (maxL := 2) (by decide) rfl (Nat.le_of_ble_eq_true rfl) ?_
  intro p e s m args below meth c A Z hx hb hml hts hown hK hA hret H locs ls hP hD hS hl
  have f_9 := hts (.fieldLink RX0 9 "GhostGame$Dictionary" "words" "[J") (by decide +kernel)
  have f_15 := hts (.fieldLink RX0 15 "GhostGame$Dictionary" "count" "I") (by decide +kernel)
  have hi_0 : ∀ w ∈ wsX00, w ∈ wsX0_wordAt := by decide +kernel
  have hl : lv_has ls 2 [(0, .ref (d)), (1, .int (x))] := hl
  refine lv_iload_n hx hb dX0_wordAt_0 rfl (lv_at hl 1 rfl) ?_
  refine lv_if_lt (tgt := 21) hx hb dX0_wordAt_1 (by decide) (fun c_1_1 => ?_) (fun c_1_1 => ?_)
  · skip
    have nj : ¬ ∃ j : Nat, j < cnt ∧ nI j = x := by
      rintro ⟨j, hj, rfl⟩
      exact nI_pos (by omega) c_1_1
    refine lv_lconst (v := lN 0) hx hb dX0_wordAt_21 (by decide) ?_
    exact hret (lN (0)) (DW g d v f (nI cnt) (nI ll)) _ _ _ _ dX0_wordAt_22 (⟨rfl, Or.inr ⟨nj, rfl⟩⟩) hP hD hS
  · skip
    refine lv_iload_n hx hb dX0_wordAt_4 rfl (lv_at hl 1 rfl) ?_
    refine lv_aload_n hx hb dX0_wordAt_5 rfl (lv_at hl 0 rfl) ?_
    refine va_get (D := g.1) (ci := 0) (v := .int (nI (cnt))) (C := RX0) (T := TX0) (N := 3) hx hb hts hi_0 hown hK hP 0 rfl rfl 1 (by decide) f_15 (fun _ h9 => h9) rfl dX0_wordAt_6 ?_
    refine lv_icmp_ge (tgt := 21) hx hb dX0_wordAt_9 (by decide) (fun c_9_2 => ?_) (fun c_9_2 => ?_)
    · skip
      have nj : ¬ ∃ j : Nat, j < cnt ∧ nI j = x := by
        rintro ⟨j, hj, rfl⟩
        have := (nI_leI (by omega) (by omega)).mp c_9_2
        omega
      refine lv_lconst (v := lN 0) hx hb dX0_wordAt_21 (by decide) ?_
      exact hret (lN (0)) (DW g d v f (nI cnt) (nI ll)) _ _ _ _ dX0_wordAt_22 (⟨rfl, Or.inr ⟨nj, rfl⟩⟩) hP hD hS
    · skip
      obtain ⟨j, hj, rfl⟩ : ∃ j : Nat, j < cnt ∧ x = nI j := by
        rcases pk_ix x (n := cnt) (by omega) with h | h | h
        · exact absurd h c_1_1
        · exact absurd h c_9_2
        · exact h
      refine lv_aload_n hx hb dX0_wordAt_12 rfl (lv_at hl 0 rfl) ?_
      refine va_get (D := g.1) (ci := 0) (v := .ref (v)) (C := RX0) (T := TX0) (N := 3) hx hb hts hi_0 hown hK hP 0 rfl rfl 0 (by decide) f_9 (fun _ h9 => h9) rfl dX0_wordAt_13 ?_
      refine lv_iload_n hx hb dX0_wordAt_16 rfl (lv_at hl 1 rfl) ?_
      refine va_lald (n := 50) (f := f) hx hb hK hP 1 1 rfl rfl (vp_in_nI (n := j) (by omega) (by decide)) dX0_wordAt_17 ?_
      refine tp_l (congrArg f (nI_clamp (n := j) (by omega))) ?_
      refine tp_l (b := (lN (S j))) ((hf j (by omega)).1) ?_
      refine lv_goto (tgt := 22) hx hb dX0_wordAt_18 (by decide) ?_
      exact hret (lN (S j)) (DW g d v f (nI cnt) (nI ll)) _ _ _ _ dX0_wordAt_22 (⟨rfl, Or.inl ⟨j, hj, rfl, rfl⟩⟩) hP hD hS

abbrev rm_X0_add : Room := { frames := 2, cells := 0, slots := 0, locals := 45 }
set_option maxHeartbeats 4000000 in
set_option maxRecDepth 100000 in
theorem c_X0_add (l : Launch) (g : GG) (d v : Nat) (f : Nat → Int64) (S : Nat → Nat) (cnt ll : Nat) (hf : DR f S cnt) (hc : cnt ≤ 50) (Q : Nat) (hQ : RV Q) : Ci l yX0_add wsX0_add rm_X0_add g [.ref (d), .long (lN (Q))] (DW g d v f (nI cnt) (nI ll)) (fun r w => (r = 0 ∧ w = (DW g d v f (nI cnt) (nI ll)) ∧ (50 ≤ cnt ∨ inS S cnt Q)) ∨ (r = 1 ∧ cnt < 50 ∧ ¬ inS S cnt Q ∧ ∃ (f9 : Nat → Int64) (S9 : Nat → Nat) (t : Nat), w = DW g d v f9 (nI (cnt + 1)) (nI ll) ∧ DR f9 S9 (cnt + 1) ∧ InsAt S cnt t Q S9)) := by
  refine Ci.ofZ (cc := cX0_add) (maxL := 4) (by decide) rfl (Nat.le_of_ble_eq_true rfl) ?_
  intro p e s m args below meth c A Z hx hb hml hts hown hK hA hret H locs ls hP hD hS hl
  have f_9 := hts (.fieldLink RX0 9 "GhostGame$Dictionary" "words" "[J") (by decide +kernel)
  have f_15 := hts (.fieldLink RX0 15 "GhostGame$Dictionary" "count" "I") (by decide +kernel)
  have hi_0 : ∀ w ∈ wsX00, w ∈ wsX0_add := by decide +kernel
  have hl : lv_has ls 4 [(0, .ref (d)), (1, .long (lN (Q)))] := hl
  have hQ0 := hQ.lt
  refine lv_aload_n hx hb dX0_add_0 rfl (lv_at hl 0 rfl) ?_
  refine va_get (D := g.1) (ci := 0) (v := .int (nI (cnt))) (C := RX0) (T := TX0) (N := 3) hx hb hts hi_0 hown hK hP 0 rfl rfl 1 (by decide) f_15 (fun _ h9 => h9) rfl dX0_add_1 ?_
  refine lv_aload_n hx hb dX0_add_4 rfl (lv_at hl 0 rfl) ?_
  refine va_get (D := g.1) (ci := 0) (v := .ref (v)) (C := RX0) (T := TX0) (N := 3) hx hb hts hi_0 hown hK hP 0 rfl rfl 0 (by decide) f_9 (fun _ h9 => h9) rfl dX0_add_5 ?_
  refine va_alen (v := nI 50) hx hb hK hP 1 1 rfl rfl rfl dX0_add_8 ?_
  refine lv_icmp_ge (tgt := 20) hx hb dX0_add_9 (by decide) (fun c_9_1 => ?_) (fun c_9_1 => ?_)
  · skip
    have n_9_1 : 50 ≤ cnt := (nI_leI (a := 50) (b := cnt) (by omega) (by omega)).mp c_9_1
    refine lv_iconst (v := nI 0) hx hb dX0_add_20 (by decide) ?_
    exact hret (nI (0)) (DW g d v f (nI cnt) (nI ll)) _ _ _ _ dX0_add_21 (Or.inl rfl) (Or.inl ⟨rfl, rfl, Or.inl n_9_1⟩) hP hD hS
  · skip
    have n_9_1 : ¬ 50 ≤ cnt := fun q9 => c_9_1 ((nI_leI (a := 50) (b := cnt) (by omega) (by omega)).mpr q9)
    refine lv_aload_n hx hb dX0_add_12 rfl (lv_at hl 0 rfl) ?_
    refine lv_lload_n hx hb dX0_add_13 rfl (lv_at hl 1 rfl) ?_
    refine call_iVW (As := [.long (lN (Q))]) (rest := []) ⟨hx, hb, hml, hown, hts⟩ (c_X0_has l g d v f S cnt ll hf hc Q hQ) (cwV 1 hts gX0_add_X0_has rfl rfl rfl (by decide +kernel) ⟨Nat.le_of_ble_eq_true rfl, Nat.le_of_ble_eq_true rfl⟩) hP hK hD hS hA 0 rfl rfl rfl rfl hl.1 rfl (Nat.le_of_ble_eq_true rfl) dX0_add_14 ⟨Nat.le_refl _, Nat.le_refl _⟩ (fun r_14 w H locs h_14 hP hD hS => ?_)
    obtain ⟨rfl, h_14⟩ := h_14
    have hP : va_P g.1 vwCl (DW g d v f (nI cnt) (nI ll)) H := hP
    have hD : va_D A (DW g d v f (nI cnt) (nI ll)) := hD
    refine lv_if_eq (tgt := 22) hx hb dX0_add_17 (by decide) (fun c_17_2 => ?_) (fun c_17_2 => ?_)
    · skip
      have n_17_2 := Bv.f h_14 c_17_2
      refine lv_aload_n hx hb dX0_add_22 rfl (lv_at hl 0 rfl) ?_
      refine va_get (D := g.1) (ci := 0) (v := .int (nI (cnt))) (C := RX0) (T := TX0) (N := 3) hx hb hts hi_0 hown hK hP 0 rfl rfl 1 (by decide) f_15 (fun _ h9 => h9) rfl dX0_add_23 ?_
      refine lv_istore_n (lv' := [(3, .int (nI (cnt))), (0, .ref (d)), (1, .long (lN (Q)))]) hx hb dX0_add_26 rfl hl (by decide) rfl (fun ls hl => ?_)
      have L_27 : ∀ (fu : Nat) (t : Nat) (fc : Nat → Int64), t < fu → (t ≤ cnt) → (∀ i, i < t → fc i = f i) → (∀ i, t ≤ i → i < cnt → fc (i + 1) = f i) → (∀ i, t ≤ i → i < cnt → Q < S i) → ∀ (H : Heap) (locs : List Loc) (ls : Array Slot), va_P g.1 vwCl (DW g d v fc (nI cnt) (nI ll)) H → va_D A (DW g d v fc (nI cnt) (nI ll)) → va_S A s.heap H locs → lv_has ls 4 [(0, .ref (d)), (1, .long (lN (Q))), (3, .int (nI (t)))] → W p l e rm_X0_add s m args below meth c H locs 0 0 Z (F0 m 27 ls []) := by
        intro fu
        induction fu with
        | zero => intro _ _ h0; exact absurd h0 (Nat.not_lt_zero _)
        | succ fu ih_27 =>
          intro t fc hfu ht h1 h2 h3 H locs ls hP hD hS hl
          refine lv_iload_n hx hb dX0_add_27 rfl (lv_at hl 2 rfl) ?_
          refine lv_if_le (tgt := 64) hx hb dX0_add_28 (by decide) (fun c_28_3 => ?_) (fun c_28_3 => ?_)
          · skip
            have n_28_3 : t ≤ 0 := (nI_leI (a := t) (b := 0) (by omega) (by omega)).mp c_28_3
            obtain ⟨S9, hS9, hI9⟩ := ins_end hf hQ ht h1 h2 h3 (Or.inl (by omega))
            refine lv_aload_n hx hb dX0_add_64 rfl (lv_at hl 0 rfl) ?_
            refine va_get (D := g.1) (ci := 0) (v := .ref (v)) (C := RX0) (T := TX0) (N := 3) hx hb hts hi_0 hown hK hP 0 rfl rfl 0 (by decide) f_9 (fun _ h9 => h9) rfl dX0_add_65 ?_
            refine lv_iload_n hx hb dX0_add_68 rfl (lv_at hl 2 rfl) ?_
            refine lv_lload_n hx hb dX0_add_69 rfl (lv_at hl 1 rfl) ?_
            refine va_last (n := 50) (f := fc) hx hb hK hP hD hS 1 1 rfl rfl (vp_in_nI (n := t) (by omega) (by decide)) dX0_add_70 (fun H locs hP hD hS => ?_)
            rw [nI_clamp (n := t) (by omega)] at hP hD
            have hP : va_P g.1 vwCl (DW g d v (vp_updL fc t (lN (Q))) (nI cnt) (nI ll)) H := hP
            have hD : va_D A (DW g d v (vp_updL fc t (lN (Q))) (nI cnt) (nI ll)) := hD
            refine lv_aload_n hx hb dX0_add_71 rfl (lv_at hl 0 rfl) ?_
            refine lv_dup hx hb dX0_add_72 rfl ?_
            refine va_get (D := g.1) (ci := 0) (v := .int (nI (cnt))) (C := RX0) (T := TX0) (N := 3) hx hb hts hi_0 hown hK hP 0 rfl rfl 1 (by decide) f_15 (fun _ h9 => h9) rfl dX0_add_73 ?_
            refine lv_iconst (v := nI 1) hx hb dX0_add_76 (by decide) ?_
            refine lv_iadd hx hb dX0_add_77 ?_
            refine tp_i (nI_add cnt 1) ?_
            refine va_put (D := g.1) (ci := 0) (v := .int (nI (cnt + 1))) (ty := .int) (C := RX0) (T := TX0) (N := 3) hx hb hts hi_0 tyX0 tyX0_ok nmX0 hown hK hP hD hS 0 rfl rfl 1 (by decide) f_15 (fun _ h9 => h9) rfl (by decide +kernel) rfl rfl (Nat.le_of_ble_eq_true rfl) dX0_add_78 (fun H locs hP hD hS => ?_)
            have hP : va_P g.1 vwCl (DW g d v (vp_updL fc t (lN (Q))) (nI (cnt + 1)) (nI ll)) H := hP
            have hD : va_D A (DW g d v (vp_updL fc t (lN (Q))) (nI (cnt + 1)) (nI ll)) := hD
            refine lv_iconst (v := nI 1) hx hb dX0_add_81 (by decide) ?_
            exact hret (nI (1)) (DW g d v (vp_updL fc t (lN (Q))) (nI (cnt + 1)) (nI ll)) _ _ _ _ dX0_add_82 (Or.inr rfl) (Or.inr ⟨rfl, by omega, n_17_2, _, S9, t, rfl, hS9, hI9⟩) hP hD hS
          · skip
            have n_28_3 : ¬ t ≤ 0 := fun q9 => c_28_3 ((nI_leI (a := t) (b := 0) (by omega) (by omega)).mpr q9)
            refine lv_aload_n hx hb dX0_add_31 rfl (lv_at hl 0 rfl) ?_
            refine va_get (D := g.1) (ci := 0) (v := .ref (v)) (C := RX0) (T := TX0) (N := 3) hx hb hts hi_0 hown hK hP 0 rfl rfl 0 (by decide) f_9 (fun _ h9 => h9) rfl dX0_add_32 ?_
            refine lv_iload_n hx hb dX0_add_35 rfl (lv_at hl 2 rfl) ?_
            refine lv_iconst (v := nI 1) hx hb dX0_add_36 (by decide) ?_
            refine lv_isub hx hb dX0_add_37 ?_
            refine tp_i (pk_sub (a := t) (b := 1) (by omega)) ?_
            refine va_lald (n := 50) (f := fc) hx hb hK hP 1 1 rfl rfl (vp_in_nI (n := t - 1) (by omega) (by decide)) dX0_add_38 ?_
            refine tp_l (congrArg fc (nI_clamp (n := t - 1) (by omega))) ?_
            refine tp_l (b := (lN (S (t - 1)))) ((h1 (t - 1) (by omega)).trans (hf (t - 1) (by omega)).1) ?_
            refine lv_lload_n hx hb dX0_add_39 rfl (lv_at hl 1 rfl) ?_
            have hS0 := (hf (t - 1) (by omega)).2.lt
            refine W.lcmp hx hb dX0_add_40 ?_
            refine lv_if_le (tgt := 64) hx hb dX0_add_41 (by decide) (fun c_41_4 => ?_) (fun c_41_4 => ?_)
            · skip
              have n_41_4 : S (t - 1) ≤ Q := (lc_le (a := S (t - 1)) (b := Q) (by omega) (by omega)).mp c_41_4
              obtain ⟨S9, hS9, hI9⟩ := ins_end hf hQ ht h1 h2 h3 (Or.inr n_41_4)
              refine lv_aload_n hx hb dX0_add_64 rfl (lv_at hl 0 rfl) ?_
              refine va_get (D := g.1) (ci := 0) (v := .ref (v)) (C := RX0) (T := TX0) (N := 3) hx hb hts hi_0 hown hK hP 0 rfl rfl 0 (by decide) f_9 (fun _ h9 => h9) rfl dX0_add_65 ?_
              refine lv_iload_n hx hb dX0_add_68 rfl (lv_at hl 2 rfl) ?_
              refine lv_lload_n hx hb dX0_add_69 rfl (lv_at hl 1 rfl) ?_
              refine va_last (n := 50) (f := fc) hx hb hK hP hD hS 1 1 rfl rfl (vp_in_nI (n := t) (by omega) (by decide)) dX0_add_70 (fun H locs hP hD hS => ?_)
              rw [nI_clamp (n := t) (by omega)] at hP hD
              have hP : va_P g.1 vwCl (DW g d v (vp_updL fc t (lN (Q))) (nI cnt) (nI ll)) H := hP
              have hD : va_D A (DW g d v (vp_updL fc t (lN (Q))) (nI cnt) (nI ll)) := hD
              refine lv_aload_n hx hb dX0_add_71 rfl (lv_at hl 0 rfl) ?_
              refine lv_dup hx hb dX0_add_72 rfl ?_
              refine va_get (D := g.1) (ci := 0) (v := .int (nI (cnt))) (C := RX0) (T := TX0) (N := 3) hx hb hts hi_0 hown hK hP 0 rfl rfl 1 (by decide) f_15 (fun _ h9 => h9) rfl dX0_add_73 ?_
              refine lv_iconst (v := nI 1) hx hb dX0_add_76 (by decide) ?_
              refine lv_iadd hx hb dX0_add_77 ?_
              refine tp_i (nI_add cnt 1) ?_
              refine va_put (D := g.1) (ci := 0) (v := .int (nI (cnt + 1))) (ty := .int) (C := RX0) (T := TX0) (N := 3) hx hb hts hi_0 tyX0 tyX0_ok nmX0 hown hK hP hD hS 0 rfl rfl 1 (by decide) f_15 (fun _ h9 => h9) rfl (by decide +kernel) rfl rfl (Nat.le_of_ble_eq_true rfl) dX0_add_78 (fun H locs hP hD hS => ?_)
              have hP : va_P g.1 vwCl (DW g d v (vp_updL fc t (lN (Q))) (nI (cnt + 1)) (nI ll)) H := hP
              have hD : va_D A (DW g d v (vp_updL fc t (lN (Q))) (nI (cnt + 1)) (nI ll)) := hD
              refine lv_iconst (v := nI 1) hx hb dX0_add_81 (by decide) ?_
              exact hret (nI (1)) (DW g d v (vp_updL fc t (lN (Q))) (nI (cnt + 1)) (nI ll)) _ _ _ _ dX0_add_82 (Or.inr rfl) (Or.inr ⟨rfl, by omega, n_17_2, _, S9, t, rfl, hS9, hI9⟩) hP hD hS
            · skip
              have n_41_4 : ¬ S (t - 1) ≤ Q := fun q9 => c_41_4 ((lc_le (a := S (t - 1)) (b := Q) (by omega) (by omega)).mpr q9)
              refine lv_aload_n hx hb dX0_add_44 rfl (lv_at hl 0 rfl) ?_
              refine va_get (D := g.1) (ci := 0) (v := .ref (v)) (C := RX0) (T := TX0) (N := 3) hx hb hts hi_0 hown hK hP 0 rfl rfl 0 (by decide) f_9 (fun _ h9 => h9) rfl dX0_add_45 ?_
              refine lv_iload_n hx hb dX0_add_48 rfl (lv_at hl 2 rfl) ?_
              refine lv_aload_n hx hb dX0_add_49 rfl (lv_at hl 0 rfl) ?_
              refine va_get (D := g.1) (ci := 0) (v := .ref (v)) (C := RX0) (T := TX0) (N := 3) hx hb hts hi_0 hown hK hP 0 rfl rfl 0 (by decide) f_9 (fun _ h9 => h9) rfl dX0_add_50 ?_
              refine lv_iload_n hx hb dX0_add_53 rfl (lv_at hl 2 rfl) ?_
              refine lv_iconst (v := nI 1) hx hb dX0_add_54 (by decide) ?_
              refine lv_isub hx hb dX0_add_55 ?_
              refine tp_i (pk_sub (a := t) (b := 1) (by omega)) ?_
              refine va_lald (n := 50) (f := fc) hx hb hK hP 1 1 rfl rfl (vp_in_nI (n := t - 1) (by omega) (by decide)) dX0_add_56 ?_
              refine tp_l (congrArg fc (nI_clamp (n := t - 1) (by omega))) ?_
              refine tp_l (b := (f (t - 1))) (h1 (t - 1) (by omega)) ?_
              refine va_last (n := 50) (f := fc) hx hb hK hP hD hS 1 1 rfl rfl (vp_in_nI (n := t) (by omega) (by decide)) dX0_add_57 (fun H locs hP hD hS => ?_)
              rw [nI_clamp (n := t) (by omega)] at hP hD
              have hP : va_P g.1 vwCl (DW g d v (vp_updL fc t (f (t - 1))) (nI cnt) (nI ll)) H := hP
              have hD : va_D A (DW g d v (vp_updL fc t (f (t - 1))) (nI cnt) (nI ll)) := hD
              refine lv_iinc (v := (nI (t - 1))) (lv' := [(3, .int (nI (t - 1))), (0, .ref (d)), (1, .long (lN (Q)))]) hx hb dX0_add_58 hl (k := 2) rfl (dec1 (by omega)) (by decide) rfl (fun ls hl => ?_)
              refine lv_goto (tgt := 27) hx hb dX0_add_61 (by decide) ?_
              exact ih_27 (t - 1) (vp_updL fc t (f (t - 1))) (by omega) (by omega) ((ins_step (by omega) h1 h2).1) ((ins_step (by omega) h1 h2).2) (fun i a b => if e9 : i = t - 1 then (by rw [e9]; omega) else h3 i (by omega) b) _ _ _ hP hD hS (lv_sub hl [1, 2, 0] rfl)
      exact L_27 (_ + 1) cnt f (Nat.lt_succ_self _) (Nat.le_refl _) (fun _ _ => rfl) (fun i a b => absurd a (by omega)) (fun i a b => absurd a (by omega)) _ _ _ hP hD hS (lv_sub hl [1, 2, 0] rfl)
    · skip
      have n_17_2 := Bv.t h_14 c_17_2
      refine lv_iconst (v := nI 0) hx hb dX0_add_20 (by decide) ?_
      exact hret (nI (0)) (DW g d v f (nI cnt) (nI ll)) _ _ _ _ dX0_add_21 (Or.inl rfl) (Or.inl ⟨rfl, rfl, Or.inr n_17_2⟩) hP hD hS

abbrev rm_X0_remove : Room := { frames := 1, cells := 0, slots := 0, locals := 23 }
set_option maxHeartbeats 4000000 in
set_option maxRecDepth 100000 in
theorem c_X0_remove (l : Launch) (g : GG) (d v : Nat) (f : Nat → Int64) (S : Nat → Nat) (cnt ll : Nat) (hf : DR f S cnt) (hc : cnt ≤ 50) (Q : Nat) (hQ : RV Q) : Ci l yX0_remove wsX0_remove rm_X0_remove g [.ref (d), .long (lN (Q))] (DW g d v f (nI cnt) (nI ll)) (fun r w => (r = 0 ∧ w = (DW g d v f (nI cnt) (nI ll)) ∧ ∀ j, j < cnt → S j ≠ Q) ∨ (r = 1 ∧ ∃ (f9 : Nat → Int64) (S9 : Nat → Nat) (t : Nat), w = DW g d v f9 (nI (cnt - 1)) (nI ll) ∧ S t = Q ∧ DR f9 S9 (cnt - 1) ∧ RemAt S cnt t S9)) := by
  refine Ci.ofZ (cc := cX0_remove) (maxL := 5) (by decide) rfl (Nat.le_of_ble_eq_true rfl) ?_
  intro p e s m args below meth c A Z hx hb hml hts hown hK hA hret H locs ls hP hD hS hl
  have f_9 := hts (.fieldLink RX0 9 "GhostGame$Dictionary" "words" "[J") (by decide +kernel)
  have f_15 := hts (.fieldLink RX0 15 "GhostGame$Dictionary" "count" "I") (by decide +kernel)
  have hi_0 : ∀ w ∈ wsX00, w ∈ wsX0_remove := by decide +kernel
  have hl : lv_has ls 5 [(0, .ref (d)), (1, .long (lN (Q)))] := hl
  refine lv_aload_n hx hb dX0_remove_0 rfl (lv_at hl 0 rfl) ?_
  refine lv_lload_n hx hb dX0_remove_1 rfl (lv_at hl 1 rfl) ?_
  refine call_iVW (As := [.long (lN (Q))]) (rest := []) ⟨hx, hb, hml, hown, hts⟩ (c_X0_placeOf l g d v f S cnt ll hf hc Q hQ) (cwV 1 hts gX0_remove_X0_placeOf rfl rfl rfl (by decide +kernel) ⟨Nat.le_of_ble_eq_true rfl, Nat.le_of_ble_eq_true rfl⟩) hP hK hD hS hA 0 rfl rfl rfl rfl hl.1 rfl (Nat.le_of_ble_eq_true rfl) dX0_remove_2 ⟨Nat.le_refl _, Nat.le_refl _⟩ (fun r_2 w H locs h_2 hP hD hS => ?_)
  obtain ⟨rfl, h_2⟩ := h_2
  have hP : va_P g.1 vwCl (DW g d v f (nI cnt) (nI ll)) H := hP
  have hD : va_D A (DW g d v f (nI cnt) (nI ll)) := hD
  refine lv_istore_n (lv' := [(3, .int (r_2)), (0, .ref (d)), (1, .long (lN (Q)))]) hx hb dX0_remove_5 rfl hl (by decide) rfl (fun ls hl => ?_)
  refine lv_iload_n hx hb dX0_remove_6 rfl (lv_at hl 0 rfl) ?_
  refine lv_iconst (v := -1) hx hb dX0_remove_7 (by decide) ?_
  refine lv_icmp_ne (tgt := 13) hx hb dX0_remove_8 (by decide) (fun c_8_1 => ?_) (fun c_8_1 => ?_)
  · skip
    obtain ⟨t, ht, hQt, rfl⟩ : ∃ t, t < cnt ∧ S t = Q ∧ r_2 = nI t := by
      rcases h_2 with h | ⟨-, h⟩
      · exact h
      · exact absurd h c_8_1
    refine lv_aload_n hx hb dX0_remove_13 rfl (lv_at hl 1 rfl) ?_
    refine lv_dup hx hb dX0_remove_14 rfl ?_
    refine va_get (D := g.1) (ci := 0) (v := .int (nI (cnt))) (C := RX0) (T := TX0) (N := 3) hx hb hts hi_0 hown hK hP 0 rfl rfl 1 (by decide) f_15 (fun _ h9 => h9) rfl dX0_remove_15 ?_
    refine lv_iconst (v := nI 1) hx hb dX0_remove_18 (by decide) ?_
    refine lv_isub hx hb dX0_remove_19 ?_
    refine tp_i (pk_sub (a := cnt) (b := 1) (by omega)) ?_
    refine va_put (D := g.1) (ci := 0) (v := .int (nI (cnt - 1))) (ty := .int) (C := RX0) (T := TX0) (N := 3) hx hb hts hi_0 tyX0 tyX0_ok nmX0 hown hK hP hD hS 0 rfl rfl 1 (by decide) f_15 (fun _ h9 => h9) rfl (by decide +kernel) rfl rfl (Nat.le_of_ble_eq_true rfl) dX0_remove_20 (fun H locs hP hD hS => ?_)
    have hP : va_P g.1 vwCl (DW g d v f (nI (cnt - 1)) (nI ll)) H := hP
    have hD : va_D A (DW g d v f (nI (cnt - 1)) (nI ll)) := hD
    refine lv_iload_n hx hb dX0_remove_23 rfl (lv_at hl 0 rfl) ?_
    refine lv_istore (lv' := [(4, .int (nI (t))), (3, .int (nI (t))), (0, .ref (d)), (1, .long (lN (Q)))]) hx hb dX0_remove_24 hl (by decide) rfl (fun ls hl => ?_)
    have L_26 : ∀ (fu : Nat) (i : Nat) (fc : Nat → Int64), cnt - i < fu → (t ≤ i) → (i ≤ cnt - 1) → (∀ k, k < i → fc k = if k < t then f k else f (k + 1)) → (∀ k, i ≤ k → fc k = f k) → ∀ (H : Heap) (locs : List Loc) (ls : Array Slot), va_P g.1 vwCl (DW g d v fc (nI (cnt - 1)) (nI ll)) H → va_D A (DW g d v fc (nI (cnt - 1)) (nI ll)) → va_S A s.heap H locs → lv_has ls 5 [(0, .ref (d)), (1, .long (lN (Q))), (4, .int (nI (i)))] → W p l e rm_X0_remove s m args below meth c H locs 0 0 Z (F0 m 26 ls []) := by
      intro fu
      induction fu with
      | zero => intro _ _ h0; exact absurd h0 (Nat.not_lt_zero _)
      | succ fu ih_26 =>
        intro i fc hfu hi1 hi2 h1 h2 H locs ls hP hD hS hl
        refine lv_iload hx hb dX0_remove_26 (lv_at hl 2 rfl) ?_
        refine lv_aload_n hx hb dX0_remove_28 rfl (lv_at hl 0 rfl) ?_
        refine va_get (D := g.1) (ci := 0) (v := .int (nI (cnt - 1))) (C := RX0) (T := TX0) (N := 3) hx hb hts hi_0 hown hK hP 0 rfl rfl 1 (by decide) f_15 (fun _ h9 => h9) rfl dX0_remove_29 ?_
        refine lv_icmp_ge (tgt := 57) hx hb dX0_remove_32 (by decide) (fun c_32_2 => ?_) (fun c_32_2 => ?_)
        · skip
          have n_32_2 : cnt - 1 ≤ i := (nI_leI (a := cnt - 1) (b := i) (by omega) (by omega)).mp c_32_2
          obtain ⟨S9, hS9, hR9⟩ := rem_end hf ht (by omega) h1
          refine lv_iconst (v := nI 1) hx hb dX0_remove_57 (by decide) ?_
          exact hret (nI (1)) (DW g d v fc (nI (cnt - 1)) (nI ll)) _ _ _ _ dX0_remove_58 (Or.inr rfl) (Or.inr ⟨rfl, _, S9, t, rfl, hQt, hS9, hR9⟩) hP hD hS
        · skip
          have n_32_2 : ¬ cnt - 1 ≤ i := fun q9 => c_32_2 ((nI_leI (a := cnt - 1) (b := i) (by omega) (by omega)).mpr q9)
          refine lv_aload_n hx hb dX0_remove_35 rfl (lv_at hl 0 rfl) ?_
          refine va_get (D := g.1) (ci := 0) (v := .ref (v)) (C := RX0) (T := TX0) (N := 3) hx hb hts hi_0 hown hK hP 0 rfl rfl 0 (by decide) f_9 (fun _ h9 => h9) rfl dX0_remove_36 ?_
          refine lv_iload hx hb dX0_remove_39 (lv_at hl 2 rfl) ?_
          refine lv_aload_n hx hb dX0_remove_41 rfl (lv_at hl 0 rfl) ?_
          refine va_get (D := g.1) (ci := 0) (v := .ref (v)) (C := RX0) (T := TX0) (N := 3) hx hb hts hi_0 hown hK hP 0 rfl rfl 0 (by decide) f_9 (fun _ h9 => h9) rfl dX0_remove_42 ?_
          refine lv_iload hx hb dX0_remove_45 (lv_at hl 2 rfl) ?_
          refine lv_iconst (v := nI 1) hx hb dX0_remove_47 (by decide) ?_
          refine lv_iadd hx hb dX0_remove_48 ?_
          refine tp_i (nI_add i 1) ?_
          refine va_lald (n := 50) (f := fc) hx hb hK hP 1 1 rfl rfl (vp_in_nI (n := i + 1) (by omega) (by decide)) dX0_remove_49 ?_
          refine tp_l (congrArg fc (nI_clamp (n := i + 1) (by omega))) ?_
          refine va_last (n := 50) (f := fc) hx hb hK hP hD hS 1 1 rfl rfl (vp_in_nI (n := i) (by omega) (by decide)) dX0_remove_50 (fun H locs hP hD hS => ?_)
          rw [nI_clamp (n := i) (by omega)] at hP hD
          have hP : va_P g.1 vwCl (DW g d v (vp_updL fc i (fc (i + 1))) (nI (cnt - 1)) (nI ll)) H := hP
          have hD : va_D A (DW g d v (vp_updL fc i (fc (i + 1))) (nI (cnt - 1)) (nI ll)) := hD
          refine lv_iinc (v := (nI (i + 1))) (lv' := [(4, .int (nI (i + 1))), (0, .ref (d)), (1, .long (lN (Q)))]) hx hb dX0_remove_51 hl (k := 2) rfl (nI_add (i) 1) (by decide) rfl (fun ls hl => ?_)
          refine lv_goto (tgt := 26) hx hb dX0_remove_54 (by decide) ?_
          exact ih_26 (i + 1) (vp_updL fc i (fc (i + 1))) (by omega) (by omega) (by omega) ((rem_step hi1 h1 h2).1) ((rem_step hi1 h1 h2).2) _ _ _ hP hD hS (lv_sub hl [1, 2, 0] rfl)
    exact L_26 (_ + 1) t f (Nat.lt_succ_self _) (Nat.le_refl _) (by omega) (rem_0) (fun _ _ => rfl) _ _ _ hP hD hS (lv_sub hl [2, 3, 0] rfl)
  · skip
    have n8 : ∀ j, j < cnt → S j ≠ Q := by
      rcases h_2 with ⟨i, a, b, e9⟩ | ⟨a, e9⟩
      · rw [e9] at c_8_1
        exact absurd c_8_1 (nI_nem1 (by omega))
      · exact a
    refine lv_iconst (v := nI 0) hx hb dX0_remove_11 (by decide) ?_
    exact hret (nI (0)) (DW g d v f (nI cnt) (nI ll)) _ _ _ _ dX0_remove_12 (Or.inl rfl) (Or.inl ⟨rfl, rfl, n8⟩) hP hD hS

abbrev rm_X0_countFrom : Room := { frames := 2, cells := 0, slots := 0, locals := 45 }
set_option maxHeartbeats 4000000 in
set_option maxRecDepth 100000 in
theorem c_X0_countFrom (l : Launch) (g : GG) (d v : Nat) (f : Nat → Int64) (S : Nat → Nat) (cnt ll : Nat) (hf : DR f S cnt) (hc : cnt ≤ 50) (Q : Nat) (hQ : RV Q) : Ci l yX0_countFrom wsX0_countFrom rm_X0_countFrom g [.ref (d), .long (lN (Q))] (DW g d v f (nI cnt) (nI ll)) (fun r w => w = (DW g d v f (nI cnt) (nI ll)) ∧ r = nI (fb_ct (fun i => bgB (S i) Q) cnt)) := by
  refine Ci.ofI (cc := cX0_countFrom) (maxL := 5) (by decide) rfl (Nat.le_of_ble_eq_true rfl) ?_
  intro p e s m args below meth c A Z hx hb hml hts hown hK hA hret H locs ls hP hD hS hl
  have f_9 := hts (.fieldLink RX0 9 "GhostGame$Dictionary" "words" "[J") (by decide +kernel)
  have f_15 := hts (.fieldLink RX0 15 "GhostGame$Dictionary" "count" "I") (by decide +kernel)
  have hi_0 : ∀ w ∈ wsX00, w ∈ wsX0_countFrom := by decide +kernel
  have hl : lv_has ls 5 [(0, .ref (d)), (1, .long (lN (Q)))] := hl
  refine lv_iconst (v := nI 0) hx hb dX0_countFrom_0 (by decide) ?_
  refine lv_istore_n (lv' := [(3, .int (nI (0))), (0, .ref (d)), (1, .long (lN (Q)))]) hx hb dX0_countFrom_1 rfl hl (by decide) rfl (fun ls hl => ?_)
  refine lv_iconst (v := nI 0) hx hb dX0_countFrom_2 (by decide) ?_
  refine lv_istore (lv' := [(4, .int (nI (0))), (3, .int (nI (0))), (0, .ref (d)), (1, .long (lN (Q)))]) hx hb dX0_countFrom_3 hl (by decide) rfl (fun ls hl => ?_)
  have L_5 : ∀ (fu : Nat) (i c0 : Nat), cnt - i < fu → (i ≤ cnt) → (c0 = fb_ct (fun i => bgB (S i) Q) i) → ∀ (H : Heap) (locs : List Loc) (ls : Array Slot), va_P g.1 vwCl (DW g d v f (nI cnt) (nI ll)) H → va_D A (DW g d v f (nI cnt) (nI ll)) → va_S A s.heap H locs → lv_has ls 5 [(0, .ref (d)), (1, .long (lN (Q))), (3, .int (nI (c0))), (4, .int (nI (i)))] → W p l e rm_X0_countFrom s m args below meth c H locs 0 0 Z (F0 m 5 ls []) := by
    intro fu
    induction fu with
    | zero => intro _ _ h0; exact absurd h0 (Nat.not_lt_zero _)
    | succ fu ih_5 =>
      intro i c0 hfu hi1 hc1 H locs ls hP hD hS hl
      refine lv_iload hx hb dX0_countFrom_5 (lv_at hl 3 rfl) ?_
      refine lv_aload_n hx hb dX0_countFrom_7 rfl (lv_at hl 0 rfl) ?_
      refine va_get (D := g.1) (ci := 0) (v := .int (nI (cnt))) (C := RX0) (T := TX0) (N := 3) hx hb hts hi_0 hown hK hP 0 rfl rfl 1 (by decide) f_15 (fun _ h9 => h9) rfl dX0_countFrom_8 ?_
      refine lv_icmp_ge (tgt := 37) hx hb dX0_countFrom_11 (by decide) (fun c_11_1 => ?_) (fun c_11_1 => ?_)
      · skip
        have n_11_1 : cnt ≤ i := (nI_leI (a := cnt) (b := i) (by omega) (by omega)).mp c_11_1
        refine lv_iload_n hx hb dX0_countFrom_37 rfl (lv_at hl 2 rfl) ?_
        exact hret (nI (c0)) (DW g d v f (nI cnt) (nI ll)) _ _ _ _ dX0_countFrom_38 (⟨rfl, by rw [hc1, show i = cnt by omega]⟩) hP hD hS
      · skip
        have n_11_1 : ¬ cnt ≤ i := fun q9 => c_11_1 ((nI_leI (a := cnt) (b := i) (by omega) (by omega)).mpr q9)
        refine lv_aload_n hx hb dX0_countFrom_14 rfl (lv_at hl 0 rfl) ?_
        refine va_get (D := g.1) (ci := 0) (v := .ref (v)) (C := RX0) (T := TX0) (N := 3) hx hb hts hi_0 hown hK hP 0 rfl rfl 0 (by decide) f_9 (fun _ h9 => h9) rfl dX0_countFrom_15 ?_
        refine lv_iload hx hb dX0_countFrom_18 (lv_at hl 3 rfl) ?_
        refine va_lald (n := 50) (f := f) hx hb hK hP 1 1 rfl rfl (vp_in_nI (n := i) (by omega) (by decide)) dX0_countFrom_20 ?_
        refine tp_l (congrArg f (nI_clamp (n := i) (by omega))) ?_
        refine tp_l (b := (lN (S i))) ((hf i (by omega)).1) ?_
        refine lv_lload_n hx hb dX0_countFrom_21 rfl (lv_at hl 1 rfl) ?_
        refine call_iP (As := [.long (lN (S i)), .long (lN (Q))]) (rest := []) ⟨hx, hb, hml, hown, hts⟩ (c_X2_beginsWith l (S i) Q (hf i (by omega)).2 hQ) (va_cwS 2 hts gX0_countFrom_X2_beginsWith rfl rfl rfl (by decide +kernel) ⟨Nat.le_of_ble_eq_true rfl, Nat.le_of_ble_eq_true rfl⟩) hP hK hD hS hA rfl hl.1 rfl (Nat.le_of_ble_eq_true rfl) dX0_countFrom_22 ⟨Nat.le_refl _, Nat.le_refl _⟩ (fun r_22 H locs h_22 hP hD hS => ?_)
        refine lv_if_eq (tgt := 31) hx hb dX0_countFrom_25 (by decide) (fun c_25_2 => ?_) (fun c_25_2 => ?_)
        · skip
          have n_25_2 := Bv.f h_22 c_25_2
          refine lv_iinc (v := (nI (i + 1))) (lv' := [(4, .int (nI (i + 1))), (0, .ref (d)), (1, .long (lN (Q))), (3, .int (nI (c0)))]) hx hb dX0_countFrom_31 hl (k := 3) rfl (nI_add (i) 1) (by decide) rfl (fun ls hl => ?_)
          refine lv_goto (tgt := 5) hx hb dX0_countFrom_34 (by decide) ?_
          exact ih_5 (i + 1) c0 (by omega) (by omega) (ct_f hc1 (bgB_f n_25_2)) _ _ _ hP hD hS (lv_sub hl [1, 2, 3, 0] rfl)
        · skip
          have n_25_2 := Bv.t h_22 c_25_2
          refine lv_iinc (v := (nI (c0 + 1))) (lv' := [(3, .int (nI (c0 + 1))), (0, .ref (d)), (1, .long (lN (Q))), (4, .int (nI (i)))]) hx hb dX0_countFrom_28 hl (k := 2) rfl (nI_add (c0) 1) (by decide) rfl (fun ls hl => ?_)
          refine lv_iinc (v := (nI (i + 1))) (lv' := [(4, .int (nI (i + 1))), (3, .int (nI (c0 + 1))), (0, .ref (d)), (1, .long (lN (Q)))]) hx hb dX0_countFrom_31 hl (k := 3) rfl (nI_add (i) 1) (by decide) rfl (fun ls hl => ?_)
          refine lv_goto (tgt := 5) hx hb dX0_countFrom_34 (by decide) ?_
          exact ih_5 (i + 1) (c0 + 1) (by omega) (by omega) (ct_t hc1 (bgB_t.mpr n_25_2)) _ _ _ hP hD hS (lv_sub hl [2, 3, 1, 0] rfl)
  exact L_5 (_ + 1) 0 0 (Nat.lt_succ_self _) (Nat.zero_le _) (rfl) _ _ _ hP hD hS (lv_sub hl [2, 3, 1, 0] rfl)

abbrev rm_X0_isLongEnough : Room := { frames := 1, cells := 0, slots := 0, locals := 21 }
set_option maxHeartbeats 4000000 in
set_option maxRecDepth 100000 in
theorem c_X0_isLongEnough (l : Launch) (g : GG) (d v : Nat) (f : Nat → Int64) (S : Nat → Nat) (cnt ll : Nat) (hf : DR f S cnt) (hc : cnt ≤ 50) (hll : ll ≤ 10) (Q : Nat) (hQ : RV Q) : Ci l yX0_isLongEnough wsX0_isLongEnough rm_X0_isLongEnough g [.ref (d), .long (lN (Q))] (DW g d v f (nI cnt) (nI ll)) (fun r w => w = (DW g d v f (nI cnt) (nI ll)) ∧ Bv r (ll ≤ rwL Q)) := by
  refine Ci.ofZ (cc := cX0_isLongEnough) (maxL := 3) (by decide) rfl (Nat.le_of_ble_eq_true rfl) ?_
  intro p e s m args below meth c A Z hx hb hml hts hown hK hA hret H locs ls hP hD hS hl
  have f_19 := hts (.fieldLink RX0 19 "GhostGame$Dictionary" "leastLength" "I") (by decide +kernel)
  have hi_0 : ∀ w ∈ wsX00, w ∈ wsX0_isLongEnough := by decide +kernel
  have hl : lv_has ls 3 [(0, .ref (d)), (1, .long (lN (Q)))] := hl
  have h10 := hQ.1
  refine lv_lload_n hx hb dX0_isLongEnough_0 rfl (lv_at hl 1 rfl) ?_
  refine call_iP (As := [.long (lN (Q))]) (rest := []) ⟨hx, hb, hml, hown, hts⟩ (c_X2_lengthOf l Q (hQ).lt) (va_cwS 1 hts gX0_isLongEnough_X2_lengthOf rfl rfl rfl (by decide +kernel) ⟨Nat.le_of_ble_eq_true rfl, Nat.le_of_ble_eq_true rfl⟩) hP hK hD hS hA rfl hl.1 rfl (Nat.le_of_ble_eq_true rfl) dX0_isLongEnough_1 ⟨Nat.le_refl _, Nat.le_refl _⟩ (fun r_1 H locs h_1 hP hD hS => ?_)
  subst h_1
  refine lv_aload_n hx hb dX0_isLongEnough_4 rfl (lv_at hl 0 rfl) ?_
  refine va_get (D := g.1) (ci := 0) (v := .int (nI (ll))) (C := RX0) (T := TX0) (N := 3) hx hb hts hi_0 hown hK hP 0 rfl rfl 2 (by decide) f_19 (fun _ h9 => h9) rfl dX0_isLongEnough_5 ?_
  refine lv_icmp_lt (tgt := 15) hx hb dX0_isLongEnough_8 (by decide) (fun c_8_1 => ?_) (fun c_8_1 => ?_)
  · skip
    have n_8_1 : rwL Q < ll := (nI_ltI (a := rwL Q) (b := ll) (by omega) (by omega)).mp c_8_1
    refine lv_iconst (v := nI 0) hx hb dX0_isLongEnough_15 (by decide) ?_
    exact hret (nI (0)) (DW g d v f (nI cnt) (nI ll)) _ _ _ _ dX0_isLongEnough_16 (Or.inl rfl) (⟨rfl, Bv.no (by omega)⟩) hP hD hS
  · skip
    have n_8_1 : ¬ rwL Q < ll := fun q9 => c_8_1 ((nI_ltI (a := rwL Q) (b := ll) (by omega) (by omega)).mpr q9)
    refine lv_iconst (v := nI 1) hx hb dX0_isLongEnough_11 (by decide) ?_
    refine lv_goto (tgt := 16) hx hb dX0_isLongEnough_12 (by decide) ?_
    exact hret (nI (1)) (DW g d v f (nI cnt) (nI ll)) _ _ _ _ dX0_isLongEnough_16 (Or.inr rfl) (⟨rfl, Bv.yes (by omega)⟩) hP hD hS

abbrev rm_X0_hasCounting : Room := { frames := 2, cells := 0, slots := 0, locals := 45 }
set_option maxHeartbeats 4000000 in
set_option maxRecDepth 100000 in
theorem c_X0_hasCounting (l : Launch) (g : GG) (d v : Nat) (f : Nat → Int64) (S : Nat → Nat) (cnt ll : Nat) (hf : DR f S cnt) (hc : cnt ≤ 50) (hll : ll ≤ 10) (Q : Nat) (hQ : RV Q) : Ci l yX0_hasCounting wsX0_hasCounting rm_X0_hasCounting g [.ref (d), .long (lN (Q))] (DW g d v f (nI cnt) (nI ll)) (fun r w => w = (DW g d v f (nI cnt) (nI ll)) ∧ Bv r (ll ≤ rwL Q ∧ inS S cnt Q)) := by
  refine Ci.ofZ (cc := cX0_hasCounting) (maxL := 3) (by decide) rfl (Nat.le_of_ble_eq_true rfl) ?_
  intro p e s m args below meth c A Z hx hb hml hts hown hK hA hret H locs ls hP hD hS hl
  have hl : lv_has ls 3 [(0, .ref (d)), (1, .long (lN (Q)))] := hl
  refine lv_aload_n hx hb dX0_hasCounting_0 rfl (lv_at hl 0 rfl) ?_
  refine lv_lload_n hx hb dX0_hasCounting_1 rfl (lv_at hl 1 rfl) ?_
  refine call_iVW (As := [.long (lN (Q))]) (rest := []) ⟨hx, hb, hml, hown, hts⟩ (c_X0_isLongEnough l g d v f S cnt ll hf hc hll Q hQ) (cwV 1 hts gX0_hasCounting_X0_isLongEnough rfl rfl rfl (by decide +kernel) ⟨Nat.le_of_ble_eq_true rfl, Nat.le_of_ble_eq_true rfl⟩) hP hK hD hS hA 0 rfl rfl rfl rfl hl.1 rfl (Nat.le_of_ble_eq_true rfl) dX0_hasCounting_2 ⟨Nat.le_refl _, Nat.le_refl _⟩ (fun r_2 w H locs h_2 hP hD hS => ?_)
  obtain ⟨rfl, h_2⟩ := h_2
  have hP : va_P g.1 vwCl (DW g d v f (nI cnt) (nI ll)) H := hP
  have hD : va_D A (DW g d v f (nI cnt) (nI ll)) := hD
  refine lv_if_eq (tgt := 20) hx hb dX0_hasCounting_5 (by decide) (fun c_5_1 => ?_) (fun c_5_1 => ?_)
  · skip
    have n_5_1 := Bv.f h_2 c_5_1
    refine lv_iconst (v := nI 0) hx hb dX0_hasCounting_20 (by decide) ?_
    exact hret (nI (0)) (DW g d v f (nI cnt) (nI ll)) _ _ _ _ dX0_hasCounting_21 (Or.inl rfl) (⟨rfl, Bv.no (fun q9 => n_5_1 q9.1)⟩) hP hD hS
  · skip
    have n_5_1 := Bv.t h_2 c_5_1
    refine lv_aload_n hx hb dX0_hasCounting_8 rfl (lv_at hl 0 rfl) ?_
    refine lv_lload_n hx hb dX0_hasCounting_9 rfl (lv_at hl 1 rfl) ?_
    refine call_iVW (As := [.long (lN (Q))]) (rest := []) ⟨hx, hb, hml, hown, hts⟩ (c_X0_has l g d v f S cnt ll hf hc Q hQ) (cwV 1 hts gX0_hasCounting_X0_has rfl rfl rfl (by decide +kernel) ⟨Nat.le_of_ble_eq_true rfl, Nat.le_of_ble_eq_true rfl⟩) hP hK hD hS hA 0 rfl rfl rfl rfl hl.1 rfl (Nat.le_of_ble_eq_true rfl) dX0_hasCounting_10 ⟨Nat.le_refl _, Nat.le_refl _⟩ (fun r_10 w H locs h_10 hP hD hS => ?_)
    obtain ⟨rfl, h_10⟩ := h_10
    have hP : va_P g.1 vwCl (DW g d v f (nI cnt) (nI ll)) H := hP
    have hD : va_D A (DW g d v f (nI cnt) (nI ll)) := hD
    refine lv_if_eq (tgt := 20) hx hb dX0_hasCounting_13 (by decide) (fun c_13_2 => ?_) (fun c_13_2 => ?_)
    · skip
      have n_13_2 := Bv.f h_10 c_13_2
      refine lv_iconst (v := nI 0) hx hb dX0_hasCounting_20 (by decide) ?_
      exact hret (nI (0)) (DW g d v f (nI cnt) (nI ll)) _ _ _ _ dX0_hasCounting_21 (Or.inl rfl) (⟨rfl, Bv.no (fun q9 => n_13_2 q9.2)⟩) hP hD hS
    · skip
      have n_13_2 := Bv.t h_10 c_13_2
      refine lv_iconst (v := nI 1) hx hb dX0_hasCounting_16 (by decide) ?_
      refine lv_goto (tgt := 21) hx hb dX0_hasCounting_17 (by decide) ?_
      exact hret (nI (1)) (DW g d v f (nI cnt) (nI ll)) _ _ _ _ dX0_hasCounting_21 (Or.inr rfl) (⟨rfl, Bv.yes ⟨n_5_1, n_13_2⟩⟩) hP hD hS

abbrev rm_X0_hasCountingFrom : Room := { frames := 2, cells := 0, slots := 0, locals := 45 }
set_option maxHeartbeats 4000000 in
set_option maxRecDepth 100000 in
theorem c_X0_hasCountingFrom (l : Launch) (g : GG) (d v : Nat) (f : Nat → Int64) (S : Nat → Nat) (cnt ll : Nat) (hf : DR f S cnt) (hc : cnt ≤ 50) (hll : ll ≤ 10) (Q : Nat) (hQ : RV Q) : Ci l yX0_hasCountingFrom wsX0_hasCountingFrom rm_X0_hasCountingFrom g [.ref (d), .long (lN (Q))] (DW g d v f (nI cnt) (nI ll)) (fun r w => w = (DW g d v f (nI cnt) (nI ll)) ∧ Bv r (∃ i, i < cnt ∧ ll ≤ rwL (S i) ∧ bgP (S i) Q)) := by
  refine Ci.ofZ (cc := cX0_hasCountingFrom) (maxL := 4) (by decide) rfl (Nat.le_of_ble_eq_true rfl) ?_
  intro p e s m args below meth c A Z hx hb hml hts hown hK hA hret H locs ls hP hD hS hl
  have f_9 := hts (.fieldLink RX0 9 "GhostGame$Dictionary" "words" "[J") (by decide +kernel)
  have f_15 := hts (.fieldLink RX0 15 "GhostGame$Dictionary" "count" "I") (by decide +kernel)
  have hi_0 : ∀ w ∈ wsX00, w ∈ wsX0_hasCountingFrom := by decide +kernel
  have hl : lv_has ls 4 [(0, .ref (d)), (1, .long (lN (Q)))] := hl
  refine lv_iconst (v := nI 0) hx hb dX0_hasCountingFrom_0 (by decide) ?_
  refine lv_istore_n (lv' := [(3, .int (nI (0))), (0, .ref (d)), (1, .long (lN (Q)))]) hx hb dX0_hasCountingFrom_1 rfl hl (by decide) rfl (fun ls hl => ?_)
  have L_2 : ∀ (fu : Nat) (i : Nat), cnt - i < fu → (i ≤ cnt) → (∀ j, j < i → ¬ (ll ≤ rwL (S j) ∧ bgP (S j) Q)) → ∀ (H : Heap) (locs : List Loc) (ls : Array Slot), va_P g.1 vwCl (DW g d v f (nI cnt) (nI ll)) H → va_D A (DW g d v f (nI cnt) (nI ll)) → va_S A s.heap H locs → lv_has ls 4 [(0, .ref (d)), (1, .long (lN (Q))), (3, .int (nI (i)))] → W p l e rm_X0_hasCountingFrom s m args below meth c H locs 0 0 Z (F0 m 2 ls []) := by
    intro fu
    induction fu with
    | zero => intro _ h0; exact absurd h0 (Nat.not_lt_zero _)
    | succ fu ih_2 =>
      intro i hfu hi1 hi2 H locs ls hP hD hS hl
      refine lv_iload_n hx hb dX0_hasCountingFrom_2 rfl (lv_at hl 2 rfl) ?_
      refine lv_aload_n hx hb dX0_hasCountingFrom_3 rfl (lv_at hl 0 rfl) ?_
      refine va_get (D := g.1) (ci := 0) (v := .int (nI (cnt))) (C := RX0) (T := TX0) (N := 3) hx hb hts hi_0 hown hK hP 0 rfl rfl 1 (by decide) f_15 (fun _ h9 => h9) rfl dX0_hasCountingFrom_4 ?_
      refine lv_icmp_ge (tgt := 44) hx hb dX0_hasCountingFrom_7 (by decide) (fun c_7_1 => ?_) (fun c_7_1 => ?_)
      · skip
        have n_7_1 : cnt ≤ i := (nI_leI (a := cnt) (b := i) (by omega) (by omega)).mp c_7_1
        refine lv_iconst (v := nI 0) hx hb dX0_hasCountingFrom_44 (by decide) ?_
        exact hret (nI (0)) (DW g d v f (nI cnt) (nI ll)) _ _ _ _ dX0_hasCountingFrom_45 (Or.inl rfl) (⟨rfl, Bv.no (fun ⟨j, a, b⟩ => hi2 j (by omega) b)⟩) hP hD hS
      · skip
        have n_7_1 : ¬ cnt ≤ i := fun q9 => c_7_1 ((nI_leI (a := cnt) (b := i) (by omega) (by omega)).mpr q9)
        refine lv_aload_n hx hb dX0_hasCountingFrom_10 rfl (lv_at hl 0 rfl) ?_
        refine lv_aload_n hx hb dX0_hasCountingFrom_11 rfl (lv_at hl 0 rfl) ?_
        refine va_get (D := g.1) (ci := 0) (v := .ref (v)) (C := RX0) (T := TX0) (N := 3) hx hb hts hi_0 hown hK hP 0 rfl rfl 0 (by decide) f_9 (fun _ h9 => h9) rfl dX0_hasCountingFrom_12 ?_
        refine lv_iload_n hx hb dX0_hasCountingFrom_15 rfl (lv_at hl 2 rfl) ?_
        refine va_lald (n := 50) (f := f) hx hb hK hP 1 1 rfl rfl (vp_in_nI (n := i) (by omega) (by decide)) dX0_hasCountingFrom_16 ?_
        refine tp_l (congrArg f (nI_clamp (n := i) (by omega))) ?_
        refine tp_l (b := (lN (S i))) ((hf i (by omega)).1) ?_
        refine call_iVW (As := [.long (lN (S i))]) (rest := []) ⟨hx, hb, hml, hown, hts⟩ (c_X0_isLongEnough l g d v f S cnt ll hf hc hll (S i) (hf i (by omega)).2) (cwV 1 hts gX0_hasCountingFrom_X0_isLongEnough rfl rfl rfl (by decide +kernel) ⟨Nat.le_of_ble_eq_true rfl, Nat.le_of_ble_eq_true rfl⟩) hP hK hD hS hA 0 rfl rfl rfl rfl hl.1 rfl (Nat.le_of_ble_eq_true rfl) dX0_hasCountingFrom_17 ⟨Nat.le_refl _, Nat.le_refl _⟩ (fun r_17 w H locs h_17 hP hD hS => ?_)
        obtain ⟨rfl, h_17⟩ := h_17
        have hP : va_P g.1 vwCl (DW g d v f (nI cnt) (nI ll)) H := hP
        have hD : va_D A (DW g d v f (nI cnt) (nI ll)) := hD
        refine lv_if_eq (tgt := 38) hx hb dX0_hasCountingFrom_20 (by decide) (fun c_20_2 => ?_) (fun c_20_2 => ?_)
        · skip
          have n_20_2 := Bv.f h_17 c_20_2
          refine lv_iinc (v := (nI (i + 1))) (lv' := [(3, .int (nI (i + 1))), (0, .ref (d)), (1, .long (lN (Q)))]) hx hb dX0_hasCountingFrom_38 hl (k := 2) rfl (nI_add (i) 1) (by decide) rfl (fun ls hl => ?_)
          refine lv_goto (tgt := 2) hx hb dX0_hasCountingFrom_41 (by decide) ?_
          exact ih_2 (i + 1) (by omega) (by omega) (lt_s hi2 (fun q9 => n_20_2 q9.1)) _ _ _ hP hD hS (lv_sub hl [1, 2, 0] rfl)
        · skip
          have n_20_2 := Bv.t h_17 c_20_2
          refine lv_aload_n hx hb dX0_hasCountingFrom_23 rfl (lv_at hl 0 rfl) ?_
          refine va_get (D := g.1) (ci := 0) (v := .ref (v)) (C := RX0) (T := TX0) (N := 3) hx hb hts hi_0 hown hK hP 0 rfl rfl 0 (by decide) f_9 (fun _ h9 => h9) rfl dX0_hasCountingFrom_24 ?_
          refine lv_iload_n hx hb dX0_hasCountingFrom_27 rfl (lv_at hl 2 rfl) ?_
          refine va_lald (n := 50) (f := f) hx hb hK hP 1 1 rfl rfl (vp_in_nI (n := i) (by omega) (by decide)) dX0_hasCountingFrom_28 ?_
          refine tp_l (congrArg f (nI_clamp (n := i) (by omega))) ?_
          refine tp_l (b := (lN (S i))) ((hf i (by omega)).1) ?_
          refine lv_lload_n hx hb dX0_hasCountingFrom_29 rfl (lv_at hl 1 rfl) ?_
          refine call_iP (As := [.long (lN (S i)), .long (lN (Q))]) (rest := []) ⟨hx, hb, hml, hown, hts⟩ (c_X2_beginsWith l (S i) Q (hf i (by omega)).2 hQ) (va_cwS 2 hts gX0_hasCountingFrom_X2_beginsWith rfl rfl rfl (by decide +kernel) ⟨Nat.le_of_ble_eq_true rfl, Nat.le_of_ble_eq_true rfl⟩) hP hK hD hS hA rfl hl.1 rfl (Nat.le_of_ble_eq_true rfl) dX0_hasCountingFrom_30 ⟨Nat.le_refl _, Nat.le_refl _⟩ (fun r_30 H locs h_30 hP hD hS => ?_)
          refine lv_if_eq (tgt := 38) hx hb dX0_hasCountingFrom_33 (by decide) (fun c_33_3 => ?_) (fun c_33_3 => ?_)
          · skip
            have n_33_3 := Bv.f h_30 c_33_3
            refine lv_iinc (v := (nI (i + 1))) (lv' := [(3, .int (nI (i + 1))), (0, .ref (d)), (1, .long (lN (Q)))]) hx hb dX0_hasCountingFrom_38 hl (k := 2) rfl (nI_add (i) 1) (by decide) rfl (fun ls hl => ?_)
            refine lv_goto (tgt := 2) hx hb dX0_hasCountingFrom_41 (by decide) ?_
            exact ih_2 (i + 1) (by omega) (by omega) (lt_s hi2 (fun q9 => n_33_3 q9.2)) _ _ _ hP hD hS (lv_sub hl [1, 2, 0] rfl)
          · skip
            have n_33_3 := Bv.t h_30 c_33_3
            refine lv_iconst (v := nI 1) hx hb dX0_hasCountingFrom_36 (by decide) ?_
            exact hret (nI (1)) (DW g d v f (nI cnt) (nI ll)) _ _ _ _ dX0_hasCountingFrom_37 (Or.inr rfl) (⟨rfl, Bv.yes ⟨i, by omega, n_20_2, n_33_3⟩⟩) hP hD hS
  exact L_2 (_ + 1) 0 (Nat.lt_succ_self _) (Nat.zero_le _) (fun j h => absurd h (Nat.not_lt_zero _)) _ _ _ hP hD hS (lv_sub hl [1, 2, 0] rfl)

abbrev rm_X0_changeLeastLength : Room := { frames := 0, cells := 0, slots := 0, locals := 0 }
set_option maxHeartbeats 4000000 in
set_option maxRecDepth 100000 in
theorem c_X0_changeLeastLength (l : Launch) (g : GG) (d v : Nat) (f : Nat → Int64) (S : Nat → Nat) (cnt ll : Nat) (hf : DR f S cnt) (hc : cnt ≤ 50) (k : Nat) : Ci l yX0_changeLeastLength wsX0_changeLeastLength rm_X0_changeLeastLength g [.ref (d), .int (nI (k))] (DW g d v f (nI cnt) (nI ll)) (fun r w => w = DW g d v f (nI cnt) (nI k) ∧ r = nI ll) := by
  refine Ci.ofI (cc := cX0_changeLeastLength) (maxL := 3) (by decide) rfl (Nat.le_of_ble_eq_true rfl) ?_
  intro p e s m args below meth c A Z hx hb hml hts hown hK hA hret H locs ls hP hD hS hl
  have f_19 := hts (.fieldLink RX0 19 "GhostGame$Dictionary" "leastLength" "I") (by decide +kernel)
  have hi_0 : ∀ w ∈ wsX00, w ∈ wsX0_changeLeastLength := by decide +kernel
  have hl : lv_has ls 3 [(0, .ref (d)), (1, .int (nI (k)))] := hl
  refine lv_aload_n hx hb dX0_changeLeastLength_0 rfl (lv_at hl 0 rfl) ?_
  refine va_get (D := g.1) (ci := 0) (v := .int (nI (ll))) (C := RX0) (T := TX0) (N := 3) hx hb hts hi_0 hown hK hP 0 rfl rfl 2 (by decide) f_19 (fun _ h9 => h9) rfl dX0_changeLeastLength_1 ?_
  refine lv_istore_n (lv' := [(2, .int (nI (ll))), (0, .ref (d)), (1, .int (nI (k)))]) hx hb dX0_changeLeastLength_4 rfl hl (by decide) rfl (fun ls hl => ?_)
  refine lv_aload_n hx hb dX0_changeLeastLength_5 rfl (lv_at hl 1 rfl) ?_
  refine lv_iload_n hx hb dX0_changeLeastLength_6 rfl (lv_at hl 2 rfl) ?_
  refine va_put (D := g.1) (ci := 0) (v := .int (nI (k))) (ty := .int) (C := RX0) (T := TX0) (N := 3) hx hb hts hi_0 tyX0 tyX0_ok nmX0 hown hK hP hD hS 0 rfl rfl 2 (by decide) f_19 (fun _ h9 => h9) rfl (by decide +kernel) rfl rfl (Nat.le_of_ble_eq_true rfl) dX0_changeLeastLength_7 (fun H locs hP hD hS => ?_)
  have hP : va_P g.1 vwCl (DW g d v f (nI cnt) (nI k)) H := hP
  have hD : va_D A (DW g d v f (nI cnt) (nI k)) := hD
  refine lv_iload_n hx hb dX0_changeLeastLength_10 rfl (lv_at hl 0 rfl) ?_
  exact hret (nI (ll)) (DW g d v f (nI cnt) (nI k)) _ _ _ _ dX0_changeLeastLength_11 (⟨rfl, rfl⟩) hP hD hS

abbrev rm_X0_lengthSharedBefore : Room := { frames := 3, cells := 0, slots := 0, locals := 69 }
set_option maxHeartbeats 4000000 in
set_option maxRecDepth 100000 in
theorem c_X0_lengthSharedBefore (l : Launch) (g : GG) (d v : Nat) (f : Nat → Int64) (S : Nat → Nat) (cnt ll : Nat) (hf : DR f S cnt) (hc : cnt ≤ 50) (i : Nat) (hi : i < cnt) : Ci l yX0_lengthSharedBefore wsX0_lengthSharedBefore rm_X0_lengthSharedBefore g [.ref (d), .int (nI (i))] (DW g d v f (nI cnt) (nI ll)) (fun r w => w = (DW g d v f (nI cnt) (nI ll)) ∧ r = nI (lsF S (S i) i)) := by
  refine Ci.ofI (cc := cX0_lengthSharedBefore) (maxL := 4) (by decide) rfl (Nat.le_of_ble_eq_true rfl) ?_
  intro p e s m args below meth c A Z hx hb hml hts hown hK hA hret H locs ls hP hD hS hl
  have f_9 := hts (.fieldLink RX0 9 "GhostGame$Dictionary" "words" "[J") (by decide +kernel)
  have hi_0 : ∀ w ∈ wsX00, w ∈ wsX0_lengthSharedBefore := by decide +kernel
  have hl : lv_has ls 4 [(0, .ref (d)), (1, .int (nI (i)))] := hl
  have h11 := (hf i hi).2.1
  have hls := lsF_le S (S i)
  refine lv_iconst (v := nI 0) hx hb dX0_lengthSharedBefore_0 (by decide) ?_
  refine lv_istore_n (lv' := [(2, .int (nI (0))), (0, .ref (d)), (1, .int (nI (i)))]) hx hb dX0_lengthSharedBefore_1 rfl hl (by decide) rfl (fun ls hl => ?_)
  refine lv_iconst (v := nI 0) hx hb dX0_lengthSharedBefore_2 (by decide) ?_
  refine lv_istore_n (lv' := [(3, .int (nI (0))), (2, .int (nI (0))), (0, .ref (d)), (1, .int (nI (i)))]) hx hb dX0_lengthSharedBefore_3 rfl hl (by decide) rfl (fun ls hl => ?_)
  have L_4 : ∀ (fu : Nat) (j c0 : Nat), i - j < fu → (j ≤ i) → (c0 = lsF S (S i) j) → ∀ (H : Heap) (locs : List Loc) (ls : Array Slot), va_P g.1 vwCl (DW g d v f (nI cnt) (nI ll)) H → va_D A (DW g d v f (nI cnt) (nI ll)) → va_S A s.heap H locs → lv_has ls 4 [(0, .ref (d)), (1, .int (nI (i))), (2, .int (nI (c0))), (3, .int (nI (j)))] → W p l e rm_X0_lengthSharedBefore s m args below meth c H locs 0 0 Z (F0 m 4 ls []) := by
    intro fu
    induction fu with
    | zero => intro _ _ h0; exact absurd h0 (Nat.not_lt_zero _)
    | succ fu ih_4 =>
      intro j c0 hfu hj1 hc1 H locs ls hP hD hS hl
      refine lv_iload_n hx hb dX0_lengthSharedBefore_4 rfl (lv_at hl 3 rfl) ?_
      refine lv_iload_n hx hb dX0_lengthSharedBefore_5 rfl (lv_at hl 1 rfl) ?_
      refine lv_icmp_ge (tgt := 35) hx hb dX0_lengthSharedBefore_6 (by decide) (fun c_6_1 => ?_) (fun c_6_1 => ?_)
      · skip
        have n_6_1 : i ≤ j := (nI_leI (a := i) (b := j) (by omega) (by omega)).mp c_6_1
        refine lv_iload_n hx hb dX0_lengthSharedBefore_35 rfl (lv_at hl 2 rfl) ?_
        exact hret (nI (c0)) (DW g d v f (nI cnt) (nI ll)) _ _ _ _ dX0_lengthSharedBefore_36 (⟨rfl, by rw [hc1, show j = i by omega]⟩) hP hD hS
      · skip
        have n_6_1 : ¬ i ≤ j := fun q9 => c_6_1 ((nI_leI (a := i) (b := j) (by omega) (by omega)).mpr q9)
        refine lv_iload_n hx hb dX0_lengthSharedBefore_9 rfl (lv_at hl 2 rfl) ?_
        refine lv_aload_n hx hb dX0_lengthSharedBefore_10 rfl (lv_at hl 0 rfl) ?_
        refine va_get (D := g.1) (ci := 0) (v := .ref (v)) (C := RX0) (T := TX0) (N := 3) hx hb hts hi_0 hown hK hP 0 rfl rfl 0 (by decide) f_9 (fun _ h9 => h9) rfl dX0_lengthSharedBefore_11 ?_
        refine lv_iload_n hx hb dX0_lengthSharedBefore_14 rfl (lv_at hl 3 rfl) ?_
        refine va_lald (n := 50) (f := f) hx hb hK hP 1 1 rfl rfl (vp_in_nI (n := j) (by omega) (by decide)) dX0_lengthSharedBefore_15 ?_
        refine tp_l (congrArg f (nI_clamp (n := j) (by omega))) ?_
        refine tp_l (b := (lN (S j))) ((hf j (by omega)).1) ?_
        refine lv_aload_n hx hb dX0_lengthSharedBefore_16 rfl (lv_at hl 0 rfl) ?_
        refine va_get (D := g.1) (ci := 0) (v := .ref (v)) (C := RX0) (T := TX0) (N := 3) hx hb hts hi_0 hown hK hP 0 rfl rfl 0 (by decide) f_9 (fun _ h9 => h9) rfl dX0_lengthSharedBefore_17 ?_
        refine lv_iload_n hx hb dX0_lengthSharedBefore_20 rfl (lv_at hl 1 rfl) ?_
        refine va_lald (n := 50) (f := f) hx hb hK hP 1 1 rfl rfl (vp_in_nI (n := i) (by omega) (by decide)) dX0_lengthSharedBefore_21 ?_
        refine tp_l (congrArg f (nI_clamp (n := i) (by omega))) ?_
        refine tp_l (b := (lN (S i))) ((hf i (by omega)).1) ?_
        refine call_iP (As := [.long (lN (S j)), .long (lN (S i))]) (rest := [.int (nI (c0))]) ⟨hx, hb, hml, hown, hts⟩ (c_X2_lengthShared l (S j) (S i) (hf j (by omega)).2 (hf i (by omega)).2) (va_cwS 2 hts gX0_lengthSharedBefore_X2_lengthShared rfl rfl rfl (by decide +kernel) ⟨Nat.le_of_ble_eq_true rfl, Nat.le_of_ble_eq_true rfl⟩) hP hK hD hS hA rfl hl.1 rfl (Nat.le_of_ble_eq_true rfl) dX0_lengthSharedBefore_22 ⟨Nat.le_refl _, Nat.le_refl _⟩ (fun r_22 H locs h_22 hP hD hS => ?_)
        subst h_22
        have hsh := (shr_le (S j) (S i)).1
        have h10 := (hf j (by omega)).2.1
        refine va_mmax hx hb (by rw [hml]; exact hl.1.symm) hown (hts (.methodLink RX0 50 Lib.Math.max.name) (by decide +kernel)) (hts (.static Lib.Math.max.name) (by decide +kernel)) (hts (.initialized "java/lang/Math") (by decide +kernel)) (hts (.code Lib.Math.max.name Lib.Math.max.code 2 (some .int)) (by decide +kernel)) (Nat.le_of_ble_eq_true rfl) (Nat.le_of_ble_eq_true rfl) (Nat.zero_le _) (Nat.zero_le _) dX0_lengthSharedBefore_25 ?_
        refine tp_i (b := (nI (max (lsF S (S i) j) (shr (S j) (S i))))) (by rw [hc1]; exact max_nI (by have := hls j; omega) (by omega)) ?_
        refine lv_istore_n (lv' := [(2, .int (nI (max (lsF S (S i) j) (shr (S j) (S i))))), (0, .ref (d)), (1, .int (nI (i))), (3, .int (nI (j)))]) hx hb dX0_lengthSharedBefore_28 rfl hl (by decide) rfl (fun ls hl => ?_)
        refine lv_iinc (v := (nI (j + 1))) (lv' := [(3, .int (nI (j + 1))), (2, .int (nI (max (lsF S (S i) j) (shr (S j) (S i))))), (0, .ref (d)), (1, .int (nI (i)))]) hx hb dX0_lengthSharedBefore_29 hl (k := 3) rfl (nI_add (j) 1) (by decide) rfl (fun ls hl => ?_)
        refine lv_goto (tgt := 4) hx hb dX0_lengthSharedBefore_32 (by decide) ?_
        exact ih_4 (j + 1) (max (lsF S (S i) j) (shr (S j) (S i))) (by omega) (by omega) (rfl) _ _ _ hP hD hS (lv_sub hl [2, 3, 1, 0] rfl)
  exact L_4 (_ + 1) 0 0 (Nat.lt_succ_self _) (Nat.zero_le _) (rfl) _ _ _ hP hD hS (lv_sub hl [2, 3, 1, 0] rfl)

abbrev rm_X0_countBeginnings : Room := { frames := 4, cells := 0, slots := 0, locals := 92 }
set_option maxHeartbeats 4000000 in
set_option maxRecDepth 100000 in
theorem c_X0_countBeginnings (l : Launch) (g : GG) (d v : Nat) (f : Nat → Int64) (S : Nat → Nat) (cnt ll : Nat) (hf : DR f S cnt) (hc : cnt ≤ 50) : Ci l yX0_countBeginnings wsX0_countBeginnings rm_X0_countBeginnings g [.ref (d)] (DW g d v f (nI cnt) (nI ll)) (fun r w => w = (DW g d v f (nI cnt) (nI ll)) ∧ r = nI (bgnN S cnt)) := by
  refine Ci.ofI (cc := cX0_countBeginnings) (maxL := 3) (by decide) rfl (Nat.le_of_ble_eq_true rfl) ?_
  intro p e s m args below meth c A Z hx hb hml hts hown hK hA hret H locs ls hP hD hS hl
  have f_9 := hts (.fieldLink RX0 9 "GhostGame$Dictionary" "words" "[J") (by decide +kernel)
  have f_15 := hts (.fieldLink RX0 15 "GhostGame$Dictionary" "count" "I") (by decide +kernel)
  have hi_0 : ∀ w ∈ wsX00, w ∈ wsX0_countBeginnings := by decide +kernel
  have hl : lv_has ls 3 [(0, .ref (d))] := hl
  refine lv_iconst (v := nI 1) hx hb dX0_countBeginnings_0 (by decide) ?_
  refine lv_istore_n (lv' := [(1, .int (nI (1))), (0, .ref (d))]) hx hb dX0_countBeginnings_1 rfl hl (by decide) rfl (fun ls hl => ?_)
  refine lv_iconst (v := nI 0) hx hb dX0_countBeginnings_2 (by decide) ?_
  refine lv_istore_n (lv' := [(2, .int (nI (0))), (1, .int (nI (1))), (0, .ref (d))]) hx hb dX0_countBeginnings_3 rfl hl (by decide) rfl (fun ls hl => ?_)
  have L_4 : ∀ (fu : Nat) (i c0 : Nat), cnt - i < fu → (i ≤ cnt) → (c0 = bgnN S i) → ∀ (H : Heap) (locs : List Loc) (ls : Array Slot), va_P g.1 vwCl (DW g d v f (nI cnt) (nI ll)) H → va_D A (DW g d v f (nI cnt) (nI ll)) → va_S A s.heap H locs → lv_has ls 3 [(0, .ref (d)), (1, .int (nI (c0))), (2, .int (nI (i)))] → W p l e rm_X0_countBeginnings s m args below meth c H locs 0 0 Z (F0 m 4 ls []) := by
    intro fu
    induction fu with
    | zero => intro _ _ h0; exact absurd h0 (Nat.not_lt_zero _)
    | succ fu ih_4 =>
      intro i c0 hfu hi1 hc1 H locs ls hP hD hS hl
      refine lv_iload_n hx hb dX0_countBeginnings_4 rfl (lv_at hl 2 rfl) ?_
      refine lv_aload_n hx hb dX0_countBeginnings_5 rfl (lv_at hl 0 rfl) ?_
      refine va_get (D := g.1) (ci := 0) (v := .int (nI (cnt))) (C := RX0) (T := TX0) (N := 3) hx hb hts hi_0 hown hK hP 0 rfl rfl 1 (by decide) f_15 (fun _ h9 => h9) rfl dX0_countBeginnings_6 ?_
      refine lv_icmp_ge (tgt := 36) hx hb dX0_countBeginnings_9 (by decide) (fun c_9_1 => ?_) (fun c_9_1 => ?_)
      · skip
        have n_9_1 : cnt ≤ i := (nI_leI (a := cnt) (b := i) (by omega) (by omega)).mp c_9_1
        refine lv_iload_n hx hb dX0_countBeginnings_36 rfl (lv_at hl 1 rfl) ?_
        exact hret (nI (c0)) (DW g d v f (nI cnt) (nI ll)) _ _ _ _ dX0_countBeginnings_37 (⟨rfl, by rw [hc1, show i = cnt by omega]⟩) hP hD hS
      · skip
        have n_9_1 : ¬ cnt ≤ i := fun q9 => c_9_1 ((nI_leI (a := cnt) (b := i) (by omega) (by omega)).mpr q9)
        refine lv_iload_n hx hb dX0_countBeginnings_12 rfl (lv_at hl 1 rfl) ?_
        refine lv_aload_n hx hb dX0_countBeginnings_13 rfl (lv_at hl 0 rfl) ?_
        refine va_get (D := g.1) (ci := 0) (v := .ref (v)) (C := RX0) (T := TX0) (N := 3) hx hb hts hi_0 hown hK hP 0 rfl rfl 0 (by decide) f_9 (fun _ h9 => h9) rfl dX0_countBeginnings_14 ?_
        refine lv_iload_n hx hb dX0_countBeginnings_17 rfl (lv_at hl 2 rfl) ?_
        refine va_lald (n := 50) (f := f) hx hb hK hP 1 1 rfl rfl (vp_in_nI (n := i) (by omega) (by decide)) dX0_countBeginnings_18 ?_
        refine tp_l (congrArg f (nI_clamp (n := i) (by omega))) ?_
        refine tp_l (b := (lN (S i))) ((hf i (by omega)).1) ?_
        refine call_iP (As := [.long (lN (S i))]) (rest := [.int (nI (c0))]) ⟨hx, hb, hml, hown, hts⟩ (c_X2_lengthOf l (S i) ((hf i (by omega)).2).lt) (va_cwS 1 hts gX0_countBeginnings_X2_lengthOf rfl rfl rfl (by decide +kernel) ⟨Nat.le_of_ble_eq_true rfl, Nat.le_of_ble_eq_true rfl⟩) hP hK hD hS hA rfl hl.1 rfl (Nat.le_of_ble_eq_true rfl) dX0_countBeginnings_19 ⟨Nat.le_refl _, Nat.le_refl _⟩ (fun r_19 H locs h_19 hP hD hS => ?_)
        subst h_19
        refine lv_aload_n hx hb dX0_countBeginnings_22 rfl (lv_at hl 0 rfl) ?_
        refine lv_iload_n hx hb dX0_countBeginnings_23 rfl (lv_at hl 2 rfl) ?_
        refine call_iVW (As := [.int (nI (i))]) (rest := [.int (nI (rwL (S i))), .int (nI (c0))]) ⟨hx, hb, hml, hown, hts⟩ (c_X0_lengthSharedBefore l g d v f S cnt ll hf hc i (by omega)) (cwV 1 hts gX0_countBeginnings_X0_lengthSharedBefore rfl rfl rfl (by decide +kernel) ⟨Nat.le_of_ble_eq_true rfl, Nat.le_of_ble_eq_true rfl⟩) hP hK hD hS hA 0 rfl rfl rfl rfl hl.1 rfl (Nat.le_of_ble_eq_true rfl) dX0_countBeginnings_24 ⟨Nat.le_refl _, Nat.le_refl _⟩ (fun r_24 w H locs h_24 hP hD hS => ?_)
        obtain ⟨rfl, h_24⟩ := h_24
        subst h_24
        have hls := lsF_le S (S i) i
        have hP : va_P g.1 vwCl (DW g d v f (nI cnt) (nI ll)) H := hP
        have hD : va_D A (DW g d v f (nI cnt) (nI ll)) := hD
        refine lv_isub hx hb dX0_countBeginnings_27 ?_
        refine tp_i (pk_sub (a := rwL (S i)) (b := lsF S (S i) i) (by omega)) ?_
        refine lv_iadd hx hb dX0_countBeginnings_28 ?_
        refine tp_i (nI_add c0 ((rwL (S i)) - (lsF S (S i) i))) ?_
        refine lv_istore_n (lv' := [(1, .int (nI (c0 + ((rwL (S i)) - (lsF S (S i) i))))), (0, .ref (d)), (2, .int (nI (i)))]) hx hb dX0_countBeginnings_29 rfl hl (by decide) rfl (fun ls hl => ?_)
        refine lv_iinc (v := (nI (i + 1))) (lv' := [(2, .int (nI (i + 1))), (1, .int (nI (c0 + ((rwL (S i)) - (lsF S (S i) i))))), (0, .ref (d))]) hx hb dX0_countBeginnings_30 hl (k := 2) rfl (nI_add (i) 1) (by decide) rfl (fun ls hl => ?_)
        refine lv_goto (tgt := 4) hx hb dX0_countBeginnings_33 (by decide) ?_
        exact ih_4 (i + 1) (c0 + ((rwL (S i)) - (lsF S (S i) i))) (by omega) (by omega) (by rw [hc1]; unfold bgnN; rw [fb_sm_succ]; omega) _ _ _ hP hD hS (lv_sub hl [2, 1, 0] rfl)
  exact L_4 (_ + 1) 0 1 (Nat.lt_succ_self _) (Nat.zero_le _) (rfl) _ _ _ hP hD hS (lv_sub hl [2, 1, 0] rfl)
