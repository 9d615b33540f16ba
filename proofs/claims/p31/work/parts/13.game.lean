/-! the class's game: k holds the strikes K 0 .. K 3 -/
def GK (k : Nat → Int32) (K : Nat → Nat) : Prop := ∀ i, i < 4 → k i = nI (K i) ∧ K i ≤ 5
def oI : Option Nat → Int32
  | none => -1
  | some a => nI a
def nx1 (np c : Nat) : Nat := if c + 1 < np then c + 1 else 0
def nxF (K : Nat → Nat) (np : Nat) : Nat → Nat → Option Nat
  | 0, _ => none
  | s + 1, c => if K (nx1 np c) < 5 then some (nx1 np c) else nxF K np s (nx1 np c)
theorem nxF_hit {K : Nat → Nat} {np s c c' : Nat} (hs : 0 < s) (e : nx1 np c = c') (h : ¬ 5 ≤ K c') : nxF K np s c = some c' := by
  cases s with
  | zero => omega
  | succ s => unfold nxF; rw [e, if_pos (by omega)]
theorem nxF_go {K : Nat → Nat} {np s s' c c' : Nat} (hs : s = s' + 1) (e : nx1 np c = c') (h : 5 ≤ K c') : nxF K np s c = nxF K np s' c' := by
  subst hs
  show (if K (nx1 np c) < 5 then _ else _) = _
  rw [e, if_neg (by omega)]
theorem nx1_t {np c : Nat} (h : ¬ np ≤ c + 1) : nx1 np c = c + 1 := if_pos (by omega)
theorem nx1_f {np c : Nat} (h : np ≤ c + 1) : nx1 np c = 0 := if_neg (by omega)
def erK (K : Nat → Nat) (j : Nat) : Nat → Nat := fun i => if i = j then K j + 1 else K i
theorem GK.up {k : Nat → Int32} {K : Nat → Nat} {j : Nat} (h : GK k K) (hj : K j < 5) : GK (upd k j (nI (K j + 1))) (erK K j) := by
  intro i hi
  unfold erK
  by_cases e : i = j
  · subst e
    rw [pk_us, if_pos rfl]
    exact ⟨rfl, by omega⟩
  · rw [pk_un e, if_neg e]
    exact h i hi
/-- how many are left -/
def leftN (K : Nat → Nat) (np : Nat) : Nat := fb_ct (fun i => decide (K i < 5)) np
def erM (K : Nat → Nat) (np j : Nat) : Int32 := if leftN (erK K j) np = 1 then -1 else if 5 ≤ erK K j j then oI (nxF (erK K j) np np j) else nI j
def erC (K : Nat → Nat) (np j : Nat) (ch : Int32) : Int32 := if leftN (erK K j) np = 1 then oI (nxF (erK K j) np np j) else ch
theorem so_at {k : Nat → Int32} {np j : Nat} {r : Int32} (hj : j < np) (hp : np ≤ 4) (h : (∃ i : Nat, i < np ∧ nI i = nI j ∧ r = k i) ∨ ((¬ ∃ i : Nat, i < np ∧ nI i = nI j) ∧ r = -1)) : r = k j := by
  rcases h with ⟨i, hi, e, h⟩ | ⟨h, -⟩
  · rw [h, (nI_eq (by omega) (by omega)).mp e]
  · exact absurd ⟨j, hj, rfl⟩ h
theorem bg_step {kc : Nat → Int32} {i : Nat} (h : ∀ j, j < i → kc j = nI 0) : ∀ j, j < i + 1 → upd kc i (nI 0) j = nI 0 := fun j hj => by
  by_cases e : j = i
  · subst e; rw [pk_us]
  · rw [pk_un e]; exact h j (by omega)
abbrev rm_X1_mover : Room := { frames := 0, cells := 0, slots := 0, locals := 0 }
set_option maxHeartbeats 4000000 in
set_option maxRecDepth 100000 in
theorem c_X1_mover (l : Launch) (g : GG) (q u : Nat) (k : Nat → Int32) (np mv lm ch : Int32) (fr : Int64) : Ci l yX1_mover wsX1_mover rm_X1_mover g [.ref (q)] (QW g q u k np mv lm ch fr) (fun r w => w = (QW g q u k np mv lm ch fr) ∧ r = mv) := by
  refine Ci.ofI (cc := cX1_mover) (maxL := 1) (by decide) rfl (Nat.le_of_ble_eq_true rfl) ?_
  intro p e s m args below meth c A Z hx hb hml hts hown hK hA hret H locs ls hP hD hS hl
  have f_19 := hts (.fieldLink RX1 19 "GhostGame$Game" "mover" "I") (by decide +kernel)
  have hi_1 : ∀ w ∈ wsX10, w ∈ wsX1_mover := by decide +kernel
  have hl : lv_has ls 1 [(0, .ref (q))] := hl
  refine lv_aload_n hx hb dX1_mover_0 rfl (lv_at hl 0 rfl) ?_
  refine va_get (D := g.1) (ci := 1) (v := .int (mv)) (C := RX1) (T := TX1) (N := 6) hx hb hts hi_1 hown hK hP 0 rfl rfl 2 (by decide) f_19 (fun _ h9 => h9) rfl dX1_mover_1 ?_
  exact hret (mv) (QW g q u k np mv lm ch fr) _ _ _ _ dX1_mover_4 (⟨rfl, rfl⟩) hP hD hS

abbrev rm_X1_champion : Room := { frames := 0, cells := 0, slots := 0, locals := 0 }
set_option maxHeartbeats 4000000 in
set_option maxRecDepth 100000 in
theorem c_X1_champion (l : Launch) (g : GG) (q u : Nat) (k : Nat → Int32) (np mv lm ch : Int32) (fr : Int64) : Ci l yX1_champion wsX1_champion rm_X1_champion g [.ref (q)] (QW g q u k np mv lm ch fr) (fun r w => w = (QW g q u k np mv lm ch fr) ∧ r = ch) := by
  refine Ci.ofI (cc := cX1_champion) (maxL := 1) (by decide) rfl (Nat.le_of_ble_eq_true rfl) ?_
  intro p e s m args below meth c A Z hx hb hml hts hown hK hA hret H locs ls hP hD hS hl
  have f_25 := hts (.fieldLink RX1 25 "GhostGame$Game" "champion" "I") (by decide +kernel)
  have hi_1 : ∀ w ∈ wsX10, w ∈ wsX1_champion := by decide +kernel
  have hl : lv_has ls 1 [(0, .ref (q))] := hl
  refine lv_aload_n hx hb dX1_champion_0 rfl (lv_at hl 0 rfl) ?_
  refine va_get (D := g.1) (ci := 1) (v := .int (ch)) (C := RX1) (T := TX1) (N := 6) hx hb hts hi_1 hown hK hP 0 rfl rfl 4 (by decide) f_25 (fun _ h9 => h9) rfl dX1_champion_1 ?_
  exact hret (ch) (QW g q u k np mv lm ch fr) _ _ _ _ dX1_champion_4 (⟨rfl, rfl⟩) hP hD hS

abbrev rm_X1_playerCount : Room := { frames := 0, cells := 0, slots := 0, locals := 0 }
set_option maxHeartbeats 4000000 in
set_option maxRecDepth 100000 in
theorem c_X1_playerCount (l : Launch) (g : GG) (q u : Nat) (k : Nat → Int32) (np mv lm ch : Int32) (fr : Int64) : Ci l yX1_playerCount wsX1_playerCount rm_X1_playerCount g [.ref (q)] (QW g q u k np mv lm ch fr) (fun r w => w = (QW g q u k np mv lm ch fr) ∧ r = np) := by
  refine Ci.ofI (cc := cX1_playerCount) (maxL := 1) (by decide) rfl (Nat.le_of_ble_eq_true rfl) ?_
  intro p e s m args below meth c A Z hx hb hml hts hown hK hA hret H locs ls hP hD hS hl
  have f_15 := hts (.fieldLink RX1 15 "GhostGame$Game" "playerCount" "I") (by decide +kernel)
  have hi_1 : ∀ w ∈ wsX10, w ∈ wsX1_playerCount := by decide +kernel
  have hl : lv_has ls 1 [(0, .ref (q))] := hl
  refine lv_aload_n hx hb dX1_playerCount_0 rfl (lv_at hl 0 rfl) ?_
  refine va_get (D := g.1) (ci := 1) (v := .int (np)) (C := RX1) (T := TX1) (N := 6) hx hb hts hi_1 hown hK hP 0 rfl rfl 1 (by decide) f_15 (fun _ h9 => h9) rfl dX1_playerCount_1 ?_
  exact hret (np) (QW g q u k np mv lm ch fr) _ _ _ _ dX1_playerCount_4 (⟨rfl, rfl⟩) hP hD hS

abbrev rm_X1_fragment : Room := { frames := 0, cells := 0, slots := 0, locals := 0 }
set_option maxHeartbeats 4000000 in
set_option maxRecDepth 100000 in
theorem c_X1_fragment (l : Launch) (g : GG) (q u : Nat) (k : Nat → Int32) (np mv lm ch : Int32) (fr : Int64) : Cl l yX1_fragment wsX1_fragment rm_X1_fragment g [.ref (q)] (QW g q u k np mv lm ch fr) (fun r w => w = (QW g q u k np mv lm ch fr) ∧ r = fr) := by
  refine Cl.ofL (cc := cX1_fragment) (maxL := 1) (by decide) rfl (Nat.le_of_ble_eq_true rfl) ?_
  intro p e s m args below meth c A Z hx hb hml hts hown hK hA hret H locs ls hP hD hS hl
  have f_30 := hts (.fieldLink RX1 30 "GhostGame$Game" "fragment" "J") (by decide +kernel)
  have hi_1 : ∀ w ∈ wsX10, w ∈ wsX1_fragment := by decide +kernel
  have hl : lv_has ls 1 [(0, .ref (q))] := hl
  refine lv_aload_n hx hb dX1_fragment_0 rfl (lv_at hl 0 rfl) ?_
  refine va_get (D := g.1) (ci := 1) (v := .long (fr)) (C := RX1) (T := TX1) (N := 6) hx hb hts hi_1 hown hK hP 0 rfl rfl 5 (by decide) f_30 (fun _ h9 => h9) rfl dX1_fragment_1 ?_
  exact hret (fr) (QW g q u k np mv lm ch fr) _ _ _ _ dX1_fragment_4 (⟨rfl, rfl⟩) hP hD hS

abbrev rm_X1_isOn : Room := { frames := 0, cells := 0, slots := 0, locals := 0 }
set_option maxHeartbeats 4000000 in
set_option maxRecDepth 100000 in
theorem c_X1_isOn (l : Launch) (g : GG) (q u : Nat) (k : Nat → Int32) (np mv lm ch : Int32) (fr : Int64) : Ci l yX1_isOn wsX1_isOn rm_X1_isOn g [.ref (q)] (QW g q u k np mv lm ch fr) (fun r w => w = (QW g q u k np mv lm ch fr) ∧ Bv r (¬ mv = -1)) := by
  refine Ci.ofZ (cc := cX1_isOn) (maxL := 1) (by decide) rfl (Nat.le_of_ble_eq_true rfl) ?_
  intro p e s m args below meth c A Z hx hb hml hts hown hK hA hret H locs ls hP hD hS hl
  have f_19 := hts (.fieldLink RX1 19 "GhostGame$Game" "mover" "I") (by decide +kernel)
  have hi_1 : ∀ w ∈ wsX10, w ∈ wsX1_isOn := by decide +kernel
  have hl : lv_has ls 1 [(0, .ref (q))] := hl
  refine lv_aload_n hx hb dX1_isOn_0 rfl (lv_at hl 0 rfl) ?_
  refine va_get (D := g.1) (ci := 1) (v := .int (mv)) (C := RX1) (T := TX1) (N := 6) hx hb hts hi_1 hown hK hP 0 rfl rfl 2 (by decide) f_19 (fun _ h9 => h9) rfl dX1_isOn_1 ?_
  refine lv_iconst (v := -1) hx hb dX1_isOn_4 (by decide) ?_
  refine lv_icmp_eq (tgt := 12) hx hb dX1_isOn_5 (by decide) (fun c_5_1 => ?_) (fun c_5_1 => ?_)
  · skip
    refine lv_iconst (v := nI 0) hx hb dX1_isOn_12 (by decide) ?_
    exact hret (nI (0)) (QW g q u k np mv lm ch fr) _ _ _ _ dX1_isOn_13 (Or.inl rfl) (⟨rfl, Bv.no (fun q9 => q9 c_5_1)⟩) hP hD hS
  · skip
    refine lv_iconst (v := nI 1) hx hb dX1_isOn_8 (by decide) ?_
    refine lv_goto (tgt := 13) hx hb dX1_isOn_9 (by decide) ?_
    exact hret (nI (1)) (QW g q u k np mv lm ch fr) _ _ _ _ dX1_isOn_13 (Or.inr rfl) (⟨rfl, Bv.yes c_5_1⟩) hP hD hS

abbrev rm_X1_begin : Room := { frames := 0, cells := 0, slots := 0, locals := 0 }
set_option maxHeartbeats 4000000 in
set_option maxRecDepth 100000 in
theorem c_X1_begin (l : Launch) (g : GG) (q u : Nat) (k : Nat → Int32) (P0 mv lm ch : Int32) (fr : Int64) (n0 : Nat) : Cv l yX1_begin wsX1_begin rm_X1_begin g [.ref (q), .int (nI (n0))] (QW g q u k P0 mv lm ch fr) (fun w => ∃ k9, GK k9 (fun _ => 0) ∧ w = QW g q u k9 (nI n0) (nI 0) (-1) (-1) (lN 0)) := by
  refine Cv.ofV (cc := cX1_begin) (maxL := 3) (by decide) rfl (Nat.le_of_ble_eq_true rfl) ?_
  intro p e s m args below meth c A Z hx hb hml hts hown hK hA hret H locs ls hP hD hS hl
  have f_9 := hts (.fieldLink RX1 9 "GhostGame$Game" "strikes" "[I") (by decide +kernel)
  have f_15 := hts (.fieldLink RX1 15 "GhostGame$Game" "playerCount" "I") (by decide +kernel)
  have f_19 := hts (.fieldLink RX1 19 "GhostGame$Game" "mover" "I") (by decide +kernel)
  have f_22 := hts (.fieldLink RX1 22 "GhostGame$Game" "lastMover" "I") (by decide +kernel)
  have f_25 := hts (.fieldLink RX1 25 "GhostGame$Game" "champion" "I") (by decide +kernel)
  have f_30 := hts (.fieldLink RX1 30 "GhostGame$Game" "fragment" "J") (by decide +kernel)
  have hi_1 : ∀ w ∈ wsX10, w ∈ wsX1_begin := by decide +kernel
  have hl : lv_has ls 3 [(0, .ref (q)), (1, .int (nI (n0)))] := hl
  refine lv_iconst (v := nI 0) hx hb dX1_begin_0 (by decide) ?_
  refine lv_istore_n (lv' := [(2, .int (nI (0))), (0, .ref (q)), (1, .int (nI (n0)))]) hx hb dX1_begin_1 rfl hl (by decide) rfl (fun ls hl => ?_)
  have L_2 : ∀ (fu : Nat) (i : Nat) (kc : Nat → Int32), 4 - i < fu → (i ≤ 4) → (∀ j, j < i → kc j = nI 0) → ∀ (H : Heap) (locs : List Loc) (ls : Array Slot), va_P g.1 vwCl (QW g q u kc P0 mv lm ch fr) H → va_D A (QW g q u kc P0 mv lm ch fr) → va_S A s.heap H locs → lv_has ls 3 [(0, .ref (q)), (1, .int (nI (n0))), (2, .int (nI (i)))] → W p l e rm_X1_begin s m args below meth c H locs 0 0 Z (F0 m 2 ls []) := by
    intro fu
    induction fu with
    | zero => intro _ _ h0; exact absurd h0 (Nat.not_lt_zero _)
    | succ fu ih_2 =>
      intro i kc hfu hi1 hz H locs ls hP hD hS hl
      refine lv_iload_n hx hb dX1_begin_2 rfl (lv_at hl 2 rfl) ?_
      refine lv_aload_n hx hb dX1_begin_3 rfl (lv_at hl 0 rfl) ?_
      refine va_get (D := g.1) (ci := 1) (v := .ref (u)) (C := RX1) (T := TX1) (N := 6) hx hb hts hi_1 hown hK hP 0 rfl rfl 0 (by decide) f_9 (fun _ h9 => h9) rfl dX1_begin_4 ?_
      refine va_alen (v := nI 4) hx hb hK hP 1 0 rfl rfl rfl dX1_begin_7 ?_
      refine lv_icmp_ge (tgt := 24) hx hb dX1_begin_8 (by decide) (fun c_8_1 => ?_) (fun c_8_1 => ?_)
      · skip
        have n_8_1 : 4 ≤ i := (nI_leI (a := 4) (b := i) (by omega) (by omega)).mp c_8_1
        refine lv_aload_n hx hb dX1_begin_24 rfl (lv_at hl 0 rfl) ?_
        refine lv_iload_n hx hb dX1_begin_25 rfl (lv_at hl 1 rfl) ?_
        refine va_put (D := g.1) (ci := 1) (v := .int (nI (n0))) (ty := .int) (C := RX1) (T := TX1) (N := 6) hx hb hts hi_1 tyX1 tyX1_ok nmX1 hown hK hP hD hS 0 rfl rfl 1 (by decide) f_15 (fun _ h9 => h9) rfl (by decide +kernel) rfl rfl (Nat.le_of_ble_eq_true rfl) dX1_begin_26 (fun H locs hP hD hS => ?_)
        have hP : va_P g.1 vwCl (QW g q u kc (nI n0) mv lm ch fr) H := hP
        have hD : va_D A (QW g q u kc (nI n0) mv lm ch fr) := hD
        refine lv_aload_n hx hb dX1_begin_29 rfl (lv_at hl 0 rfl) ?_
        refine lv_iconst (v := nI 0) hx hb dX1_begin_30 (by decide) ?_
        refine va_put (D := g.1) (ci := 1) (v := .int (nI (0))) (ty := .int) (C := RX1) (T := TX1) (N := 6) hx hb hts hi_1 tyX1 tyX1_ok nmX1 hown hK hP hD hS 0 rfl rfl 2 (by decide) f_19 (fun _ h9 => h9) rfl (by decide +kernel) rfl rfl (Nat.le_of_ble_eq_true rfl) dX1_begin_31 (fun H locs hP hD hS => ?_)
        have hP : va_P g.1 vwCl (QW g q u kc (nI n0) (nI 0) lm ch fr) H := hP
        have hD : va_D A (QW g q u kc (nI n0) (nI 0) lm ch fr) := hD
        refine lv_aload_n hx hb dX1_begin_34 rfl (lv_at hl 0 rfl) ?_
        refine lv_iconst (v := -1) hx hb dX1_begin_35 (by decide) ?_
        refine va_put (D := g.1) (ci := 1) (v := .int (-1)) (ty := .int) (C := RX1) (T := TX1) (N := 6) hx hb hts hi_1 tyX1 tyX1_ok nmX1 hown hK hP hD hS 0 rfl rfl 3 (by decide) f_22 (fun _ h9 => h9) rfl (by decide +kernel) rfl rfl (Nat.le_of_ble_eq_true rfl) dX1_begin_36 (fun H locs hP hD hS => ?_)
        have hP : va_P g.1 vwCl (QW g q u kc (nI n0) (nI 0) (-1) ch fr) H := hP
        have hD : va_D A (QW g q u kc (nI n0) (nI 0) (-1) ch fr) := hD
        refine lv_aload_n hx hb dX1_begin_39 rfl (lv_at hl 0 rfl) ?_
        refine lv_iconst (v := -1) hx hb dX1_begin_40 (by decide) ?_
        refine va_put (D := g.1) (ci := 1) (v := .int (-1)) (ty := .int) (C := RX1) (T := TX1) (N := 6) hx hb hts hi_1 tyX1 tyX1_ok nmX1 hown hK hP hD hS 0 rfl rfl 4 (by decide) f_25 (fun _ h9 => h9) rfl (by decide +kernel) rfl rfl (Nat.le_of_ble_eq_true rfl) dX1_begin_41 (fun H locs hP hD hS => ?_)
        have hP : va_P g.1 vwCl (QW g q u kc (nI n0) (nI 0) (-1) (-1) fr) H := hP
        have hD : va_D A (QW g q u kc (nI n0) (nI 0) (-1) (-1) fr) := hD
        refine lv_aload_n hx hb dX1_begin_44 rfl (lv_at hl 0 rfl) ?_
        refine lv_lconst (v := lN 0) hx hb dX1_begin_45 (by decide) ?_
        refine va_put (D := g.1) (ci := 1) (v := .long (lN (0))) (ty := .long) (C := RX1) (T := TX1) (N := 6) hx hb hts hi_1 tyX1 tyX1_ok nmX1 hown hK hP hD hS 0 rfl rfl 5 (by decide) f_30 (fun _ h9 => h9) rfl (by decide +kernel) rfl rfl (Nat.le_of_ble_eq_true rfl) dX1_begin_46 (fun H locs hP hD hS => ?_)
        have hP : va_P g.1 vwCl (QW g q u kc (nI n0) (nI 0) (-1) (-1) (lN 0)) H := hP
        have hD : va_D A (QW g q u kc (nI n0) (nI 0) (-1) (-1) (lN 0)) := hD
        exact hret (QW g q u kc (nI n0) (nI 0) (-1) (-1) (lN 0)) _ _ _ _ dX1_begin_49 (⟨kc, fun j hj => ⟨hz j (by omega), Nat.zero_le _⟩, rfl⟩) hP hD hS
      · skip
        have n_8_1 : ¬ 4 ≤ i := fun q9 => c_8_1 ((nI_leI (a := 4) (b := i) (by omega) (by omega)).mpr q9)
        refine lv_aload_n hx hb dX1_begin_11 rfl (lv_at hl 0 rfl) ?_
        refine va_get (D := g.1) (ci := 1) (v := .ref (u)) (C := RX1) (T := TX1) (N := 6) hx hb hts hi_1 hown hK hP 0 rfl rfl 0 (by decide) f_9 (fun _ h9 => h9) rfl dX1_begin_12 ?_
        refine lv_iload_n hx hb dX1_begin_15 rfl (lv_at hl 2 rfl) ?_
        refine lv_iconst (v := nI 0) hx hb dX1_begin_16 (by decide) ?_
        refine va_iast (n := 4) (f := kc) hx hb hK hP hD hS 1 0 rfl rfl (vp_in_nI (n := i) (by omega) (by decide)) dX1_begin_17 (fun H locs hP hD hS => ?_)
        rw [nI_clamp (n := i) (by omega)] at hP hD
        have hP : va_P g.1 vwCl (QW g q u (upd kc i (nI (0))) P0 mv lm ch fr) H := hP
        have hD : va_D A (QW g q u (upd kc i (nI (0))) P0 mv lm ch fr) := hD
        refine lv_iinc (v := (nI (i + 1))) (lv' := [(2, .int (nI (i + 1))), (0, .ref (q)), (1, .int (nI (n0)))]) hx hb dX1_begin_18 hl (k := 2) rfl (nI_add (i) 1) (by decide) rfl (fun ls hl => ?_)
        refine lv_goto (tgt := 2) hx hb dX1_begin_21 (by decide) ?_
        exact ih_2 (i + 1) (upd kc i (nI (0))) (by omega) (by omega) (bg_step hz) _ _ _ hP hD hS (lv_sub hl [1, 2, 0] rfl)
  exact L_2 (_ + 1) 0 k (Nat.lt_succ_self _) (by omega) (fun j h => absurd h (Nat.not_lt_zero _)) _ _ _ hP hD hS (lv_sub hl [1, 2, 0] rfl)

abbrev rm_X1_hasPlayer : Room := { frames := 0, cells := 0, slots := 0, locals := 0 }
set_option maxHeartbeats 4000000 in
set_option maxRecDepth 100000 in
theorem c_X1_hasPlayer (l : Launch) (g : GG) (q u : Nat) (k : Nat → Int32) (np : Nat) (mv lm ch : Int32) (fr : Int64) (hp : np ≤ 4) (x : Int32) : Ci l yX1_hasPlayer wsX1_hasPlayer rm_X1_hasPlayer g [.ref (q), .int (x)] (QW g q u k (nI np) mv lm ch fr) (fun r w => w = (QW g q u k (nI np) mv lm ch fr) ∧ Bv r (∃ j : Nat, j < np ∧ nI j = x)) := by
  refine Ci.ofZ (cc := cX1_hasPlayer) (maxL := 2) (by decide) rfl (Nat.le_of_ble_eq_true rfl) ?_
  intro p e s m args below meth c A Z hx hb hml hts hown hK hA hret H locs ls hP hD hS hl
  have f_9 := hts (.fieldLink RX1 9 "GhostGame$Game" "strikes" "[I") (by decide +kernel)
  have f_15 := hts (.fieldLink RX1 15 "GhostGame$Game" "playerCount" "I") (by decide +kernel)
  have hi_1 : ∀ w ∈ wsX10, w ∈ wsX1_hasPlayer := by decide +kernel
  have hl : lv_has ls 2 [(0, .ref (q)), (1, .int (x))] := hl
  refine lv_iload_n hx hb dX1_hasPlayer_0 rfl (lv_at hl 1 rfl) ?_
  refine lv_if_lt (tgt := 25) hx hb dX1_hasPlayer_1 (by decide) (fun c_1_1 => ?_) (fun c_1_1 => ?_)
  · skip
    have nj : ¬ ∃ j : Nat, j < np ∧ nI j = x := by
      rintro ⟨j, hj, rfl⟩
      exact nI_pos (by omega) c_1_1
    refine lv_iconst (v := nI 0) hx hb dX1_hasPlayer_25 (by decide) ?_
    exact hret (nI (0)) (QW g q u k (nI np) mv lm ch fr) _ _ _ _ dX1_hasPlayer_26 (Or.inl rfl) (⟨rfl, Bv.no nj⟩) hP hD hS
  · skip
    refine lv_iload_n hx hb dX1_hasPlayer_4 rfl (lv_at hl 1 rfl) ?_
    refine lv_aload_n hx hb dX1_hasPlayer_5 rfl (lv_at hl 0 rfl) ?_
    refine va_get (D := g.1) (ci := 1) (v := .int (nI (np))) (C := RX1) (T := TX1) (N := 6) hx hb hts hi_1 hown hK hP 0 rfl rfl 1 (by decide) f_15 (fun _ h9 => h9) rfl dX1_hasPlayer_6 ?_
    refine lv_icmp_ge (tgt := 25) hx hb dX1_hasPlayer_9 (by decide) (fun c_9_2 => ?_) (fun c_9_2 => ?_)
    · skip
      have nj : ¬ ∃ j : Nat, j < np ∧ nI j = x := by
        rintro ⟨j, hj, rfl⟩
        have := (nI_leI (by omega) (by omega)).mp c_9_2
        omega
      refine lv_iconst (v := nI 0) hx hb dX1_hasPlayer_25 (by decide) ?_
      exact hret (nI (0)) (QW g q u k (nI np) mv lm ch fr) _ _ _ _ dX1_hasPlayer_26 (Or.inl rfl) (⟨rfl, Bv.no nj⟩) hP hD hS
    · skip
      refine lv_iload_n hx hb dX1_hasPlayer_12 rfl (lv_at hl 1 rfl) ?_
      refine lv_aload_n hx hb dX1_hasPlayer_13 rfl (lv_at hl 0 rfl) ?_
      refine va_get (D := g.1) (ci := 1) (v := .ref (u)) (C := RX1) (T := TX1) (N := 6) hx hb hts hi_1 hown hK hP 0 rfl rfl 0 (by decide) f_9 (fun _ h9 => h9) rfl dX1_hasPlayer_14 ?_
      refine va_alen (v := nI 4) hx hb hK hP 1 0 rfl rfl rfl dX1_hasPlayer_17 ?_
      refine lv_icmp_ge (tgt := 25) hx hb dX1_hasPlayer_18 (by decide) (fun c_18_3 => ?_) (fun c_18_3 => ?_)
      · skip
        have nj : ¬ ∃ j : Nat, j < np ∧ nI j = x := by
          rintro ⟨j, hj, rfl⟩
          have := (nI_leI (by omega) (by omega)).mp c_18_3
          omega
        refine lv_iconst (v := nI 0) hx hb dX1_hasPlayer_25 (by decide) ?_
        exact hret (nI (0)) (QW g q u k (nI np) mv lm ch fr) _ _ _ _ dX1_hasPlayer_26 (Or.inl rfl) (⟨rfl, Bv.no nj⟩) hP hD hS
      · skip
        have nj : ∃ j : Nat, j < np ∧ nI j = x := by
          rcases pk_ix x (n := np) (by omega) with h | h | ⟨j, h1, h2⟩
          · exact absurd h c_1_1
          · exact absurd h c_9_2
          · exact ⟨j, h1, h2.symm⟩
        refine lv_iconst (v := nI 1) hx hb dX1_hasPlayer_21 (by decide) ?_
        refine lv_goto (tgt := 26) hx hb dX1_hasPlayer_22 (by decide) ?_
        exact hret (nI (1)) (QW g q u k (nI np) mv lm ch fr) _ _ _ _ dX1_hasPlayer_26 (Or.inr rfl) (⟨rfl, Bv.yes nj⟩) hP hD hS

abbrev rm_X1_strikesOf : Room := { frames := 1, cells := 0, slots := 0, locals := 21 }
set_option maxHeartbeats 4000000 in
set_option maxRecDepth 100000 in
theorem c_X1_strikesOf (l : Launch) (g : GG) (q u : Nat) (k : Nat → Int32) (np : Nat) (mv lm ch : Int32) (fr : Int64) (hp : np ≤ 4) (x : Int32) : Ci l yX1_strikesOf wsX1_strikesOf rm_X1_strikesOf g [.ref (q), .int (x)] (QW g q u k (nI np) mv lm ch fr) (fun r w => w = (QW g q u k (nI np) mv lm ch fr) ∧ ((∃ j : Nat, j < np ∧ nI j = x ∧ r = k j) ∨ ((¬ ∃ j : Nat, j < np ∧ nI j = x) ∧ r = -1))) := by
  refine Ci.ofI (cc := cX1_strikesOf) (maxL := 2) (by decide) rfl (Nat.le_of_ble_eq_true rfl) ?_
  intro p e s m args below meth c A Z hx hb hml hts hown hK hA hret H locs ls hP hD hS hl
  have f_9 := hts (.fieldLink RX1 9 "GhostGame$Game" "strikes" "[I") (by decide +kernel)
  have hi_1 : ∀ w ∈ wsX10, w ∈ wsX1_strikesOf := by decide +kernel
  have hl : lv_has ls 2 [(0, .ref (q)), (1, .int (x))] := hl
  refine lv_aload_n hx hb dX1_strikesOf_0 rfl (lv_at hl 0 rfl) ?_
  refine lv_iload_n hx hb dX1_strikesOf_1 rfl (lv_at hl 1 rfl) ?_
  refine call_iVW (As := [.int (x)]) (rest := []) ⟨hx, hb, hml, hown, hts⟩ (c_X1_hasPlayer l g q u k np mv lm ch fr hp x) (cwV 1 hts gX1_strikesOf_X1_hasPlayer rfl rfl rfl (by decide +kernel) ⟨Nat.le_of_ble_eq_true rfl, Nat.le_of_ble_eq_true rfl⟩) hP hK hD hS hA 0 rfl rfl rfl rfl hl.1 rfl (Nat.le_of_ble_eq_true rfl) dX1_strikesOf_2 ⟨Nat.le_refl _, Nat.le_refl _⟩ (fun r_2 w H locs h_2 hP hD hS => ?_)
  obtain ⟨rfl, h_2⟩ := h_2
  have hP : va_P g.1 vwCl (QW g q u k (nI np) mv lm ch fr) H := hP
  have hD : va_D A (QW g q u k (nI np) mv lm ch fr) := hD
  refine lv_if_eq (tgt := 17) hx hb dX1_strikesOf_5 (by decide) (fun c_5_1 => ?_) (fun c_5_1 => ?_)
  · skip
    have n_5_1 := Bv.f h_2 c_5_1
    refine lv_iconst (v := -1) hx hb dX1_strikesOf_17 (by decide) ?_
    exact hret (-1) (QW g q u k (nI np) mv lm ch fr) _ _ _ _ dX1_strikesOf_18 (⟨rfl, Or.inr ⟨n_5_1, rfl⟩⟩) hP hD hS
  · skip
    have n_5_1 := Bv.t h_2 c_5_1
    obtain ⟨j, hj, rfl⟩ := n_5_1
    refine lv_aload_n hx hb dX1_strikesOf_8 rfl (lv_at hl 0 rfl) ?_
    refine va_get (D := g.1) (ci := 1) (v := .ref (u)) (C := RX1) (T := TX1) (N := 6) hx hb hts hi_1 hown hK hP 0 rfl rfl 0 (by decide) f_9 (fun _ h9 => h9) rfl dX1_strikesOf_9 ?_
    refine lv_iload_n hx hb dX1_strikesOf_12 rfl (lv_at hl 1 rfl) ?_
    refine va_iald (n := 4) (f := k) hx hb hK hP 1 0 rfl rfl (vp_in_nI (n := j) (by omega) (by decide)) dX1_strikesOf_13 ?_
    refine tp_i (congrArg k (nI_clamp (n := j) (by omega))) ?_
    refine lv_goto (tgt := 18) hx hb dX1_strikesOf_14 (by decide) ?_
    exact hret (k j) (QW g q u k (nI np) mv lm ch fr) _ _ _ _ dX1_strikesOf_18 (⟨rfl, Or.inl ⟨j, hj, rfl, rfl⟩⟩) hP hD hS

abbrev rm_X1_isOut : Room := { frames := 2, cells := 0, slots := 0, locals := 42 }
set_option maxHeartbeats 4000000 in
set_option maxRecDepth 100000 in
theorem c_X1_isOut (l : Launch) (g : GG) (q u : Nat) (k : Nat → Int32) (K : Nat → Nat) (np : Nat) (mv lm ch : Int32) (fr : Int64) (hk : GK k K) (hp : np ≤ 4) (j : Nat) (hj : j < np) : Ci l yX1_isOut wsX1_isOut rm_X1_isOut g [.ref (q), .int (nI (j))] (QW g q u k (nI np) mv lm ch fr) (fun r w => w = (QW g q u k (nI np) mv lm ch fr) ∧ Bv r (5 ≤ K j)) := by
  refine Ci.ofZ (cc := cX1_isOut) (maxL := 2) (by decide) rfl (Nat.le_of_ble_eq_true rfl) ?_
  intro p e s m args below meth c A Z hx hb hml hts hown hK hA hret H locs ls hP hD hS hl
  have hl : lv_has ls 2 [(0, .ref (q)), (1, .int (nI (j)))] := hl
  refine lv_aload_n hx hb dX1_isOut_0 rfl (lv_at hl 0 rfl) ?_
  refine lv_iload_n hx hb dX1_isOut_1 rfl (lv_at hl 1 rfl) ?_
  refine call_iVW (As := [.int (nI (j))]) (rest := []) ⟨hx, hb, hml, hown, hts⟩ (c_X1_strikesOf l g q u k np mv lm ch fr hp (nI j)) (cwV 1 hts gX1_isOut_X1_strikesOf rfl rfl rfl (by decide +kernel) ⟨Nat.le_of_ble_eq_true rfl, Nat.le_of_ble_eq_true rfl⟩) hP hK hD hS hA 0 rfl rfl rfl rfl hl.1 rfl (Nat.le_of_ble_eq_true rfl) dX1_isOut_2 ⟨Nat.le_refl _, Nat.le_refl _⟩ (fun r_2 w H locs h_2 hP hD hS => ?_)
  obtain ⟨rfl, h_2⟩ := h_2
  replace h_2 := (so_at hj hp h_2).trans (hk j (by omega)).1
  have hK5 := (hk j (by omega)).2
  subst h_2
  have hP : va_P g.1 vwCl (QW g q u k (nI np) mv lm ch fr) H := hP
  have hD : va_D A (QW g q u k (nI np) mv lm ch fr) := hD
  refine lv_iconst (v := nI 5) hx hb dX1_isOut_5 (by decide) ?_
  refine lv_icmp_lt (tgt := 13) hx hb dX1_isOut_6 (by decide) (fun c_6_1 => ?_) (fun c_6_1 => ?_)
  · skip
    have n_6_1 : K j < 5 := (nI_ltI (a := K j) (b := 5) (by omega) (by omega)).mp c_6_1
    refine lv_iconst (v := nI 0) hx hb dX1_isOut_13 (by decide) ?_
    exact hret (nI (0)) (QW g q u k (nI np) mv lm ch fr) _ _ _ _ dX1_isOut_14 (Or.inl rfl) (⟨rfl, Bv.no (by omega)⟩) hP hD hS
  · skip
    have n_6_1 : ¬ K j < 5 := fun q9 => c_6_1 ((nI_ltI (a := K j) (b := 5) (by omega) (by omega)).mpr q9)
    refine lv_iconst (v := nI 1) hx hb dX1_isOut_9 (by decide) ?_
    refine lv_goto (tgt := 14) hx hb dX1_isOut_10 (by decide) ?_
    exact hret (nI (1)) (QW g q u k (nI np) mv lm ch fr) _ _ _ _ dX1_isOut_14 (Or.inr rfl) (⟨rfl, Bv.yes (by omega)⟩) hP hD hS

abbrev rm_X1_playersLeft : Room := { frames := 3, cells := 0, slots := 0, locals := 63 }
set_option maxHeartbeats 4000000 in
set_option maxRecDepth 100000 in
theorem c_X1_playersLeft (l : Launch) (g : GG) (q u : Nat) (k : Nat → Int32) (K : Nat → Nat) (np : Nat) (mv lm ch : Int32) (fr : Int64) (hk : GK k K) (hp : np ≤ 4) : Ci l yX1_playersLeft wsX1_playersLeft rm_X1_playersLeft g [.ref (q)] (QW g q u k (nI np) mv lm ch fr) (fun r w => w = (QW g q u k (nI np) mv lm ch fr) ∧ r = nI (leftN K np)) := by
  refine Ci.ofI (cc := cX1_playersLeft) (maxL := 3) (by decide) rfl (Nat.le_of_ble_eq_true rfl) ?_
  intro p e s m args below meth c A Z hx hb hml hts hown hK hA hret H locs ls hP hD hS hl
  have f_15 := hts (.fieldLink RX1 15 "GhostGame$Game" "playerCount" "I") (by decide +kernel)
  have hi_1 : ∀ w ∈ wsX10, w ∈ wsX1_playersLeft := by decide +kernel
  have hl : lv_has ls 3 [(0, .ref (q))] := hl
  refine lv_iconst (v := nI 0) hx hb dX1_playersLeft_0 (by decide) ?_
  refine lv_istore_n (lv' := [(1, .int (nI (0))), (0, .ref (q))]) hx hb dX1_playersLeft_1 rfl hl (by decide) rfl (fun ls hl => ?_)
  refine lv_iconst (v := nI 0) hx hb dX1_playersLeft_2 (by decide) ?_
  refine lv_istore_n (lv' := [(2, .int (nI (0))), (1, .int (nI (0))), (0, .ref (q))]) hx hb dX1_playersLeft_3 rfl hl (by decide) rfl (fun ls hl => ?_)
  have L_4 : ∀ (fu : Nat) (i c0 : Nat), np - i < fu → (i ≤ np) → (c0 = leftN K i) → ∀ (H : Heap) (locs : List Loc) (ls : Array Slot), va_P g.1 vwCl (QW g q u k (nI np) mv lm ch fr) H → va_D A (QW g q u k (nI np) mv lm ch fr) → va_S A s.heap H locs → lv_has ls 3 [(0, .ref (q)), (1, .int (nI (c0))), (2, .int (nI (i)))] → W p l e rm_X1_playersLeft s m args below meth c H locs 0 0 Z (F0 m 4 ls []) := by
    intro fu
    induction fu with
    | zero => intro _ _ h0; exact absurd h0 (Nat.not_lt_zero _)
    | succ fu ih_4 =>
      intro i c0 hfu hi1 hc1 H locs ls hP hD hS hl
      refine lv_iload_n hx hb dX1_playersLeft_4 rfl (lv_at hl 2 rfl) ?_
      refine lv_aload_n hx hb dX1_playersLeft_5 rfl (lv_at hl 0 rfl) ?_
      refine va_get (D := g.1) (ci := 1) (v := .int (nI (np))) (C := RX1) (T := TX1) (N := 6) hx hb hts hi_1 hown hK hP 0 rfl rfl 1 (by decide) f_15 (fun _ h9 => h9) rfl dX1_playersLeft_6 ?_
      refine lv_icmp_ge (tgt := 29) hx hb dX1_playersLeft_9 (by decide) (fun c_9_1 => ?_) (fun c_9_1 => ?_)
      · skip
        have n_9_1 : np ≤ i := (nI_leI (a := np) (b := i) (by omega) (by omega)).mp c_9_1
        refine lv_iload_n hx hb dX1_playersLeft_29 rfl (lv_at hl 1 rfl) ?_
        exact hret (nI (c0)) (QW g q u k (nI np) mv lm ch fr) _ _ _ _ dX1_playersLeft_30 (⟨rfl, by rw [hc1, show i = np by omega]⟩) hP hD hS
      · skip
        have n_9_1 : ¬ np ≤ i := fun q9 => c_9_1 ((nI_leI (a := np) (b := i) (by omega) (by omega)).mpr q9)
        refine lv_aload_n hx hb dX1_playersLeft_12 rfl (lv_at hl 0 rfl) ?_
        refine lv_iload_n hx hb dX1_playersLeft_13 rfl (lv_at hl 2 rfl) ?_
        refine call_iVW (As := [.int (nI (i))]) (rest := []) ⟨hx, hb, hml, hown, hts⟩ (c_X1_isOut l g q u k K np mv lm ch fr hk hp i (by omega)) (cwV 1 hts gX1_playersLeft_X1_isOut rfl rfl rfl (by decide +kernel) ⟨Nat.le_of_ble_eq_true rfl, Nat.le_of_ble_eq_true rfl⟩) hP hK hD hS hA 0 rfl rfl rfl rfl hl.1 rfl (Nat.le_of_ble_eq_true rfl) dX1_playersLeft_14 ⟨Nat.le_refl _, Nat.le_refl _⟩ (fun r_14 w H locs h_14 hP hD hS => ?_)
        obtain ⟨rfl, h_14⟩ := h_14
        have hP : va_P g.1 vwCl (QW g q u k (nI np) mv lm ch fr) H := hP
        have hD : va_D A (QW g q u k (nI np) mv lm ch fr) := hD
        refine lv_if_ne (tgt := 23) hx hb dX1_playersLeft_17 (by decide) (fun c_17_2 => ?_) (fun c_17_2 => ?_)
        · skip
          have n_17_2 := Bv.t h_14 c_17_2
          refine lv_iinc (v := (nI (i + 1))) (lv' := [(2, .int (nI (i + 1))), (0, .ref (q)), (1, .int (nI (c0)))]) hx hb dX1_playersLeft_23 hl (k := 2) rfl (nI_add (i) 1) (by decide) rfl (fun ls hl => ?_)
          refine lv_goto (tgt := 4) hx hb dX1_playersLeft_26 (by decide) ?_
          exact ih_4 (i + 1) c0 (by omega) (by omega) (ct_f hc1 (decide_eq_false (by omega))) _ _ _ hP hD hS (lv_sub hl [1, 2, 0] rfl)
        · skip
          have n_17_2 := Bv.f h_14 c_17_2
          refine lv_iinc (v := (nI (c0 + 1))) (lv' := [(1, .int (nI (c0 + 1))), (0, .ref (q)), (2, .int (nI (i)))]) hx hb dX1_playersLeft_20 hl (k := 1) rfl (nI_add (c0) 1) (by decide) rfl (fun ls hl => ?_)
          refine lv_iinc (v := (nI (i + 1))) (lv' := [(2, .int (nI (i + 1))), (1, .int (nI (c0 + 1))), (0, .ref (q))]) hx hb dX1_playersLeft_23 hl (k := 2) rfl (nI_add (i) 1) (by decide) rfl (fun ls hl => ?_)
          refine lv_goto (tgt := 4) hx hb dX1_playersLeft_26 (by decide) ?_
          exact ih_4 (i + 1) (c0 + 1) (by omega) (by omega) (ct_t hc1 (decide_eq_true (by omega))) _ _ _ hP hD hS (lv_sub hl [2, 1, 0] rfl)
  exact L_4 (_ + 1) 0 0 (Nat.lt_succ_self _) (Nat.zero_le _) (rfl) _ _ _ hP hD hS (lv_sub hl [2, 1, 0] rfl)

abbrev rm_X1_nextBehind : Room := { frames := 3, cells := 0, slots := 0, locals := 63 }
set_option maxHeartbeats 4000000 in
set_option maxRecDepth 100000 in
theorem c_X1_nextBehind (l : Launch) (g : GG) (q u : Nat) (k : Nat → Int32) (K : Nat → Nat) (np : Nat) (mv lm ch : Int32) (fr : Int64) (hk : GK k K) (hp : np ≤ 4) (j : Nat) (hj : j < np) : Ci l yX1_nextBehind wsX1_nextBehind rm_X1_nextBehind g [.ref (q), .int (nI (j))] (QW g q u k (nI np) mv lm ch fr) (fun r w => w = (QW g q u k (nI np) mv lm ch fr) ∧ r = oI (nxF K np np j)) := by
  refine Ci.ofI (cc := cX1_nextBehind) (maxL := 4) (by decide) rfl (Nat.le_of_ble_eq_true rfl) ?_
  intro p e s m args below meth c A Z hx hb hml hts hown hK hA hret H locs ls hP hD hS hl
  have f_15 := hts (.fieldLink RX1 15 "GhostGame$Game" "playerCount" "I") (by decide +kernel)
  have hi_1 : ∀ w ∈ wsX10, w ∈ wsX1_nextBehind := by decide +kernel
  have hl : lv_has ls 4 [(0, .ref (q)), (1, .int (nI (j)))] := hl
  refine lv_iload_n hx hb dX1_nextBehind_0 rfl (lv_at hl 1 rfl) ?_
  refine lv_istore_n (lv' := [(2, .int (nI (j))), (0, .ref (q)), (1, .int (nI (j)))]) hx hb dX1_nextBehind_1 rfl hl (by decide) rfl (fun ls hl => ?_)
  refine lv_iconst (v := nI 0) hx hb dX1_nextBehind_2 (by decide) ?_
  refine lv_istore_n (lv' := [(3, .int (nI (0))), (2, .int (nI (j))), (0, .ref (q)), (1, .int (nI (j)))]) hx hb dX1_nextBehind_3 rfl hl (by decide) rfl (fun ls hl => ?_)
  have L_4 : ∀ (fu : Nat) (t c0 : Nat), np - t < fu → (t ≤ np) → (c0 < np) → (nxF K np (np - t) c0 = nxF K np np j) → ∀ (H : Heap) (locs : List Loc) (ls : Array Slot), va_P g.1 vwCl (QW g q u k (nI np) mv lm ch fr) H → va_D A (QW g q u k (nI np) mv lm ch fr) → va_S A s.heap H locs → lv_has ls 4 [(0, .ref (q)), (2, .int (nI (c0))), (3, .int (nI (t)))] → W p l e rm_X1_nextBehind s m args below meth c H locs 0 0 Z (F0 m 4 ls []) := by
    intro fu
    induction fu with
    | zero => intro _ _ h0; exact absurd h0 (Nat.not_lt_zero _)
    | succ fu ih_4 =>
      intro t c0 hfu ht1 hc1 hn H locs ls hP hD hS hl
      refine lv_iload_n hx hb dX1_nextBehind_4 rfl (lv_at hl 2 rfl) ?_
      refine lv_aload_n hx hb dX1_nextBehind_5 rfl (lv_at hl 0 rfl) ?_
      refine va_get (D := g.1) (ci := 1) (v := .int (nI (np))) (C := RX1) (T := TX1) (N := 6) hx hb hts hi_1 hown hK hP 0 rfl rfl 1 (by decide) f_15 (fun _ h9 => h9) rfl dX1_nextBehind_6 ?_
      refine lv_icmp_ge (tgt := 46) hx hb dX1_nextBehind_9 (by decide) (fun c_9_1 => ?_) (fun c_9_1 => ?_)
      · skip
        have n_9_1 : np ≤ t := (nI_leI (a := np) (b := t) (by omega) (by omega)).mp c_9_1
        refine lv_iconst (v := -1) hx hb dX1_nextBehind_46 (by decide) ?_
        exact hret (-1) (QW g q u k (nI np) mv lm ch fr) _ _ _ _ dX1_nextBehind_47 (⟨rfl, by rw [← hn, show np - t = 0 by omega]; rfl⟩) hP hD hS
      · skip
        have n_9_1 : ¬ np ≤ t := fun q9 => c_9_1 ((nI_leI (a := np) (b := t) (by omega) (by omega)).mpr q9)
        refine lv_iload_n hx hb dX1_nextBehind_12 rfl (lv_at hl 1 rfl) ?_
        refine lv_iconst (v := nI 1) hx hb dX1_nextBehind_13 (by decide) ?_
        refine lv_iadd hx hb dX1_nextBehind_14 ?_
        refine tp_i (nI_add c0 1) ?_
        refine lv_aload_n hx hb dX1_nextBehind_15 rfl (lv_at hl 0 rfl) ?_
        refine va_get (D := g.1) (ci := 1) (v := .int (nI (np))) (C := RX1) (T := TX1) (N := 6) hx hb hts hi_1 hown hK hP 0 rfl rfl 1 (by decide) f_15 (fun _ h9 => h9) rfl dX1_nextBehind_16 ?_
        refine lv_icmp_ge (tgt := 28) hx hb dX1_nextBehind_19 (by decide) (fun c_19_2 => ?_) (fun c_19_2 => ?_)
        · skip
          have n_19_2 : np ≤ c0 + 1 := (nI_leI (a := np) (b := c0 + 1) (by omega) (by omega)).mp c_19_2
          refine lv_iconst (v := nI 0) hx hb dX1_nextBehind_28 (by decide) ?_
          refine lv_istore_n (lv' := [(2, .int (nI (0))), (0, .ref (q)), (3, .int (nI (t)))]) hx hb dX1_nextBehind_29 rfl hl (by decide) rfl (fun ls hl => ?_)
          refine lv_aload_n hx hb dX1_nextBehind_30 rfl (lv_at hl 1 rfl) ?_
          refine lv_iload_n hx hb dX1_nextBehind_31 rfl (lv_at hl 0 rfl) ?_
          refine call_iVW (As := [.int (nI (0))]) (rest := []) ⟨hx, hb, hml, hown, hts⟩ (c_X1_isOut l g q u k K np mv lm ch fr hk hp 0 (by omega)) (cwV 1 hts gX1_nextBehind_X1_isOut rfl rfl rfl (by decide +kernel) ⟨Nat.le_of_ble_eq_true rfl, Nat.le_of_ble_eq_true rfl⟩) hP hK hD hS hA 0 rfl rfl rfl rfl hl.1 rfl (Nat.le_of_ble_eq_true rfl) dX1_nextBehind_32 ⟨Nat.le_refl _, Nat.le_refl _⟩ (fun r_32 w H locs h_32 hP hD hS => ?_)
          obtain ⟨rfl, h_32⟩ := h_32
          have hP : va_P g.1 vwCl (QW g q u k (nI np) mv lm ch fr) H := hP
          have hD : va_D A (QW g q u k (nI np) mv lm ch fr) := hD
          refine lv_if_ne (tgt := 40) hx hb dX1_nextBehind_35 (by decide) (fun c_35_3 => ?_) (fun c_35_3 => ?_)
          · skip
            have n_35_3 := Bv.t h_32 c_35_3
            refine lv_iinc (v := (nI (t + 1))) (lv' := [(3, .int (nI (t + 1))), (2, .int (nI (0))), (0, .ref (q))]) hx hb dX1_nextBehind_40 hl (k := 2) rfl (nI_add (t) 1) (by decide) rfl (fun ls hl => ?_)
            refine lv_goto (tgt := 4) hx hb dX1_nextBehind_43 (by decide) ?_
            exact ih_4 (t + 1) 0 (by omega) (by omega) (by omega) (by rw [← hn]; exact (nxF_go (by omega) (nx1_f n_19_2) n_35_3).symm) _ _ _ hP hD hS (lv_sub hl [2, 1, 0] rfl)
          · skip
            have n_35_3 := Bv.f h_32 c_35_3
            refine lv_iload_n hx hb dX1_nextBehind_38 rfl (lv_at hl 0 rfl) ?_
            exact hret (nI (0)) (QW g q u k (nI np) mv lm ch fr) _ _ _ _ dX1_nextBehind_39 (⟨rfl, by rw [← hn, nxF_hit (by omega) (nx1_f n_19_2) n_35_3]; rfl⟩) hP hD hS
        · skip
          have n_19_2 : ¬ np ≤ c0 + 1 := fun q9 => c_19_2 ((nI_leI (a := np) (b := c0 + 1) (by omega) (by omega)).mpr q9)
          refine lv_iload_n hx hb dX1_nextBehind_22 rfl (lv_at hl 1 rfl) ?_
          refine lv_iconst (v := nI 1) hx hb dX1_nextBehind_23 (by decide) ?_
          refine lv_iadd hx hb dX1_nextBehind_24 ?_
          refine tp_i (nI_add c0 1) ?_
          refine lv_goto (tgt := 29) hx hb dX1_nextBehind_25 (by decide) ?_
          refine lv_istore_n (lv' := [(2, .int (nI (c0 + 1))), (0, .ref (q)), (3, .int (nI (t)))]) hx hb dX1_nextBehind_29 rfl hl (by decide) rfl (fun ls hl => ?_)
          refine lv_aload_n hx hb dX1_nextBehind_30 rfl (lv_at hl 1 rfl) ?_
          refine lv_iload_n hx hb dX1_nextBehind_31 rfl (lv_at hl 0 rfl) ?_
          refine call_iVW (As := [.int (nI (c0 + 1))]) (rest := []) ⟨hx, hb, hml, hown, hts⟩ (c_X1_isOut l g q u k K np mv lm ch fr hk hp (c0 + 1) (by omega)) (cwV 1 hts gX1_nextBehind_X1_isOut rfl rfl rfl (by decide +kernel) ⟨Nat.le_of_ble_eq_true rfl, Nat.le_of_ble_eq_true rfl⟩) hP hK hD hS hA 0 rfl rfl rfl rfl hl.1 rfl (Nat.le_of_ble_eq_true rfl) dX1_nextBehind_32 ⟨Nat.le_refl _, Nat.le_refl _⟩ (fun r_32 w H locs h_32 hP hD hS => ?_)
          obtain ⟨rfl, h_32⟩ := h_32
          have hP : va_P g.1 vwCl (QW g q u k (nI np) mv lm ch fr) H := hP
          have hD : va_D A (QW g q u k (nI np) mv lm ch fr) := hD
          refine lv_if_ne (tgt := 40) hx hb dX1_nextBehind_35 (by decide) (fun c_35_4 => ?_) (fun c_35_4 => ?_)
          · skip
            have n_35_4 := Bv.t h_32 c_35_4
            refine lv_iinc (v := (nI (t + 1))) (lv' := [(3, .int (nI (t + 1))), (2, .int (nI (c0 + 1))), (0, .ref (q))]) hx hb dX1_nextBehind_40 hl (k := 2) rfl (nI_add (t) 1) (by decide) rfl (fun ls hl => ?_)
            refine lv_goto (tgt := 4) hx hb dX1_nextBehind_43 (by decide) ?_
            exact ih_4 (t + 1) (c0 + 1) (by omega) (by omega) (by omega) (by rw [← hn]; exact (nxF_go (by omega) (nx1_t n_19_2) n_35_4).symm) _ _ _ hP hD hS (lv_sub hl [2, 1, 0] rfl)
          · skip
            have n_35_4 := Bv.f h_32 c_35_4
            refine lv_iload_n hx hb dX1_nextBehind_38 rfl (lv_at hl 0 rfl) ?_
            exact hret (nI (c0 + 1)) (QW g q u k (nI np) mv lm ch fr) _ _ _ _ dX1_nextBehind_39 (⟨rfl, by rw [← hn, nxF_hit (by omega) (nx1_t n_19_2) n_35_4]; rfl⟩) hP hD hS
  exact L_4 (_ + 1) 0 j (Nat.lt_succ_self _) (Nat.zero_le _) (hj) (rfl) _ _ _ hP hD hS (lv_sub hl [2, 1, 0] rfl)

abbrev rm_X1_endRound : Room := { frames := 4, cells := 0, slots := 0, locals := 86 }
set_option maxHeartbeats 4000000 in
set_option maxRecDepth 100000 in
theorem c_X1_endRound (l : Launch) (g : GG) (q u : Nat) (k : Nat → Int32) (K : Nat → Nat) (np : Nat) (mv lm ch : Int32) (fr : Int64) (hk : GK k K) (hp : np ≤ 4) (j : Nat) (hj : j < np) (hKj : K j < 5) : Ci l yX1_endRound wsX1_endRound rm_X1_endRound g [.ref (q), .int (nI (j))] (QW g q u k (nI np) mv lm ch fr) (fun r w => r = nI j ∧ w = QW g q u (upd k j (nI (K j + 1))) (nI np) (erM K np j) lm (erC K np j ch) (lN 0)) := by
  refine Ci.ofI (cc := cX1_endRound) (maxL := 2) (by decide) rfl (Nat.le_of_ble_eq_true rfl) ?_
  intro p e s m args below meth c A Z hx hb hml hts hown hK hA hret H locs ls hP hD hS hl
  have f_9 := hts (.fieldLink RX1 9 "GhostGame$Game" "strikes" "[I") (by decide +kernel)
  have f_19 := hts (.fieldLink RX1 19 "GhostGame$Game" "mover" "I") (by decide +kernel)
  have f_25 := hts (.fieldLink RX1 25 "GhostGame$Game" "champion" "I") (by decide +kernel)
  have f_30 := hts (.fieldLink RX1 30 "GhostGame$Game" "fragment" "J") (by decide +kernel)
  have hi_1 : ∀ w ∈ wsX10, w ∈ wsX1_endRound := by decide +kernel
  have hl : lv_has ls 2 [(0, .ref (q)), (1, .int (nI (j)))] := hl
  have hk2 := hk.up hKj
  have hKb : leftN (erK K j) np ≤ np := fb_ct_le _ _
  refine lv_aload_n hx hb dX1_endRound_0 rfl (lv_at hl 0 rfl) ?_
  refine lv_iload_n hx hb dX1_endRound_1 rfl (lv_at hl 1 rfl) ?_
  refine call_iVW (As := [.int (nI (j))]) (rest := []) ⟨hx, hb, hml, hown, hts⟩ (c_X1_hasPlayer l g q u k np mv lm ch fr hp (nI j)) (cwV 1 hts gX1_endRound_X1_hasPlayer rfl rfl rfl (by decide +kernel) ⟨Nat.le_of_ble_eq_true rfl, Nat.le_of_ble_eq_true rfl⟩) hP hK hD hS hA 0 rfl rfl rfl rfl hl.1 rfl (Nat.le_of_ble_eq_true rfl) dX1_endRound_2 ⟨Nat.le_refl _, Nat.le_refl _⟩ (fun r_2 w H locs h_2 hP hD hS => ?_)
  obtain ⟨rfl, h_2⟩ := h_2
  have hP : va_P g.1 vwCl (QW g q u k (nI np) mv lm ch fr) H := hP
  have hD : va_D A (QW g q u k (nI np) mv lm ch fr) := hD
  refine lv_if_eq (tgt := 18) hx hb dX1_endRound_5 (by decide) (fun c_5_1 => ?_) (fun c_5_1 => ?_)
  · skip
    have n_5_1 := Bv.f h_2 c_5_1
    exact absurd ⟨j, hj, rfl⟩ n_5_1
  · skip
    have n_5_1 := Bv.t h_2 c_5_1
    refine lv_aload_n hx hb dX1_endRound_8 rfl (lv_at hl 0 rfl) ?_
    refine va_get (D := g.1) (ci := 1) (v := .ref (u)) (C := RX1) (T := TX1) (N := 6) hx hb hts hi_1 hown hK hP 0 rfl rfl 0 (by decide) f_9 (fun _ h9 => h9) rfl dX1_endRound_9 ?_
    refine lv_iload_n hx hb dX1_endRound_12 rfl (lv_at hl 1 rfl) ?_
    refine lv_dup2_11 hx hb dX1_endRound_13 rfl rfl ?_
    refine va_iald (n := 4) (f := k) hx hb hK hP 1 0 rfl rfl (vp_in_nI (n := j) (by omega) (by decide)) dX1_endRound_14 ?_
    refine tp_i (congrArg k (nI_clamp (n := j) (by omega))) ?_
    refine tp_i (b := (nI (K j))) ((hk j (by omega)).1) ?_
    refine lv_iconst (v := nI 1) hx hb dX1_endRound_15 (by decide) ?_
    refine lv_iadd hx hb dX1_endRound_16 ?_
    refine tp_i (nI_add (K j) 1) ?_
    refine va_iast (n := 4) (f := k) hx hb hK hP hD hS 1 0 rfl rfl (vp_in_nI (n := j) (by omega) (by decide)) dX1_endRound_17 (fun H locs hP hD hS => ?_)
    rw [nI_clamp (n := j) (by omega)] at hP hD
    have hP : va_P g.1 vwCl (QW g q u (upd k j (nI ((K j) + 1))) (nI np) mv lm ch fr) H := hP
    have hD : va_D A (QW g q u (upd k j (nI ((K j) + 1))) (nI np) mv lm ch fr) := hD
    refine lv_aload_n hx hb dX1_endRound_18 rfl (lv_at hl 0 rfl) ?_
    refine lv_lconst (v := lN 0) hx hb dX1_endRound_19 (by decide) ?_
    refine va_put (D := g.1) (ci := 1) (v := .long (lN (0))) (ty := .long) (C := RX1) (T := TX1) (N := 6) hx hb hts hi_1 tyX1 tyX1_ok nmX1 hown hK hP hD hS 0 rfl rfl 5 (by decide) f_30 (fun _ h9 => h9) rfl (by decide +kernel) rfl rfl (Nat.le_of_ble_eq_true rfl) dX1_endRound_20 (fun H locs hP hD hS => ?_)
    have hP : va_P g.1 vwCl (QW g q u (upd k j (nI ((K j) + 1))) (nI np) mv lm ch (lN 0)) H := hP
    have hD : va_D A (QW g q u (upd k j (nI ((K j) + 1))) (nI np) mv lm ch (lN 0)) := hD
    refine lv_aload_n hx hb dX1_endRound_23 rfl (lv_at hl 0 rfl) ?_
    refine call_iVW (As := []) (rest := []) ⟨hx, hb, hml, hown, hts⟩ (c_X1_playersLeft l g q u (upd k j (nI ((K j) + 1))) (erK K j) np mv lm ch (lN 0) hk2 hp) (cwV 0 hts gX1_endRound_X1_playersLeft rfl rfl rfl (by decide +kernel) ⟨Nat.le_of_ble_eq_true rfl, Nat.le_of_ble_eq_true rfl⟩) hP hK hD hS hA 0 rfl rfl rfl rfl hl.1 rfl (Nat.le_of_ble_eq_true rfl) dX1_endRound_24 ⟨Nat.le_refl _, Nat.le_refl _⟩ (fun r_24 w H locs h_24 hP hD hS => ?_)
    obtain ⟨rfl, h_24⟩ := h_24
    subst h_24
    have hP : va_P g.1 vwCl (QW g q u (upd k j (nI ((K j) + 1))) (nI np) mv lm ch (lN 0)) H := hP
    have hD : va_D A (QW g q u (upd k j (nI ((K j) + 1))) (nI np) mv lm ch (lN 0)) := hD
    refine lv_iconst (v := nI 1) hx hb dX1_endRound_27 (by decide) ?_
    refine lv_icmp_ne (tgt := 48) hx hb dX1_endRound_28 (by decide) (fun c_28_2 => ?_) (fun c_28_2 => ?_)
    · skip
      have n_28_2 : ¬ leftN (erK K j) np = 1 := fun q9 => c_28_2 ((nI_eq (a := leftN (erK K j) np) (b := 1) (by omega) (by omega)).mpr q9)
      refine lv_aload_n hx hb dX1_endRound_48 rfl (lv_at hl 0 rfl) ?_
      refine lv_aload_n hx hb dX1_endRound_49 rfl (lv_at hl 0 rfl) ?_
      refine lv_iload_n hx hb dX1_endRound_50 rfl (lv_at hl 1 rfl) ?_
      refine call_iVW (As := [.int (nI (j))]) (rest := [.ref (q)]) ⟨hx, hb, hml, hown, hts⟩ (c_X1_isOut l g q u (upd k j (nI ((K j) + 1))) (erK K j) np mv lm ch (lN 0) hk2 hp j (by omega)) (cwV 1 hts gX1_endRound_X1_isOut rfl rfl rfl (by decide +kernel) ⟨Nat.le_of_ble_eq_true rfl, Nat.le_of_ble_eq_true rfl⟩) hP hK hD hS hA 0 rfl rfl rfl rfl hl.1 rfl (Nat.le_of_ble_eq_true rfl) dX1_endRound_51 ⟨Nat.le_refl _, Nat.le_refl _⟩ (fun r_51 w H locs h_51 hP hD hS => ?_)
      obtain ⟨rfl, h_51⟩ := h_51
      have hP : va_P g.1 vwCl (QW g q u (upd k j (nI ((K j) + 1))) (nI np) mv lm ch (lN 0)) H := hP
      have hD : va_D A (QW g q u (upd k j (nI ((K j) + 1))) (nI np) mv lm ch (lN 0)) := hD
      refine lv_if_eq (tgt := 65) hx hb dX1_endRound_54 (by decide) (fun c_54_3 => ?_) (fun c_54_3 => ?_)
      · skip
        have n_54_3 := Bv.f h_51 c_54_3
        refine lv_iload_n hx hb dX1_endRound_65 rfl (lv_at hl 1 rfl) ?_
        refine va_put (D := g.1) (ci := 1) (v := .int (nI (j))) (ty := .int) (C := RX1) (T := TX1) (N := 6) hx hb hts hi_1 tyX1 tyX1_ok nmX1 hown hK hP hD hS 0 rfl rfl 2 (by decide) f_19 (fun _ h9 => h9) rfl (by decide +kernel) rfl rfl (Nat.le_of_ble_eq_true rfl) dX1_endRound_66 (fun H locs hP hD hS => ?_)
        have hP : va_P g.1 vwCl (QW g q u (upd k j (nI ((K j) + 1))) (nI np) (nI j) lm ch (lN 0)) H := hP
        have hD : va_D A (QW g q u (upd k j (nI ((K j) + 1))) (nI np) (nI j) lm ch (lN 0)) := hD
        refine lv_iload_n hx hb dX1_endRound_69 rfl (lv_at hl 1 rfl) ?_
        exact hret (nI (j)) (QW g q u (upd k j (nI ((K j) + 1))) (nI np) (nI j) lm ch (lN 0)) _ _ _ _ dX1_endRound_70 (⟨rfl, by unfold erM erC; rw [if_neg n_28_2, if_neg n_28_2, if_neg n_54_3]⟩) hP hD hS
      · skip
        have n_54_3 := Bv.t h_51 c_54_3
        refine lv_aload_n hx hb dX1_endRound_57 rfl (lv_at hl 0 rfl) ?_
        refine lv_iload_n hx hb dX1_endRound_58 rfl (lv_at hl 1 rfl) ?_
        refine call_iVW (As := [.int (nI (j))]) (rest := [.ref (q)]) ⟨hx, hb, hml, hown, hts⟩ (c_X1_nextBehind l g q u (upd k j (nI ((K j) + 1))) (erK K j) np mv lm ch (lN 0) hk2 hp j hj) (cwV 1 hts gX1_endRound_X1_nextBehind rfl rfl rfl (by decide +kernel) ⟨Nat.le_of_ble_eq_true rfl, Nat.le_of_ble_eq_true rfl⟩) hP hK hD hS hA 0 rfl rfl rfl rfl hl.1 rfl (Nat.le_of_ble_eq_true rfl) dX1_endRound_59 ⟨Nat.le_refl _, Nat.le_refl _⟩ (fun r_59 w H locs h_59 hP hD hS => ?_)
        obtain ⟨rfl, h_59⟩ := h_59
        subst h_59
        have hP : va_P g.1 vwCl (QW g q u (upd k j (nI ((K j) + 1))) (nI np) mv lm ch (lN 0)) H := hP
        have hD : va_D A (QW g q u (upd k j (nI ((K j) + 1))) (nI np) mv lm ch (lN 0)) := hD
        refine lv_goto (tgt := 66) hx hb dX1_endRound_62 (by decide) ?_
        refine va_put (D := g.1) (ci := 1) (v := .int (oI (nxF (erK K j) np np j))) (ty := .int) (C := RX1) (T := TX1) (N := 6) hx hb hts hi_1 tyX1 tyX1_ok nmX1 hown hK hP hD hS 0 rfl rfl 2 (by decide) f_19 (fun _ h9 => h9) rfl (by decide +kernel) rfl rfl (Nat.le_of_ble_eq_true rfl) dX1_endRound_66 (fun H locs hP hD hS => ?_)
        have hP : va_P g.1 vwCl (QW g q u (upd k j (nI ((K j) + 1))) (nI np) (oI (nxF (erK K j) np np j)) lm ch (lN 0)) H := hP
        have hD : va_D A (QW g q u (upd k j (nI ((K j) + 1))) (nI np) (oI (nxF (erK K j) np np j)) lm ch (lN 0)) := hD
        refine lv_iload_n hx hb dX1_endRound_69 rfl (lv_at hl 1 rfl) ?_
        exact hret (nI (j)) (QW g q u (upd k j (nI ((K j) + 1))) (nI np) (oI (nxF (erK K j) np np j)) lm ch (lN 0)) _ _ _ _ dX1_endRound_70 (⟨rfl, by unfold erM erC; rw [if_neg n_28_2, if_neg n_28_2, if_pos n_54_3]⟩) hP hD hS
    · skip
      have n_28_2 : leftN (erK K j) np = 1 := (nI_eq (a := leftN (erK K j) np) (b := 1) (by omega) (by omega)).mp c_28_2
      refine lv_aload_n hx hb dX1_endRound_31 rfl (lv_at hl 0 rfl) ?_
      refine lv_aload_n hx hb dX1_endRound_32 rfl (lv_at hl 0 rfl) ?_
      refine lv_iload_n hx hb dX1_endRound_33 rfl (lv_at hl 1 rfl) ?_
      refine call_iVW (As := [.int (nI (j))]) (rest := [.ref (q)]) ⟨hx, hb, hml, hown, hts⟩ (c_X1_nextBehind l g q u (upd k j (nI ((K j) + 1))) (erK K j) np mv lm ch (lN 0) hk2 hp j hj) (cwV 1 hts gX1_endRound_X1_nextBehind rfl rfl rfl (by decide +kernel) ⟨Nat.le_of_ble_eq_true rfl, Nat.le_of_ble_eq_true rfl⟩) hP hK hD hS hA 0 rfl rfl rfl rfl hl.1 rfl (Nat.le_of_ble_eq_true rfl) dX1_endRound_34 ⟨Nat.le_refl _, Nat.le_refl _⟩ (fun r_34 w H locs h_34 hP hD hS => ?_)
      obtain ⟨rfl, h_34⟩ := h_34
      subst h_34
      have hP : va_P g.1 vwCl (QW g q u (upd k j (nI ((K j) + 1))) (nI np) mv lm ch (lN 0)) H := hP
      have hD : va_D A (QW g q u (upd k j (nI ((K j) + 1))) (nI np) mv lm ch (lN 0)) := hD
      refine va_put (D := g.1) (ci := 1) (v := .int (oI (nxF (erK K j) np np j))) (ty := .int) (C := RX1) (T := TX1) (N := 6) hx hb hts hi_1 tyX1 tyX1_ok nmX1 hown hK hP hD hS 0 rfl rfl 4 (by decide) f_25 (fun _ h9 => h9) rfl (by decide +kernel) rfl rfl (Nat.le_of_ble_eq_true rfl) dX1_endRound_37 (fun H locs hP hD hS => ?_)
      have hP : va_P g.1 vwCl (QW g q u (upd k j (nI ((K j) + 1))) (nI np) mv lm (oI (nxF (erK K j) np np j)) (lN 0)) H := hP
      have hD : va_D A (QW g q u (upd k j (nI ((K j) + 1))) (nI np) mv lm (oI (nxF (erK K j) np np j)) (lN 0)) := hD
      refine lv_aload_n hx hb dX1_endRound_40 rfl (lv_at hl 0 rfl) ?_
      refine lv_iconst (v := -1) hx hb dX1_endRound_41 (by decide) ?_
      refine va_put (D := g.1) (ci := 1) (v := .int (-1)) (ty := .int) (C := RX1) (T := TX1) (N := 6) hx hb hts hi_1 tyX1 tyX1_ok nmX1 hown hK hP hD hS 0 rfl rfl 2 (by decide) f_19 (fun _ h9 => h9) rfl (by decide +kernel) rfl rfl (Nat.le_of_ble_eq_true rfl) dX1_endRound_42 (fun H locs hP hD hS => ?_)
      have hP : va_P g.1 vwCl (QW g q u (upd k j (nI ((K j) + 1))) (nI np) (-1) lm (oI (nxF (erK K j) np np j)) (lN 0)) H := hP
      have hD : va_D A (QW g q u (upd k j (nI ((K j) + 1))) (nI np) (-1) lm (oI (nxF (erK K j) np np j)) (lN 0)) := hD
      refine lv_goto (tgt := 69) hx hb dX1_endRound_45 (by decide) ?_
      refine lv_iload_n hx hb dX1_endRound_69 rfl (lv_at hl 1 rfl) ?_
      exact hret (nI (j)) (QW g q u (upd k j (nI ((K j) + 1))) (nI np) (-1) lm (oI (nxF (erK K j) np np j)) (lN 0)) _ _ _ _ dX1_endRound_70 (⟨rfl, by unfold erM erC; rw [if_pos n_28_2, if_pos n_28_2]⟩) hP hD hS

abbrev rm_X1_addLetter : Room := { frames := 5, cells := 0, slots := 0, locals := 107 }
set_option maxHeartbeats 4000000 in
set_option maxRecDepth 100000 in
theorem c_X1_addLetter (l : Launch) (g : GG) (q u : Nat) (k : Nat → Int32) (K : Nat → Nat) (np : Nat) (lm ch : Int32) (hk : GK k K) (hp : np ≤ 4) (d v : Nat) (f : Nat → Int64) (S : Nat → Nat) (cnt ll : Nat) (hf : DR f S cnt) (hc : cnt ≤ 50) (hll : ll ≤ 10) (F a j : Nat) (hF : RV F) (hF9 : rwL F < 10) (ha : a < 26) (hj : j < np) (hKj : K j < 5) : Ci l yX1_addLetter wsX1_addLetter rm_X1_addLetter g [.ref (q), .int (nI (a)), .ref (d)] (QDW g q u k (nI np) (nI j) lm ch (lN F) d v f (nI cnt) (nI ll)) (fun r w => ((ll ≤ rwL (rwX F a) ∧ inS S cnt (rwX F a)) ∧ r = nI j ∧ w = (QDW g q u (upd k j (nI (K j + 1))) (nI np) (erM K np j) lm (erC K np j ch) (lN 0) d v f (nI cnt) (nI ll))) ∨ (¬ (ll ≤ rwL (rwX F a) ∧ inS S cnt (rwX F a)) ∧ r = -1 ∧ w = (QDW g q u k (nI np) (oI (nxF K np np j)) (nI j) ch (lN (rwX F a)) d v f (nI cnt) (nI ll)))) := by
  refine Ci.ofI (cc := cX1_addLetter) (maxL := 3) (by decide) rfl (Nat.le_of_ble_eq_true rfl) ?_
  intro p e s m args below meth c A Z hx hb hml hts hown hK hA hret H locs ls hP hD hS hl
  have f_19 := hts (.fieldLink RX1 19 "GhostGame$Game" "mover" "I") (by decide +kernel)
  have f_22 := hts (.fieldLink RX1 22 "GhostGame$Game" "lastMover" "I") (by decide +kernel)
  have f_30 := hts (.fieldLink RX1 30 "GhostGame$Game" "fragment" "J") (by decide +kernel)
  have hi_1 : ∀ w ∈ wsX10, w ∈ wsX1_addLetter := by decide +kernel
  have hl : lv_has ls 3 [(0, .ref (q)), (1, .int (nI (a))), (2, .ref (d))] := hl
  have hX : RV (rwX F a) := hF.rx (by omega) ha
  refine lv_aload_n hx hb dX1_addLetter_0 rfl (lv_at hl 0 rfl) ?_
  refine lv_aload_n hx hb dX1_addLetter_1 rfl (lv_at hl 0 rfl) ?_
  refine va_get (D := g.1) (ci := 1) (v := .long (lN (F))) (C := RX1) (T := TX1) (N := 6) hx hb hts hi_1 hown hK hP 0 rfl rfl 5 (by decide) f_30 (fun _ h9 => h9) rfl dX1_addLetter_2 ?_
  refine lv_iload_n hx hb dX1_addLetter_5 rfl (lv_at hl 1 rfl) ?_
  refine call_lP (As := [.long (lN (F)), .int (nI (a))]) (rest := [.ref (q)]) ⟨hx, hb, hml, hown, hts⟩ (c_X2_with l F a hF hF9 (by omega)) (va_cwS 2 hts gX1_addLetter_X2_with rfl rfl rfl (by decide +kernel) ⟨Nat.le_of_ble_eq_true rfl, Nat.le_of_ble_eq_true rfl⟩) hP hK hD hS hA rfl hl.1 rfl (Nat.le_of_ble_eq_true rfl) dX1_addLetter_6 ⟨Nat.le_refl _, Nat.le_refl _⟩ (fun r_6 H locs h_6 hP hD hS => ?_)
  subst h_6
  refine va_put (D := g.1) (ci := 1) (v := .long (lN (rwX F a))) (ty := .long) (C := RX1) (T := TX1) (N := 6) hx hb hts hi_1 tyX1 tyX1_ok nmX1 hown hK hP hD hS 0 rfl rfl 5 (by decide) f_30 (fun _ h9 => h9) rfl (by decide +kernel) rfl rfl (Nat.le_of_ble_eq_true rfl) dX1_addLetter_9 (fun H locs hP hD hS => ?_)
  have hP : va_P g.1 vwCl (QDW g q u k (nI np) (nI j) lm ch (lN (rwX F a)) d v f (nI cnt) (nI ll)) H := hP
  have hD : va_D A (QDW g q u k (nI np) (nI j) lm ch (lN (rwX F a)) d v f (nI cnt) (nI ll)) := hD
  refine lv_aload_n hx hb dX1_addLetter_12 rfl (lv_at hl 2 rfl) ?_
  refine lv_aload_n hx hb dX1_addLetter_13 rfl (lv_at hl 0 rfl) ?_
  refine va_get (D := g.1) (ci := 1) (v := .long (lN (rwX F a))) (C := RX1) (T := TX1) (N := 6) hx hb hts hi_1 hown hK hP 0 rfl rfl 5 (by decide) f_30 (fun _ h9 => h9) rfl dX1_addLetter_14 ?_
  refine call_iV (As := [.long (lN (rwX F a))]) (rest := []) (wr := [(q, .inr (1, [.ref (u), .int (nI (np)), .int (nI (j)), .int (lm), .int (ch), .long (lN (rwX F a))])), (u, .inl (g.2.1, 4, .inl (k)))]) ⟨hx, hb, hml, hown, hts⟩ (c_X0_hasCounting l g d v f S cnt ll hf hc hll (rwX F a) hX) (cwV 1 hts gX1_addLetter_X0_hasCounting rfl rfl rfl (by decide +kernel) ⟨Nat.le_of_ble_eq_true rfl, Nat.le_of_ble_eq_true rfl⟩) hP hK hD hS hA [2, 3] [0, 1] rfl rfl (by decide) (by decide) (by decide) 0 rfl rfl rfl rfl hl.1 rfl (Nat.le_of_ble_eq_true rfl) dX1_addLetter_17 ⟨Nat.le_refl _, Nat.le_refl _⟩ (fun r_17 w H locs h_17 hP hD hS => ?_)
  obtain ⟨rfl, h_17⟩ := h_17
  have hP : va_P g.1 vwCl (QDW g q u k (nI np) (nI j) lm ch (lN (rwX F a)) d v f (nI cnt) (nI ll)) H := hP
  have hD : va_D A (QDW g q u k (nI np) (nI j) lm ch (lN (rwX F a)) d v f (nI cnt) (nI ll)) := hD
  refine lv_if_eq (tgt := 32) hx hb dX1_addLetter_20 (by decide) (fun c_20_1 => ?_) (fun c_20_1 => ?_)
  · skip
    have n_20_1 := Bv.f h_17 c_20_1
    refine lv_aload_n hx hb dX1_addLetter_32 rfl (lv_at hl 0 rfl) ?_
    refine lv_aload_n hx hb dX1_addLetter_33 rfl (lv_at hl 0 rfl) ?_
    refine va_get (D := g.1) (ci := 1) (v := .int (nI (j))) (C := RX1) (T := TX1) (N := 6) hx hb hts hi_1 hown hK hP 0 rfl rfl 2 (by decide) f_19 (fun _ h9 => h9) rfl dX1_addLetter_34 ?_
    refine va_put (D := g.1) (ci := 1) (v := .int (nI (j))) (ty := .int) (C := RX1) (T := TX1) (N := 6) hx hb hts hi_1 tyX1 tyX1_ok nmX1 hown hK hP hD hS 0 rfl rfl 3 (by decide) f_22 (fun _ h9 => h9) rfl (by decide +kernel) rfl rfl (Nat.le_of_ble_eq_true rfl) dX1_addLetter_37 (fun H locs hP hD hS => ?_)
    have hP : va_P g.1 vwCl (QDW g q u k (nI np) (nI j) (nI j) ch (lN (rwX F a)) d v f (nI cnt) (nI ll)) H := hP
    have hD : va_D A (QDW g q u k (nI np) (nI j) (nI j) ch (lN (rwX F a)) d v f (nI cnt) (nI ll)) := hD
    refine lv_aload_n hx hb dX1_addLetter_40 rfl (lv_at hl 0 rfl) ?_
    refine lv_aload_n hx hb dX1_addLetter_41 rfl (lv_at hl 0 rfl) ?_
    refine lv_aload_n hx hb dX1_addLetter_42 rfl (lv_at hl 0 rfl) ?_
    refine va_get (D := g.1) (ci := 1) (v := .int (nI (j))) (C := RX1) (T := TX1) (N := 6) hx hb hts hi_1 hown hK hP 0 rfl rfl 2 (by decide) f_19 (fun _ h9 => h9) rfl dX1_addLetter_43 ?_
    refine call_iV (As := [.int (nI (j))]) (rest := [.ref (q)]) (wr := [(d, .inr (0, [.ref (v), .int (nI (cnt)), .int (nI (ll))])), (v, .inl (g.2.2.1, 50, .inr (.inl (f))))]) ⟨hx, hb, hml, hown, hts⟩ (c_X1_nextBehind l g q u k K np (nI j) (nI j) ch (lN (rwX F a)) hk hp j hj) (cwV 1 hts gX1_addLetter_X1_nextBehind rfl rfl rfl (by decide +kernel) ⟨Nat.le_of_ble_eq_true rfl, Nat.le_of_ble_eq_true rfl⟩) hP hK hD hS hA [0, 1] [2, 3] rfl rfl (by decide) (by decide) (by decide) 0 rfl rfl rfl rfl hl.1 rfl (Nat.le_of_ble_eq_true rfl) dX1_addLetter_46 ⟨Nat.le_refl _, Nat.le_refl _⟩ (fun r_46 w H locs h_46 hP hD hS => ?_)
    obtain ⟨rfl, h_46⟩ := h_46
    subst h_46
    have hP := hP.sub [2, 3, 0, 1] (ws' := (QDW g q u k (nI np) (nI j) (nI j) ch (lN (rwX F a)) d v f (nI cnt) (nI ll))) rfl
    have hD := hD.sub [2, 3, 0, 1] (ws' := (QDW g q u k (nI np) (nI j) (nI j) ch (lN (rwX F a)) d v f (nI cnt) (nI ll))) (by decide) rfl
    have hP : va_P g.1 vwCl (QDW g q u k (nI np) (nI j) (nI j) ch (lN (rwX F a)) d v f (nI cnt) (nI ll)) H := hP
    have hD : va_D A (QDW g q u k (nI np) (nI j) (nI j) ch (lN (rwX F a)) d v f (nI cnt) (nI ll)) := hD
    refine va_put (D := g.1) (ci := 1) (v := .int (oI (nxF K np np j))) (ty := .int) (C := RX1) (T := TX1) (N := 6) hx hb hts hi_1 tyX1 tyX1_ok nmX1 hown hK hP hD hS 0 rfl rfl 2 (by decide) f_19 (fun _ h9 => h9) rfl (by decide +kernel) rfl rfl (Nat.le_of_ble_eq_true rfl) dX1_addLetter_49 (fun H locs hP hD hS => ?_)
    have hP : va_P g.1 vwCl (QDW g q u k (nI np) (oI (nxF K np np j)) (nI j) ch (lN (rwX F a)) d v f (nI cnt) (nI ll)) H := hP
    have hD : va_D A (QDW g q u k (nI np) (oI (nxF K np np j)) (nI j) ch (lN (rwX F a)) d v f (nI cnt) (nI ll)) := hD
    refine lv_iconst (v := -1) hx hb dX1_addLetter_52 (by decide) ?_
    exact hret (-1) (QDW g q u k (nI np) (oI (nxF K np np j)) (nI j) ch (lN (rwX F a)) d v f (nI cnt) (nI ll)) _ _ _ _ dX1_addLetter_53 (Or.inr ⟨n_20_1, rfl, rfl⟩) hP hD hS
  · skip
    have n_20_1 := Bv.t h_17 c_20_1
    refine lv_aload_n hx hb dX1_addLetter_23 rfl (lv_at hl 0 rfl) ?_
    refine lv_aload_n hx hb dX1_addLetter_24 rfl (lv_at hl 0 rfl) ?_
    refine va_get (D := g.1) (ci := 1) (v := .int (nI (j))) (C := RX1) (T := TX1) (N := 6) hx hb hts hi_1 hown hK hP 0 rfl rfl 2 (by decide) f_19 (fun _ h9 => h9) rfl dX1_addLetter_25 ?_
    refine call_iV (As := [.int (nI (j))]) (rest := []) (wr := [(d, .inr (0, [.ref (v), .int (nI (cnt)), .int (nI (ll))])), (v, .inl (g.2.2.1, 50, .inr (.inl (f))))]) ⟨hx, hb, hml, hown, hts⟩ (c_X1_endRound l g q u k K np (nI j) lm ch (lN (rwX F a)) hk hp j hj hKj) (cwV 1 hts gX1_addLetter_X1_endRound rfl rfl rfl (by decide +kernel) ⟨Nat.le_of_ble_eq_true rfl, Nat.le_of_ble_eq_true rfl⟩) hP hK hD hS hA [0, 1] [2, 3] rfl rfl (by decide) (by decide) (by decide) 0 rfl rfl rfl rfl hl.1 rfl (Nat.le_of_ble_eq_true rfl) dX1_addLetter_28 ⟨Nat.le_refl _, Nat.le_refl _⟩ (fun r_28 w H locs h_28 hP hD hS => ?_)
    obtain ⟨h_28, rfl⟩ := h_28
    subst h_28
    have hP := hP.sub [2, 3, 0, 1] (ws' := (QDW g q u (upd k j (nI (K j + 1))) (nI np) (erM K np j) lm (erC K np j ch) (lN 0) d v f (nI cnt) (nI ll))) rfl
    have hD := hD.sub [2, 3, 0, 1] (ws' := (QDW g q u (upd k j (nI (K j + 1))) (nI np) (erM K np j) lm (erC K np j ch) (lN 0) d v f (nI cnt) (nI ll))) (by decide) rfl
    have hP : va_P g.1 vwCl (QDW g q u (upd k j (nI (K j + 1))) (nI np) (erM K np j) lm (erC K np j ch) (lN 0) d v f (nI cnt) (nI ll)) H := hP
    have hD : va_D A (QDW g q u (upd k j (nI (K j + 1))) (nI np) (erM K np j) lm (erC K np j ch) (lN 0) d v f (nI cnt) (nI ll)) := hD
    exact hret (nI (j)) (QDW g q u (upd k j (nI (K j + 1))) (nI np) (erM K np j) lm (erC K np j ch) (lN 0) d v f (nI cnt) (nI ll)) _ _ _ _ dX1_addLetter_31 (Or.inl ⟨n_20_1, rfl, rfl⟩) hP hD hS

abbrev rm_X1_settleChallenge : Room := { frames := 5, cells := 0, slots := 0, locals := 107 }
set_option maxHeartbeats 4000000 in
set_option maxRecDepth 100000 in
theorem c_X1_settleChallenge (l : Launch) (g : GG) (q u : Nat) (k : Nat → Int32) (K : Nat → Nat) (np : Nat) (ch : Int32) (hk : GK k K) (hp : np ≤ 4) (d v : Nat) (f : Nat → Int64) (S : Nat → Nat) (cnt ll : Nat) (hf : DR f S cnt) (hc : cnt ≤ 50) (hll : ll ≤ 10) (F j j2 : Nat) (hF : RV F) (hj : j < np) (hKj : K j < 5) (hj2 : j2 < np) (hKj2 : K j2 < 5) : Ci l yX1_settleChallenge wsX1_settleChallenge rm_X1_settleChallenge g [.ref (q), .ref (d)] (QDW g q u k (nI np) (nI j) (nI j2) ch (lN F) d v f (nI cnt) (nI ll)) (fun r w => ((∃ i, i < cnt ∧ ll ≤ rwL (S i) ∧ bgP (S i) F) ∧ r = nI j ∧ w = (QDW g q u (upd k j (nI (K j + 1))) (nI np) (erM K np j) (nI j2) (erC K np j ch) (lN 0) d v f (nI cnt) (nI ll))) ∨ (¬ (∃ i, i < cnt ∧ ll ≤ rwL (S i) ∧ bgP (S i) F) ∧ r = nI j2 ∧ w = (QDW g q u (upd k j2 (nI (K j2 + 1))) (nI np) (erM K np j2) (nI j2) (erC K np j2 ch) (lN 0) d v f (nI cnt) (nI ll)))) := by
  refine Ci.ofI (cc := cX1_settleChallenge) (maxL := 2) (by decide) rfl (Nat.le_of_ble_eq_true rfl) ?_
  intro p e s m args below meth c A Z hx hb hml hts hown hK hA hret H locs ls hP hD hS hl
  have f_19 := hts (.fieldLink RX1 19 "GhostGame$Game" "mover" "I") (by decide +kernel)
  have f_22 := hts (.fieldLink RX1 22 "GhostGame$Game" "lastMover" "I") (by decide +kernel)
  have f_30 := hts (.fieldLink RX1 30 "GhostGame$Game" "fragment" "J") (by decide +kernel)
  have hi_1 : ∀ w ∈ wsX10, w ∈ wsX1_settleChallenge := by decide +kernel
  have hl : lv_has ls 2 [(0, .ref (q)), (1, .ref (d))] := hl
  refine lv_aload_n hx hb dX1_settleChallenge_0 rfl (lv_at hl 0 rfl) ?_
  refine lv_aload_n hx hb dX1_settleChallenge_1 rfl (lv_at hl 1 rfl) ?_
  refine lv_aload_n hx hb dX1_settleChallenge_2 rfl (lv_at hl 0 rfl) ?_
  refine va_get (D := g.1) (ci := 1) (v := .long (lN (F))) (C := RX1) (T := TX1) (N := 6) hx hb hts hi_1 hown hK hP 0 rfl rfl 5 (by decide) f_30 (fun _ h9 => h9) rfl dX1_settleChallenge_3 ?_
  refine call_iV (As := [.long (lN (F))]) (rest := [.ref (q)]) (wr := [(q, .inr (1, [.ref (u), .int (nI (np)), .int (nI (j)), .int (nI (j2)), .int (ch), .long (lN (F))])), (u, .inl (g.2.1, 4, .inl (k)))]) ⟨hx, hb, hml, hown, hts⟩ (c_X0_hasCountingFrom l g d v f S cnt ll hf hc hll F hF) (cwV 1 hts gX1_settleChallenge_X0_hasCountingFrom rfl rfl rfl (by decide +kernel) ⟨Nat.le_of_ble_eq_true rfl, Nat.le_of_ble_eq_true rfl⟩) hP hK hD hS hA [2, 3] [0, 1] rfl rfl (by decide) (by decide) (by decide) 0 rfl rfl rfl rfl hl.1 rfl (Nat.le_of_ble_eq_true rfl) dX1_settleChallenge_6 ⟨Nat.le_refl _, Nat.le_refl _⟩ (fun r_6 w H locs h_6 hP hD hS => ?_)
  obtain ⟨rfl, h_6⟩ := h_6
  have hP : va_P g.1 vwCl (QDW g q u k (nI np) (nI j) (nI j2) ch (lN F) d v f (nI cnt) (nI ll)) H := hP
  have hD : va_D A (QDW g q u k (nI np) (nI j) (nI j2) ch (lN F) d v f (nI cnt) (nI ll)) := hD
  refine lv_if_eq (tgt := 19) hx hb dX1_settleChallenge_9 (by decide) (fun c_9_1 => ?_) (fun c_9_1 => ?_)
  · skip
    have n_9_1 := Bv.f h_6 c_9_1
    refine lv_aload_n hx hb dX1_settleChallenge_19 rfl (lv_at hl 0 rfl) ?_
    refine va_get (D := g.1) (ci := 1) (v := .int (nI (j2))) (C := RX1) (T := TX1) (N := 6) hx hb hts hi_1 hown hK hP 0 rfl rfl 3 (by decide) f_22 (fun _ h9 => h9) rfl dX1_settleChallenge_20 ?_
    refine call_iV (As := [.int (nI (j2))]) (rest := []) (wr := [(d, .inr (0, [.ref (v), .int (nI (cnt)), .int (nI (ll))])), (v, .inl (g.2.2.1, 50, .inr (.inl (f))))]) ⟨hx, hb, hml, hown, hts⟩ (c_X1_endRound l g q u k K np (nI j) (nI j2) ch (lN F) hk hp j2 hj2 hKj2) (cwV 1 hts gX1_settleChallenge_X1_endRound rfl rfl rfl (by decide +kernel) ⟨Nat.le_of_ble_eq_true rfl, Nat.le_of_ble_eq_true rfl⟩) hP hK hD hS hA [0, 1] [2, 3] rfl rfl (by decide) (by decide) (by decide) 0 rfl rfl rfl rfl hl.1 rfl (Nat.le_of_ble_eq_true rfl) dX1_settleChallenge_23 ⟨Nat.le_refl _, Nat.le_refl _⟩ (fun r_23 w H locs h_23 hP hD hS => ?_)
    obtain ⟨h_23, rfl⟩ := h_23
    subst h_23
    have hP := hP.sub [2, 3, 0, 1] (ws' := (QDW g q u (upd k j2 (nI (K j2 + 1))) (nI np) (erM K np j2) (nI j2) (erC K np j2 ch) (lN 0) d v f (nI cnt) (nI ll))) rfl
    have hD := hD.sub [2, 3, 0, 1] (ws' := (QDW g q u (upd k j2 (nI (K j2 + 1))) (nI np) (erM K np j2) (nI j2) (erC K np j2 ch) (lN 0) d v f (nI cnt) (nI ll))) (by decide) rfl
    have hP : va_P g.1 vwCl (QDW g q u (upd k j2 (nI (K j2 + 1))) (nI np) (erM K np j2) (nI j2) (erC K np j2 ch) (lN 0) d v f (nI cnt) (nI ll)) H := hP
    have hD : va_D A (QDW g q u (upd k j2 (nI (K j2 + 1))) (nI np) (erM K np j2) (nI j2) (erC K np j2 ch) (lN 0) d v f (nI cnt) (nI ll)) := hD
    exact hret (nI (j2)) (QDW g q u (upd k j2 (nI (K j2 + 1))) (nI np) (erM K np j2) (nI j2) (erC K np j2 ch) (lN 0) d v f (nI cnt) (nI ll)) _ _ _ _ dX1_settleChallenge_26 (Or.inr ⟨n_9_1, rfl, rfl⟩) hP hD hS
  · skip
    have n_9_1 := Bv.t h_6 c_9_1
    refine lv_aload_n hx hb dX1_settleChallenge_12 rfl (lv_at hl 0 rfl) ?_
    refine va_get (D := g.1) (ci := 1) (v := .int (nI (j))) (C := RX1) (T := TX1) (N := 6) hx hb hts hi_1 hown hK hP 0 rfl rfl 2 (by decide) f_19 (fun _ h9 => h9) rfl dX1_settleChallenge_13 ?_
    refine lv_goto (tgt := 23) hx hb dX1_settleChallenge_16 (by decide) ?_
    refine call_iV (As := [.int (nI (j))]) (rest := []) (wr := [(d, .inr (0, [.ref (v), .int (nI (cnt)), .int (nI (ll))])), (v, .inl (g.2.2.1, 50, .inr (.inl (f))))]) ⟨hx, hb, hml, hown, hts⟩ (c_X1_endRound l g q u k K np (nI j) (nI j2) ch (lN F) hk hp j hj hKj) (cwV 1 hts gX1_settleChallenge_X1_endRound rfl rfl rfl (by decide +kernel) ⟨Nat.le_of_ble_eq_true rfl, Nat.le_of_ble_eq_true rfl⟩) hP hK hD hS hA [0, 1] [2, 3] rfl rfl (by decide) (by decide) (by decide) 0 rfl rfl rfl rfl hl.1 rfl (Nat.le_of_ble_eq_true rfl) dX1_settleChallenge_23 ⟨Nat.le_refl _, Nat.le_refl _⟩ (fun r_23 w H locs h_23 hP hD hS => ?_)
    obtain ⟨h_23, rfl⟩ := h_23
    subst h_23
    have hP := hP.sub [2, 3, 0, 1] (ws' := (QDW g q u (upd k j (nI (K j + 1))) (nI np) (erM K np j) (nI j2) (erC K np j ch) (lN 0) d v f (nI cnt) (nI ll))) rfl
    have hD := hD.sub [2, 3, 0, 1] (ws' := (QDW g q u (upd k j (nI (K j + 1))) (nI np) (erM K np j) (nI j2) (erC K np j ch) (lN 0) d v f (nI cnt) (nI ll))) (by decide) rfl
    have hP : va_P g.1 vwCl (QDW g q u (upd k j (nI (K j + 1))) (nI np) (erM K np j) (nI j2) (erC K np j ch) (lN 0) d v f (nI cnt) (nI ll)) H := hP
    have hD : va_D A (QDW g q u (upd k j (nI (K j + 1))) (nI np) (erM K np j) (nI j2) (erC K np j ch) (lN 0) d v f (nI cnt) (nI ll)) := hD
    exact hret (nI (j)) (QDW g q u (upd k j (nI (K j + 1))) (nI np) (erM K np j) (nI j2) (erC K np j ch) (lN 0) d v f (nI cnt) (nI ll)) _ _ _ _ dX1_settleChallenge_26 (Or.inl ⟨n_9_1, rfl, rfl⟩) hP hD hS
