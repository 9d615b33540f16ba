theorem sub_neg {a b : Nat} (ha : a < 2147483648) (hb : b < 2147483648) (h : a < b) : nI a - nI b < 0 := by
  rw [fa_lt, fb_subI (by rw [nI_toInt (by omega), nI_toInt (by omega)]; omega) (by rw [nI_toInt (by omega), nI_toInt (by omega)]; omega), nI_toInt (by omega), nI_toInt (by omega)]
  have : (0 : Int32).toInt = 0 := by decide
  omega
theorem bw_iff {P Q : Nat} (h : RV P) (hm : rwL Q ≤ rwL P) : rwB P (rwL Q) = Q ↔ rwC P / 32 ^ (rwL P - rwL Q) = rwC Q := by
  constructor
  · intro e
    rw [← h.rbc hm, e]
  · intro e
    unfold rwB
    rw [e, rk_e]
abbrev rm_X2_lengthOf : Room := { frames := 0, cells := 0, slots := 0, locals := 0 }
set_option maxHeartbeats 4000000 in
set_option maxRecDepth 100000 in
theorem c_X2_lengthOf (l : Launch) (P : Nat) (hP0 : P < 18014398509481984) : Pi l yX2_lengthOf wsX2_lengthOf rm_X2_lengthOf [.long (lN (P))] (fun r => r = nI (rwL P)) := by
  intro g
  refine Ci.ofI (cc := cX2_lengthOf) (maxL := 2) (by decide) rfl (Nat.le_of_ble_eq_true rfl) ?_
  intro p e s m args below meth c A Z hx hb hml hts hown hK hA hret H locs ls hP hD hS hl
  have hl : lv_has ls 2 [(0, .long (lN (P)))] := hl
  refine lv_lload_n hx hb dX2_lengthOf_0 rfl (lv_at hl 0 rfl) ?_
  refine lv_bipush (v := nI 50) hx hb dX2_lengthOf_1 (by decide) ?_
  refine lv_lushr (v := (lN (rwL P))) hx hb dX2_lengthOf_3 (wb_shr (n := P) (k := 50) (by omega) (by decide)) ?_
  refine lv_l2i (v := nI (rwL P)) hx hb dX2_lengthOf_4 (lN_i _) ?_
  exact hret (nI (rwL P)) [] _ _ _ _ dX2_lengthOf_5 (⟨rfl, rfl⟩) hP hD hS

abbrev rm_X2_pack : Room := { frames := 0, cells := 0, slots := 0, locals := 0 }
set_option maxHeartbeats 4000000 in
set_option maxRecDepth 100000 in
theorem c_X2_pack (l : Launch) (n c0 : Nat) (hn0 : n < 4096) (hc0 : c0 < 1125899906842624) : Pl l yX2_pack wsX2_pack rm_X2_pack [.int (nI (n)), .long (lN (c0))] (fun r => r = lN (rwK n c0)) := by
  intro g
  refine Cl.ofL (cc := cX2_pack) (maxL := 3) (by decide) rfl (Nat.le_of_ble_eq_true rfl) ?_
  intro p e s m args below meth c A Z hx hb hml hts hown hK hA hret H locs ls hP hD hS hl
  have hl : lv_has ls 3 [(0, .int (nI (n))), (1, .long (lN (c0)))] := hl
  refine lv_iload_n hx hb dX2_pack_0 rfl (lv_at hl 0 rfl) ?_
  refine lv_i2l (v := lN (n)) hx hb dX2_pack_1 (nI_l (by omega)) ?_
  refine lv_bipush (v := nI 50) hx hb dX2_pack_2 (by decide) ?_
  refine lv_lshl (v := (lN (n * 2 ^ 50))) hx hb dX2_pack_4 (wb_shl n (by decide)) ?_
  refine lv_lload_n hx hb dX2_pack_5 rfl (lv_at hl 1 rfl) ?_
  refine lv_lor hx hb dX2_pack_6 ?_
  refine tp_l (b := (lN (rwK n c0))) (pk_or hc0) ?_
  exact hret (lN (rwK n c0)) [] _ _ _ _ dX2_pack_7 (⟨rfl, rfl⟩) hP hD hS

abbrev rm_X2_isFull : Room := { frames := 1, cells := 0, slots := 0, locals := 21 }
set_option maxHeartbeats 4000000 in
set_option maxRecDepth 100000 in
theorem c_X2_isFull (l : Launch) (P : Nat) (hV : RV P) : Pi l yX2_isFull wsX2_isFull rm_X2_isFull [.long (lN (P))] (fun r => Bv r (10 ≤ rwL P)) := by
  intro g
  refine Ci.ofZ (cc := cX2_isFull) (maxL := 2) (by decide) rfl (Nat.le_of_ble_eq_true rfl) ?_
  intro p e s m args below meth c A Z hx hb hml hts hown hK hA hret H locs ls hP hD hS hl
  have hl : lv_has ls 2 [(0, .long (lN (P)))] := hl
  have h10 := hV.1
  refine lv_lload_n hx hb dX2_isFull_0 rfl (lv_at hl 0 rfl) ?_
  refine call_iP (As := [.long (lN (P))]) (rest := []) ⟨hx, hb, hml, hown, hts⟩ (c_X2_lengthOf l P (hV.lt)) (va_cwS 1 hts gX2_isFull_X2_lengthOf rfl rfl rfl (by decide +kernel) ⟨Nat.le_of_ble_eq_true rfl, Nat.le_of_ble_eq_true rfl⟩) hP hK hD hS hA rfl hl.1 rfl (Nat.le_of_ble_eq_true rfl) dX2_isFull_1 ⟨Nat.le_refl _, Nat.le_refl _⟩ (fun r_1 H locs h_1 hP hD hS => ?_)
  subst h_1
  refine lv_bipush (v := nI 10) hx hb dX2_isFull_4 (by decide) ?_
  refine lv_icmp_lt (tgt := 13) hx hb dX2_isFull_6 (by decide) (fun c_6_1 => ?_) (fun c_6_1 => ?_)
  · skip
    have n_6_1 : rwL P < 10 := (nI_ltI (a := rwL P) (b := 10) (by omega) (by omega)).mp c_6_1
    refine lv_iconst (v := nI 0) hx hb dX2_isFull_13 (by decide) ?_
    exact hret (nI (0)) [] _ _ _ _ dX2_isFull_14 (Or.inl rfl) (⟨rfl, Bv.no (by omega)⟩) hP hD hS
  · skip
    have n_6_1 : ¬ rwL P < 10 := fun q9 => c_6_1 ((nI_ltI (a := rwL P) (b := 10) (by omega) (by omega)).mpr q9)
    refine lv_iconst (v := nI 1) hx hb dX2_isFull_9 (by decide) ?_
    refine lv_goto (tgt := 14) hx hb dX2_isFull_10 (by decide) ?_
    exact hret (nI (1)) [] _ _ _ _ dX2_isFull_14 (Or.inr rfl) (⟨rfl, Bv.yes (by omega)⟩) hP hD hS

abbrev rm_X2_letterAt : Room := { frames := 1, cells := 0, slots := 0, locals := 21 }
set_option maxHeartbeats 4000000 in
set_option maxRecDepth 100000 in
theorem c_X2_letterAt (l : Launch) (P : Nat) (x : Int32) (hV : RV P) : Pi l yX2_letterAt wsX2_letterAt rm_X2_letterAt [.long (lN (P)), .int (x)] (fun r => (∃ j : Nat, j < rwL P ∧ nI j = x ∧ r = nI (rwA P j)) ∨ ((¬ ∃ j : Nat, j < rwL P ∧ nI j = x) ∧ r = -1)) := by
  intro g
  refine Ci.ofI (cc := cX2_letterAt) (maxL := 4) (by decide) rfl (Nat.le_of_ble_eq_true rfl) ?_
  intro p e s m args below meth c A Z hx hb hml hts hown hK hA hret H locs ls hP hD hS hl
  have hl : lv_has ls 4 [(0, .long (lN (P))), (2, .int (x))] := hl
  have h10 := hV.1
  have hP0 := hV.lt
  refine lv_lload_n hx hb dX2_letterAt_0 rfl (lv_at hl 0 rfl) ?_
  refine call_iP (As := [.long (lN (P))]) (rest := []) ⟨hx, hb, hml, hown, hts⟩ (c_X2_lengthOf l P (hV.lt)) (va_cwS 1 hts gX2_letterAt_X2_lengthOf rfl rfl rfl (by decide +kernel) ⟨Nat.le_of_ble_eq_true rfl, Nat.le_of_ble_eq_true rfl⟩) hP hK hD hS hA rfl hl.1 rfl (Nat.le_of_ble_eq_true rfl) dX2_letterAt_1 ⟨Nat.le_refl _, Nat.le_refl _⟩ (fun r_1 H locs h_1 hP hD hS => ?_)
  subst h_1
  refine lv_istore_n (lv' := [(3, .int (nI (rwL P))), (0, .long (lN (P))), (2, .int (x))]) hx hb dX2_letterAt_4 rfl hl (by decide) rfl (fun ls hl => ?_)
  refine lv_iload_n hx hb dX2_letterAt_5 rfl (lv_at hl 2 rfl) ?_
  refine lv_if_lt (tgt := 14) hx hb dX2_letterAt_6 (by decide) (fun c_6_1 => ?_) (fun c_6_1 => ?_)
  · skip
    have nj : ¬ ∃ j : Nat, j < rwL P ∧ nI j = x := by
      rintro ⟨j, hj, rfl⟩
      exact nI_pos (by omega) c_6_1
    refine lv_iconst (v := -1) hx hb dX2_letterAt_14 (by decide) ?_
    exact hret (-1) [] _ _ _ _ dX2_letterAt_15 (⟨rfl, Or.inr ⟨nj, rfl⟩⟩) hP hD hS
  · skip
    refine lv_iload_n hx hb dX2_letterAt_9 rfl (lv_at hl 2 rfl) ?_
    refine lv_iload_n hx hb dX2_letterAt_10 rfl (lv_at hl 0 rfl) ?_
    refine lv_icmp_lt (tgt := 16) hx hb dX2_letterAt_11 (by decide) (fun c_11_2 => ?_) (fun c_11_2 => ?_)
    · skip
      obtain ⟨j, hj, rfl⟩ : ∃ j : Nat, j < rwL P ∧ x = nI j := by
        rcases pk_ix x (n := rwL P) (by omega) with h | h | h
        · exact absurd h c_6_1
        · exact absurd h (fa_of_lt c_11_2).2.1
        · exact h
      refine lv_lload_n hx hb dX2_letterAt_16 rfl (lv_at hl 1 rfl) ?_
      refine lv_iconst (v := nI 5) hx hb dX2_letterAt_17 (by decide) ?_
      refine lv_iload_n hx hb dX2_letterAt_18 rfl (lv_at hl 0 rfl) ?_
      refine lv_iconst (v := nI 1) hx hb dX2_letterAt_19 (by decide) ?_
      refine lv_isub hx hb dX2_letterAt_20 ?_
      refine tp_i (pk_sub (a := rwL P) (b := 1) (by omega)) ?_
      refine lv_iload_n hx hb dX2_letterAt_21 rfl (lv_at hl 2 rfl) ?_
      refine lv_isub hx hb dX2_letterAt_22 ?_
      refine tp_i (pk_sub (a := (rwL P) - 1) (b := j) (by omega)) ?_
      refine lv_imul hx hb dX2_letterAt_23 ?_
      refine tp_i (pk_mul 5 (((rwL P) - 1) - j)) ?_
      refine lv_lushr (v := (lN (P / 32 ^ (rwL P - 1 - j)))) hx hb dX2_letterAt_24 (pk_sh hP0 _ (by omega)) ?_
      refine lv_l2i (v := nI (P / 32 ^ (rwL P - 1 - j))) hx hb dX2_letterAt_25 (lN_i _) ?_
      refine lv_bipush (v := nI 31) hx hb dX2_letterAt_26 (by decide) ?_
      refine lv_iand hx hb dX2_letterAt_28 ?_
      refine tp_i (b := (nI (rwA P j))) ((fa_mask _ 5).trans (congrArg nI (ra_of (by omega)))) ?_
      exact hret (nI (rwA P j)) [] _ _ _ _ dX2_letterAt_29 (⟨rfl, Or.inl ⟨j, hj, rfl, rfl⟩⟩) hP hD hS
    · skip
      have nj : ¬ ∃ j : Nat, j < rwL P ∧ nI j = x := by
        rintro ⟨j, hj, rfl⟩
        exact c_11_2 ((nI_ltI (by omega) (by omega)).mpr hj)
      refine lv_iconst (v := -1) hx hb dX2_letterAt_14 (by decide) ?_
      exact hret (-1) [] _ _ _ _ dX2_letterAt_15 (⟨rfl, Or.inr ⟨nj, rfl⟩⟩) hP hD hS

abbrev rm_X2_with : Room := { frames := 1, cells := 0, slots := 0, locals := 22 }
set_option maxHeartbeats 4000000 in
set_option maxRecDepth 100000 in
theorem c_X2_with (l : Launch) (P a : Nat) (hV : RV P) (hl0 : rwL P < 10) (ha0 : a < 32) : Pl l yX2_with wsX2_with rm_X2_with [.long (lN (P)), .int (nI (a))] (fun r => r = lN (rwX P a)) := by
  intro g
  refine Cl.ofL (cc := cX2_with) (maxL := 3) (by decide) rfl (Nat.le_of_ble_eq_true rfl) ?_
  intro p e s m args below meth c A Z hx hb hml hts hown hK hA hret H locs ls hP hD hS hl
  have hl : lv_has ls 3 [(0, .long (lN (P))), (2, .int (nI (a)))] := hl
  have hP0 := hV.lt
  have hc1 := hV.2.1
  have hc2 := p32 (show rwL P ≤ 9 by omega)
  rw [show 32 ^ 9 = 35184372088832 by decide] at hc2
  refine lv_lload_n hx hb dX2_with_0 rfl (lv_at hl 0 rfl) ?_
  refine call_iP (As := [.long (lN (P))]) (rest := []) ⟨hx, hb, hml, hown, hts⟩ (c_X2_lengthOf l P (hV.lt)) (va_cwS 1 hts gX2_with_X2_lengthOf rfl rfl rfl (by decide +kernel) ⟨Nat.le_of_ble_eq_true rfl, Nat.le_of_ble_eq_true rfl⟩) hP hK hD hS hA rfl hl.1 rfl (Nat.le_of_ble_eq_true rfl) dX2_with_1 ⟨Nat.le_refl _, Nat.le_refl _⟩ (fun r_1 H locs h_1 hP hD hS => ?_)
  subst h_1
  refine lv_iconst (v := nI 1) hx hb dX2_with_4 (by decide) ?_
  refine lv_iadd hx hb dX2_with_5 ?_
  refine tp_i (nI_add (rwL P) 1) ?_
  refine lv_lload_n hx hb dX2_with_6 rfl (lv_at hl 0 rfl) ?_
  refine lv_ldc2 (v := lN 1125899906842623) hx hb hown (hts (.constantLong RX2 15 (1125899906842623)) (by decide +kernel)) dX2_with_7 ?_
  refine lv_land hx hb dX2_with_10 ?_
  refine tp_l (b := (lN (rwC P))) (wb_mask (k := 50) (by omega) (by decide)) ?_
  refine lv_iconst (v := nI 5) hx hb dX2_with_11 (by decide) ?_
  refine lv_lshl (v := (lN (rwC P * 2 ^ 5))) hx hb dX2_with_12 (wb_shl _ (by decide)) ?_
  refine lv_iload_n hx hb dX2_with_13 rfl (lv_at hl 1 rfl) ?_
  refine lv_i2l (v := lN (a)) hx hb dX2_with_14 (nI_l (by omega)) ?_
  refine lv_lor hx hb dX2_with_15 ?_
  refine tp_l (b := (lN (rwC P * 32 + a))) (pk_ad ha0) ?_
  refine call_lP (As := [.int (nI ((rwL P) + 1)), .long (lN (rwC P * 32 + a))]) (rest := []) ⟨hx, hb, hml, hown, hts⟩ (c_X2_pack l (rwL P + 1) (rwC P * 32 + a) (by omega) (by omega)) (va_cwS 2 hts gX2_with_X2_pack rfl rfl rfl (by decide +kernel) ⟨Nat.le_of_ble_eq_true rfl, Nat.le_of_ble_eq_true rfl⟩) hP hK hD hS hA rfl hl.1 rfl (Nat.le_of_ble_eq_true rfl) dX2_with_16 ⟨Nat.le_refl _, Nat.le_refl _⟩ (fun r_16 H locs h_16 hP hD hS => ?_)
  subst h_16
  exact hret (lN (rwX P a)) [] _ _ _ _ dX2_with_19 (⟨rfl, rfl⟩) hP hD hS

abbrev rm_X2_beginning : Room := { frames := 1, cells := 0, slots := 0, locals := 22 }
set_option maxHeartbeats 4000000 in
set_option maxRecDepth 100000 in
theorem c_X2_beginning (l : Launch) (P k : Nat) (hV : RV P) (hk0 : k ≤ rwL P) : Pl l yX2_beginning wsX2_beginning rm_X2_beginning [.long (lN (P)), .int (nI (k))] (fun r => r = lN (rwB P k)) := by
  intro g
  refine Cl.ofL (cc := cX2_beginning) (maxL := 4) (by decide) rfl (Nat.le_of_ble_eq_true rfl) ?_
  intro p e s m args below meth c A Z hx hb hml hts hown hK hA hret H locs ls hP hD hS hl
  have hl : lv_has ls 4 [(0, .long (lN (P))), (2, .int (nI (k)))] := hl
  have h10 := hV.1
  have hP0 := hV.lt
  have hc1 := rc_lt P
  have hc2 := Nat.div_le_self (rwC P) (32 ^ (rwL P - k))
  refine lv_lload_n hx hb dX2_beginning_0 rfl (lv_at hl 0 rfl) ?_
  refine call_iP (As := [.long (lN (P))]) (rest := []) ⟨hx, hb, hml, hown, hts⟩ (c_X2_lengthOf l P (hV.lt)) (va_cwS 1 hts gX2_beginning_X2_lengthOf rfl rfl rfl (by decide +kernel) ⟨Nat.le_of_ble_eq_true rfl, Nat.le_of_ble_eq_true rfl⟩) hP hK hD hS hA rfl hl.1 rfl (Nat.le_of_ble_eq_true rfl) dX2_beginning_1 ⟨Nat.le_refl _, Nat.le_refl _⟩ (fun r_1 H locs h_1 hP hD hS => ?_)
  subst h_1
  refine lv_iload_n hx hb dX2_beginning_4 rfl (lv_at hl 1 rfl) ?_
  refine lv_isub hx hb dX2_beginning_5 ?_
  refine tp_i (pk_sub (a := rwL P) (b := k) (by omega)) ?_
  refine lv_istore_n (lv' := [(3, .int (nI ((rwL P) - k))), (0, .long (lN (P))), (2, .int (nI (k)))]) hx hb dX2_beginning_6 rfl hl (by decide) rfl (fun ls hl => ?_)
  refine lv_iload_n hx hb dX2_beginning_7 rfl (lv_at hl 2 rfl) ?_
  refine lv_lload_n hx hb dX2_beginning_8 rfl (lv_at hl 1 rfl) ?_
  refine lv_ldc2 (v := lN 1125899906842623) hx hb hown (hts (.constantLong RX2 15 (1125899906842623)) (by decide +kernel)) dX2_beginning_9 ?_
  refine lv_land hx hb dX2_beginning_12 ?_
  refine tp_l (b := (lN (rwC P))) (wb_mask (k := 50) (by omega) (by decide)) ?_
  refine lv_iconst (v := nI 5) hx hb dX2_beginning_13 (by decide) ?_
  refine lv_iload_n hx hb dX2_beginning_14 rfl (lv_at hl 0 rfl) ?_
  refine lv_imul hx hb dX2_beginning_15 ?_
  refine tp_i (pk_mul 5 ((rwL P) - k)) ?_
  refine lv_lushr (v := (lN (rwC P / 32 ^ (rwL P - k)))) hx hb dX2_beginning_16 (pk_sh (by omega) _ (by omega)) ?_
  refine call_lP (As := [.int (nI (k)), .long (lN (rwC P / 32 ^ (rwL P - k)))]) (rest := []) ⟨hx, hb, hml, hown, hts⟩ (c_X2_pack l k (rwC P / 32 ^ (rwL P - k)) (by omega) (by omega)) (va_cwS 2 hts gX2_beginning_X2_pack rfl rfl rfl (by decide +kernel) ⟨Nat.le_of_ble_eq_true rfl, Nat.le_of_ble_eq_true rfl⟩) hP hK hD hS hA rfl hl.1 rfl (Nat.le_of_ble_eq_true rfl) dX2_beginning_17 ⟨Nat.le_refl _, Nat.le_refl _⟩ (fun r_17 H locs h_17 hP hD hS => ?_)
  subst h_17
  exact hret (lN (rwB P k)) [] _ _ _ _ dX2_beginning_20 (⟨rfl, rfl⟩) hP hD hS

abbrev rm_X2_beginsWith : Room := { frames := 1, cells := 0, slots := 0, locals := 21 }
set_option maxHeartbeats 4000000 in
set_option maxRecDepth 100000 in
theorem c_X2_beginsWith (l : Launch) (P Q : Nat) (hV : RV P) (hU : RV Q) : Pi l yX2_beginsWith wsX2_beginsWith rm_X2_beginsWith [.long (lN (P)), .long (lN (Q))] (fun r => Bv r (rwL Q ≤ rwL P ∧ rwB P (rwL Q) = Q)) := by
  intro g
  refine Ci.ofZ (cc := cX2_beginsWith) (maxL := 5) (by decide) rfl (Nat.le_of_ble_eq_true rfl) ?_
  intro p e s m args below meth c A Z hx hb hml hts hown hK hA hret H locs ls hP hD hS hl
  have hl : lv_has ls 5 [(0, .long (lN (P))), (2, .long (lN (Q)))] := hl
  have h10 := hV.1
  have h11 := hU.1
  have hV0 := hV.lt
  have hU0 := hU.lt
  obtain ⟨bh, hbh⟩ : ∃ bh : Int32, nI (rwL P) - nI (rwL Q) = bh := ⟨_, rfl⟩
  refine lv_lload_n hx hb dX2_beginsWith_0 rfl (lv_at hl 0 rfl) ?_
  refine call_iP (As := [.long (lN (P))]) (rest := []) ⟨hx, hb, hml, hown, hts⟩ (c_X2_lengthOf l P (hV.lt)) (va_cwS 1 hts gX2_beginsWith_X2_lengthOf rfl rfl rfl (by decide +kernel) ⟨Nat.le_of_ble_eq_true rfl, Nat.le_of_ble_eq_true rfl⟩) hP hK hD hS hA rfl hl.1 rfl (Nat.le_of_ble_eq_true rfl) dX2_beginsWith_1 ⟨Nat.le_refl _, Nat.le_refl _⟩ (fun r_1 H locs h_1 hP hD hS => ?_)
  subst h_1
  refine lv_lload_n hx hb dX2_beginsWith_4 rfl (lv_at hl 1 rfl) ?_
  refine call_iP (As := [.long (lN (Q))]) (rest := [.int (nI (rwL P))]) ⟨hx, hb, hml, hown, hts⟩ (c_X2_lengthOf l Q (hU.lt)) (va_cwS 1 hts gX2_beginsWith_X2_lengthOf rfl rfl rfl (by decide +kernel) ⟨Nat.le_of_ble_eq_true rfl, Nat.le_of_ble_eq_true rfl⟩) hP hK hD hS hA rfl hl.1 rfl (Nat.le_of_ble_eq_true rfl) dX2_beginsWith_5 ⟨Nat.le_refl _, Nat.le_refl _⟩ (fun r_5 H locs h_5 hP hD hS => ?_)
  subst h_5
  refine lv_isub hx hb dX2_beginsWith_8 ?_
  refine tp_i (b := (bh)) (hbh) ?_
  refine lv_istore (lv' := [(4, .int (bh)), (0, .long (lN (P))), (2, .long (lN (Q)))]) hx hb dX2_beginsWith_9 hl (by decide) rfl (fun ls hl => ?_)
  refine lv_iload hx hb dX2_beginsWith_11 (lv_at hl 0 rfl) ?_
  refine lv_if_lt (tgt := 39) hx hb dX2_beginsWith_13 (by decide) (fun c_13_1 => ?_) (fun c_13_1 => ?_)
  · skip
    have hlt : rwL P < rwL Q := by
      rcases Nat.lt_or_ge (rwL P) (rwL Q) with q9 | q9
      · exact q9
      · rw [← hbh, pk_sub q9] at c_13_1
        exact absurd c_13_1 (nI_pos (by omega))
    refine lv_iconst (v := nI 0) hx hb dX2_beginsWith_39 (by decide) ?_
    exact hret (nI (0)) [] _ _ _ _ dX2_beginsWith_40 (Or.inl rfl) (⟨rfl, Bv.no (fun q9 => by have := q9.1; omega)⟩) hP hD hS
  · skip
    have hle : rwL Q ≤ rwL P := by
      rcases Nat.lt_or_ge (rwL P) (rwL Q) with q9 | q9
      · exact absurd (by rw [← hbh]; exact sub_neg (by omega) (by omega) q9) c_13_1
      · exact q9
    obtain rfl : bh = nI (rwL P - rwL Q) := by rw [← hbh, pk_sub hle]
    have hc1 := rc_lt P
    have hc3 := rc_lt Q
    have hc2 := Nat.div_le_self (rwC P) (32 ^ (rwL P - rwL Q))
    have bw_e : rwB P (rwL Q) = Q ↔ rwC P / 32 ^ (rwL P - rwL Q) = rwC Q := bw_iff hV hle
    refine lv_lload_n hx hb dX2_beginsWith_16 rfl (lv_at hl 1 rfl) ?_
    refine lv_ldc2 (v := lN 1125899906842623) hx hb hown (hts (.constantLong RX2 15 (1125899906842623)) (by decide +kernel)) dX2_beginsWith_17 ?_
    refine lv_land hx hb dX2_beginsWith_20 ?_
    refine tp_l (b := (lN (rwC P))) (wb_mask (k := 50) (by omega) (by decide)) ?_
    refine lv_iconst (v := nI 5) hx hb dX2_beginsWith_21 (by decide) ?_
    refine lv_iload hx hb dX2_beginsWith_22 (lv_at hl 0 rfl) ?_
    refine lv_imul hx hb dX2_beginsWith_24 ?_
    refine tp_i (pk_mul 5 (rwL P - rwL Q)) ?_
    refine lv_lushr (v := (lN (rwC P / 32 ^ (rwL P - rwL Q)))) hx hb dX2_beginsWith_25 (pk_sh (by omega) _ (by omega)) ?_
    refine lv_lload_n hx hb dX2_beginsWith_26 rfl (lv_at hl 2 rfl) ?_
    refine lv_ldc2 (v := lN 1125899906842623) hx hb hown (hts (.constantLong RX2 15 (1125899906842623)) (by decide +kernel)) dX2_beginsWith_27 ?_
    refine lv_land hx hb dX2_beginsWith_30 ?_
    refine tp_l (b := (lN (rwC Q))) (wb_mask (k := 50) (by omega) (by decide)) ?_
    refine W.lcmp hx hb dX2_beginsWith_31 ?_
    refine lv_if_ne (tgt := 39) hx hb dX2_beginsWith_32 (by decide) (fun c_32_2 => ?_) (fun c_32_2 => ?_)
    · skip
      have n_32_2 : ¬ rwC P / 32 ^ (rwL P - rwL Q) = rwC Q := fun q9 => c_32_2 ((lc_eq (a := rwC P / 32 ^ (rwL P - rwL Q)) (b := rwC Q) (by omega) (by omega)).mpr q9)
      refine lv_iconst (v := nI 0) hx hb dX2_beginsWith_39 (by decide) ?_
      exact hret (nI (0)) [] _ _ _ _ dX2_beginsWith_40 (Or.inl rfl) (⟨rfl, Bv.no (fun q9 => n_32_2 (bw_e.mp q9.2))⟩) hP hD hS
    · skip
      have n_32_2 : rwC P / 32 ^ (rwL P - rwL Q) = rwC Q := (lc_eq (a := rwC P / 32 ^ (rwL P - rwL Q)) (b := rwC Q) (by omega) (by omega)).mp c_32_2
      refine lv_iconst (v := nI 1) hx hb dX2_beginsWith_35 (by decide) ?_
      refine lv_goto (tgt := 40) hx hb dX2_beginsWith_36 (by decide) ?_
      exact hret (nI (1)) [] _ _ _ _ dX2_beginsWith_40 (Or.inr rfl) (⟨rfl, Bv.yes ⟨hle, bw_e.mpr n_32_2⟩⟩) hP hD hS

abbrev rm_X2_lengthShared : Room := { frames := 2, cells := 0, slots := 0, locals := 45 }
set_option maxHeartbeats 4000000 in
set_option maxRecDepth 100000 in
theorem c_X2_lengthShared (l : Launch) (P Q : Nat) (hV : RV P) (hU : RV Q) : Pi l yX2_lengthShared wsX2_lengthShared rm_X2_lengthShared [.long (lN (P)), .long (lN (Q))] (fun r => r = nI (shr P Q)) := by
  intro g
  refine Ci.ofI (cc := cX2_lengthShared) (maxL := 5) (by decide) rfl (Nat.le_of_ble_eq_true rfl) ?_
  intro p e s m args below meth c A Z hx hb hml hts hown hK hA hret H locs ls hP hD hS hl
  have hl : lv_has ls 5 [(0, .long (lN (P))), (2, .long (lN (Q)))] := hl
  have h10 := hV.1
  have h11 := hU.1
  refine lv_lload_n hx hb dX2_lengthShared_0 rfl (lv_at hl 0 rfl) ?_
  refine call_iP (As := [.long (lN (P))]) (rest := []) ⟨hx, hb, hml, hown, hts⟩ (c_X2_lengthOf l P (hV.lt)) (va_cwS 1 hts gX2_lengthShared_X2_lengthOf rfl rfl rfl (by decide +kernel) ⟨Nat.le_of_ble_eq_true rfl, Nat.le_of_ble_eq_true rfl⟩) hP hK hD hS hA rfl hl.1 rfl (Nat.le_of_ble_eq_true rfl) dX2_lengthShared_1 ⟨Nat.le_refl _, Nat.le_refl _⟩ (fun r_1 H locs h_1 hP hD hS => ?_)
  subst h_1
  refine lv_lload_n hx hb dX2_lengthShared_4 rfl (lv_at hl 1 rfl) ?_
  refine call_iP (As := [.long (lN (Q))]) (rest := [.int (nI (rwL P))]) ⟨hx, hb, hml, hown, hts⟩ (c_X2_lengthOf l Q (hU.lt)) (va_cwS 1 hts gX2_lengthShared_X2_lengthOf rfl rfl rfl (by decide +kernel) ⟨Nat.le_of_ble_eq_true rfl, Nat.le_of_ble_eq_true rfl⟩) hP hK hD hS hA rfl hl.1 rfl (Nat.le_of_ble_eq_true rfl) dX2_lengthShared_5 ⟨Nat.le_refl _, Nat.le_refl _⟩ (fun r_5 H locs h_5 hP hD hS => ?_)
  subst h_5
  refine va_mmin hx hb (by rw [hml]; exact hl.1.symm) hown (hts (.methodLink RX2 21 Lib.Math.min.name) (by decide +kernel)) (hts (.static Lib.Math.min.name) (by decide +kernel)) (hts (.initialized "java/lang/Math") (by decide +kernel)) (hts (.code Lib.Math.min.name Lib.Math.min.code 2 (some .int)) (by decide +kernel)) (Nat.le_of_ble_eq_true rfl) (Nat.le_of_ble_eq_true rfl) (Nat.zero_le _) (Nat.zero_le _) dX2_lengthShared_8 ?_
  refine tp_i (b := (nI (min (rwL P) (rwL Q)))) (min_nI (by omega) (by omega)) ?_
  refine lv_istore (lv' := [(4, .int (nI (min (rwL P) (rwL Q)))), (0, .long (lN (P))), (2, .long (lN (Q)))]) hx hb dX2_lengthShared_11 hl (by decide) rfl (fun ls hl => ?_)
  have L_13 : ∀ (fu : Nat) (k : Nat), k < fu → (k ≤ rwL P) → (k ≤ rwL Q) → (shD P Q k = shr P Q) → ∀ (H : Heap) (locs : List Loc) (ls : Array Slot), va_P g.1 vwCl [] H → va_D A [] → va_S A s.heap H locs → lv_has ls 5 [(0, .long (lN (P))), (2, .long (lN (Q))), (4, .int (nI (k)))] → W p l e rm_X2_lengthShared s m args below meth c H locs 0 0 Z (F0 m 13 ls []) := by
    intro fu
    induction fu with
    | zero => intro _ h0; exact absurd h0 (Nat.not_lt_zero _)
    | succ fu ih_13 =>
      intro k hfu hk1 hk2 hk3 H locs ls hP hD hS hl
      refine lv_iload hx hb dX2_lengthShared_13 (lv_at hl 2 rfl) ?_
      refine lv_if_le (tgt := 40) hx hb dX2_lengthShared_15 (by decide) (fun c_15_1 => ?_) (fun c_15_1 => ?_)
      · skip
        have n_15_1 : k ≤ 0 := (nI_leI (a := k) (b := 0) (by omega) (by omega)).mp c_15_1
        refine lv_iload hx hb dX2_lengthShared_40 (lv_at hl 2 rfl) ?_
        exact hret (nI (k)) [] _ _ _ _ dX2_lengthShared_42 (⟨rfl, by rw [← hk3, shD_t (by rw [Nat.le_zero.mp n_15_1, hV.rb0, hU.rb0])]⟩) hP hD hS
      · skip
        have n_15_1 : ¬ k ≤ 0 := fun q9 => c_15_1 ((nI_leI (a := k) (b := 0) (by omega) (by omega)).mpr q9)
        refine lv_lload_n hx hb dX2_lengthShared_18 rfl (lv_at hl 0 rfl) ?_
        refine lv_iload hx hb dX2_lengthShared_19 (lv_at hl 2 rfl) ?_
        refine call_lP (As := [.long (lN (P)), .int (nI (k))]) (rest := []) ⟨hx, hb, hml, hown, hts⟩ (c_X2_beginning l P k hV (by omega)) (va_cwS 2 hts gX2_lengthShared_X2_beginning rfl rfl rfl (by decide +kernel) ⟨Nat.le_of_ble_eq_true rfl, Nat.le_of_ble_eq_true rfl⟩) hP hK hD hS hA rfl hl.1 rfl (Nat.le_of_ble_eq_true rfl) dX2_lengthShared_21 ⟨Nat.le_refl _, Nat.le_refl _⟩ (fun r_21 H locs h_21 hP hD hS => ?_)
        subst h_21
        refine lv_lload_n hx hb dX2_lengthShared_24 rfl (lv_at hl 1 rfl) ?_
        refine lv_iload hx hb dX2_lengthShared_25 (lv_at hl 2 rfl) ?_
        refine call_lP (As := [.long (lN (Q)), .int (nI (k))]) (rest := [.long (lN (rwB P k))]) ⟨hx, hb, hml, hown, hts⟩ (c_X2_beginning l Q k hU (by omega)) (va_cwS 2 hts gX2_lengthShared_X2_beginning rfl rfl rfl (by decide +kernel) ⟨Nat.le_of_ble_eq_true rfl, Nat.le_of_ble_eq_true rfl⟩) hP hK hD hS hA rfl hl.1 rfl (Nat.le_of_ble_eq_true rfl) dX2_lengthShared_27 ⟨Nat.le_refl _, Nat.le_refl _⟩ (fun r_27 H locs h_27 hP hD hS => ?_)
        subst h_27
        have hB1 := (hV.rb (m := k) (by omega)).lt
        have hB2 := (hU.rb (m := k) (by omega)).lt
        refine W.lcmp hx hb dX2_lengthShared_30 ?_
        refine lv_if_eq (tgt := 40) hx hb dX2_lengthShared_31 (by decide) (fun c_31_2 => ?_) (fun c_31_2 => ?_)
        · skip
          have n_31_2 : rwB P k = rwB Q k := (lc_eq (a := rwB P k) (b := rwB Q k) (by omega) (by omega)).mp c_31_2
          refine lv_iload hx hb dX2_lengthShared_40 (lv_at hl 2 rfl) ?_
          exact hret (nI (k)) [] _ _ _ _ dX2_lengthShared_42 (⟨rfl, by rw [← hk3, shD_t n_31_2]⟩) hP hD hS
        · skip
          have n_31_2 : ¬ rwB P k = rwB Q k := fun q9 => c_31_2 ((lc_eq (a := rwB P k) (b := rwB Q k) (by omega) (by omega)).mpr q9)
          refine lv_iinc (v := (nI (k - 1))) (lv' := [(4, .int (nI (k - 1))), (0, .long (lN (P))), (2, .long (lN (Q)))]) hx hb dX2_lengthShared_34 hl (k := 2) rfl (dec1 (by omega)) (by decide) rfl (fun ls hl => ?_)
          refine lv_goto (tgt := 13) hx hb dX2_lengthShared_37 (by decide) ?_
          exact ih_13 (k - 1) (by omega) (by omega) (by omega) ((shD_f (by omega) n_31_2).symm.trans hk3) _ _ _ hP hD hS (lv_sub hl [1, 2, 0] rfl)
  exact L_13 (_ + 1) (min (rwL P) (rwL Q)) (Nat.lt_succ_self _) (by omega) (by omega) (rfl) _ _ _ hP hD hS (lv_sub hl [1, 2, 0] rfl)
