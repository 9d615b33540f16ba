/-! the reference's words: fN their lengths, fL their letters -/
def MD (fL fN : Nat → Int32) (D : Nat → Nat) (n : Nat) : Prop := ∀ k, k < n → RV (D k) ∧ fN k = nI (rwL (D k)) ∧ ∀ j, j < rwL (D k) → fL (10 * k + j) = nI (rwA (D k) j)
def MRw (fS : Nat → Int32) (Q : Nat) : Prop := ∀ j, j < rwL Q → fS j = nI (rwA Q j)
def alP (P Q k : Nat) : Prop := k ≤ rwL P ∧ k ≤ rwL Q ∧ rwB P k = rwB Q k
theorem rwA_lt (P i : Nat) : rwA P i < 32 := Nat.mod_lt _ (by decide)
theorem bg_of {Y R : Nat} (hY : RV Y) (hR : RV R) (h1 : rwL R ≤ rwL Y) (h2 : ∀ j, j < rwL R → rwA Y j = rwA R j) : bgP Y R := ⟨h1, by rw [RV.ext hY hR h1 (Nat.le_refl _) h2, rb_all]⟩
theorem bg_to {Y R : Nat} (hY : RV Y) (hR : RV R) (h : bgP Y R) : rwL R ≤ rwL Y ∧ ∀ j, j < rwL R → rwA Y j = rwA R j :=
  ⟨h.1, fun j hj => RV.ext_a hY hR h.1 (Nat.le_refl _) (by rw [rb_all]; exact h.2) hj⟩
theorem al_of {P Q k : Nat} (hP : RV P) (hQ : RV Q) (h1 : k ≤ rwL P) (h2 : k ≤ rwL Q) (h3 : ∀ j, j < k → rwA P j = rwA Q j) : alP P Q k := ⟨h1, h2, RV.ext hP hQ h1 h2 h3⟩
theorem al_to {P Q k : Nat} (hP : RV P) (hQ : RV Q) (h : alP P Q k) : ∀ j, j < k → rwA P j = rwA Q j := fun _ hj => RV.ext_a hP hQ h.1 h.2.1 h.2.2 hj
theorem Bv.one {x : Int32} {P : Prop} (h : Bv x P) (p : P) : x = 1 := by
  rcases h with ⟨h, -⟩ | ⟨-, h⟩
  · exact h
  · exact absurd p h
theorem Bv.zero {x : Int32} {P : Prop} (h : Bv x P) (p : ¬ P) : x = 0 := by
  rcases h with ⟨-, h⟩ | ⟨h, -⟩
  · exact absurd h p
  · exact h
theorem bg_eq {Y R : Nat} (h1 : rwL Y = rwL R) (h2 : bgP Y R) : Y = R := by
  have h := h2.2
  rw [← h1, rb_all] at h
  exact h
theorem bg_self (R : Nat) : bgP R R := ⟨Nat.le_refl _, rb_all⟩
theorem rw_lt_len {P Q : Nat} (h : rwL P < rwL Q) : P < Q := by
  have h1 := rk_e P
  have h2 := rk_e Q
  have h3 := rc_lt P
  unfold rwK at h1 h2
  omega
theorem rw_lt_code {P Q : Nat} (h : rwL P = rwL Q) (hc : rwC P < rwC Q) : P < Q := by
  have h1 := rk_e P
  have h2 := rk_e Q
  unfold rwK at h1 h2
  omega
theorem RV.lt_letter {P Q i : Nat} (hP : RV P) (hQ : RV Q) (hl : rwL P = rwL Q) (hi : i < rwL P) (he : ∀ j, j < i → rwA P j = rwA Q j) (hlt : rwA P i < rwA Q i) : P < Q := by
  refine rw_lt_code hl ?_
  have e := RV.ext hP hQ (m := i) (by omega) (by omega) he
  have e1 : rwC P / 32 ^ (rwL P - i) = rwC Q / 32 ^ (rwL P - i) := by
    have h1 := hP.rbc (m := i) (by omega)
    have h2 := hQ.rbc (m := i) (by omega)
    rw [e] at h1
    rw [← h1, h2, hl]
  have e2 : rwL P - i = (rwL P - 1 - i) + 1 := by omega
  rw [e2, Nat.pow_succ, ← Nat.div_div_eq_div_mul, ← Nat.div_div_eq_div_mul] at e1
  unfold rwA at hlt
  rw [← hl] at hlt
  rcases Nat.lt_or_ge (rwC P) (rwC Q) with q | q
  · exact q
  · have h3 := Nat.div_le_div_right (c := 32 ^ (rwL P - 1 - i)) q
    omega
theorem RV.eq_all {P Q : Nat} (hP : RV P) (hQ : RV Q) (hl : rwL P = rwL Q) (he : ∀ j, j < rwL P → rwA P j = rwA Q j) : P = Q := by
  have e := RV.ext hP hQ (m := rwL P) (Nat.le_refl _) (by omega) he
  rw [rb_all, hl, rb_all] at e
  exact e
def fdP (D : Nat → Nat) (SL k : Nat) (x : Int32) : Prop := (∃ j, j < k ∧ D j = SL ∧ x = nI j) ∨ ((∀ j, j < k → D j ≠ SL) ∧ x = -1)
theorem fd_no {D : Nat → Nat} {SL k : Nat} {x : Int32} (h : fdP D SL (k) x) (hn : ¬ D k = SL) : fdP D SL (k + 1) x := by
  rcases h with ⟨j, h1, h2, h3⟩ | ⟨h1, h2⟩
  · exact Or.inl ⟨j, by omega, h2, h3⟩
  · exact Or.inr ⟨lt_s h1 hn, h2⟩
abbrev rm_X5_thrown : Room := { frames := 0, cells := 0, slots := 0, locals := 0 }
set_option maxHeartbeats 4000000 in
set_option maxRecDepth 100000 in
theorem c_X5_thrown (l : Launch) (g : GG) (h : Nat) (a : Nat → Nat) (sl n L P tu la wi fl th : Int32) (fS fL fN fK fF fW fE fC fG fO : Nat → Int32) : Ci l yX5_thrown wsX5_thrown rm_X5_thrown g [.ref (h)] (MW g h a sl n L P tu la wi fl th fS fL fN fK fF fW fE fC fG fO) (fun r w => r = th ∧ w = (MW g h a sl n L P tu la wi fl th fS fL fN fK fF fW fE fC fG fO)) := by
  refine Ci.ofI (cc := cX5_thrown) (maxL := 1) (by decide) rfl (Nat.le_of_ble_eq_true rfl) ?_
  intro p e s m args below meth c A Z hx hb hml hts hown hK hA hret H locs ls hP hD hS hl
  have f_48 := hts (.fieldLink RX5 48 "GhostGameModel" "thrown" "I") (by decide +kernel)
  have hi_3 : ∀ w ∈ wsX50, w ∈ wsX5_thrown := by decide +kernel
  have hl : lv_has ls 1 [(0, .ref (h))] := hl
  refine lv_aload_n hx hb dX5_thrown_0 rfl (lv_at hl 0 rfl) ?_
  refine va_get (D := g.1) (ci := 3) (v := .int (th)) (C := RX5) (T := TX5) (N := 19) hx hb hts hi_3 hown hK hP 0 rfl rfl 18 (by decide) f_48 (fun _ h9 => h9) rfl dX5_thrown_1 ?_
  exact hret (th) (MW g h a sl n L P tu la wi fl th fS fL fN fK fF fW fE fC fG fO) _ _ _ _ dX5_thrown_4 (⟨rfl, rfl⟩) hP hD hS

abbrev rm_X5_told : Room := { frames := 0, cells := 0, slots := 0, locals := 0 }
set_option maxHeartbeats 4000000 in
set_option maxRecDepth 100000 in
theorem c_X5_told (l : Launch) (g : GG) (h : Nat) (a : Nat → Nat) (sl n L P tu la wi fl th : Int32) (fS fL fN fK fF fW fE fC fG fO : Nat → Int32) (v0 : Int32) : Ci l yX5_told wsX5_told rm_X5_told g [.ref (h), .int (v0)] (MW g h a sl n L P tu la wi fl th fS fL fN fK fF fW fE fC fG fO) (fun r w => r = v0 ∧ w = (MW g h a sl n L P tu la wi fl (nI 0) fS fL fN fK fF fW fE fC fG fO)) := by
  refine Ci.ofI (cc := cX5_told) (maxL := 2) (by decide) rfl (Nat.le_of_ble_eq_true rfl) ?_
  intro p e s m args below meth c A Z hx hb hml hts hown hK hA hret H locs ls hP hD hS hl
  have f_48 := hts (.fieldLink RX5 48 "GhostGameModel" "thrown" "I") (by decide +kernel)
  have hi_3 : ∀ w ∈ wsX50, w ∈ wsX5_told := by decide +kernel
  have hl : lv_has ls 2 [(0, .ref (h)), (1, .int (v0))] := hl
  refine lv_aload_n hx hb dX5_told_0 rfl (lv_at hl 0 rfl) ?_
  refine lv_iconst (v := nI 0) hx hb dX5_told_1 (by decide) ?_
  refine va_put (D := g.1) (ci := 3) (v := .int (nI (0))) (ty := .int) (C := RX5) (T := TX5) (N := 19) hx hb hts hi_3 tyX5 tyX5_ok nmX5 hown hK hP hD hS 0 rfl rfl 18 (by decide) f_48 (fun _ h9 => h9) rfl (by decide +kernel) rfl rfl (Nat.le_of_ble_eq_true rfl) dX5_told_2 (fun H locs hP hD hS => ?_)
  have hP : va_P g.1 vwCl (MW g h a sl n L P tu la wi fl (nI 0) fS fL fN fK fF fW fE fC fG fO) H := hP
  have hD : va_D A (MW g h a sl n L P tu la wi fl (nI 0) fS fL fN fK fF fW fE fC fG fO) := hD
  refine lv_iload_n hx hb dX5_told_5 rfl (lv_at hl 1 rfl) ?_
  exact hret (v0) (MW g h a sl n L P tu la wi fl (nI 0) fS fL fN fK fF fW fE fC fG fO) _ _ _ _ dX5_told_6 (⟨rfl, rfl⟩) hP hD hS

abbrev rm_X5_asked_1 : Room := { frames := 0, cells := 0, slots := 0, locals := 0 }
set_option maxHeartbeats 4000000 in
set_option maxRecDepth 100000 in
theorem c_X5_asked_1 (l : Launch) (g : GG) (h : Nat) (a : Nat → Nat) (sl n L P tu la wi fl th : Int32) (fS fL fN fK fF fW fE fC fG fO : Nat → Int32) : Ci l yX5_asked wsX5_asked rm_X5_asked_1 g [.ref (h), .int (nI (1))] (MW g h a sl n L P tu la wi fl th fS fL fN fK fF fW fE fC fG fO) (fun r w => r = nI 1 ∧ w = (MW g h a sl n L P tu la wi fl (nI 0) fS fL fN fK fF fW fE fC fG fO)) := by
  refine Ci.ofZ (cc := cX5_asked) (maxL := 2) (by decide) rfl (Nat.le_of_ble_eq_true rfl) ?_
  intro p e s m args below meth c A Z hx hb hml hts hown hK hA hret H locs ls hP hD hS hl
  have f_48 := hts (.fieldLink RX5 48 "GhostGameModel" "thrown" "I") (by decide +kernel)
  have hi_3 : ∀ w ∈ wsX50, w ∈ wsX5_asked := by decide +kernel
  have hl : lv_has ls 2 [(0, .ref (h)), (1, .int (nI (1)))] := hl
  refine lv_aload_n hx hb dX5_asked_0 rfl (lv_at hl 0 rfl) ?_
  refine lv_iload_n hx hb dX5_asked_1 rfl (lv_at hl 1 rfl) ?_
  refine lv_if_eq (tgt := 9) hx hb dX5_asked_2 (by decide) (fun c_2_1 => absurd c_2_1 (by decide)) (fun c_2_1 => ?_)
  refine lv_iconst (v := nI 0) hx hb dX5_asked_5 (by decide) ?_
  refine lv_goto (tgt := 10) hx hb dX5_asked_6 (by decide) ?_
  refine va_put (D := g.1) (ci := 3) (v := .int (nI (0))) (ty := .int) (C := RX5) (T := TX5) (N := 19) hx hb hts hi_3 tyX5 tyX5_ok nmX5 hown hK hP hD hS 0 rfl rfl 18 (by decide) f_48 (fun _ h9 => h9) rfl (by decide +kernel) rfl rfl (Nat.le_of_ble_eq_true rfl) dX5_asked_10 (fun H locs hP hD hS => ?_)
  have hP : va_P g.1 vwCl (MW g h a sl n L P tu la wi fl (nI 0) fS fL fN fK fF fW fE fC fG fO) H := hP
  have hD : va_D A (MW g h a sl n L P tu la wi fl (nI 0) fS fL fN fK fF fW fE fC fG fO) := hD
  refine lv_iload_n hx hb dX5_asked_13 rfl (lv_at hl 1 rfl) ?_
  exact hret (nI (1)) (MW g h a sl n L P tu la wi fl (nI 0) fS fL fN fK fF fW fE fC fG fO) _ _ _ _ dX5_asked_14 (Or.inr rfl) (⟨rfl, rfl⟩) hP hD hS

set_option maxHeartbeats 4000000 in
set_option maxRecDepth 100000 in
theorem c_X5_asked_0 (l : Launch) (g : GG) (h : Nat) (a : Nat → Nat) (sl n L P tu la wi fl th : Int32) (fS fL fN fK fF fW fE fC fG fO : Nat → Int32) : Ci l yX5_asked wsX5_asked rm_X5_asked_1 g [.ref (h), .int (nI (0))] (MW g h a sl n L P tu la wi fl th fS fL fN fK fF fW fE fC fG fO) (fun r w => r = nI 0 ∧ w = (MW g h a sl n L P tu la wi fl (nI 1) fS fL fN fK fF fW fE fC fG fO)) := by
  refine Ci.ofZ (cc := cX5_asked) (maxL := 2) (by decide) rfl (Nat.le_of_ble_eq_true rfl) ?_
  intro p e s m args below meth c A Z hx hb hml hts hown hK hA hret H locs ls hP hD hS hl
  have f_48 := hts (.fieldLink RX5 48 "GhostGameModel" "thrown" "I") (by decide +kernel)
  have hi_3 : ∀ w ∈ wsX50, w ∈ wsX5_asked := by decide +kernel
  have hl : lv_has ls 2 [(0, .ref (h)), (1, .int (nI (0)))] := hl
  refine lv_aload_n hx hb dX5_asked_0 rfl (lv_at hl 0 rfl) ?_
  refine lv_iload_n hx hb dX5_asked_1 rfl (lv_at hl 1 rfl) ?_
  refine lv_if_eq (tgt := 9) hx hb dX5_asked_2 (by decide) (fun c_2_1 => ?_) (fun c_2_1 => absurd (by decide) c_2_1)
  refine lv_iconst (v := nI 1) hx hb dX5_asked_9 (by decide) ?_
  refine va_put (D := g.1) (ci := 3) (v := .int (nI (1))) (ty := .int) (C := RX5) (T := TX5) (N := 19) hx hb hts hi_3 tyX5 tyX5_ok nmX5 hown hK hP hD hS 0 rfl rfl 18 (by decide) f_48 (fun _ h9 => h9) rfl (by decide +kernel) rfl rfl (Nat.le_of_ble_eq_true rfl) dX5_asked_10 (fun H locs hP hD hS => ?_)
  have hP : va_P g.1 vwCl (MW g h a sl n L P tu la wi fl (nI 1) fS fL fN fK fF fW fE fC fG fO) H := hP
  have hD : va_D A (MW g h a sl n L P tu la wi fl (nI 1) fS fL fN fK fF fW fE fC fG fO) := hD
  refine lv_iload_n hx hb dX5_asked_13 rfl (lv_at hl 1 rfl) ?_
  exact hret (nI (0)) (MW g h a sl n L P tu la wi fl (nI 1) fS fL fN fK fF fW fE fC fG fO) _ _ _ _ dX5_asked_14 (Or.inl rfl) (⟨rfl, rfl⟩) hP hD hS

abbrev rm_X5_asked__11 : Room := { frames := 0, cells := 0, slots := 0, locals := 0 }
set_option maxHeartbeats 4000000 in
set_option maxRecDepth 100000 in
theorem c_X5_asked__11 (l : Launch) (g : GG) (h : Nat) (a : Nat → Nat) (sl n L P tu la wi fl th : Int32) (fS fL fN fK fF fW fE fC fG fO : Nat → Int32) : Ci l yX5_asked_ wsX5_asked_ rm_X5_asked__11 g [.ref (h), .int (nI (1)), .int (nI (1))] (MW g h a sl n L P tu la wi fl th fS fL fN fK fF fW fE fC fG fO) (fun r w => r = nI 1 ∧ w = (MW g h a sl n L P tu la wi fl (nI 0) fS fL fN fK fF fW fE fC fG fO)) := by
  refine Ci.ofZ (cc := cX5_asked_) (maxL := 3) (by decide) rfl (Nat.le_of_ble_eq_true rfl) ?_
  intro p e s m args below meth c A Z hx hb hml hts hown hK hA hret H locs ls hP hD hS hl
  have f_48 := hts (.fieldLink RX5 48 "GhostGameModel" "thrown" "I") (by decide +kernel)
  have hi_3 : ∀ w ∈ wsX50, w ∈ wsX5_asked_ := by decide +kernel
  have hl : lv_has ls 3 [(0, .ref (h)), (1, .int (nI (1))), (2, .int (nI (1)))] := hl
  refine lv_aload_n hx hb dX5_asked__0 rfl (lv_at hl 0 rfl) ?_
  refine lv_iload_n hx hb dX5_asked__1 rfl (lv_at hl 1 rfl) ?_
  refine lv_if_ne (tgt := 9) hx hb dX5_asked__2 (by decide) (fun c_2_1 => ?_) (fun c_2_1 => absurd c_2_1 (by decide))
  refine lv_iload_n hx hb dX5_asked__9 rfl (lv_at hl 2 rfl) ?_
  refine lv_if_eq (tgt := 17) hx hb dX5_asked__10 (by decide) (fun c_10_2 => absurd c_10_2 (by decide)) (fun c_10_2 => ?_)
  refine lv_iconst (v := nI 0) hx hb dX5_asked__13 (by decide) ?_
  refine lv_goto (tgt := 18) hx hb dX5_asked__14 (by decide) ?_
  refine va_put (D := g.1) (ci := 3) (v := .int (nI (0))) (ty := .int) (C := RX5) (T := TX5) (N := 19) hx hb hts hi_3 tyX5 tyX5_ok nmX5 hown hK hP hD hS 0 rfl rfl 18 (by decide) f_48 (fun _ h9 => h9) rfl (by decide +kernel) rfl rfl (Nat.le_of_ble_eq_true rfl) dX5_asked__18 (fun H locs hP hD hS => ?_)
  have hP : va_P g.1 vwCl (MW g h a sl n L P tu la wi fl (nI 0) fS fL fN fK fF fW fE fC fG fO) H := hP
  have hD : va_D A (MW g h a sl n L P tu la wi fl (nI 0) fS fL fN fK fF fW fE fC fG fO) := hD
  refine lv_aload_n hx hb dX5_asked__21 rfl (lv_at hl 0 rfl) ?_
  refine va_get (D := g.1) (ci := 3) (v := .int (nI (0))) (C := RX5) (T := TX5) (N := 19) hx hb hts hi_3 hown hK hP 0 rfl rfl 18 (by decide) f_48 (fun _ h9 => h9) rfl dX5_asked__22 ?_
  refine lv_if_ne (tgt := 32) hx hb dX5_asked__25 (by decide) (fun c_25_3 => absurd (by decide) c_25_3) (fun c_25_3 => ?_)
  refine lv_iconst (v := nI 1) hx hb dX5_asked__28 (by decide) ?_
  refine lv_goto (tgt := 33) hx hb dX5_asked__29 (by decide) ?_
  exact hret (nI (1)) (MW g h a sl n L P tu la wi fl (nI 0) fS fL fN fK fF fW fE fC fG fO) _ _ _ _ dX5_asked__33 (Or.inr rfl) (⟨rfl, rfl⟩) hP hD hS

set_option maxHeartbeats 4000000 in
set_option maxRecDepth 100000 in
theorem c_X5_asked__10 (l : Launch) (g : GG) (h : Nat) (a : Nat → Nat) (sl n L P tu la wi fl th : Int32) (fS fL fN fK fF fW fE fC fG fO : Nat → Int32) : Ci l yX5_asked_ wsX5_asked_ rm_X5_asked__11 g [.ref (h), .int (nI (1)), .int (nI (0))] (MW g h a sl n L P tu la wi fl th fS fL fN fK fF fW fE fC fG fO) (fun r w => r = nI 0 ∧ w = (MW g h a sl n L P tu la wi fl (nI 2) fS fL fN fK fF fW fE fC fG fO)) := by
  refine Ci.ofZ (cc := cX5_asked_) (maxL := 3) (by decide) rfl (Nat.le_of_ble_eq_true rfl) ?_
  intro p e s m args below meth c A Z hx hb hml hts hown hK hA hret H locs ls hP hD hS hl
  have f_48 := hts (.fieldLink RX5 48 "GhostGameModel" "thrown" "I") (by decide +kernel)
  have hi_3 : ∀ w ∈ wsX50, w ∈ wsX5_asked_ := by decide +kernel
  have hl : lv_has ls 3 [(0, .ref (h)), (1, .int (nI (1))), (2, .int (nI (0)))] := hl
  refine lv_aload_n hx hb dX5_asked__0 rfl (lv_at hl 0 rfl) ?_
  refine lv_iload_n hx hb dX5_asked__1 rfl (lv_at hl 1 rfl) ?_
  refine lv_if_ne (tgt := 9) hx hb dX5_asked__2 (by decide) (fun c_2_1 => ?_) (fun c_2_1 => absurd c_2_1 (by decide))
  refine lv_iload_n hx hb dX5_asked__9 rfl (lv_at hl 2 rfl) ?_
  refine lv_if_eq (tgt := 17) hx hb dX5_asked__10 (by decide) (fun c_10_2 => ?_) (fun c_10_2 => absurd (by decide) c_10_2)
  refine lv_iconst (v := nI 2) hx hb dX5_asked__17 (by decide) ?_
  refine va_put (D := g.1) (ci := 3) (v := .int (nI (2))) (ty := .int) (C := RX5) (T := TX5) (N := 19) hx hb hts hi_3 tyX5 tyX5_ok nmX5 hown hK hP hD hS 0 rfl rfl 18 (by decide) f_48 (fun _ h9 => h9) rfl (by decide +kernel) rfl rfl (Nat.le_of_ble_eq_true rfl) dX5_asked__18 (fun H locs hP hD hS => ?_)
  have hP : va_P g.1 vwCl (MW g h a sl n L P tu la wi fl (nI 2) fS fL fN fK fF fW fE fC fG fO) H := hP
  have hD : va_D A (MW g h a sl n L P tu la wi fl (nI 2) fS fL fN fK fF fW fE fC fG fO) := hD
  refine lv_aload_n hx hb dX5_asked__21 rfl (lv_at hl 0 rfl) ?_
  refine va_get (D := g.1) (ci := 3) (v := .int (nI (2))) (C := RX5) (T := TX5) (N := 19) hx hb hts hi_3 hown hK hP 0 rfl rfl 18 (by decide) f_48 (fun _ h9 => h9) rfl dX5_asked__22 ?_
  refine lv_if_ne (tgt := 32) hx hb dX5_asked__25 (by decide) (fun c_25_3 => ?_) (fun c_25_3 => absurd c_25_3 (by decide))
  refine lv_iconst (v := nI 0) hx hb dX5_asked__32 (by decide) ?_
  exact hret (nI (0)) (MW g h a sl n L P tu la wi fl (nI 2) fS fL fN fK fF fW fE fC fG fO) _ _ _ _ dX5_asked__33 (Or.inl rfl) (⟨rfl, rfl⟩) hP hD hS

set_option maxHeartbeats 4000000 in
set_option maxRecDepth 100000 in
theorem c_X5_asked__01 (l : Launch) (g : GG) (h : Nat) (a : Nat → Nat) (sl n L P tu la wi fl th : Int32) (fS fL fN fK fF fW fE fC fG fO : Nat → Int32) : Ci l yX5_asked_ wsX5_asked_ rm_X5_asked__11 g [.ref (h), .int (nI (0)), .int (nI (1))] (MW g h a sl n L P tu la wi fl th fS fL fN fK fF fW fE fC fG fO) (fun r w => r = nI 0 ∧ w = (MW g h a sl n L P tu la wi fl (nI 1) fS fL fN fK fF fW fE fC fG fO)) := by
  refine Ci.ofZ (cc := cX5_asked_) (maxL := 3) (by decide) rfl (Nat.le_of_ble_eq_true rfl) ?_
  intro p e s m args below meth c A Z hx hb hml hts hown hK hA hret H locs ls hP hD hS hl
  have f_48 := hts (.fieldLink RX5 48 "GhostGameModel" "thrown" "I") (by decide +kernel)
  have hi_3 : ∀ w ∈ wsX50, w ∈ wsX5_asked_ := by decide +kernel
  have hl : lv_has ls 3 [(0, .ref (h)), (1, .int (nI (0))), (2, .int (nI (1)))] := hl
  refine lv_aload_n hx hb dX5_asked__0 rfl (lv_at hl 0 rfl) ?_
  refine lv_iload_n hx hb dX5_asked__1 rfl (lv_at hl 1 rfl) ?_
  refine lv_if_ne (tgt := 9) hx hb dX5_asked__2 (by decide) (fun c_2_1 => absurd (by decide) c_2_1) (fun c_2_1 => ?_)
  refine lv_iconst (v := nI 1) hx hb dX5_asked__5 (by decide) ?_
  refine lv_goto (tgt := 18) hx hb dX5_asked__6 (by decide) ?_
  refine va_put (D := g.1) (ci := 3) (v := .int (nI (1))) (ty := .int) (C := RX5) (T := TX5) (N := 19) hx hb hts hi_3 tyX5 tyX5_ok nmX5 hown hK hP hD hS 0 rfl rfl 18 (by decide) f_48 (fun _ h9 => h9) rfl (by decide +kernel) rfl rfl (Nat.le_of_ble_eq_true rfl) dX5_asked__18 (fun H locs hP hD hS => ?_)
  have hP : va_P g.1 vwCl (MW g h a sl n L P tu la wi fl (nI 1) fS fL fN fK fF fW fE fC fG fO) H := hP
  have hD : va_D A (MW g h a sl n L P tu la wi fl (nI 1) fS fL fN fK fF fW fE fC fG fO) := hD
  refine lv_aload_n hx hb dX5_asked__21 rfl (lv_at hl 0 rfl) ?_
  refine va_get (D := g.1) (ci := 3) (v := .int (nI (1))) (C := RX5) (T := TX5) (N := 19) hx hb hts hi_3 hown hK hP 0 rfl rfl 18 (by decide) f_48 (fun _ h9 => h9) rfl dX5_asked__22 ?_
  refine lv_if_ne (tgt := 32) hx hb dX5_asked__25 (by decide) (fun c_25_2 => ?_) (fun c_25_2 => absurd c_25_2 (by decide))
  refine lv_iconst (v := nI 0) hx hb dX5_asked__32 (by decide) ?_
  exact hret (nI (0)) (MW g h a sl n L P tu la wi fl (nI 1) fS fL fN fK fF fW fE fC fG fO) _ _ _ _ dX5_asked__33 (Or.inl rfl) (⟨rfl, rfl⟩) hP hD hS

set_option maxHeartbeats 4000000 in
set_option maxRecDepth 100000 in
theorem c_X5_asked__00 (l : Launch) (g : GG) (h : Nat) (a : Nat → Nat) (sl n L P tu la wi fl th : Int32) (fS fL fN fK fF fW fE fC fG fO : Nat → Int32) : Ci l yX5_asked_ wsX5_asked_ rm_X5_asked__11 g [.ref (h), .int (nI (0)), .int (nI (0))] (MW g h a sl n L P tu la wi fl th fS fL fN fK fF fW fE fC fG fO) (fun r w => r = nI 0 ∧ w = (MW g h a sl n L P tu la wi fl (nI 1) fS fL fN fK fF fW fE fC fG fO)) := by
  refine Ci.ofZ (cc := cX5_asked_) (maxL := 3) (by decide) rfl (Nat.le_of_ble_eq_true rfl) ?_
  intro p e s m args below meth c A Z hx hb hml hts hown hK hA hret H locs ls hP hD hS hl
  have f_48 := hts (.fieldLink RX5 48 "GhostGameModel" "thrown" "I") (by decide +kernel)
  have hi_3 : ∀ w ∈ wsX50, w ∈ wsX5_asked_ := by decide +kernel
  have hl : lv_has ls 3 [(0, .ref (h)), (1, .int (nI (0))), (2, .int (nI (0)))] := hl
  refine lv_aload_n hx hb dX5_asked__0 rfl (lv_at hl 0 rfl) ?_
  refine lv_iload_n hx hb dX5_asked__1 rfl (lv_at hl 1 rfl) ?_
  refine lv_if_ne (tgt := 9) hx hb dX5_asked__2 (by decide) (fun c_2_1 => absurd (by decide) c_2_1) (fun c_2_1 => ?_)
  refine lv_iconst (v := nI 1) hx hb dX5_asked__5 (by decide) ?_
  refine lv_goto (tgt := 18) hx hb dX5_asked__6 (by decide) ?_
  refine va_put (D := g.1) (ci := 3) (v := .int (nI (1))) (ty := .int) (C := RX5) (T := TX5) (N := 19) hx hb hts hi_3 tyX5 tyX5_ok nmX5 hown hK hP hD hS 0 rfl rfl 18 (by decide) f_48 (fun _ h9 => h9) rfl (by decide +kernel) rfl rfl (Nat.le_of_ble_eq_true rfl) dX5_asked__18 (fun H locs hP hD hS => ?_)
  have hP : va_P g.1 vwCl (MW g h a sl n L P tu la wi fl (nI 1) fS fL fN fK fF fW fE fC fG fO) H := hP
  have hD : va_D A (MW g h a sl n L P tu la wi fl (nI 1) fS fL fN fK fF fW fE fC fG fO) := hD
  refine lv_aload_n hx hb dX5_asked__21 rfl (lv_at hl 0 rfl) ?_
  refine va_get (D := g.1) (ci := 3) (v := .int (nI (1))) (C := RX5) (T := TX5) (N := 19) hx hb hts hi_3 hown hK hP 0 rfl rfl 18 (by decide) f_48 (fun _ h9 => h9) rfl dX5_asked__22 ?_
  refine lv_if_ne (tgt := 32) hx hb dX5_asked__25 (by decide) (fun c_25_2 => ?_) (fun c_25_2 => absurd c_25_2 (by decide))
  refine lv_iconst (v := nI 0) hx hb dX5_asked__32 (by decide) ?_
  exact hret (nI (0)) (MW g h a sl n L P tu la wi fl (nI 1) fS fL fN fK fF fW fE fC fG fO) _ _ _ _ dX5_asked__33 (Or.inl rfl) (⟨rfl, rfl⟩) hP hD hS

abbrev rm_X5_isLetter : Room := { frames := 0, cells := 0, slots := 0, locals := 0 }
set_option maxHeartbeats 4000000 in
set_option maxRecDepth 100000 in
theorem c_X5_isLetter (l : Launch) (x : Int32) : Pi l yX5_isLetter wsX5_isLetter rm_X5_isLetter [.int (x)] (fun r => Bv r (∃ a : Nat, a < 26 ∧ nI a = x)) := by
  intro g
  refine Ci.ofZ (cc := cX5_isLetter) (maxL := 1) (by decide) rfl (Nat.le_of_ble_eq_true rfl) ?_
  intro p e s m args below meth c A Z hx hb hml hts hown hK hA hret H locs ls hP hD hS hl
  have hl : lv_has ls 1 [(0, .int (x))] := hl
  refine lv_iload_n hx hb dX5_isLetter_0 rfl (lv_at hl 0 rfl) ?_
  refine lv_if_lt (tgt := 14) hx hb dX5_isLetter_1 (by decide) (fun c_1_1 => ?_) (fun c_1_1 => ?_)
  · skip
    have nj : ¬ (∃ a : Nat, a < 26 ∧ nI a = x) := by
      rintro ⟨j, hj, rfl⟩
      exact nI_pos (by omega) c_1_1
    refine lv_iconst (v := nI 0) hx hb dX5_isLetter_14 (by decide) ?_
    exact hret (nI (0)) [] _ _ _ _ dX5_isLetter_15 (Or.inl rfl) (⟨rfl, Bv.no nj⟩) hP hD hS
  · skip
    refine lv_iload_n hx hb dX5_isLetter_4 rfl (lv_at hl 0 rfl) ?_
    refine lv_bipush (v := nI 26) hx hb dX5_isLetter_5 (by decide) ?_
    refine lv_icmp_ge (tgt := 14) hx hb dX5_isLetter_7 (by decide) (fun c_7_2 => ?_) (fun c_7_2 => ?_)
    · skip
      have nj : ¬ (∃ a : Nat, a < 26 ∧ nI a = x) := by
        rintro ⟨j, hj, rfl⟩
        have := (nI_leI (by omega) (by omega)).mp c_7_2
        omega
      refine lv_iconst (v := nI 0) hx hb dX5_isLetter_14 (by decide) ?_
      exact hret (nI (0)) [] _ _ _ _ dX5_isLetter_15 (Or.inl rfl) (⟨rfl, Bv.no nj⟩) hP hD hS
    · skip
      have nj : (∃ a : Nat, a < 26 ∧ nI a = x) := by
        rcases pk_ix x (n := 26) (by omega) with h | h | ⟨j, h1, h2⟩
        · exact absurd h c_1_1
        · exact absurd h c_7_2
        · exact ⟨j, h1, h2.symm⟩
      refine lv_iconst (v := nI 1) hx hb dX5_isLetter_10 (by decide) ?_
      refine lv_goto (tgt := 15) hx hb dX5_isLetter_11 (by decide) ?_
      exact hret (nI (1)) [] _ _ _ _ dX5_isLetter_15 (Or.inr rfl) (⟨rfl, Bv.yes nj⟩) hP hD hS

abbrev rm_X5_begins_S : Room := { frames := 0, cells := 0, slots := 0, locals := 0 }
set_option maxHeartbeats 4000000 in
set_option maxRecDepth 100000 in
theorem c_X5_begins_S (l : Launch) (g : GG) (h : Nat) (a : Nat → Nat) (SL n ll np : Nat) (tu la wi : Int32) (F : Nat) (th : Int32) (fS fL fN fK fF fW fE fC fG fO : Nat → Int32) (D : Nat → Nat) (hDm : MD fL fN D n) (hn : n ≤ 50) (hSL : RV SL) (hfS : MRw fS SL) (hFr : RV F) (hfF : MRw fF F) (hll : ll ≤ 10) (hp : np ≤ 4) (k : Nat) (hk : k < n) : Ci l yX5_begins wsX5_begins rm_X5_begins_S g [.ref (h), .int (nI (k)), .ref (a 0), .int (nI (rwL SL))] (MW g h a (nI (rwL SL)) (nI n) (nI ll) (nI np) tu la wi (nI (rwL F)) th fS fL fN fK fF fW fE fC fG fO) (fun r w => w = (MW g h a (nI (rwL SL)) (nI n) (nI ll) (nI np) tu la wi (nI (rwL F)) th fS fL fN fK fF fW fE fC fG fO) ∧ Bv r (bgP (D k) SL)) := by
  refine Ci.ofZ (cc := cX5_begins) (maxL := 6) (by decide) rfl (Nat.le_of_ble_eq_true rfl) ?_
  intro p e s m args below meth c A Z hx hb hml hts hown hK hA hret H locs ls hP hD hS hl
  have f_13 := hts (.fieldLink RX5 13 "GhostGameModel" "letters" "[I") (by decide +kernel)
  have f_16 := hts (.fieldLink RX5 16 "GhostGameModel" "length" "[I") (by decide +kernel)
  have hi_3 : ∀ w ∈ wsX50, w ∈ wsX5_begins := by decide +kernel
  have hl : lv_has ls 6 [(0, .ref (h)), (1, .int (nI (k))), (2, .ref (a 0)), (3, .int (nI (rwL SL)))] := hl
  have h10 : ∀ k9, k9 < n → rwL (D k9) ≤ 10 := fun k9 h9 => (hDm k9 h9).1.1
  have hk3 := h10 k hk
  have hR9 := hSL.1
  refine lv_aload_n hx hb dX5_begins_0 rfl (lv_at hl 0 rfl) ?_
  refine va_get (D := g.1) (ci := 3) (v := .ref (a 3)) (C := RX5) (T := TX5) (N := 19) hx hb hts hi_3 hown hK hP 0 rfl rfl 3 (by decide) f_16 (fun _ h9 => h9) rfl dX5_begins_1 ?_
  refine lv_iload_n hx hb dX5_begins_4 rfl (lv_at hl 1 rfl) ?_
  refine va_iald (n := 50) (f := fN) hx hb hK hP 3 0 rfl rfl (vp_in_nI (n := k) (by omega) (by decide)) dX5_begins_5 ?_
  refine tp_i (congrArg fN (nI_clamp (n := k) (by omega))) ?_
  refine tp_i (b := (nI (rwL (D k)))) ((hDm k (by omega)).2.1) ?_
  refine lv_iload_n hx hb dX5_begins_6 rfl (lv_at hl 3 rfl) ?_
  refine lv_icmp_lt (tgt := 14) hx hb dX5_begins_7 (by decide) (fun c_7_1 => ?_) (fun c_7_1 => ?_)
  · skip
    have n_7_1 : rwL (D k) < rwL SL := (nI_ltI (a := rwL (D k)) (b := rwL SL) (by omega) (by omega)).mp c_7_1
    refine lv_iconst (v := nI 0) hx hb dX5_begins_14 (by decide) ?_
    refine lv_istore (lv' := [(4, .int (nI (0))), (0, .ref (h)), (1, .int (nI (k))), (2, .ref (a 0)), (3, .int (nI (rwL SL)))]) hx hb dX5_begins_15 hl (by decide) rfl (fun ls hl => ?_)
    refine lv_iconst (v := nI 0) hx hb dX5_begins_17 (by decide) ?_
    refine lv_istore (lv' := [(5, .int (nI (0))), (4, .int (nI (0))), (0, .ref (h)), (1, .int (nI (k))), (2, .ref (a 0)), (3, .int (nI (rwL SL)))]) hx hb dX5_begins_18 hl (by decide) rfl (fun ls hl => ?_)
    have L_20 : ∀ (fu : Nat) (i : Nat) (x : Int32), rwL SL - i < fu → (i ≤ rwL SL) → (Bv x (rwL SL ≤ rwL (D k) ∧ ∀ j, j < i → rwA (D k) j = rwA SL j)) → ∀ (H : Heap) (locs : List Loc) (ls : Array Slot), va_P g.1 vwCl (MW g h a (nI (rwL SL)) (nI n) (nI ll) (nI np) tu la wi (nI (rwL F)) th fS fL fN fK fF fW fE fC fG fO) H → va_D A (MW g h a (nI (rwL SL)) (nI n) (nI ll) (nI np) tu la wi (nI (rwL F)) th fS fL fN fK fF fW fE fC fG fO) → va_S A s.heap H locs → lv_has ls 6 [(0, .ref (h)), (1, .int (nI (k))), (2, .ref (a 0)), (3, .int (nI (rwL SL))), (4, .int (x)), (5, .int (nI (i)))] → W p l e rm_X5_begins_S s m args below meth c H locs 0 0 Z (F0 m 20 ls []) := by
      intro fu
      induction fu with
      | zero => intro _ _ h0; exact absurd h0 (Nat.not_lt_zero _)
      | succ fu ih_20 =>
        intro i x hfu hi1 hx0 H locs ls hP hD hS hl
        refine lv_iload hx hb dX5_begins_20 (lv_at hl 5 rfl) ?_
        refine lv_iload_n hx hb dX5_begins_22 rfl (lv_at hl 3 rfl) ?_
        refine lv_icmp_ge (tgt := 63) hx hb dX5_begins_23 (by decide) (fun c_23_2 => ?_) (fun c_23_2 => ?_)
        · skip
          have n_23_2 : rwL SL ≤ i := (nI_leI (a := rwL SL) (b := i) (by omega) (by omega)).mp c_23_2
          refine lv_iload hx hb dX5_begins_63 (lv_at hl 4 rfl) ?_
          exact hret (x) (MW g h a (nI (rwL SL)) (nI n) (nI ll) (nI np) tu la wi (nI (rwL F)) th fS fL fN fK fF fW fE fC fG fO) _ _ _ _ dX5_begins_65 (Bv.z hx0) (⟨rfl, hx0.iff ⟨fun q9 => bg_of (hDm k hk).1 hSL q9.1 (fun j hj => q9.2 j (by omega)), fun q9 => ⟨q9.1, fun j hj => (bg_to (hDm k hk).1 hSL q9).2 j (by omega)⟩⟩⟩) hP hD hS
        · skip
          have n_23_2 : ¬ rwL SL ≤ i := fun q9 => c_23_2 ((nI_leI (a := rwL SL) (b := i) (by omega) (by omega)).mpr q9)
          refine lv_iload hx hb dX5_begins_26 (lv_at hl 4 rfl) ?_
          refine lv_if_eq (tgt := 63) hx hb dX5_begins_28 (by decide) (fun c_28_3 => ?_) (fun c_28_3 => ?_)
          · skip
            have n_28_3 := Bv.f hx0 c_28_3
            refine lv_iload hx hb dX5_begins_63 (lv_at hl 4 rfl) ?_
            exact hret (x) (MW g h a (nI (rwL SL)) (nI n) (nI ll) (nI np) tu la wi (nI (rwL F)) th fS fL fN fK fF fW fE fC fG fO) _ _ _ _ dX5_begins_65 (Bv.z hx0) (⟨rfl, Or.inr ⟨c_28_3, fun q9 => n_28_3 ⟨q9.1, fun j hj => (bg_to (hDm k hk).1 hSL q9).2 j (by omega)⟩⟩⟩) hP hD hS
          · skip
            have n_28_3 := Bv.t hx0 c_28_3
            obtain ⟨hq1, hq2⟩ := n_28_3
            have hq3 := h10 k hk
            have hq4 := rwA_lt (D k) i
            have hq5 := rwA_lt SL i
            refine lv_aload_n hx hb dX5_begins_31 rfl (lv_at hl 0 rfl) ?_
            refine va_get (D := g.1) (ci := 3) (v := .ref (a 2)) (C := RX5) (T := TX5) (N := 19) hx hb hts hi_3 hown hK hP 0 rfl rfl 2 (by decide) f_13 (fun _ h9 => h9) rfl dX5_begins_32 ?_
            refine lv_bipush (v := nI 10) hx hb dX5_begins_35 (by decide) ?_
            refine lv_iload_n hx hb dX5_begins_37 rfl (lv_at hl 1 rfl) ?_
            refine lv_imul hx hb dX5_begins_38 ?_
            refine tp_i (pk_mul 10 k) ?_
            refine lv_iload hx hb dX5_begins_39 (lv_at hl 5 rfl) ?_
            refine lv_iadd hx hb dX5_begins_41 ?_
            refine tp_i (nI_add (10 * k) i) ?_
            refine va_iald (n := 500) (f := fL) hx hb hK hP 2 0 rfl rfl (vp_in_nI (n := (10 * k) + i) (by omega) (by decide)) dX5_begins_42 ?_
            refine tp_i (congrArg fL (nI_clamp (n := (10 * k) + i) (by omega))) ?_
            refine tp_i (b := (nI (rwA (D k) i))) ((hDm k (by omega)).2.2 i (by omega)) ?_
            refine lv_aload_n hx hb dX5_begins_43 rfl (lv_at hl 2 rfl) ?_
            refine lv_iload hx hb dX5_begins_44 (lv_at hl 5 rfl) ?_
            refine va_iald (n := 10) (f := fS) hx hb hK hP 1 0 rfl rfl (vp_in_nI (n := i) (by omega) (by decide)) dX5_begins_46 ?_
            refine tp_i (congrArg fS (nI_clamp (n := i) (by omega))) ?_
            refine tp_i (b := (nI (rwA SL i))) (hfS i (by omega)) ?_
            refine lv_icmp_ne (tgt := 54) hx hb dX5_begins_47 (by decide) (fun c_47_4 => ?_) (fun c_47_4 => ?_)
            · skip
              have n_47_4 : ¬ rwA (D k) i = rwA SL i := fun q9 => c_47_4 ((nI_eq (a := rwA (D k) i) (b := rwA SL i) (by omega) (by omega)).mpr q9)
              refine lv_iconst (v := nI 0) hx hb dX5_begins_54 (by decide) ?_
              refine lv_istore (lv' := [(4, .int (nI (0))), (0, .ref (h)), (1, .int (nI (k))), (2, .ref (a 0)), (3, .int (nI (rwL SL))), (5, .int (nI (i)))]) hx hb dX5_begins_55 hl (by decide) rfl (fun ls hl => ?_)
              refine lv_iinc (v := (nI (i + 1))) (lv' := [(5, .int (nI (i + 1))), (4, .int (nI (0))), (0, .ref (h)), (1, .int (nI (k))), (2, .ref (a 0)), (3, .int (nI (rwL SL)))]) hx hb dX5_begins_57 hl (k := 5) rfl (nI_add (i) 1) (by decide) rfl (fun ls hl => ?_)
              refine lv_goto (tgt := 20) hx hb dX5_begins_60 (by decide) ?_
              exact ih_20 (i + 1) (nI (0)) (by omega) (by omega) (Bv.no (fun q9 => n_47_4 (q9.2 i (Nat.lt_succ_self i)))) _ _ _ hP hD hS (lv_sub hl [2, 3, 4, 5, 1, 0] rfl)
            · skip
              have n_47_4 : rwA (D k) i = rwA SL i := (nI_eq (a := rwA (D k) i) (b := rwA SL i) (by omega) (by omega)).mp c_47_4
              refine lv_iconst (v := nI 1) hx hb dX5_begins_50 (by decide) ?_
              refine lv_goto (tgt := 55) hx hb dX5_begins_51 (by decide) ?_
              refine lv_istore (lv' := [(4, .int (nI (1))), (0, .ref (h)), (1, .int (nI (k))), (2, .ref (a 0)), (3, .int (nI (rwL SL))), (5, .int (nI (i)))]) hx hb dX5_begins_55 hl (by decide) rfl (fun ls hl => ?_)
              refine lv_iinc (v := (nI (i + 1))) (lv' := [(5, .int (nI (i + 1))), (4, .int (nI (1))), (0, .ref (h)), (1, .int (nI (k))), (2, .ref (a 0)), (3, .int (nI (rwL SL)))]) hx hb dX5_begins_57 hl (k := 5) rfl (nI_add (i) 1) (by decide) rfl (fun ls hl => ?_)
              refine lv_goto (tgt := 20) hx hb dX5_begins_60 (by decide) ?_
              exact ih_20 (i + 1) (nI (1)) (by omega) (by omega) (Bv.yes ⟨hq1, lt_s hq2 n_47_4⟩) _ _ _ hP hD hS (lv_sub hl [2, 3, 4, 5, 1, 0] rfl)
    exact L_20 (_ + 1) 0 (nI (0)) (Nat.lt_succ_self _) (Nat.zero_le _) (Bv.no (fun q9 => by have := q9.1; omega)) _ _ _ hP hD hS (lv_sub hl [2, 3, 4, 5, 1, 0] rfl)
  · skip
    have n_7_1 : ¬ rwL (D k) < rwL SL := fun q9 => c_7_1 ((nI_ltI (a := rwL (D k)) (b := rwL SL) (by omega) (by omega)).mpr q9)
    refine lv_iconst (v := nI 1) hx hb dX5_begins_10 (by decide) ?_
    refine lv_goto (tgt := 15) hx hb dX5_begins_11 (by decide) ?_
    refine lv_istore (lv' := [(4, .int (nI (1))), (0, .ref (h)), (1, .int (nI (k))), (2, .ref (a 0)), (3, .int (nI (rwL SL)))]) hx hb dX5_begins_15 hl (by decide) rfl (fun ls hl => ?_)
    refine lv_iconst (v := nI 0) hx hb dX5_begins_17 (by decide) ?_
    refine lv_istore (lv' := [(5, .int (nI (0))), (4, .int (nI (1))), (0, .ref (h)), (1, .int (nI (k))), (2, .ref (a 0)), (3, .int (nI (rwL SL)))]) hx hb dX5_begins_18 hl (by decide) rfl (fun ls hl => ?_)
    have L_20 : ∀ (fu : Nat) (i : Nat) (x : Int32), rwL SL - i < fu → (i ≤ rwL SL) → (Bv x (rwL SL ≤ rwL (D k) ∧ ∀ j, j < i → rwA (D k) j = rwA SL j)) → ∀ (H : Heap) (locs : List Loc) (ls : Array Slot), va_P g.1 vwCl (MW g h a (nI (rwL SL)) (nI n) (nI ll) (nI np) tu la wi (nI (rwL F)) th fS fL fN fK fF fW fE fC fG fO) H → va_D A (MW g h a (nI (rwL SL)) (nI n) (nI ll) (nI np) tu la wi (nI (rwL F)) th fS fL fN fK fF fW fE fC fG fO) → va_S A s.heap H locs → lv_has ls 6 [(0, .ref (h)), (1, .int (nI (k))), (2, .ref (a 0)), (3, .int (nI (rwL SL))), (4, .int (x)), (5, .int (nI (i)))] → W p l e rm_X5_begins_S s m args below meth c H locs 0 0 Z (F0 m 20 ls []) := by
      intro fu
      induction fu with
      | zero => intro _ _ h0; exact absurd h0 (Nat.not_lt_zero _)
      | succ fu ih_20 =>
        intro i x hfu hi1 hx0 H locs ls hP hD hS hl
        refine lv_iload hx hb dX5_begins_20 (lv_at hl 5 rfl) ?_
        refine lv_iload_n hx hb dX5_begins_22 rfl (lv_at hl 3 rfl) ?_
        refine lv_icmp_ge (tgt := 63) hx hb dX5_begins_23 (by decide) (fun c_23_5 => ?_) (fun c_23_5 => ?_)
        · skip
          have n_23_5 : rwL SL ≤ i := (nI_leI (a := rwL SL) (b := i) (by omega) (by omega)).mp c_23_5
          refine lv_iload hx hb dX5_begins_63 (lv_at hl 4 rfl) ?_
          exact hret (x) (MW g h a (nI (rwL SL)) (nI n) (nI ll) (nI np) tu la wi (nI (rwL F)) th fS fL fN fK fF fW fE fC fG fO) _ _ _ _ dX5_begins_65 (Bv.z hx0) (⟨rfl, hx0.iff ⟨fun q9 => bg_of (hDm k hk).1 hSL q9.1 (fun j hj => q9.2 j (by omega)), fun q9 => ⟨q9.1, fun j hj => (bg_to (hDm k hk).1 hSL q9).2 j (by omega)⟩⟩⟩) hP hD hS
        · skip
          have n_23_5 : ¬ rwL SL ≤ i := fun q9 => c_23_5 ((nI_leI (a := rwL SL) (b := i) (by omega) (by omega)).mpr q9)
          refine lv_iload hx hb dX5_begins_26 (lv_at hl 4 rfl) ?_
          refine lv_if_eq (tgt := 63) hx hb dX5_begins_28 (by decide) (fun c_28_6 => ?_) (fun c_28_6 => ?_)
          · skip
            have n_28_6 := Bv.f hx0 c_28_6
            refine lv_iload hx hb dX5_begins_63 (lv_at hl 4 rfl) ?_
            exact hret (x) (MW g h a (nI (rwL SL)) (nI n) (nI ll) (nI np) tu la wi (nI (rwL F)) th fS fL fN fK fF fW fE fC fG fO) _ _ _ _ dX5_begins_65 (Bv.z hx0) (⟨rfl, Or.inr ⟨c_28_6, fun q9 => n_28_6 ⟨q9.1, fun j hj => (bg_to (hDm k hk).1 hSL q9).2 j (by omega)⟩⟩⟩) hP hD hS
          · skip
            have n_28_6 := Bv.t hx0 c_28_6
            obtain ⟨hq1, hq2⟩ := n_28_6
            have hq3 := h10 k hk
            have hq4 := rwA_lt (D k) i
            have hq5 := rwA_lt SL i
            refine lv_aload_n hx hb dX5_begins_31 rfl (lv_at hl 0 rfl) ?_
            refine va_get (D := g.1) (ci := 3) (v := .ref (a 2)) (C := RX5) (T := TX5) (N := 19) hx hb hts hi_3 hown hK hP 0 rfl rfl 2 (by decide) f_13 (fun _ h9 => h9) rfl dX5_begins_32 ?_
            refine lv_bipush (v := nI 10) hx hb dX5_begins_35 (by decide) ?_
            refine lv_iload_n hx hb dX5_begins_37 rfl (lv_at hl 1 rfl) ?_
            refine lv_imul hx hb dX5_begins_38 ?_
            refine tp_i (pk_mul 10 k) ?_
            refine lv_iload hx hb dX5_begins_39 (lv_at hl 5 rfl) ?_
            refine lv_iadd hx hb dX5_begins_41 ?_
            refine tp_i (nI_add (10 * k) i) ?_
            refine va_iald (n := 500) (f := fL) hx hb hK hP 2 0 rfl rfl (vp_in_nI (n := (10 * k) + i) (by omega) (by decide)) dX5_begins_42 ?_
            refine tp_i (congrArg fL (nI_clamp (n := (10 * k) + i) (by omega))) ?_
            refine tp_i (b := (nI (rwA (D k) i))) ((hDm k (by omega)).2.2 i (by omega)) ?_
            refine lv_aload_n hx hb dX5_begins_43 rfl (lv_at hl 2 rfl) ?_
            refine lv_iload hx hb dX5_begins_44 (lv_at hl 5 rfl) ?_
            refine va_iald (n := 10) (f := fS) hx hb hK hP 1 0 rfl rfl (vp_in_nI (n := i) (by omega) (by decide)) dX5_begins_46 ?_
            refine tp_i (congrArg fS (nI_clamp (n := i) (by omega))) ?_
            refine tp_i (b := (nI (rwA SL i))) (hfS i (by omega)) ?_
            refine lv_icmp_ne (tgt := 54) hx hb dX5_begins_47 (by decide) (fun c_47_7 => ?_) (fun c_47_7 => ?_)
            · skip
              have n_47_7 : ¬ rwA (D k) i = rwA SL i := fun q9 => c_47_7 ((nI_eq (a := rwA (D k) i) (b := rwA SL i) (by omega) (by omega)).mpr q9)
              refine lv_iconst (v := nI 0) hx hb dX5_begins_54 (by decide) ?_
              refine lv_istore (lv' := [(4, .int (nI (0))), (0, .ref (h)), (1, .int (nI (k))), (2, .ref (a 0)), (3, .int (nI (rwL SL))), (5, .int (nI (i)))]) hx hb dX5_begins_55 hl (by decide) rfl (fun ls hl => ?_)
              refine lv_iinc (v := (nI (i + 1))) (lv' := [(5, .int (nI (i + 1))), (4, .int (nI (0))), (0, .ref (h)), (1, .int (nI (k))), (2, .ref (a 0)), (3, .int (nI (rwL SL)))]) hx hb dX5_begins_57 hl (k := 5) rfl (nI_add (i) 1) (by decide) rfl (fun ls hl => ?_)
              refine lv_goto (tgt := 20) hx hb dX5_begins_60 (by decide) ?_
              exact ih_20 (i + 1) (nI (0)) (by omega) (by omega) (Bv.no (fun q9 => n_47_7 (q9.2 i (Nat.lt_succ_self i)))) _ _ _ hP hD hS (lv_sub hl [2, 3, 4, 5, 1, 0] rfl)
            · skip
              have n_47_7 : rwA (D k) i = rwA SL i := (nI_eq (a := rwA (D k) i) (b := rwA SL i) (by omega) (by omega)).mp c_47_7
              refine lv_iconst (v := nI 1) hx hb dX5_begins_50 (by decide) ?_
              refine lv_goto (tgt := 55) hx hb dX5_begins_51 (by decide) ?_
              refine lv_istore (lv' := [(4, .int (nI (1))), (0, .ref (h)), (1, .int (nI (k))), (2, .ref (a 0)), (3, .int (nI (rwL SL))), (5, .int (nI (i)))]) hx hb dX5_begins_55 hl (by decide) rfl (fun ls hl => ?_)
              refine lv_iinc (v := (nI (i + 1))) (lv' := [(5, .int (nI (i + 1))), (4, .int (nI (1))), (0, .ref (h)), (1, .int (nI (k))), (2, .ref (a 0)), (3, .int (nI (rwL SL)))]) hx hb dX5_begins_57 hl (k := 5) rfl (nI_add (i) 1) (by decide) rfl (fun ls hl => ?_)
              refine lv_goto (tgt := 20) hx hb dX5_begins_60 (by decide) ?_
              exact ih_20 (i + 1) (nI (1)) (by omega) (by omega) (Bv.yes ⟨hq1, lt_s hq2 n_47_7⟩) _ _ _ hP hD hS (lv_sub hl [2, 3, 4, 5, 1, 0] rfl)
    exact L_20 (_ + 1) 0 (nI (1)) (Nat.lt_succ_self _) (Nat.zero_le _) (Bv.yes ⟨by omega, fun j hj => absurd hj (Nat.not_lt_zero _)⟩) _ _ _ hP hD hS (lv_sub hl [2, 3, 4, 5, 1, 0] rfl)

set_option maxHeartbeats 4000000 in
set_option maxRecDepth 100000 in
theorem c_X5_begins_F (l : Launch) (g : GG) (h : Nat) (a : Nat → Nat) (SL n ll np : Nat) (tu la wi : Int32) (F : Nat) (th : Int32) (fS fL fN fK fF fW fE fC fG fO : Nat → Int32) (D : Nat → Nat) (hDm : MD fL fN D n) (hn : n ≤ 50) (hSL : RV SL) (hfS : MRw fS SL) (hFr : RV F) (hfF : MRw fF F) (hll : ll ≤ 10) (hp : np ≤ 4) (k : Nat) (hk : k < n) : Ci l yX5_begins wsX5_begins rm_X5_begins_S g [.ref (h), .int (nI (k)), .ref (a 11), .int (nI (rwL F))] (MW g h a (nI (rwL SL)) (nI n) (nI ll) (nI np) tu la wi (nI (rwL F)) th fS fL fN fK fF fW fE fC fG fO) (fun r w => w = (MW g h a (nI (rwL SL)) (nI n) (nI ll) (nI np) tu la wi (nI (rwL F)) th fS fL fN fK fF fW fE fC fG fO) ∧ Bv r (bgP (D k) F)) := by
  refine Ci.ofZ (cc := cX5_begins) (maxL := 6) (by decide) rfl (Nat.le_of_ble_eq_true rfl) ?_
  intro p e s m args below meth c A Z hx hb hml hts hown hK hA hret H locs ls hP hD hS hl
  have f_13 := hts (.fieldLink RX5 13 "GhostGameModel" "letters" "[I") (by decide +kernel)
  have f_16 := hts (.fieldLink RX5 16 "GhostGameModel" "length" "[I") (by decide +kernel)
  have hi_3 : ∀ w ∈ wsX50, w ∈ wsX5_begins := by decide +kernel
  have hl : lv_has ls 6 [(0, .ref (h)), (1, .int (nI (k))), (2, .ref (a 11)), (3, .int (nI (rwL F)))] := hl
  have h10 : ∀ k9, k9 < n → rwL (D k9) ≤ 10 := fun k9 h9 => (hDm k9 h9).1.1
  have hk3 := h10 k hk
  have hR9 := hFr.1
  refine lv_aload_n hx hb dX5_begins_0 rfl (lv_at hl 0 rfl) ?_
  refine va_get (D := g.1) (ci := 3) (v := .ref (a 3)) (C := RX5) (T := TX5) (N := 19) hx hb hts hi_3 hown hK hP 0 rfl rfl 3 (by decide) f_16 (fun _ h9 => h9) rfl dX5_begins_1 ?_
  refine lv_iload_n hx hb dX5_begins_4 rfl (lv_at hl 1 rfl) ?_
  refine va_iald (n := 50) (f := fN) hx hb hK hP 3 0 rfl rfl (vp_in_nI (n := k) (by omega) (by decide)) dX5_begins_5 ?_
  refine tp_i (congrArg fN (nI_clamp (n := k) (by omega))) ?_
  refine tp_i (b := (nI (rwL (D k)))) ((hDm k (by omega)).2.1) ?_
  refine lv_iload_n hx hb dX5_begins_6 rfl (lv_at hl 3 rfl) ?_
  refine lv_icmp_lt (tgt := 14) hx hb dX5_begins_7 (by decide) (fun c_7_1 => ?_) (fun c_7_1 => ?_)
  · skip
    have n_7_1 : rwL (D k) < rwL F := (nI_ltI (a := rwL (D k)) (b := rwL F) (by omega) (by omega)).mp c_7_1
    refine lv_iconst (v := nI 0) hx hb dX5_begins_14 (by decide) ?_
    refine lv_istore (lv' := [(4, .int (nI (0))), (0, .ref (h)), (1, .int (nI (k))), (2, .ref (a 11)), (3, .int (nI (rwL F)))]) hx hb dX5_begins_15 hl (by decide) rfl (fun ls hl => ?_)
    refine lv_iconst (v := nI 0) hx hb dX5_begins_17 (by decide) ?_
    refine lv_istore (lv' := [(5, .int (nI (0))), (4, .int (nI (0))), (0, .ref (h)), (1, .int (nI (k))), (2, .ref (a 11)), (3, .int (nI (rwL F)))]) hx hb dX5_begins_18 hl (by decide) rfl (fun ls hl => ?_)
    have L_20 : ∀ (fu : Nat) (i : Nat) (x : Int32), rwL F - i < fu → (i ≤ rwL F) → (Bv x (rwL F ≤ rwL (D k) ∧ ∀ j, j < i → rwA (D k) j = rwA F j)) → ∀ (H : Heap) (locs : List Loc) (ls : Array Slot), va_P g.1 vwCl (MW g h a (nI (rwL SL)) (nI n) (nI ll) (nI np) tu la wi (nI (rwL F)) th fS fL fN fK fF fW fE fC fG fO) H → va_D A (MW g h a (nI (rwL SL)) (nI n) (nI ll) (nI np) tu la wi (nI (rwL F)) th fS fL fN fK fF fW fE fC fG fO) → va_S A s.heap H locs → lv_has ls 6 [(0, .ref (h)), (1, .int (nI (k))), (2, .ref (a 11)), (3, .int (nI (rwL F))), (4, .int (x)), (5, .int (nI (i)))] → W p l e rm_X5_begins_S s m args below meth c H locs 0 0 Z (F0 m 20 ls []) := by
      intro fu
      induction fu with
      | zero => intro _ _ h0; exact absurd h0 (Nat.not_lt_zero _)
      | succ fu ih_20 =>
        intro i x hfu hi1 hx0 H locs ls hP hD hS hl
        refine lv_iload hx hb dX5_begins_20 (lv_at hl 5 rfl) ?_
        refine lv_iload_n hx hb dX5_begins_22 rfl (lv_at hl 3 rfl) ?_
        refine lv_icmp_ge (tgt := 63) hx hb dX5_begins_23 (by decide) (fun c_23_2 => ?_) (fun c_23_2 => ?_)
        · skip
          have n_23_2 : rwL F ≤ i := (nI_leI (a := rwL F) (b := i) (by omega) (by omega)).mp c_23_2
          refine lv_iload hx hb dX5_begins_63 (lv_at hl 4 rfl) ?_
          exact hret (x) (MW g h a (nI (rwL SL)) (nI n) (nI ll) (nI np) tu la wi (nI (rwL F)) th fS fL fN fK fF fW fE fC fG fO) _ _ _ _ dX5_begins_65 (Bv.z hx0) (⟨rfl, hx0.iff ⟨fun q9 => bg_of (hDm k hk).1 hFr q9.1 (fun j hj => q9.2 j (by omega)), fun q9 => ⟨q9.1, fun j hj => (bg_to (hDm k hk).1 hFr q9).2 j (by omega)⟩⟩⟩) hP hD hS
        · skip
          have n_23_2 : ¬ rwL F ≤ i := fun q9 => c_23_2 ((nI_leI (a := rwL F) (b := i) (by omega) (by omega)).mpr q9)
          refine lv_iload hx hb dX5_begins_26 (lv_at hl 4 rfl) ?_
          refine lv_if_eq (tgt := 63) hx hb dX5_begins_28 (by decide) (fun c_28_3 => ?_) (fun c_28_3 => ?_)
          · skip
            have n_28_3 := Bv.f hx0 c_28_3
            refine lv_iload hx hb dX5_begins_63 (lv_at hl 4 rfl) ?_
            exact hret (x) (MW g h a (nI (rwL SL)) (nI n) (nI ll) (nI np) tu la wi (nI (rwL F)) th fS fL fN fK fF fW fE fC fG fO) _ _ _ _ dX5_begins_65 (Bv.z hx0) (⟨rfl, Or.inr ⟨c_28_3, fun q9 => n_28_3 ⟨q9.1, fun j hj => (bg_to (hDm k hk).1 hFr q9).2 j (by omega)⟩⟩⟩) hP hD hS
          · skip
            have n_28_3 := Bv.t hx0 c_28_3
            obtain ⟨hq1, hq2⟩ := n_28_3
            have hq3 := h10 k hk
            have hq4 := rwA_lt (D k) i
            have hq5 := rwA_lt F i
            refine lv_aload_n hx hb dX5_begins_31 rfl (lv_at hl 0 rfl) ?_
            refine va_get (D := g.1) (ci := 3) (v := .ref (a 2)) (C := RX5) (T := TX5) (N := 19) hx hb hts hi_3 hown hK hP 0 rfl rfl 2 (by decide) f_13 (fun _ h9 => h9) rfl dX5_begins_32 ?_
            refine lv_bipush (v := nI 10) hx hb dX5_begins_35 (by decide) ?_
            refine lv_iload_n hx hb dX5_begins_37 rfl (lv_at hl 1 rfl) ?_
            refine lv_imul hx hb dX5_begins_38 ?_
            refine tp_i (pk_mul 10 k) ?_
            refine lv_iload hx hb dX5_begins_39 (lv_at hl 5 rfl) ?_
            refine lv_iadd hx hb dX5_begins_41 ?_
            refine tp_i (nI_add (10 * k) i) ?_
            refine va_iald (n := 500) (f := fL) hx hb hK hP 2 0 rfl rfl (vp_in_nI (n := (10 * k) + i) (by omega) (by decide)) dX5_begins_42 ?_
            refine tp_i (congrArg fL (nI_clamp (n := (10 * k) + i) (by omega))) ?_
            refine tp_i (b := (nI (rwA (D k) i))) ((hDm k (by omega)).2.2 i (by omega)) ?_
            refine lv_aload_n hx hb dX5_begins_43 rfl (lv_at hl 2 rfl) ?_
            refine lv_iload hx hb dX5_begins_44 (lv_at hl 5 rfl) ?_
            refine va_iald (n := 10) (f := fF) hx hb hK hP 5 0 rfl rfl (vp_in_nI (n := i) (by omega) (by decide)) dX5_begins_46 ?_
            refine tp_i (congrArg fF (nI_clamp (n := i) (by omega))) ?_
            refine tp_i (b := (nI (rwA F i))) (hfF i (by omega)) ?_
            refine lv_icmp_ne (tgt := 54) hx hb dX5_begins_47 (by decide) (fun c_47_4 => ?_) (fun c_47_4 => ?_)
            · skip
              have n_47_4 : ¬ rwA (D k) i = rwA F i := fun q9 => c_47_4 ((nI_eq (a := rwA (D k) i) (b := rwA F i) (by omega) (by omega)).mpr q9)
              refine lv_iconst (v := nI 0) hx hb dX5_begins_54 (by decide) ?_
              refine lv_istore (lv' := [(4, .int (nI (0))), (0, .ref (h)), (1, .int (nI (k))), (2, .ref (a 11)), (3, .int (nI (rwL F))), (5, .int (nI (i)))]) hx hb dX5_begins_55 hl (by decide) rfl (fun ls hl => ?_)
              refine lv_iinc (v := (nI (i + 1))) (lv' := [(5, .int (nI (i + 1))), (4, .int (nI (0))), (0, .ref (h)), (1, .int (nI (k))), (2, .ref (a 11)), (3, .int (nI (rwL F)))]) hx hb dX5_begins_57 hl (k := 5) rfl (nI_add (i) 1) (by decide) rfl (fun ls hl => ?_)
              refine lv_goto (tgt := 20) hx hb dX5_begins_60 (by decide) ?_
              exact ih_20 (i + 1) (nI (0)) (by omega) (by omega) (Bv.no (fun q9 => n_47_4 (q9.2 i (Nat.lt_succ_self i)))) _ _ _ hP hD hS (lv_sub hl [2, 3, 4, 5, 1, 0] rfl)
            · skip
              have n_47_4 : rwA (D k) i = rwA F i := (nI_eq (a := rwA (D k) i) (b := rwA F i) (by omega) (by omega)).mp c_47_4
              refine lv_iconst (v := nI 1) hx hb dX5_begins_50 (by decide) ?_
              refine lv_goto (tgt := 55) hx hb dX5_begins_51 (by decide) ?_
              refine lv_istore (lv' := [(4, .int (nI (1))), (0, .ref (h)), (1, .int (nI (k))), (2, .ref (a 11)), (3, .int (nI (rwL F))), (5, .int (nI (i)))]) hx hb dX5_begins_55 hl (by decide) rfl (fun ls hl => ?_)
              refine lv_iinc (v := (nI (i + 1))) (lv' := [(5, .int (nI (i + 1))), (4, .int (nI (1))), (0, .ref (h)), (1, .int (nI (k))), (2, .ref (a 11)), (3, .int (nI (rwL F)))]) hx hb dX5_begins_57 hl (k := 5) rfl (nI_add (i) 1) (by decide) rfl (fun ls hl => ?_)
              refine lv_goto (tgt := 20) hx hb dX5_begins_60 (by decide) ?_
              exact ih_20 (i + 1) (nI (1)) (by omega) (by omega) (Bv.yes ⟨hq1, lt_s hq2 n_47_4⟩) _ _ _ hP hD hS (lv_sub hl [2, 3, 4, 5, 1, 0] rfl)
    exact L_20 (_ + 1) 0 (nI (0)) (Nat.lt_succ_self _) (Nat.zero_le _) (Bv.no (fun q9 => by have := q9.1; omega)) _ _ _ hP hD hS (lv_sub hl [2, 3, 4, 5, 1, 0] rfl)
  · skip
    have n_7_1 : ¬ rwL (D k) < rwL F := fun q9 => c_7_1 ((nI_ltI (a := rwL (D k)) (b := rwL F) (by omega) (by omega)).mpr q9)
    refine lv_iconst (v := nI 1) hx hb dX5_begins_10 (by decide) ?_
    refine lv_goto (tgt := 15) hx hb dX5_begins_11 (by decide) ?_
    refine lv_istore (lv' := [(4, .int (nI (1))), (0, .ref (h)), (1, .int (nI (k))), (2, .ref (a 11)), (3, .int (nI (rwL F)))]) hx hb dX5_begins_15 hl (by decide) rfl (fun ls hl => ?_)
    refine lv_iconst (v := nI 0) hx hb dX5_begins_17 (by decide) ?_
    refine lv_istore (lv' := [(5, .int (nI (0))), (4, .int (nI (1))), (0, .ref (h)), (1, .int (nI (k))), (2, .ref (a 11)), (3, .int (nI (rwL F)))]) hx hb dX5_begins_18 hl (by decide) rfl (fun ls hl => ?_)
    have L_20 : ∀ (fu : Nat) (i : Nat) (x : Int32), rwL F - i < fu → (i ≤ rwL F) → (Bv x (rwL F ≤ rwL (D k) ∧ ∀ j, j < i → rwA (D k) j = rwA F j)) → ∀ (H : Heap) (locs : List Loc) (ls : Array Slot), va_P g.1 vwCl (MW g h a (nI (rwL SL)) (nI n) (nI ll) (nI np) tu la wi (nI (rwL F)) th fS fL fN fK fF fW fE fC fG fO) H → va_D A (MW g h a (nI (rwL SL)) (nI n) (nI ll) (nI np) tu la wi (nI (rwL F)) th fS fL fN fK fF fW fE fC fG fO) → va_S A s.heap H locs → lv_has ls 6 [(0, .ref (h)), (1, .int (nI (k))), (2, .ref (a 11)), (3, .int (nI (rwL F))), (4, .int (x)), (5, .int (nI (i)))] → W p l e rm_X5_begins_S s m args below meth c H locs 0 0 Z (F0 m 20 ls []) := by
      intro fu
      induction fu with
      | zero => intro _ _ h0; exact absurd h0 (Nat.not_lt_zero _)
      | succ fu ih_20 =>
        intro i x hfu hi1 hx0 H locs ls hP hD hS hl
        refine lv_iload hx hb dX5_begins_20 (lv_at hl 5 rfl) ?_
        refine lv_iload_n hx hb dX5_begins_22 rfl (lv_at hl 3 rfl) ?_
        refine lv_icmp_ge (tgt := 63) hx hb dX5_begins_23 (by decide) (fun c_23_5 => ?_) (fun c_23_5 => ?_)
        · skip
          have n_23_5 : rwL F ≤ i := (nI_leI (a := rwL F) (b := i) (by omega) (by omega)).mp c_23_5
          refine lv_iload hx hb dX5_begins_63 (lv_at hl 4 rfl) ?_
          exact hret (x) (MW g h a (nI (rwL SL)) (nI n) (nI ll) (nI np) tu la wi (nI (rwL F)) th fS fL fN fK fF fW fE fC fG fO) _ _ _ _ dX5_begins_65 (Bv.z hx0) (⟨rfl, hx0.iff ⟨fun q9 => bg_of (hDm k hk).1 hFr q9.1 (fun j hj => q9.2 j (by omega)), fun q9 => ⟨q9.1, fun j hj => (bg_to (hDm k hk).1 hFr q9).2 j (by omega)⟩⟩⟩) hP hD hS
        · skip
          have n_23_5 : ¬ rwL F ≤ i := fun q9 => c_23_5 ((nI_leI (a := rwL F) (b := i) (by omega) (by omega)).mpr q9)
          refine lv_iload hx hb dX5_begins_26 (lv_at hl 4 rfl) ?_
          refine lv_if_eq (tgt := 63) hx hb dX5_begins_28 (by decide) (fun c_28_6 => ?_) (fun c_28_6 => ?_)
          · skip
            have n_28_6 := Bv.f hx0 c_28_6
            refine lv_iload hx hb dX5_begins_63 (lv_at hl 4 rfl) ?_
            exact hret (x) (MW g h a (nI (rwL SL)) (nI n) (nI ll) (nI np) tu la wi (nI (rwL F)) th fS fL fN fK fF fW fE fC fG fO) _ _ _ _ dX5_begins_65 (Bv.z hx0) (⟨rfl, Or.inr ⟨c_28_6, fun q9 => n_28_6 ⟨q9.1, fun j hj => (bg_to (hDm k hk).1 hFr q9).2 j (by omega)⟩⟩⟩) hP hD hS
          · skip
            have n_28_6 := Bv.t hx0 c_28_6
            obtain ⟨hq1, hq2⟩ := n_28_6
            have hq3 := h10 k hk
            have hq4 := rwA_lt (D k) i
            have hq5 := rwA_lt F i
            refine lv_aload_n hx hb dX5_begins_31 rfl (lv_at hl 0 rfl) ?_
            refine va_get (D := g.1) (ci := 3) (v := .ref (a 2)) (C := RX5) (T := TX5) (N := 19) hx hb hts hi_3 hown hK hP 0 rfl rfl 2 (by decide) f_13 (fun _ h9 => h9) rfl dX5_begins_32 ?_
            refine lv_bipush (v := nI 10) hx hb dX5_begins_35 (by decide) ?_
            refine lv_iload_n hx hb dX5_begins_37 rfl (lv_at hl 1 rfl) ?_
            refine lv_imul hx hb dX5_begins_38 ?_
            refine tp_i (pk_mul 10 k) ?_
            refine lv_iload hx hb dX5_begins_39 (lv_at hl 5 rfl) ?_
            refine lv_iadd hx hb dX5_begins_41 ?_
            refine tp_i (nI_add (10 * k) i) ?_
            refine va_iald (n := 500) (f := fL) hx hb hK hP 2 0 rfl rfl (vp_in_nI (n := (10 * k) + i) (by omega) (by decide)) dX5_begins_42 ?_
            refine tp_i (congrArg fL (nI_clamp (n := (10 * k) + i) (by omega))) ?_
            refine tp_i (b := (nI (rwA (D k) i))) ((hDm k (by omega)).2.2 i (by omega)) ?_
            refine lv_aload_n hx hb dX5_begins_43 rfl (lv_at hl 2 rfl) ?_
            refine lv_iload hx hb dX5_begins_44 (lv_at hl 5 rfl) ?_
            refine va_iald (n := 10) (f := fF) hx hb hK hP 5 0 rfl rfl (vp_in_nI (n := i) (by omega) (by decide)) dX5_begins_46 ?_
            refine tp_i (congrArg fF (nI_clamp (n := i) (by omega))) ?_
            refine tp_i (b := (nI (rwA F i))) (hfF i (by omega)) ?_
            refine lv_icmp_ne (tgt := 54) hx hb dX5_begins_47 (by decide) (fun c_47_7 => ?_) (fun c_47_7 => ?_)
            · skip
              have n_47_7 : ¬ rwA (D k) i = rwA F i := fun q9 => c_47_7 ((nI_eq (a := rwA (D k) i) (b := rwA F i) (by omega) (by omega)).mpr q9)
              refine lv_iconst (v := nI 0) hx hb dX5_begins_54 (by decide) ?_
              refine lv_istore (lv' := [(4, .int (nI (0))), (0, .ref (h)), (1, .int (nI (k))), (2, .ref (a 11)), (3, .int (nI (rwL F))), (5, .int (nI (i)))]) hx hb dX5_begins_55 hl (by decide) rfl (fun ls hl => ?_)
              refine lv_iinc (v := (nI (i + 1))) (lv' := [(5, .int (nI (i + 1))), (4, .int (nI (0))), (0, .ref (h)), (1, .int (nI (k))), (2, .ref (a 11)), (3, .int (nI (rwL F)))]) hx hb dX5_begins_57 hl (k := 5) rfl (nI_add (i) 1) (by decide) rfl (fun ls hl => ?_)
              refine lv_goto (tgt := 20) hx hb dX5_begins_60 (by decide) ?_
              exact ih_20 (i + 1) (nI (0)) (by omega) (by omega) (Bv.no (fun q9 => n_47_7 (q9.2 i (Nat.lt_succ_self i)))) _ _ _ hP hD hS (lv_sub hl [2, 3, 4, 5, 1, 0] rfl)
            · skip
              have n_47_7 : rwA (D k) i = rwA F i := (nI_eq (a := rwA (D k) i) (b := rwA F i) (by omega) (by omega)).mp c_47_7
              refine lv_iconst (v := nI 1) hx hb dX5_begins_50 (by decide) ?_
              refine lv_goto (tgt := 55) hx hb dX5_begins_51 (by decide) ?_
              refine lv_istore (lv' := [(4, .int (nI (1))), (0, .ref (h)), (1, .int (nI (k))), (2, .ref (a 11)), (3, .int (nI (rwL F))), (5, .int (nI (i)))]) hx hb dX5_begins_55 hl (by decide) rfl (fun ls hl => ?_)
              refine lv_iinc (v := (nI (i + 1))) (lv' := [(5, .int (nI (i + 1))), (4, .int (nI (1))), (0, .ref (h)), (1, .int (nI (k))), (2, .ref (a 11)), (3, .int (nI (rwL F)))]) hx hb dX5_begins_57 hl (k := 5) rfl (nI_add (i) 1) (by decide) rfl (fun ls hl => ?_)
              refine lv_goto (tgt := 20) hx hb dX5_begins_60 (by decide) ?_
              exact ih_20 (i + 1) (nI (1)) (by omega) (by omega) (Bv.yes ⟨hq1, lt_s hq2 n_47_7⟩) _ _ _ hP hD hS (lv_sub hl [2, 3, 4, 5, 1, 0] rfl)
    exact L_20 (_ + 1) 0 (nI (1)) (Nat.lt_succ_self _) (Nat.zero_le _) (Bv.yes ⟨by omega, fun j hj => absurd hj (Nat.not_lt_zero _)⟩) _ _ _ hP hD hS (lv_sub hl [2, 3, 4, 5, 1, 0] rfl)

abbrev rm_X5_areAlike : Room := { frames := 0, cells := 0, slots := 0, locals := 0 }
set_option maxHeartbeats 4000000 in
set_option maxRecDepth 100000 in
theorem c_X5_areAlike (l : Launch) (g : GG) (h : Nat) (a : Nat → Nat) (SL n ll np : Nat) (tu la wi : Int32) (F : Nat) (th : Int32) (fS fL fN fK fF fW fE fC fG fO : Nat → Int32) (D : Nat → Nat) (hDm : MD fL fN D n) (hn : n ≤ 50) (hSL : RV SL) (hfS : MRw fS SL) (hFr : RV F) (hfF : MRw fF F) (hll : ll ≤ 10) (hp : np ≤ 4) (y1 y2 k : Nat) (hy1 : y1 < n) (hy2 : y2 < n) (hk : k ≤ 11) : Ci l yX5_areAlike wsX5_areAlike rm_X5_areAlike g [.ref (h), .int (nI (y1)), .int (nI (y2)), .int (nI (k))] (MW g h a (nI (rwL SL)) (nI n) (nI ll) (nI np) tu la wi (nI (rwL F)) th fS fL fN fK fF fW fE fC fG fO) (fun r w => w = (MW g h a (nI (rwL SL)) (nI n) (nI ll) (nI np) tu la wi (nI (rwL F)) th fS fL fN fK fF fW fE fC fG fO) ∧ Bv r (alP (D y1) (D y2) k)) := by
  refine Ci.ofZ (cc := cX5_areAlike) (maxL := 6) (by decide) rfl (Nat.le_of_ble_eq_true rfl) ?_
  intro p e s m args below meth c A Z hx hb hml hts hown hK hA hret H locs ls hP hD hS hl
  have f_13 := hts (.fieldLink RX5 13 "GhostGameModel" "letters" "[I") (by decide +kernel)
  have f_16 := hts (.fieldLink RX5 16 "GhostGameModel" "length" "[I") (by decide +kernel)
  have hi_3 : ∀ w ∈ wsX50, w ∈ wsX5_areAlike := by decide +kernel
  have hl : lv_has ls 6 [(0, .ref (h)), (1, .int (nI (y1))), (2, .int (nI (y2))), (3, .int (nI (k)))] := hl
  have h10 : ∀ k9, k9 < n → rwL (D k9) ≤ 10 := fun k9 h9 => (hDm k9 h9).1.1
  have hz1 := h10 y1 hy1
  have hz2 := h10 y2 hy2
  refine lv_aload_n hx hb dX5_areAlike_0 rfl (lv_at hl 0 rfl) ?_
  refine va_get (D := g.1) (ci := 3) (v := .ref (a 3)) (C := RX5) (T := TX5) (N := 19) hx hb hts hi_3 hown hK hP 0 rfl rfl 3 (by decide) f_16 (fun _ h9 => h9) rfl dX5_areAlike_1 ?_
  refine lv_iload_n hx hb dX5_areAlike_4 rfl (lv_at hl 1 rfl) ?_
  refine va_iald (n := 50) (f := fN) hx hb hK hP 3 0 rfl rfl (vp_in_nI (n := y1) (by omega) (by decide)) dX5_areAlike_5 ?_
  refine tp_i (congrArg fN (nI_clamp (n := y1) (by omega))) ?_
  refine tp_i (b := (nI (rwL (D y1)))) ((hDm y1 (by omega)).2.1) ?_
  refine lv_iload_n hx hb dX5_areAlike_6 rfl (lv_at hl 3 rfl) ?_
  refine lv_icmp_lt (tgt := 24) hx hb dX5_areAlike_7 (by decide) (fun c_7_1 => ?_) (fun c_7_1 => ?_)
  · skip
    have n_7_1 : rwL (D y1) < k := (nI_ltI (a := rwL (D y1)) (b := k) (by omega) (by omega)).mp c_7_1
    refine lv_iconst (v := nI 0) hx hb dX5_areAlike_24 (by decide) ?_
    refine lv_istore (lv' := [(4, .int (nI (0))), (0, .ref (h)), (1, .int (nI (y1))), (2, .int (nI (y2))), (3, .int (nI (k)))]) hx hb dX5_areAlike_25 hl (by decide) rfl (fun ls hl => ?_)
    refine lv_iconst (v := nI 0) hx hb dX5_areAlike_27 (by decide) ?_
    refine lv_istore (lv' := [(5, .int (nI (0))), (4, .int (nI (0))), (0, .ref (h)), (1, .int (nI (y1))), (2, .int (nI (y2))), (3, .int (nI (k)))]) hx hb dX5_areAlike_28 hl (by decide) rfl (fun ls hl => ?_)
    have L_30 : ∀ (fu : Nat) (i : Nat) (x : Int32), k - i < fu → (i ≤ k) → (Bv x (k ≤ rwL (D y1) ∧ k ≤ rwL (D y2) ∧ ∀ j, j < i → rwA (D y1) j = rwA (D y2) j)) → ∀ (H : Heap) (locs : List Loc) (ls : Array Slot), va_P g.1 vwCl (MW g h a (nI (rwL SL)) (nI n) (nI ll) (nI np) tu la wi (nI (rwL F)) th fS fL fN fK fF fW fE fC fG fO) H → va_D A (MW g h a (nI (rwL SL)) (nI n) (nI ll) (nI np) tu la wi (nI (rwL F)) th fS fL fN fK fF fW fE fC fG fO) → va_S A s.heap H locs → lv_has ls 6 [(0, .ref (h)), (1, .int (nI (y1))), (2, .int (nI (y2))), (3, .int (nI (k))), (4, .int (x)), (5, .int (nI (i)))] → W p l e rm_X5_areAlike s m args below meth c H locs 0 0 Z (F0 m 30 ls []) := by
      intro fu
      induction fu with
      | zero => intro _ _ h0; exact absurd h0 (Nat.not_lt_zero _)
      | succ fu ih_30 =>
        intro i x hfu hi1 hx0 H locs ls hP hD hS hl
        refine lv_iload hx hb dX5_areAlike_30 (lv_at hl 5 rfl) ?_
        refine lv_iload_n hx hb dX5_areAlike_32 rfl (lv_at hl 3 rfl) ?_
        refine lv_icmp_ge (tgt := 81) hx hb dX5_areAlike_33 (by decide) (fun c_33_2 => ?_) (fun c_33_2 => ?_)
        · skip
          have n_33_2 : k ≤ i := (nI_leI (a := k) (b := i) (by omega) (by omega)).mp c_33_2
          refine lv_iload hx hb dX5_areAlike_81 (lv_at hl 4 rfl) ?_
          exact hret (x) (MW g h a (nI (rwL SL)) (nI n) (nI ll) (nI np) tu la wi (nI (rwL F)) th fS fL fN fK fF fW fE fC fG fO) _ _ _ _ dX5_areAlike_83 (Bv.z hx0) (⟨rfl, hx0.iff ⟨fun q9 => al_of (hDm y1 hy1).1 (hDm y2 hy2).1 q9.1 q9.2.1 (fun j hj => q9.2.2 j (by omega)), fun q9 => ⟨q9.1, q9.2.1, fun j hj => al_to (hDm y1 hy1).1 (hDm y2 hy2).1 q9 j (by omega)⟩⟩⟩) hP hD hS
        · skip
          have n_33_2 : ¬ k ≤ i := fun q9 => c_33_2 ((nI_leI (a := k) (b := i) (by omega) (by omega)).mpr q9)
          refine lv_iload hx hb dX5_areAlike_36 (lv_at hl 4 rfl) ?_
          refine lv_if_eq (tgt := 81) hx hb dX5_areAlike_38 (by decide) (fun c_38_3 => ?_) (fun c_38_3 => ?_)
          · skip
            have n_38_3 := Bv.f hx0 c_38_3
            refine lv_iload hx hb dX5_areAlike_81 (lv_at hl 4 rfl) ?_
            exact hret (x) (MW g h a (nI (rwL SL)) (nI n) (nI ll) (nI np) tu la wi (nI (rwL F)) th fS fL fN fK fF fW fE fC fG fO) _ _ _ _ dX5_areAlike_83 (Bv.z hx0) (⟨rfl, Or.inr ⟨c_38_3, fun q9 => n_38_3 ⟨q9.1, q9.2.1, fun j hj => al_to (hDm y1 hy1).1 (hDm y2 hy2).1 q9 j (by omega)⟩⟩⟩) hP hD hS
          · skip
            have n_38_3 := Bv.t hx0 c_38_3
            obtain ⟨hq1, hq2, hq3⟩ := n_38_3
            have hq4 := rwA_lt (D y1) i
            have hq5 := rwA_lt (D y2) i
            refine lv_aload_n hx hb dX5_areAlike_41 rfl (lv_at hl 0 rfl) ?_
            refine va_get (D := g.1) (ci := 3) (v := .ref (a 2)) (C := RX5) (T := TX5) (N := 19) hx hb hts hi_3 hown hK hP 0 rfl rfl 2 (by decide) f_13 (fun _ h9 => h9) rfl dX5_areAlike_42 ?_
            refine lv_bipush (v := nI 10) hx hb dX5_areAlike_45 (by decide) ?_
            refine lv_iload_n hx hb dX5_areAlike_47 rfl (lv_at hl 1 rfl) ?_
            refine lv_imul hx hb dX5_areAlike_48 ?_
            refine tp_i (pk_mul 10 y1) ?_
            refine lv_iload hx hb dX5_areAlike_49 (lv_at hl 5 rfl) ?_
            refine lv_iadd hx hb dX5_areAlike_51 ?_
            refine tp_i (nI_add (10 * y1) i) ?_
            refine va_iald (n := 500) (f := fL) hx hb hK hP 2 0 rfl rfl (vp_in_nI (n := (10 * y1) + i) (by omega) (by decide)) dX5_areAlike_52 ?_
            refine tp_i (congrArg fL (nI_clamp (n := (10 * y1) + i) (by omega))) ?_
            refine tp_i (b := (nI (rwA (D y1) i))) ((hDm y1 (by omega)).2.2 i (by omega)) ?_
            refine lv_aload_n hx hb dX5_areAlike_53 rfl (lv_at hl 0 rfl) ?_
            refine va_get (D := g.1) (ci := 3) (v := .ref (a 2)) (C := RX5) (T := TX5) (N := 19) hx hb hts hi_3 hown hK hP 0 rfl rfl 2 (by decide) f_13 (fun _ h9 => h9) rfl dX5_areAlike_54 ?_
            refine lv_bipush (v := nI 10) hx hb dX5_areAlike_57 (by decide) ?_
            refine lv_iload_n hx hb dX5_areAlike_59 rfl (lv_at hl 2 rfl) ?_
            refine lv_imul hx hb dX5_areAlike_60 ?_
            refine tp_i (pk_mul 10 y2) ?_
            refine lv_iload hx hb dX5_areAlike_61 (lv_at hl 5 rfl) ?_
            refine lv_iadd hx hb dX5_areAlike_63 ?_
            refine tp_i (nI_add (10 * y2) i) ?_
            refine va_iald (n := 500) (f := fL) hx hb hK hP 2 0 rfl rfl (vp_in_nI (n := (10 * y2) + i) (by omega) (by decide)) dX5_areAlike_64 ?_
            refine tp_i (congrArg fL (nI_clamp (n := (10 * y2) + i) (by omega))) ?_
            refine tp_i (b := (nI (rwA (D y2) i))) ((hDm y2 (by omega)).2.2 i (by omega)) ?_
            refine lv_icmp_ne (tgt := 72) hx hb dX5_areAlike_65 (by decide) (fun c_65_4 => ?_) (fun c_65_4 => ?_)
            · skip
              have n_65_4 : ¬ rwA (D y1) i = rwA (D y2) i := fun q9 => c_65_4 ((nI_eq (a := rwA (D y1) i) (b := rwA (D y2) i) (by omega) (by omega)).mpr q9)
              refine lv_iconst (v := nI 0) hx hb dX5_areAlike_72 (by decide) ?_
              refine lv_istore (lv' := [(4, .int (nI (0))), (0, .ref (h)), (1, .int (nI (y1))), (2, .int (nI (y2))), (3, .int (nI (k))), (5, .int (nI (i)))]) hx hb dX5_areAlike_73 hl (by decide) rfl (fun ls hl => ?_)
              refine lv_iinc (v := (nI (i + 1))) (lv' := [(5, .int (nI (i + 1))), (4, .int (nI (0))), (0, .ref (h)), (1, .int (nI (y1))), (2, .int (nI (y2))), (3, .int (nI (k)))]) hx hb dX5_areAlike_75 hl (k := 5) rfl (nI_add (i) 1) (by decide) rfl (fun ls hl => ?_)
              refine lv_goto (tgt := 30) hx hb dX5_areAlike_78 (by decide) ?_
              exact ih_30 (i + 1) (nI (0)) (by omega) (by omega) (Bv.no (fun q9 => n_65_4 (q9.2.2 i (Nat.lt_succ_self i)))) _ _ _ hP hD hS (lv_sub hl [2, 3, 4, 5, 1, 0] rfl)
            · skip
              have n_65_4 : rwA (D y1) i = rwA (D y2) i := (nI_eq (a := rwA (D y1) i) (b := rwA (D y2) i) (by omega) (by omega)).mp c_65_4
              refine lv_iconst (v := nI 1) hx hb dX5_areAlike_68 (by decide) ?_
              refine lv_goto (tgt := 73) hx hb dX5_areAlike_69 (by decide) ?_
              refine lv_istore (lv' := [(4, .int (nI (1))), (0, .ref (h)), (1, .int (nI (y1))), (2, .int (nI (y2))), (3, .int (nI (k))), (5, .int (nI (i)))]) hx hb dX5_areAlike_73 hl (by decide) rfl (fun ls hl => ?_)
              refine lv_iinc (v := (nI (i + 1))) (lv' := [(5, .int (nI (i + 1))), (4, .int (nI (1))), (0, .ref (h)), (1, .int (nI (y1))), (2, .int (nI (y2))), (3, .int (nI (k)))]) hx hb dX5_areAlike_75 hl (k := 5) rfl (nI_add (i) 1) (by decide) rfl (fun ls hl => ?_)
              refine lv_goto (tgt := 30) hx hb dX5_areAlike_78 (by decide) ?_
              exact ih_30 (i + 1) (nI (1)) (by omega) (by omega) (Bv.yes ⟨hq1, hq2, lt_s hq3 n_65_4⟩) _ _ _ hP hD hS (lv_sub hl [2, 3, 4, 5, 1, 0] rfl)
    exact L_30 (_ + 1) 0 (nI (0)) (Nat.lt_succ_self _) (Nat.zero_le _) (Bv.no (fun q9 => by have := q9.1; have := q9.2.1; omega)) _ _ _ hP hD hS (lv_sub hl [2, 3, 4, 5, 1, 0] rfl)
  · skip
    have n_7_1 : ¬ rwL (D y1) < k := fun q9 => c_7_1 ((nI_ltI (a := rwL (D y1)) (b := k) (by omega) (by omega)).mpr q9)
    refine lv_aload_n hx hb dX5_areAlike_10 rfl (lv_at hl 0 rfl) ?_
    refine va_get (D := g.1) (ci := 3) (v := .ref (a 3)) (C := RX5) (T := TX5) (N := 19) hx hb hts hi_3 hown hK hP 0 rfl rfl 3 (by decide) f_16 (fun _ h9 => h9) rfl dX5_areAlike_11 ?_
    refine lv_iload_n hx hb dX5_areAlike_14 rfl (lv_at hl 2 rfl) ?_
    refine va_iald (n := 50) (f := fN) hx hb hK hP 3 0 rfl rfl (vp_in_nI (n := y2) (by omega) (by decide)) dX5_areAlike_15 ?_
    refine tp_i (congrArg fN (nI_clamp (n := y2) (by omega))) ?_
    refine tp_i (b := (nI (rwL (D y2)))) ((hDm y2 (by omega)).2.1) ?_
    refine lv_iload_n hx hb dX5_areAlike_16 rfl (lv_at hl 3 rfl) ?_
    refine lv_icmp_lt (tgt := 24) hx hb dX5_areAlike_17 (by decide) (fun c_17_5 => ?_) (fun c_17_5 => ?_)
    · skip
      have n_17_5 : rwL (D y2) < k := (nI_ltI (a := rwL (D y2)) (b := k) (by omega) (by omega)).mp c_17_5
      refine lv_iconst (v := nI 0) hx hb dX5_areAlike_24 (by decide) ?_
      refine lv_istore (lv' := [(4, .int (nI (0))), (0, .ref (h)), (1, .int (nI (y1))), (2, .int (nI (y2))), (3, .int (nI (k)))]) hx hb dX5_areAlike_25 hl (by decide) rfl (fun ls hl => ?_)
      refine lv_iconst (v := nI 0) hx hb dX5_areAlike_27 (by decide) ?_
      refine lv_istore (lv' := [(5, .int (nI (0))), (4, .int (nI (0))), (0, .ref (h)), (1, .int (nI (y1))), (2, .int (nI (y2))), (3, .int (nI (k)))]) hx hb dX5_areAlike_28 hl (by decide) rfl (fun ls hl => ?_)
      have L_30 : ∀ (fu : Nat) (i : Nat) (x : Int32), k - i < fu → (i ≤ k) → (Bv x (k ≤ rwL (D y1) ∧ k ≤ rwL (D y2) ∧ ∀ j, j < i → rwA (D y1) j = rwA (D y2) j)) → ∀ (H : Heap) (locs : List Loc) (ls : Array Slot), va_P g.1 vwCl (MW g h a (nI (rwL SL)) (nI n) (nI ll) (nI np) tu la wi (nI (rwL F)) th fS fL fN fK fF fW fE fC fG fO) H → va_D A (MW g h a (nI (rwL SL)) (nI n) (nI ll) (nI np) tu la wi (nI (rwL F)) th fS fL fN fK fF fW fE fC fG fO) → va_S A s.heap H locs → lv_has ls 6 [(0, .ref (h)), (1, .int (nI (y1))), (2, .int (nI (y2))), (3, .int (nI (k))), (4, .int (x)), (5, .int (nI (i)))] → W p l e rm_X5_areAlike s m args below meth c H locs 0 0 Z (F0 m 30 ls []) := by
        intro fu
        induction fu with
        | zero => intro _ _ h0; exact absurd h0 (Nat.not_lt_zero _)
        | succ fu ih_30 =>
          intro i x hfu hi1 hx0 H locs ls hP hD hS hl
          refine lv_iload hx hb dX5_areAlike_30 (lv_at hl 5 rfl) ?_
          refine lv_iload_n hx hb dX5_areAlike_32 rfl (lv_at hl 3 rfl) ?_
          refine lv_icmp_ge (tgt := 81) hx hb dX5_areAlike_33 (by decide) (fun c_33_6 => ?_) (fun c_33_6 => ?_)
          · skip
            have n_33_6 : k ≤ i := (nI_leI (a := k) (b := i) (by omega) (by omega)).mp c_33_6
            refine lv_iload hx hb dX5_areAlike_81 (lv_at hl 4 rfl) ?_
            exact hret (x) (MW g h a (nI (rwL SL)) (nI n) (nI ll) (nI np) tu la wi (nI (rwL F)) th fS fL fN fK fF fW fE fC fG fO) _ _ _ _ dX5_areAlike_83 (Bv.z hx0) (⟨rfl, hx0.iff ⟨fun q9 => al_of (hDm y1 hy1).1 (hDm y2 hy2).1 q9.1 q9.2.1 (fun j hj => q9.2.2 j (by omega)), fun q9 => ⟨q9.1, q9.2.1, fun j hj => al_to (hDm y1 hy1).1 (hDm y2 hy2).1 q9 j (by omega)⟩⟩⟩) hP hD hS
          · skip
            have n_33_6 : ¬ k ≤ i := fun q9 => c_33_6 ((nI_leI (a := k) (b := i) (by omega) (by omega)).mpr q9)
            refine lv_iload hx hb dX5_areAlike_36 (lv_at hl 4 rfl) ?_
            refine lv_if_eq (tgt := 81) hx hb dX5_areAlike_38 (by decide) (fun c_38_7 => ?_) (fun c_38_7 => ?_)
            · skip
              have n_38_7 := Bv.f hx0 c_38_7
              refine lv_iload hx hb dX5_areAlike_81 (lv_at hl 4 rfl) ?_
              exact hret (x) (MW g h a (nI (rwL SL)) (nI n) (nI ll) (nI np) tu la wi (nI (rwL F)) th fS fL fN fK fF fW fE fC fG fO) _ _ _ _ dX5_areAlike_83 (Bv.z hx0) (⟨rfl, Or.inr ⟨c_38_7, fun q9 => n_38_7 ⟨q9.1, q9.2.1, fun j hj => al_to (hDm y1 hy1).1 (hDm y2 hy2).1 q9 j (by omega)⟩⟩⟩) hP hD hS
            · skip
              have n_38_7 := Bv.t hx0 c_38_7
              obtain ⟨hq1, hq2, hq3⟩ := n_38_7
              have hq4 := rwA_lt (D y1) i
              have hq5 := rwA_lt (D y2) i
              refine lv_aload_n hx hb dX5_areAlike_41 rfl (lv_at hl 0 rfl) ?_
              refine va_get (D := g.1) (ci := 3) (v := .ref (a 2)) (C := RX5) (T := TX5) (N := 19) hx hb hts hi_3 hown hK hP 0 rfl rfl 2 (by decide) f_13 (fun _ h9 => h9) rfl dX5_areAlike_42 ?_
              refine lv_bipush (v := nI 10) hx hb dX5_areAlike_45 (by decide) ?_
              refine lv_iload_n hx hb dX5_areAlike_47 rfl (lv_at hl 1 rfl) ?_
              refine lv_imul hx hb dX5_areAlike_48 ?_
              refine tp_i (pk_mul 10 y1) ?_
              refine lv_iload hx hb dX5_areAlike_49 (lv_at hl 5 rfl) ?_
              refine lv_iadd hx hb dX5_areAlike_51 ?_
              refine tp_i (nI_add (10 * y1) i) ?_
              refine va_iald (n := 500) (f := fL) hx hb hK hP 2 0 rfl rfl (vp_in_nI (n := (10 * y1) + i) (by omega) (by decide)) dX5_areAlike_52 ?_
              refine tp_i (congrArg fL (nI_clamp (n := (10 * y1) + i) (by omega))) ?_
              refine tp_i (b := (nI (rwA (D y1) i))) ((hDm y1 (by omega)).2.2 i (by omega)) ?_
              refine lv_aload_n hx hb dX5_areAlike_53 rfl (lv_at hl 0 rfl) ?_
              refine va_get (D := g.1) (ci := 3) (v := .ref (a 2)) (C := RX5) (T := TX5) (N := 19) hx hb hts hi_3 hown hK hP 0 rfl rfl 2 (by decide) f_13 (fun _ h9 => h9) rfl dX5_areAlike_54 ?_
              refine lv_bipush (v := nI 10) hx hb dX5_areAlike_57 (by decide) ?_
              refine lv_iload_n hx hb dX5_areAlike_59 rfl (lv_at hl 2 rfl) ?_
              refine lv_imul hx hb dX5_areAlike_60 ?_
              refine tp_i (pk_mul 10 y2) ?_
              refine lv_iload hx hb dX5_areAlike_61 (lv_at hl 5 rfl) ?_
              refine lv_iadd hx hb dX5_areAlike_63 ?_
              refine tp_i (nI_add (10 * y2) i) ?_
              refine va_iald (n := 500) (f := fL) hx hb hK hP 2 0 rfl rfl (vp_in_nI (n := (10 * y2) + i) (by omega) (by decide)) dX5_areAlike_64 ?_
              refine tp_i (congrArg fL (nI_clamp (n := (10 * y2) + i) (by omega))) ?_
              refine tp_i (b := (nI (rwA (D y2) i))) ((hDm y2 (by omega)).2.2 i (by omega)) ?_
              refine lv_icmp_ne (tgt := 72) hx hb dX5_areAlike_65 (by decide) (fun c_65_8 => ?_) (fun c_65_8 => ?_)
              · skip
                have n_65_8 : ¬ rwA (D y1) i = rwA (D y2) i := fun q9 => c_65_8 ((nI_eq (a := rwA (D y1) i) (b := rwA (D y2) i) (by omega) (by omega)).mpr q9)
                refine lv_iconst (v := nI 0) hx hb dX5_areAlike_72 (by decide) ?_
                refine lv_istore (lv' := [(4, .int (nI (0))), (0, .ref (h)), (1, .int (nI (y1))), (2, .int (nI (y2))), (3, .int (nI (k))), (5, .int (nI (i)))]) hx hb dX5_areAlike_73 hl (by decide) rfl (fun ls hl => ?_)
                refine lv_iinc (v := (nI (i + 1))) (lv' := [(5, .int (nI (i + 1))), (4, .int (nI (0))), (0, .ref (h)), (1, .int (nI (y1))), (2, .int (nI (y2))), (3, .int (nI (k)))]) hx hb dX5_areAlike_75 hl (k := 5) rfl (nI_add (i) 1) (by decide) rfl (fun ls hl => ?_)
                refine lv_goto (tgt := 30) hx hb dX5_areAlike_78 (by decide) ?_
                exact ih_30 (i + 1) (nI (0)) (by omega) (by omega) (Bv.no (fun q9 => n_65_8 (q9.2.2 i (Nat.lt_succ_self i)))) _ _ _ hP hD hS (lv_sub hl [2, 3, 4, 5, 1, 0] rfl)
              · skip
                have n_65_8 : rwA (D y1) i = rwA (D y2) i := (nI_eq (a := rwA (D y1) i) (b := rwA (D y2) i) (by omega) (by omega)).mp c_65_8
                refine lv_iconst (v := nI 1) hx hb dX5_areAlike_68 (by decide) ?_
                refine lv_goto (tgt := 73) hx hb dX5_areAlike_69 (by decide) ?_
                refine lv_istore (lv' := [(4, .int (nI (1))), (0, .ref (h)), (1, .int (nI (y1))), (2, .int (nI (y2))), (3, .int (nI (k))), (5, .int (nI (i)))]) hx hb dX5_areAlike_73 hl (by decide) rfl (fun ls hl => ?_)
                refine lv_iinc (v := (nI (i + 1))) (lv' := [(5, .int (nI (i + 1))), (4, .int (nI (1))), (0, .ref (h)), (1, .int (nI (y1))), (2, .int (nI (y2))), (3, .int (nI (k)))]) hx hb dX5_areAlike_75 hl (k := 5) rfl (nI_add (i) 1) (by decide) rfl (fun ls hl => ?_)
                refine lv_goto (tgt := 30) hx hb dX5_areAlike_78 (by decide) ?_
                exact ih_30 (i + 1) (nI (1)) (by omega) (by omega) (Bv.yes ⟨hq1, hq2, lt_s hq3 n_65_8⟩) _ _ _ hP hD hS (lv_sub hl [2, 3, 4, 5, 1, 0] rfl)
      exact L_30 (_ + 1) 0 (nI (0)) (Nat.lt_succ_self _) (Nat.zero_le _) (Bv.no (fun q9 => by have := q9.1; have := q9.2.1; omega)) _ _ _ hP hD hS (lv_sub hl [2, 3, 4, 5, 1, 0] rfl)
    · skip
      have n_17_5 : ¬ rwL (D y2) < k := fun q9 => c_17_5 ((nI_ltI (a := rwL (D y2)) (b := k) (by omega) (by omega)).mpr q9)
      refine lv_iconst (v := nI 1) hx hb dX5_areAlike_20 (by decide) ?_
      refine lv_goto (tgt := 25) hx hb dX5_areAlike_21 (by decide) ?_
      refine lv_istore (lv' := [(4, .int (nI (1))), (0, .ref (h)), (1, .int (nI (y1))), (2, .int (nI (y2))), (3, .int (nI (k)))]) hx hb dX5_areAlike_25 hl (by decide) rfl (fun ls hl => ?_)
      refine lv_iconst (v := nI 0) hx hb dX5_areAlike_27 (by decide) ?_
      refine lv_istore (lv' := [(5, .int (nI (0))), (4, .int (nI (1))), (0, .ref (h)), (1, .int (nI (y1))), (2, .int (nI (y2))), (3, .int (nI (k)))]) hx hb dX5_areAlike_28 hl (by decide) rfl (fun ls hl => ?_)
      have L_30 : ∀ (fu : Nat) (i : Nat) (x : Int32), k - i < fu → (i ≤ k) → (Bv x (k ≤ rwL (D y1) ∧ k ≤ rwL (D y2) ∧ ∀ j, j < i → rwA (D y1) j = rwA (D y2) j)) → ∀ (H : Heap) (locs : List Loc) (ls : Array Slot), va_P g.1 vwCl (MW g h a (nI (rwL SL)) (nI n) (nI ll) (nI np) tu la wi (nI (rwL F)) th fS fL fN fK fF fW fE fC fG fO) H → va_D A (MW g h a (nI (rwL SL)) (nI n) (nI ll) (nI np) tu la wi (nI (rwL F)) th fS fL fN fK fF fW fE fC fG fO) → va_S A s.heap H locs → lv_has ls 6 [(0, .ref (h)), (1, .int (nI (y1))), (2, .int (nI (y2))), (3, .int (nI (k))), (4, .int (x)), (5, .int (nI (i)))] → W p l e rm_X5_areAlike s m args below meth c H locs 0 0 Z (F0 m 30 ls []) := by
        intro fu
        induction fu with
        | zero => intro _ _ h0; exact absurd h0 (Nat.not_lt_zero _)
        | succ fu ih_30 =>
          intro i x hfu hi1 hx0 H locs ls hP hD hS hl
          refine lv_iload hx hb dX5_areAlike_30 (lv_at hl 5 rfl) ?_
          refine lv_iload_n hx hb dX5_areAlike_32 rfl (lv_at hl 3 rfl) ?_
          refine lv_icmp_ge (tgt := 81) hx hb dX5_areAlike_33 (by decide) (fun c_33_9 => ?_) (fun c_33_9 => ?_)
          · skip
            have n_33_9 : k ≤ i := (nI_leI (a := k) (b := i) (by omega) (by omega)).mp c_33_9
            refine lv_iload hx hb dX5_areAlike_81 (lv_at hl 4 rfl) ?_
            exact hret (x) (MW g h a (nI (rwL SL)) (nI n) (nI ll) (nI np) tu la wi (nI (rwL F)) th fS fL fN fK fF fW fE fC fG fO) _ _ _ _ dX5_areAlike_83 (Bv.z hx0) (⟨rfl, hx0.iff ⟨fun q9 => al_of (hDm y1 hy1).1 (hDm y2 hy2).1 q9.1 q9.2.1 (fun j hj => q9.2.2 j (by omega)), fun q9 => ⟨q9.1, q9.2.1, fun j hj => al_to (hDm y1 hy1).1 (hDm y2 hy2).1 q9 j (by omega)⟩⟩⟩) hP hD hS
          · skip
            have n_33_9 : ¬ k ≤ i := fun q9 => c_33_9 ((nI_leI (a := k) (b := i) (by omega) (by omega)).mpr q9)
            refine lv_iload hx hb dX5_areAlike_36 (lv_at hl 4 rfl) ?_
            refine lv_if_eq (tgt := 81) hx hb dX5_areAlike_38 (by decide) (fun c_38_10 => ?_) (fun c_38_10 => ?_)
            · skip
              have n_38_10 := Bv.f hx0 c_38_10
              refine lv_iload hx hb dX5_areAlike_81 (lv_at hl 4 rfl) ?_
              exact hret (x) (MW g h a (nI (rwL SL)) (nI n) (nI ll) (nI np) tu la wi (nI (rwL F)) th fS fL fN fK fF fW fE fC fG fO) _ _ _ _ dX5_areAlike_83 (Bv.z hx0) (⟨rfl, Or.inr ⟨c_38_10, fun q9 => n_38_10 ⟨q9.1, q9.2.1, fun j hj => al_to (hDm y1 hy1).1 (hDm y2 hy2).1 q9 j (by omega)⟩⟩⟩) hP hD hS
            · skip
              have n_38_10 := Bv.t hx0 c_38_10
              obtain ⟨hq1, hq2, hq3⟩ := n_38_10
              have hq4 := rwA_lt (D y1) i
              have hq5 := rwA_lt (D y2) i
              refine lv_aload_n hx hb dX5_areAlike_41 rfl (lv_at hl 0 rfl) ?_
              refine va_get (D := g.1) (ci := 3) (v := .ref (a 2)) (C := RX5) (T := TX5) (N := 19) hx hb hts hi_3 hown hK hP 0 rfl rfl 2 (by decide) f_13 (fun _ h9 => h9) rfl dX5_areAlike_42 ?_
              refine lv_bipush (v := nI 10) hx hb dX5_areAlike_45 (by decide) ?_
              refine lv_iload_n hx hb dX5_areAlike_47 rfl (lv_at hl 1 rfl) ?_
              refine lv_imul hx hb dX5_areAlike_48 ?_
              refine tp_i (pk_mul 10 y1) ?_
              refine lv_iload hx hb dX5_areAlike_49 (lv_at hl 5 rfl) ?_
              refine lv_iadd hx hb dX5_areAlike_51 ?_
              refine tp_i (nI_add (10 * y1) i) ?_
              refine va_iald (n := 500) (f := fL) hx hb hK hP 2 0 rfl rfl (vp_in_nI (n := (10 * y1) + i) (by omega) (by decide)) dX5_areAlike_52 ?_
              refine tp_i (congrArg fL (nI_clamp (n := (10 * y1) + i) (by omega))) ?_
              refine tp_i (b := (nI (rwA (D y1) i))) ((hDm y1 (by omega)).2.2 i (by omega)) ?_
              refine lv_aload_n hx hb dX5_areAlike_53 rfl (lv_at hl 0 rfl) ?_
              refine va_get (D := g.1) (ci := 3) (v := .ref (a 2)) (C := RX5) (T := TX5) (N := 19) hx hb hts hi_3 hown hK hP 0 rfl rfl 2 (by decide) f_13 (fun _ h9 => h9) rfl dX5_areAlike_54 ?_
              refine lv_bipush (v := nI 10) hx hb dX5_areAlike_57 (by decide) ?_
              refine lv_iload_n hx hb dX5_areAlike_59 rfl (lv_at hl 2 rfl) ?_
              refine lv_imul hx hb dX5_areAlike_60 ?_
              refine tp_i (pk_mul 10 y2) ?_
              refine lv_iload hx hb dX5_areAlike_61 (lv_at hl 5 rfl) ?_
              refine lv_iadd hx hb dX5_areAlike_63 ?_
              refine tp_i (nI_add (10 * y2) i) ?_
              refine va_iald (n := 500) (f := fL) hx hb hK hP 2 0 rfl rfl (vp_in_nI (n := (10 * y2) + i) (by omega) (by decide)) dX5_areAlike_64 ?_
              refine tp_i (congrArg fL (nI_clamp (n := (10 * y2) + i) (by omega))) ?_
              refine tp_i (b := (nI (rwA (D y2) i))) ((hDm y2 (by omega)).2.2 i (by omega)) ?_
              refine lv_icmp_ne (tgt := 72) hx hb dX5_areAlike_65 (by decide) (fun c_65_11 => ?_) (fun c_65_11 => ?_)
              · skip
                have n_65_11 : ¬ rwA (D y1) i = rwA (D y2) i := fun q9 => c_65_11 ((nI_eq (a := rwA (D y1) i) (b := rwA (D y2) i) (by omega) (by omega)).mpr q9)
                refine lv_iconst (v := nI 0) hx hb dX5_areAlike_72 (by decide) ?_
                refine lv_istore (lv' := [(4, .int (nI (0))), (0, .ref (h)), (1, .int (nI (y1))), (2, .int (nI (y2))), (3, .int (nI (k))), (5, .int (nI (i)))]) hx hb dX5_areAlike_73 hl (by decide) rfl (fun ls hl => ?_)
                refine lv_iinc (v := (nI (i + 1))) (lv' := [(5, .int (nI (i + 1))), (4, .int (nI (0))), (0, .ref (h)), (1, .int (nI (y1))), (2, .int (nI (y2))), (3, .int (nI (k)))]) hx hb dX5_areAlike_75 hl (k := 5) rfl (nI_add (i) 1) (by decide) rfl (fun ls hl => ?_)
                refine lv_goto (tgt := 30) hx hb dX5_areAlike_78 (by decide) ?_
                exact ih_30 (i + 1) (nI (0)) (by omega) (by omega) (Bv.no (fun q9 => n_65_11 (q9.2.2 i (Nat.lt_succ_self i)))) _ _ _ hP hD hS (lv_sub hl [2, 3, 4, 5, 1, 0] rfl)
              · skip
                have n_65_11 : rwA (D y1) i = rwA (D y2) i := (nI_eq (a := rwA (D y1) i) (b := rwA (D y2) i) (by omega) (by omega)).mp c_65_11
                refine lv_iconst (v := nI 1) hx hb dX5_areAlike_68 (by decide) ?_
                refine lv_goto (tgt := 73) hx hb dX5_areAlike_69 (by decide) ?_
                refine lv_istore (lv' := [(4, .int (nI (1))), (0, .ref (h)), (1, .int (nI (y1))), (2, .int (nI (y2))), (3, .int (nI (k))), (5, .int (nI (i)))]) hx hb dX5_areAlike_73 hl (by decide) rfl (fun ls hl => ?_)
                refine lv_iinc (v := (nI (i + 1))) (lv' := [(5, .int (nI (i + 1))), (4, .int (nI (1))), (0, .ref (h)), (1, .int (nI (y1))), (2, .int (nI (y2))), (3, .int (nI (k)))]) hx hb dX5_areAlike_75 hl (k := 5) rfl (nI_add (i) 1) (by decide) rfl (fun ls hl => ?_)
                refine lv_goto (tgt := 30) hx hb dX5_areAlike_78 (by decide) ?_
                exact ih_30 (i + 1) (nI (1)) (by omega) (by omega) (Bv.yes ⟨hq1, hq2, lt_s hq3 n_65_11⟩) _ _ _ hP hD hS (lv_sub hl [2, 3, 4, 5, 1, 0] rfl)
      exact L_30 (_ + 1) 0 (nI (1)) (Nat.lt_succ_self _) (Nat.zero_le _) (Bv.yes ⟨by omega, by omega, fun j hj => absurd hj (Nat.not_lt_zero _)⟩) _ _ _ hP hD hS (lv_sub hl [2, 3, 4, 5, 1, 0] rfl)

abbrev rm_X5_counts : Room := { frames := 0, cells := 0, slots := 0, locals := 0 }
set_option maxHeartbeats 4000000 in
set_option maxRecDepth 100000 in
theorem c_X5_counts (l : Launch) (g : GG) (h : Nat) (a : Nat → Nat) (SL n ll np : Nat) (tu la wi : Int32) (F : Nat) (th : Int32) (fS fL fN fK fF fW fE fC fG fO : Nat → Int32) (D : Nat → Nat) (hDm : MD fL fN D n) (hn : n ≤ 50) (hSL : RV SL) (hfS : MRw fS SL) (hFr : RV F) (hfF : MRw fF F) (hll : ll ≤ 10) (hp : np ≤ 4) (k : Nat) (hk : k < n) : Ci l yX5_counts wsX5_counts rm_X5_counts g [.ref (h), .int (nI (k))] (MW g h a (nI (rwL SL)) (nI n) (nI ll) (nI np) tu la wi (nI (rwL F)) th fS fL fN fK fF fW fE fC fG fO) (fun r w => w = (MW g h a (nI (rwL SL)) (nI n) (nI ll) (nI np) tu la wi (nI (rwL F)) th fS fL fN fK fF fW fE fC fG fO) ∧ Bv r (ll ≤ rwL (D k))) := by
  refine Ci.ofZ (cc := cX5_counts) (maxL := 2) (by decide) rfl (Nat.le_of_ble_eq_true rfl) ?_
  intro p e s m args below meth c A Z hx hb hml hts hown hK hA hret H locs ls hP hD hS hl
  have f_16 := hts (.fieldLink RX5 16 "GhostGameModel" "length" "[I") (by decide +kernel)
  have f_19 := hts (.fieldLink RX5 19 "GhostGameModel" "least" "I") (by decide +kernel)
  have hi_3 : ∀ w ∈ wsX50, w ∈ wsX5_counts := by decide +kernel
  have hl : lv_has ls 2 [(0, .ref (h)), (1, .int (nI (k)))] := hl
  have h10 : ∀ k9, k9 < n → rwL (D k9) ≤ 10 := fun k9 h9 => (hDm k9 h9).1.1
  have hk3 := h10 k hk
  refine lv_aload_n hx hb dX5_counts_0 rfl (lv_at hl 0 rfl) ?_
  refine va_get (D := g.1) (ci := 3) (v := .ref (a 3)) (C := RX5) (T := TX5) (N := 19) hx hb hts hi_3 hown hK hP 0 rfl rfl 3 (by decide) f_16 (fun _ h9 => h9) rfl dX5_counts_1 ?_
  refine lv_iload_n hx hb dX5_counts_4 rfl (lv_at hl 1 rfl) ?_
  refine va_iald (n := 50) (f := fN) hx hb hK hP 3 0 rfl rfl (vp_in_nI (n := k) (by omega) (by decide)) dX5_counts_5 ?_
  refine tp_i (congrArg fN (nI_clamp (n := k) (by omega))) ?_
  refine tp_i (b := (nI (rwL (D k)))) ((hDm k (by omega)).2.1) ?_
  refine lv_aload_n hx hb dX5_counts_6 rfl (lv_at hl 0 rfl) ?_
  refine va_get (D := g.1) (ci := 3) (v := .int (nI (ll))) (C := RX5) (T := TX5) (N := 19) hx hb hts hi_3 hown hK hP 0 rfl rfl 5 (by decide) f_19 (fun _ h9 => h9) rfl dX5_counts_7 ?_
  refine lv_icmp_lt (tgt := 17) hx hb dX5_counts_10 (by decide) (fun c_10_1 => ?_) (fun c_10_1 => ?_)
  · skip
    have n_10_1 : rwL (D k) < ll := (nI_ltI (a := rwL (D k)) (b := ll) (by omega) (by omega)).mp c_10_1
    refine lv_iconst (v := nI 0) hx hb dX5_counts_17 (by decide) ?_
    exact hret (nI (0)) (MW g h a (nI (rwL SL)) (nI n) (nI ll) (nI np) tu la wi (nI (rwL F)) th fS fL fN fK fF fW fE fC fG fO) _ _ _ _ dX5_counts_18 (Or.inl rfl) (⟨rfl, Bv.no (by omega)⟩) hP hD hS
  · skip
    have n_10_1 : ¬ rwL (D k) < ll := fun q9 => c_10_1 ((nI_ltI (a := rwL (D k)) (b := ll) (by omega) (by omega)).mpr q9)
    refine lv_iconst (v := nI 1) hx hb dX5_counts_13 (by decide) ?_
    refine lv_goto (tgt := 18) hx hb dX5_counts_14 (by decide) ?_
    exact hret (nI (1)) (MW g h a (nI (rwL SL)) (nI n) (nI ll) (nI np) tu la wi (nI (rwL F)) th fS fL fN fK fF fW fE fC fG fO) _ _ _ _ dX5_counts_18 (Or.inr rfl) (⟨rfl, Bv.yes (by omega)⟩) hP hD hS

abbrev rm_X5_found : Room := { frames := 1, cells := 0, slots := 0, locals := 25 }
set_option maxHeartbeats 4000000 in
set_option maxRecDepth 100000 in
theorem c_X5_found (l : Launch) (g : GG) (h : Nat) (a : Nat → Nat) (SL n ll np : Nat) (tu la wi : Int32) (F : Nat) (th : Int32) (fS fL fN fK fF fW fE fC fG fO : Nat → Int32) (D : Nat → Nat) (hDm : MD fL fN D n) (hn : n ≤ 50) (hSL : RV SL) (hfS : MRw fS SL) (hFr : RV F) (hfF : MRw fF F) (hll : ll ≤ 10) (hp : np ≤ 4) : Ci l yX5_found wsX5_found rm_X5_found g [.ref (h)] (MW g h a (nI (rwL SL)) (nI n) (nI ll) (nI np) tu la wi (nI (rwL F)) th fS fL fN fK fF fW fE fC fG fO) (fun r w => w = (MW g h a (nI (rwL SL)) (nI n) (nI ll) (nI np) tu la wi (nI (rwL F)) th fS fL fN fK fF fW fE fC fG fO) ∧ fdP D SL (n) r) := by
  refine Ci.ofI (cc := cX5_found) (maxL := 3) (by decide) rfl (Nat.le_of_ble_eq_true rfl) ?_
  intro p e s m args below meth c A Z hx hb hml hts hown hK hA hret H locs ls hP hD hS hl
  have f_7 := hts (.fieldLink RX5 7 "GhostGameModel" "slip" "[I") (by decide +kernel)
  have f_16 := hts (.fieldLink RX5 16 "GhostGameModel" "length" "[I") (by decide +kernel)
  have f_51 := hts (.fieldLink RX5 51 "GhostGameModel" "words" "I") (by decide +kernel)
  have f_54 := hts (.fieldLink RX5 54 "GhostGameModel" "slipLength" "I") (by decide +kernel)
  have hi_3 : ∀ w ∈ wsX50, w ∈ wsX5_found := by decide +kernel
  have hl : lv_has ls 3 [(0, .ref (h))] := hl
  have h10 : ∀ k9, k9 < n → rwL (D k9) ≤ 10 := fun k9 h9 => (hDm k9 h9).1.1
  have hz1 := hSL.1
  refine lv_iconst (v := -1) hx hb dX5_found_0 (by decide) ?_
  refine lv_istore_n (lv' := [(1, .int (-1)), (0, .ref (h))]) hx hb dX5_found_1 rfl hl (by decide) rfl (fun ls hl => ?_)
  refine lv_iconst (v := nI 0) hx hb dX5_found_2 (by decide) ?_
  refine lv_istore_n (lv' := [(2, .int (nI (0))), (1, .int (-1)), (0, .ref (h))]) hx hb dX5_found_3 rfl hl (by decide) rfl (fun ls hl => ?_)
  have L_4 : ∀ (fu : Nat) (k : Nat) (x : Int32), n - k < fu → (k ≤ n) → (fdP D SL (k) x) → ∀ (H : Heap) (locs : List Loc) (ls : Array Slot), va_P g.1 vwCl (MW g h a (nI (rwL SL)) (nI n) (nI ll) (nI np) tu la wi (nI (rwL F)) th fS fL fN fK fF fW fE fC fG fO) H → va_D A (MW g h a (nI (rwL SL)) (nI n) (nI ll) (nI np) tu la wi (nI (rwL F)) th fS fL fN fK fF fW fE fC fG fO) → va_S A s.heap H locs → lv_has ls 3 [(0, .ref (h)), (1, .int (x)), (2, .int (nI (k)))] → W p l e rm_X5_found s m args below meth c H locs 0 0 Z (F0 m 4 ls []) := by
    intro fu
    induction fu with
    | zero => intro _ _ h0; exact absurd h0 (Nat.not_lt_zero _)
    | succ fu ih_4 =>
      intro k x hfu hk1 hx0 H locs ls hP hD hS hl
      refine lv_iload_n hx hb dX5_found_4 rfl (lv_at hl 2 rfl) ?_
      refine lv_aload_n hx hb dX5_found_5 rfl (lv_at hl 0 rfl) ?_
      refine va_get (D := g.1) (ci := 3) (v := .int (nI (n))) (C := RX5) (T := TX5) (N := 19) hx hb hts hi_3 hown hK hP 0 rfl rfl 4 (by decide) f_51 (fun _ h9 => h9) rfl dX5_found_6 ?_
      refine lv_icmp_ge (tgt := 53) hx hb dX5_found_9 (by decide) (fun c_9_1 => ?_) (fun c_9_1 => ?_)
      · skip
        have n_9_1 : n ≤ k := (nI_leI (a := n) (b := k) (by omega) (by omega)).mp c_9_1
        refine lv_iload_n hx hb dX5_found_53 rfl (lv_at hl 1 rfl) ?_
        exact hret (x) (MW g h a (nI (rwL SL)) (nI n) (nI ll) (nI np) tu la wi (nI (rwL F)) th fS fL fN fK fF fW fE fC fG fO) _ _ _ _ dX5_found_54 (⟨rfl, by rw [show n = k by omega]; exact hx0⟩) hP hD hS
      · skip
        have n_9_1 : ¬ n ≤ k := fun q9 => c_9_1 ((nI_leI (a := n) (b := k) (by omega) (by omega)).mpr q9)
        refine lv_aload_n hx hb dX5_found_12 rfl (lv_at hl 0 rfl) ?_
        refine va_get (D := g.1) (ci := 3) (v := .ref (a 3)) (C := RX5) (T := TX5) (N := 19) hx hb hts hi_3 hown hK hP 0 rfl rfl 3 (by decide) f_16 (fun _ h9 => h9) rfl dX5_found_13 ?_
        refine lv_iload_n hx hb dX5_found_16 rfl (lv_at hl 2 rfl) ?_
        refine va_iald (n := 50) (f := fN) hx hb hK hP 3 0 rfl rfl (vp_in_nI (n := k) (by omega) (by decide)) dX5_found_17 ?_
        refine tp_i (congrArg fN (nI_clamp (n := k) (by omega))) ?_
        refine tp_i (b := (nI (rwL (D k)))) ((hDm k (by omega)).2.1) ?_
        refine lv_aload_n hx hb dX5_found_18 rfl (lv_at hl 0 rfl) ?_
        refine va_get (D := g.1) (ci := 3) (v := .int (nI (rwL SL))) (C := RX5) (T := TX5) (N := 19) hx hb hts hi_3 hown hK hP 0 rfl rfl 1 (by decide) f_54 (fun _ h9 => h9) rfl dX5_found_19 ?_
        have hk3 := h10 k (by omega)
        refine lv_icmp_ne (tgt := 45) hx hb dX5_found_22 (by decide) (fun c_22_2 => ?_) (fun c_22_2 => ?_)
        · skip
          have n_22_2 : ¬ rwL (D k) = rwL SL := fun q9 => c_22_2 ((nI_eq (a := rwL (D k)) (b := rwL SL) (by omega) (by omega)).mpr q9)
          refine lv_iload_n hx hb dX5_found_45 rfl (lv_at hl 1 rfl) ?_
          refine lv_istore_n (lv' := [(1, .int (x)), (0, .ref (h)), (2, .int (nI (k)))]) hx hb dX5_found_46 rfl hl (by decide) rfl (fun ls hl => ?_)
          refine lv_iinc (v := (nI (k + 1))) (lv' := [(2, .int (nI (k + 1))), (1, .int (x)), (0, .ref (h))]) hx hb dX5_found_47 hl (k := 2) rfl (nI_add (k) 1) (by decide) rfl (fun ls hl => ?_)
          refine lv_goto (tgt := 4) hx hb dX5_found_50 (by decide) ?_
          exact ih_4 (k + 1) x (by omega) (by omega) (fd_no hx0 (fun q9 => n_22_2 (by rw [q9]))) _ _ _ hP hD hS (lv_sub hl [2, 1, 0] rfl)
        · skip
          have n_22_2 : rwL (D k) = rwL SL := (nI_eq (a := rwL (D k)) (b := rwL SL) (by omega) (by omega)).mp c_22_2
          refine lv_aload_n hx hb dX5_found_25 rfl (lv_at hl 0 rfl) ?_
          refine lv_iload_n hx hb dX5_found_26 rfl (lv_at hl 2 rfl) ?_
          refine lv_aload_n hx hb dX5_found_27 rfl (lv_at hl 0 rfl) ?_
          refine va_get (D := g.1) (ci := 3) (v := .ref (a 0)) (C := RX5) (T := TX5) (N := 19) hx hb hts hi_3 hown hK hP 0 rfl rfl 0 (by decide) f_7 (fun _ h9 => h9) rfl dX5_found_28 ?_
          refine lv_aload_n hx hb dX5_found_31 rfl (lv_at hl 0 rfl) ?_
          refine va_get (D := g.1) (ci := 3) (v := .int (nI (rwL SL))) (C := RX5) (T := TX5) (N := 19) hx hb hts hi_3 hown hK hP 0 rfl rfl 1 (by decide) f_54 (fun _ h9 => h9) rfl dX5_found_32 ?_
          refine call_iVW (As := [.int (nI (k)), .ref (a 0), .int (nI (rwL SL))]) (rest := []) ⟨hx, hb, hml, hown, hts⟩ (c_X5_begins_S l g h a SL n ll np tu la wi F th fS fL fN fK fF fW fE fC fG fO D hDm hn hSL hfS hFr hfF hll hp k (by omega)) (cwV 3 hts gX5_found_X5_begins rfl rfl rfl (by decide +kernel) ⟨Nat.le_of_ble_eq_true rfl, Nat.le_of_ble_eq_true rfl⟩) hP hK hD hS hA 0 rfl rfl rfl rfl hl.1 rfl (Nat.le_of_ble_eq_true rfl) dX5_found_35 ⟨Nat.le_refl _, Nat.le_refl _⟩ (fun r_35 w H locs h_35 hP hD hS => ?_)
          obtain ⟨rfl, h_35⟩ := h_35
          have hP : va_P g.1 vwCl (MW g h a (nI (rwL SL)) (nI n) (nI ll) (nI np) tu la wi (nI (rwL F)) th fS fL fN fK fF fW fE fC fG fO) H := hP
          have hD : va_D A (MW g h a (nI (rwL SL)) (nI n) (nI ll) (nI np) tu la wi (nI (rwL F)) th fS fL fN fK fF fW fE fC fG fO) := hD
          refine lv_if_eq (tgt := 45) hx hb dX5_found_38 (by decide) (fun c_38_3 => ?_) (fun c_38_3 => ?_)
          · skip
            have n_38_3 := Bv.f h_35 c_38_3
            refine lv_iload_n hx hb dX5_found_45 rfl (lv_at hl 1 rfl) ?_
            refine lv_istore_n (lv' := [(1, .int (x)), (0, .ref (h)), (2, .int (nI (k)))]) hx hb dX5_found_46 rfl hl (by decide) rfl (fun ls hl => ?_)
            refine lv_iinc (v := (nI (k + 1))) (lv' := [(2, .int (nI (k + 1))), (1, .int (x)), (0, .ref (h))]) hx hb dX5_found_47 hl (k := 2) rfl (nI_add (k) 1) (by decide) rfl (fun ls hl => ?_)
            refine lv_goto (tgt := 4) hx hb dX5_found_50 (by decide) ?_
            exact ih_4 (k + 1) x (by omega) (by omega) (fd_no hx0 (fun q9 => n_38_3 (by rw [q9]; exact bg_self _))) _ _ _ hP hD hS (lv_sub hl [2, 1, 0] rfl)
          · skip
            have n_38_3 := Bv.t h_35 c_38_3
            refine lv_iload_n hx hb dX5_found_41 rfl (lv_at hl 2 rfl) ?_
            refine lv_goto (tgt := 46) hx hb dX5_found_42 (by decide) ?_
            refine lv_istore_n (lv' := [(1, .int (nI (k))), (0, .ref (h)), (2, .int (nI (k)))]) hx hb dX5_found_46 rfl hl (by decide) rfl (fun ls hl => ?_)
            refine lv_iinc (v := (nI (k + 1))) (lv' := [(2, .int (nI (k + 1))), (1, .int (nI (k))), (0, .ref (h))]) hx hb dX5_found_47 hl (k := 2) rfl (nI_add (k) 1) (by decide) rfl (fun ls hl => ?_)
            refine lv_goto (tgt := 4) hx hb dX5_found_50 (by decide) ?_
            exact ih_4 (k + 1) (nI (k)) (by omega) (by omega) (Or.inl ⟨k, by omega, bg_eq n_22_2 n_38_3, rfl⟩) _ _ _ hP hD hS (lv_sub hl [2, 1, 0] rfl)
  exact L_4 (_ + 1) 0 (-1) (Nat.lt_succ_self _) (Nat.zero_le _) (Or.inr ⟨fun j hj => absurd hj (Nat.not_lt_zero _), rfl⟩) _ _ _ hP hD hS (lv_sub hl [2, 1, 0] rfl)

abbrev rm_X5_isBefore : Room := { frames := 0, cells := 0, slots := 0, locals := 0 }
set_option maxHeartbeats 4000000 in
set_option maxRecDepth 100000 in
theorem c_X5_isBefore (l : Launch) (g : GG) (h : Nat) (a : Nat → Nat) (SL n ll np : Nat) (tu la wi : Int32) (F : Nat) (th : Int32) (fS fL fN fK fF fW fE fC fG fO : Nat → Int32) (D : Nat → Nat) (hDm : MD fL fN D n) (hn : n ≤ 50) (hSL : RV SL) (hfS : MRw fS SL) (hFr : RV F) (hfF : MRw fF F) (hll : ll ≤ 10) (hp : np ≤ 4) (y1 y2 : Nat) (hy1 : y1 < n) (hy2 : y2 < n) : Ci l yX5_isBefore wsX5_isBefore rm_X5_isBefore g [.ref (h), .int (nI (y1)), .int (nI (y2))] (MW g h a (nI (rwL SL)) (nI n) (nI ll) (nI np) tu la wi (nI (rwL F)) th fS fL fN fK fF fW fE fC fG fO) (fun r w => w = (MW g h a (nI (rwL SL)) (nI n) (nI ll) (nI np) tu la wi (nI (rwL F)) th fS fL fN fK fF fW fE fC fG fO) ∧ Bv r (D y1 < D y2)) := by
  refine Ci.ofZ (cc := cX5_isBefore) (maxL := 6) (by decide) rfl (Nat.le_of_ble_eq_true rfl) ?_
  intro p e s m args below meth c A Z hx hb hml hts hown hK hA hret H locs ls hP hD hS hl
  have f_13 := hts (.fieldLink RX5 13 "GhostGameModel" "letters" "[I") (by decide +kernel)
  have f_16 := hts (.fieldLink RX5 16 "GhostGameModel" "length" "[I") (by decide +kernel)
  have hi_3 : ∀ w ∈ wsX50, w ∈ wsX5_isBefore := by decide +kernel
  have hl : lv_has ls 6 [(0, .ref (h)), (1, .int (nI (y1))), (2, .int (nI (y2)))] := hl
  have h10 : ∀ k9, k9 < n → rwL (D k9) ≤ 10 := fun k9 h9 => (hDm k9 h9).1.1
  have hz1 := h10 y1 hy1
  have hz2 := h10 y2 hy2
  refine lv_aload_n hx hb dX5_isBefore_0 rfl (lv_at hl 0 rfl) ?_
  refine va_get (D := g.1) (ci := 3) (v := .ref (a 3)) (C := RX5) (T := TX5) (N := 19) hx hb hts hi_3 hown hK hP 0 rfl rfl 3 (by decide) f_16 (fun _ h9 => h9) rfl dX5_isBefore_1 ?_
  refine lv_iload_n hx hb dX5_isBefore_4 rfl (lv_at hl 1 rfl) ?_
  refine va_iald (n := 50) (f := fN) hx hb hK hP 3 0 rfl rfl (vp_in_nI (n := y1) (by omega) (by decide)) dX5_isBefore_5 ?_
  refine tp_i (congrArg fN (nI_clamp (n := y1) (by omega))) ?_
  refine tp_i (b := (nI (rwL (D y1)))) ((hDm y1 (by omega)).2.1) ?_
  refine lv_aload_n hx hb dX5_isBefore_6 rfl (lv_at hl 0 rfl) ?_
  refine va_get (D := g.1) (ci := 3) (v := .ref (a 3)) (C := RX5) (T := TX5) (N := 19) hx hb hts hi_3 hown hK hP 0 rfl rfl 3 (by decide) f_16 (fun _ h9 => h9) rfl dX5_isBefore_7 ?_
  refine lv_iload_n hx hb dX5_isBefore_10 rfl (lv_at hl 2 rfl) ?_
  refine va_iald (n := 50) (f := fN) hx hb hK hP 3 0 rfl rfl (vp_in_nI (n := y2) (by omega) (by decide)) dX5_isBefore_11 ?_
  refine tp_i (congrArg fN (nI_clamp (n := y2) (by omega))) ?_
  refine tp_i (b := (nI (rwL (D y2)))) ((hDm y2 (by omega)).2.1) ?_
  refine lv_icmp_eq (tgt := 36) hx hb dX5_isBefore_12 (by decide) (fun c_12_1 => ?_) (fun c_12_1 => ?_)
  · skip
    have n_12_1 : rwL (D y1) = rwL (D y2) := (nI_eq (a := rwL (D y1)) (b := rwL (D y2)) (by omega) (by omega)).mp c_12_1
    have hl9 := n_12_1
    refine lv_iconst (v := nI 0) hx hb dX5_isBefore_36 (by decide) ?_
    refine lv_istore_n (lv' := [(3, .int (nI (0))), (0, .ref (h)), (1, .int (nI (y1))), (2, .int (nI (y2)))]) hx hb dX5_isBefore_37 rfl hl (by decide) rfl (fun ls hl => ?_)
    have L_38 : ∀ (fu : Nat) (i : Nat), rwL (D y1) - i < fu → (i ≤ rwL (D y1)) → (∀ j, j < i → rwA (D y1) j = rwA (D y2) j) → ∀ (H : Heap) (locs : List Loc) (ls : Array Slot), va_P g.1 vwCl (MW g h a (nI (rwL SL)) (nI n) (nI ll) (nI np) tu la wi (nI (rwL F)) th fS fL fN fK fF fW fE fC fG fO) H → va_D A (MW g h a (nI (rwL SL)) (nI n) (nI ll) (nI np) tu la wi (nI (rwL F)) th fS fL fN fK fF fW fE fC fG fO) → va_S A s.heap H locs → lv_has ls 6 [(0, .ref (h)), (1, .int (nI (y1))), (2, .int (nI (y2))), (3, .int (nI (i)))] → W p l e rm_X5_isBefore s m args below meth c H locs 0 0 Z (F0 m 38 ls []) := by
      intro fu
      induction fu with
      | zero => intro _ h0; exact absurd h0 (Nat.not_lt_zero _)
      | succ fu ih_38 =>
        intro i hfu hi1 hi2 H locs ls hP hD hS hl
        refine lv_iload_n hx hb dX5_isBefore_38 rfl (lv_at hl 3 rfl) ?_
        refine lv_aload_n hx hb dX5_isBefore_39 rfl (lv_at hl 0 rfl) ?_
        refine va_get (D := g.1) (ci := 3) (v := .ref (a 3)) (C := RX5) (T := TX5) (N := 19) hx hb hts hi_3 hown hK hP 0 rfl rfl 3 (by decide) f_16 (fun _ h9 => h9) rfl dX5_isBefore_40 ?_
        refine lv_iload_n hx hb dX5_isBefore_43 rfl (lv_at hl 1 rfl) ?_
        refine va_iald (n := 50) (f := fN) hx hb hK hP 3 0 rfl rfl (vp_in_nI (n := y1) (by omega) (by decide)) dX5_isBefore_44 ?_
        refine tp_i (congrArg fN (nI_clamp (n := y1) (by omega))) ?_
        refine tp_i (b := (nI (rwL (D y1)))) ((hDm y1 (by omega)).2.1) ?_
        refine lv_icmp_ge (tgt := 100) hx hb dX5_isBefore_45 (by decide) (fun c_45_2 => ?_) (fun c_45_2 => ?_)
        · skip
          have n_45_2 : rwL (D y1) ≤ i := (nI_leI (a := rwL (D y1)) (b := i) (by omega) (by omega)).mp c_45_2
          refine lv_iconst (v := nI 0) hx hb dX5_isBefore_100 (by decide) ?_
          exact hret (nI (0)) (MW g h a (nI (rwL SL)) (nI n) (nI ll) (nI np) tu la wi (nI (rwL F)) th fS fL fN fK fF fW fE fC fG fO) _ _ _ _ dX5_isBefore_101 (Or.inl rfl) (⟨rfl, Bv.no (fun q9 => by have := RV.eq_all (hDm y1 hy1).1 (hDm y2 hy2).1 hl9 (fun j hj => hi2 j (by omega)); omega)⟩) hP hD hS
        · skip
          have n_45_2 : ¬ rwL (D y1) ≤ i := fun q9 => c_45_2 ((nI_leI (a := rwL (D y1)) (b := i) (by omega) (by omega)).mpr q9)
          refine lv_aload_n hx hb dX5_isBefore_48 rfl (lv_at hl 0 rfl) ?_
          refine va_get (D := g.1) (ci := 3) (v := .ref (a 2)) (C := RX5) (T := TX5) (N := 19) hx hb hts hi_3 hown hK hP 0 rfl rfl 2 (by decide) f_13 (fun _ h9 => h9) rfl dX5_isBefore_49 ?_
          refine lv_bipush (v := nI 10) hx hb dX5_isBefore_52 (by decide) ?_
          refine lv_iload_n hx hb dX5_isBefore_54 rfl (lv_at hl 1 rfl) ?_
          refine lv_imul hx hb dX5_isBefore_55 ?_
          refine tp_i (pk_mul 10 y1) ?_
          refine lv_iload_n hx hb dX5_isBefore_56 rfl (lv_at hl 3 rfl) ?_
          refine lv_iadd hx hb dX5_isBefore_57 ?_
          refine tp_i (nI_add (10 * y1) i) ?_
          refine va_iald (n := 500) (f := fL) hx hb hK hP 2 0 rfl rfl (vp_in_nI (n := (10 * y1) + i) (by omega) (by decide)) dX5_isBefore_58 ?_
          refine tp_i (congrArg fL (nI_clamp (n := (10 * y1) + i) (by omega))) ?_
          refine tp_i (b := (nI (rwA (D y1) i))) ((hDm y1 (by omega)).2.2 i (by omega)) ?_
          refine lv_istore (lv' := [(4, .int (nI (rwA (D y1) i))), (0, .ref (h)), (1, .int (nI (y1))), (2, .int (nI (y2))), (3, .int (nI (i)))]) hx hb dX5_isBefore_59 hl (by decide) rfl (fun ls hl => ?_)
          refine lv_aload_n hx hb dX5_isBefore_61 rfl (lv_at hl 1 rfl) ?_
          refine va_get (D := g.1) (ci := 3) (v := .ref (a 2)) (C := RX5) (T := TX5) (N := 19) hx hb hts hi_3 hown hK hP 0 rfl rfl 2 (by decide) f_13 (fun _ h9 => h9) rfl dX5_isBefore_62 ?_
          refine lv_bipush (v := nI 10) hx hb dX5_isBefore_65 (by decide) ?_
          refine lv_iload_n hx hb dX5_isBefore_67 rfl (lv_at hl 3 rfl) ?_
          refine lv_imul hx hb dX5_isBefore_68 ?_
          refine tp_i (pk_mul 10 y2) ?_
          refine lv_iload_n hx hb dX5_isBefore_69 rfl (lv_at hl 4 rfl) ?_
          refine lv_iadd hx hb dX5_isBefore_70 ?_
          refine tp_i (nI_add (10 * y2) i) ?_
          refine va_iald (n := 500) (f := fL) hx hb hK hP 2 0 rfl rfl (vp_in_nI (n := (10 * y2) + i) (by omega) (by decide)) dX5_isBefore_71 ?_
          refine tp_i (congrArg fL (nI_clamp (n := (10 * y2) + i) (by omega))) ?_
          refine tp_i (b := (nI (rwA (D y2) i))) ((hDm y2 (by omega)).2.2 i (by omega)) ?_
          refine lv_istore (lv' := [(5, .int (nI (rwA (D y2) i))), (4, .int (nI (rwA (D y1) i))), (0, .ref (h)), (1, .int (nI (y1))), (2, .int (nI (y2))), (3, .int (nI (i)))]) hx hb dX5_isBefore_72 hl (by decide) rfl (fun ls hl => ?_)
          refine lv_iload hx hb dX5_isBefore_74 (lv_at hl 1 rfl) ?_
          refine lv_iload hx hb dX5_isBefore_76 (lv_at hl 0 rfl) ?_
          have hq4 := rwA_lt (D y1) i
          have hq5 := rwA_lt (D y2) i
          refine lv_icmp_eq (tgt := 94) hx hb dX5_isBefore_78 (by decide) (fun c_78_3 => ?_) (fun c_78_3 => ?_)
          · skip
            have n_78_3 : rwA (D y1) i = rwA (D y2) i := (nI_eq (a := rwA (D y1) i) (b := rwA (D y2) i) (by omega) (by omega)).mp c_78_3
            refine lv_iinc (v := (nI (i + 1))) (lv' := [(3, .int (nI (i + 1))), (5, .int (nI (rwA (D y2) i))), (4, .int (nI (rwA (D y1) i))), (0, .ref (h)), (1, .int (nI (y1))), (2, .int (nI (y2)))]) hx hb dX5_isBefore_94 hl (k := 5) rfl (nI_add (i) 1) (by decide) rfl (fun ls hl => ?_)
            refine lv_goto (tgt := 38) hx hb dX5_isBefore_97 (by decide) ?_
            exact ih_38 (i + 1) (by omega) (by omega) (lt_s hi2 n_78_3) _ _ _ hP hD hS (lv_sub hl [3, 4, 5, 0] rfl)
          · skip
            have n_78_3 : ¬ rwA (D y1) i = rwA (D y2) i := fun q9 => c_78_3 ((nI_eq (a := rwA (D y1) i) (b := rwA (D y2) i) (by omega) (by omega)).mpr q9)
            refine lv_iload hx hb dX5_isBefore_81 (lv_at hl 1 rfl) ?_
            refine lv_iload hx hb dX5_isBefore_83 (lv_at hl 0 rfl) ?_
            refine lv_icmp_ge (tgt := 92) hx hb dX5_isBefore_85 (by decide) (fun c_85_4 => ?_) (fun c_85_4 => ?_)
            · skip
              have n_85_4 : rwA (D y2) i ≤ rwA (D y1) i := (nI_leI (a := rwA (D y2) i) (b := rwA (D y1) i) (by omega) (by omega)).mp c_85_4
              refine lv_iconst (v := nI 0) hx hb dX5_isBefore_92 (by decide) ?_
              exact hret (nI (0)) (MW g h a (nI (rwL SL)) (nI n) (nI ll) (nI np) tu la wi (nI (rwL F)) th fS fL fN fK fF fW fE fC fG fO) _ _ _ _ dX5_isBefore_93 (Or.inl rfl) (⟨rfl, Bv.no (fun q9 => by have := RV.lt_letter (hDm y2 hy2).1 (hDm y1 hy1).1 hl9.symm (by omega) (fun j hj => (hi2 j hj).symm) (show rwA (D y2) i < rwA (D y1) i by omega); omega)⟩) hP hD hS
            · skip
              have n_85_4 : ¬ rwA (D y2) i ≤ rwA (D y1) i := fun q9 => c_85_4 ((nI_leI (a := rwA (D y2) i) (b := rwA (D y1) i) (by omega) (by omega)).mpr q9)
              refine lv_iconst (v := nI 1) hx hb dX5_isBefore_88 (by decide) ?_
              refine lv_goto (tgt := 93) hx hb dX5_isBefore_89 (by decide) ?_
              exact hret (nI (1)) (MW g h a (nI (rwL SL)) (nI n) (nI ll) (nI np) tu la wi (nI (rwL F)) th fS fL fN fK fF fW fE fC fG fO) _ _ _ _ dX5_isBefore_93 (Or.inr rfl) (⟨rfl, Bv.yes (RV.lt_letter (hDm y1 hy1).1 (hDm y2 hy2).1 hl9 (by omega) hi2 (by omega))⟩) hP hD hS
    exact L_38 (_ + 1) 0 (Nat.lt_succ_self _) (Nat.zero_le _) (fun j hj => absurd hj (Nat.not_lt_zero _)) _ _ _ hP hD hS (lv_sub hl [1, 2, 3, 0] rfl)
  · skip
    have n_12_1 : ¬ rwL (D y1) = rwL (D y2) := fun q9 => c_12_1 ((nI_eq (a := rwL (D y1)) (b := rwL (D y2)) (by omega) (by omega)).mpr q9)
    refine lv_aload_n hx hb dX5_isBefore_15 rfl (lv_at hl 0 rfl) ?_
    refine va_get (D := g.1) (ci := 3) (v := .ref (a 3)) (C := RX5) (T := TX5) (N := 19) hx hb hts hi_3 hown hK hP 0 rfl rfl 3 (by decide) f_16 (fun _ h9 => h9) rfl dX5_isBefore_16 ?_
    refine lv_iload_n hx hb dX5_isBefore_19 rfl (lv_at hl 1 rfl) ?_
    refine va_iald (n := 50) (f := fN) hx hb hK hP 3 0 rfl rfl (vp_in_nI (n := y1) (by omega) (by decide)) dX5_isBefore_20 ?_
    refine tp_i (congrArg fN (nI_clamp (n := y1) (by omega))) ?_
    refine tp_i (b := (nI (rwL (D y1)))) ((hDm y1 (by omega)).2.1) ?_
    refine lv_aload_n hx hb dX5_isBefore_21 rfl (lv_at hl 0 rfl) ?_
    refine va_get (D := g.1) (ci := 3) (v := .ref (a 3)) (C := RX5) (T := TX5) (N := 19) hx hb hts hi_3 hown hK hP 0 rfl rfl 3 (by decide) f_16 (fun _ h9 => h9) rfl dX5_isBefore_22 ?_
    refine lv_iload_n hx hb dX5_isBefore_25 rfl (lv_at hl 2 rfl) ?_
    refine va_iald (n := 50) (f := fN) hx hb hK hP 3 0 rfl rfl (vp_in_nI (n := y2) (by omega) (by decide)) dX5_isBefore_26 ?_
    refine tp_i (congrArg fN (nI_clamp (n := y2) (by omega))) ?_
    refine tp_i (b := (nI (rwL (D y2)))) ((hDm y2 (by omega)).2.1) ?_
    refine lv_icmp_ge (tgt := 34) hx hb dX5_isBefore_27 (by decide) (fun c_27_5 => ?_) (fun c_27_5 => ?_)
    · skip
      have n_27_5 : rwL (D y2) ≤ rwL (D y1) := (nI_leI (a := rwL (D y2)) (b := rwL (D y1)) (by omega) (by omega)).mp c_27_5
      refine lv_iconst (v := nI 0) hx hb dX5_isBefore_34 (by decide) ?_
      exact hret (nI (0)) (MW g h a (nI (rwL SL)) (nI n) (nI ll) (nI np) tu la wi (nI (rwL F)) th fS fL fN fK fF fW fE fC fG fO) _ _ _ _ dX5_isBefore_35 (Or.inl rfl) (⟨rfl, Bv.no (fun q9 => by have := rl_mono (Nat.le_of_lt q9); omega)⟩) hP hD hS
    · skip
      have n_27_5 : ¬ rwL (D y2) ≤ rwL (D y1) := fun q9 => c_27_5 ((nI_leI (a := rwL (D y2)) (b := rwL (D y1)) (by omega) (by omega)).mpr q9)
      refine lv_iconst (v := nI 1) hx hb dX5_isBefore_30 (by decide) ?_
      refine lv_goto (tgt := 35) hx hb dX5_isBefore_31 (by decide) ?_
      exact hret (nI (1)) (MW g h a (nI (rwL SL)) (nI n) (nI ll) (nI np) tu la wi (nI (rwL F)) th fS fL fN fK fF fW fE fC fG fO) _ _ _ _ dX5_isBefore_35 (Or.inr rfl) (⟨rfl, Bv.yes (rw_lt_len (by omega))⟩) hP hD hS
