/-! whole numbers as ints -/
def zI (z : Int) : Int32 := Int32.ofInt z
theorem zI_toInt {z : Int} (h1 : -1000 ≤ z) (h2 : z ≤ 1000) : (zI z).toInt = z := fb_ofI (by omega) (by omega)
theorem zI_nat (n : Nat) : nI n = zI (n : Int) := by
  unfold nI zI
  exact (Int32.ofInt_eq_ofNat).symm
theorem zI_sub (a b : Int) : zI a - zI b = zI (a - b) := by
  unfold zI
  exact (Int32.ofInt_sub _ _).symm
theorem zI_eq {a b : Int} (h1 : -1000 ≤ a) (h2 : a ≤ 1000) (h3 : -1000 ≤ b) (h4 : b ≤ 1000) : zI a = zI b ↔ a = b := by
  rw [fa_eq, zI_toInt h1 h2, zI_toInt h3 h4]
theorem zI_le0 {a : Int} (h1 : -1000 ≤ a) (h2 : a ≤ 1000) : zI a ≤ 0 ↔ a ≤ 0 := by
  rw [fa_le, zI_toInt h1 h2]; rfl
theorem zI_ge0 {a : Int} (h1 : -1000 ≤ a) (h2 : a ≤ 1000) : 0 ≤ zI a ↔ 0 ≤ a := by
  rw [fa_le, zI_toInt h1 h2]; rfl
theorem zI_lt {a b : Int} (h1 : -1000 ≤ a) (h2 : a ≤ 1000) (h3 : -1000 ≤ b) (h4 : b ≤ 1000) : zI a < zI b ↔ a < b := by
  rw [fa_lt, zI_toInt h1 h2, zI_toInt h3 h4]
theorem zI_max {a b : Int} (h1 : -1000 ≤ a) (h2 : a ≤ 1000) (h3 : -1000 ≤ b) (h4 : b ≤ 1000) : (if zI a < zI b then zI b else zI a) = zI (max a b) := by
  by_cases h : a < b
  · rw [if_pos ((zI_lt h1 h2 h3 h4).mpr h), show max a b = b by omega]
  · rw [if_neg (fun q => h ((zI_lt h1 h2 h3 h4).mp q)), show max a b = a by omega]
theorem zI_abs {a : Int} (h1 : -1000 ≤ a) (h2 : a ≤ 1000) : (if 0 ≤ zI a then zI a else 0 - zI a) = nI a.natAbs := by
  rw [zI_nat]
  by_cases h : 0 ≤ a
  · rw [if_pos ((zI_ge0 h1 h2).mpr h)]; congr 1; omega
  · rw [if_neg (fun q => h ((zI_ge0 h1 h2).mp q)), show (0 : Int32) = zI 0 by rfl, zI_sub]; congr 1; omega
noncomputable def bB (P : Prop) : Bool := @decide P (Classical.propDecidable P)
theorem bB_t {P : Prop} (h : P) : bB P = true := @decide_eq_true P (Classical.propDecidable P) h
theorem bB_f {P : Prop} (h : ¬ P) : bB P = false := @decide_eq_false P (Classical.propDecidable P) h
theorem bB_p {P : Prop} (h : bB P = true) : P := @of_decide_eq_true P (Classical.propDecidable P) h
theorem bB_n {P : Prop} (h : bB P = false) : ¬ P := @of_decide_eq_false P (Classical.propDecidable P) h
theorem bB_iff {P : Prop} : bB P = true ↔ P := ⟨bB_p, bB_t⟩
theorem bB_cong {P Q : Prop} (h : P ↔ Q) : bB P = bB Q := by
  by_cases q : P
  · rw [bB_t q, bB_t (h.mp q)]
  · rw [bB_f q, bB_f (fun z => q (h.mpr z))]
/-! masks of letters -/
theorem sh_a : ∀ a, a < 32 → ((nI a &&& 31).toBitVec.smod 32).toNat = a := by decide +kernel
theorem mk_shr {n a : Nat} (h : n < 2147483648) (ha : a < 32) : nI n >>> (nI a &&& 31) = nI (n / 2 ^ a) := pk_shrN (by omega) _ a (sh_a a ha)
theorem mk_shl {a : Nat} (ha : a < 26) : nI 1 <<< (nI a &&& 31) = nI (2 ^ a) := by
  have h := pk_shlN (n := 1) (nI a &&& 31) a (sh_a a (by omega)) (by rw [Nat.one_mul]; exact Nat.pow_lt_pow_right (by decide) (by omega))
  rw [Nat.one_mul] at h
  exact h
theorem mk_tb {n a : Nat} : n / 2 ^ a % 2 = 0 ↔ n.testBit a = false := by
  rw [Nat.testBit_eq_decide_div_mod_eq]
  simp
theorem mk_or {n a : Nat} (h : n < 67108864) (ha : a < 26) : n ||| 2 ^ a < 67108864 :=
  Nat.or_lt_two_pow (n := 26) h (Nat.pow_lt_pow_right (by decide) ha)
theorem mk_tb2 (n a b : Nat) : (n ||| 2 ^ a).testBit b = (n.testBit b || decide (b = a)) := fb_bit_set n a b
/-! what leads on from F -/
def ldP (ll F W : Nat) : Prop := ll ≤ rwL W ∧ W ≠ F ∧ bgP W F
theorem ldP.lt {ll F W : Nat} (h : ldP ll F W) : rwL F < rwL W := by
  have h1 := h.2.2.1
  rcases Nat.lt_or_ge (rwL F) (rwL W) with q | q
  · exact q
  · have e : rwL F = rwL W := by omega
    have h2 := h.2.2.2
    rw [e, rb_all] at h2
    exact absurd h2 h.2.1
noncomputable def opM (S : Nat → Nat) (ll F : Nat) : Nat → Nat
  | 0 => 0
  | i + 1 => if bB (ldP ll F (S i)) = true then opM S ll F i ||| 2 ^ rwA (S i) (rwL F) else opM S ll F i
theorem opM_t {S : Nat → Nat} {ll F i o : Nat} (ho : o = opM S ll F i) (h : ldP ll F (S i)) : o ||| 2 ^ rwA (S i) (rwL F) = opM S ll F (i + 1) := by
  unfold opM; rw [if_pos (bB_t h), ho]
theorem opM_f {S : Nat → Nat} {ll F i o : Nat} (ho : o = opM S ll F i) (h : ¬ ldP ll F (S i)) : o = opM S ll F (i + 1) := by
  unfold opM; rw [if_neg (by rw [bB_f h]; exact Bool.false_ne_true), ho]
theorem opM_lt {S : Nat → Nat} {ll F : Nat} : ∀ {i : Nat}, (∀ j, j < i → RV (S j)) → opM S ll F i < 67108864
  | 0, _ => by show 0 < _; decide
  | i + 1, h => by
    have ih := opM_lt (S := S) (ll := ll) (F := F) (i := i) (fun j hj => h j (by omega))
    by_cases q : ldP ll F (S i)
    · rw [← opM_t rfl q]
      exact mk_or ih ((h i (by omega)).2.2 _ q.lt)
    · rw [← opM_f rfl q]; exact ih
theorem opM_bit {S : Nat → Nat} {ll F a : Nat} : ∀ {i : Nat}, (opM S ll F i).testBit a = true ↔ ∃ j, j < i ∧ ldP ll F (S j) ∧ rwA (S j) (rwL F) = a
  | 0 => ⟨fun h => absurd h (by rw [show opM S ll F 0 = 0 from rfl, Nat.zero_testBit]; exact Bool.false_ne_true), fun ⟨j, h, _⟩ => absurd h (Nat.not_lt_zero _)⟩
  | i + 1 => by
    have ih := opM_bit (S := S) (ll := ll) (F := F) (a := a) (i := i)
    by_cases q : ldP ll F (S i)
    · rw [← opM_t rfl q, mk_tb2, Bool.or_eq_true, ih, decide_eq_true_iff]
      constructor
      · rintro (⟨j, h1, h2⟩ | h)
        · exact ⟨j, by omega, h2⟩
        · exact ⟨i, by omega, q, h.symm⟩
      · rintro ⟨j, h1, h2, h3⟩
        by_cases e : j = i
        · subst e; exact Or.inr h3.symm
        · exact Or.inl ⟨j, by omega, h2, h3⟩
    · rw [← opM_f rfl q, ih]
      constructor
      · rintro ⟨j, h1, h2⟩; exact ⟨j, by omega, h2⟩
      · rintro ⟨j, h1, h2, h3⟩
        by_cases e : j = i
        · subst e; exact absurd h2 q
        · exact ⟨j, by omega, h2, h3⟩
theorem tb_ne0 {n a : Nat} (h : n.testBit a = true) : n ≠ 0 := fun e => by rw [e, Nat.zero_testBit] at h; cases h
/-- a word that counts -/
noncomputable def hwB (S : Nat → Nat) (cnt ll Q : Nat) : Bool := bB (ll ≤ rwL Q ∧ inS S cnt Q)
/-! scores: the class's solver, over any masks of open letters and any words -/
def scA (o : Int) : Int := if 0 < o then 1 - o else -1 - o
def scM (mk : Nat) (fn : Nat → Int) : Nat → Int
  | 0 => -100
  | a + 1 => if mk.testBit a = true then max (scM mk fn a) (fn a) else scM mk fn a
def sc (om : Nat → Nat) (hw : Nat → Bool) : Nat → Nat → Int
  | 0, _ => 100
  | k + 1, F => if om F = 0 then 100 else scM (om F) (fun a => scA (if hw (rwX F a) = true then 100 else sc om hw k (rwX F a))) 26
def scL (om : Nat → Nat) (hw : Nat → Bool) (k F a : Nat) : Int := scA (if hw (rwX F a) = true then 100 else sc om hw k (rwX F a))
theorem scA_b {o : Int} (h1 : -100 ≤ o) (h2 : o ≤ 100) : -100 ≤ scA o ∧ scA o ≤ 100 := by
  unfold scA
  by_cases h : 0 < o
  · rw [if_pos h]; omega
  · rw [if_neg h]; omega
theorem scM_b {mk : Nat} {fn : Nat → Int} (h : ∀ a, -100 ≤ fn a ∧ fn a ≤ 100) : ∀ a, -100 ≤ scM mk fn a ∧ scM mk fn a ≤ 100
  | 0 => by show (-100 : Int) ≤ -100 ∧ (-100 : Int) ≤ 100; omega
  | a + 1 => by
    have ih := scM_b (mk := mk) h a
    have ha := h a
    unfold scM
    by_cases q : mk.testBit a = true
    · rw [if_pos q]; omega
    · rw [if_neg q]; exact ih
theorem sc_b (om : Nat → Nat) (hw : Nat → Bool) : ∀ (k F : Nat), -100 ≤ sc om hw k F ∧ sc om hw k F ≤ 100
  | 0, _ => by show (-100 : Int) ≤ 100 ∧ (100 : Int) ≤ 100; omega
  | k + 1, F => by
    have ih := sc_b om hw k
    unfold sc
    by_cases q : om F = 0
    · rw [if_pos q]; omega
    · rw [if_neg q]
      refine scM_b (fun a => ?_) 26
      by_cases z : hw (rwX F a) = true
      · rw [if_pos z]; exact scA_b (by omega) (by omega)
      · rw [if_neg z]; exact scA_b (ih _).1 (ih _).2
theorem scL_b (om : Nat → Nat) (hw : Nat → Bool) (k F a : Nat) : -100 ≤ scL om hw k F a ∧ scL om hw k F a ≤ 100 := by
  unfold scL
  by_cases z : hw (rwX F a) = true
  · rw [if_pos z]; exact scA_b (by omega) (by omega)
  · rw [if_neg z]; exact scA_b (sc_b _ _ _ _).1 (sc_b _ _ _ _).2
theorem sc_s {om : Nat → Nat} {hw : Nat → Bool} {k F : Nat} (h : ¬ om F = 0) : sc om hw (k + 1) F = scM (om F) (scL om hw k F) 26 := if_neg h
theorem sc_z {om : Nat → Nat} {hw : Nat → Bool} {k F : Nat} (h : om F = 0) : sc om hw k F = 100 := by
  cases k with
  | zero => rfl
  | succ k => exact if_pos h
theorem scM_t {mk : Nat} {fn : Nat → Int} {a : Nat} {b : Int} (hb : b = scM mk fn a) (h : mk.testBit a = true) : max b (fn a) = scM mk fn (a + 1) := by
  unfold scM; rw [if_pos h, hb]
theorem scM_f {mk : Nat} {fn : Nat → Int} {a : Nat} {b : Int} (hb : b = scM mk fn a) (h : ¬ mk.testBit a = true) : b = scM mk fn (a + 1) := by
  unfold scM; rw [if_neg h, hb]
/-- the letters that win -/
noncomputable def scW (om : Nat → Nat) (hw : Nat → Bool) (k F : Nat) : Nat → Nat
  | 0 => 0
  | a + 1 => if bB ((om F).testBit a = true ∧ 0 < scL om hw k F a) = true then scW om hw k F a ||| 2 ^ a else scW om hw k F a
theorem scW_t {om : Nat → Nat} {hw : Nat → Bool} {k F a o : Nat} (ho : o = scW om hw k F a) (h : (om F).testBit a = true ∧ 0 < scL om hw k F a) : o ||| 2 ^ a = scW om hw k F (a + 1) := by
  unfold scW; rw [if_pos (bB_t h), ho]
theorem scW_f {om : Nat → Nat} {hw : Nat → Bool} {k F a o : Nat} (ho : o = scW om hw k F a) (h : ¬ ((om F).testBit a = true ∧ 0 < scL om hw k F a)) : o = scW om hw k F (a + 1) := by
  unfold scW; rw [if_neg (by rw [bB_f h]; exact Bool.false_ne_true), ho]
theorem scW_lt {om : Nat → Nat} {hw : Nat → Bool} {k F : Nat} : ∀ {a : Nat}, a ≤ 26 → scW om hw k F a < 67108864
  | 0, _ => by show 0 < _; decide
  | a + 1, h => by
    have ih := scW_lt (om := om) (hw := hw) (k := k) (F := F) (a := a) (by omega)
    by_cases q : (om F).testBit a = true ∧ 0 < scL om hw k F a
    · rw [← scW_t rfl q]; exact mk_or ih (by omega)
    · rw [← scW_f rfl q]; exact ih
/-- a way to play on -/
def wyP (S : Nat → Nat) (cnt ll F W : Nat) : Prop := ldP ll F W ∧ ∀ k, rwL F < k → k < rwL W → ¬ (ll ≤ k ∧ inS S cnt (rwB W k))
theorem wa_at {S : Nat → Nat} {cnt i : Nat} {r : Int64} (hi : i < cnt) (hc : cnt ≤ 50) (h : (∃ j : Nat, j < cnt ∧ nI j = nI i ∧ r = lN (S j)) ∨ ((¬ ∃ j : Nat, j < cnt ∧ nI j = nI i) ∧ r = lN 0)) : r = lN (S i) := by
  rcases h with ⟨j, hj, e, h⟩ | ⟨h, -⟩
  · rw [h, (nI_eq (by omega) (by omega)).mp e]
  · exact absurd ⟨i, hi, rfl⟩ h
theorem la_at {P i : Nat} {r : Int32} (hi : i < rwL P) (hV : RV P) (h : (∃ j : Nat, j < rwL P ∧ nI j = nI i ∧ r = nI (rwA P j)) ∨ ((¬ ∃ j : Nat, j < rwL P ∧ nI j = nI i) ∧ r = -1)) : r = nI (rwA P i) := by
  have := hV.1
  rcases h with ⟨j, hj, e, h⟩ | ⟨h, -⟩
  · rw [h, (nI_eq (by omega) (by omega)).mp e]
  · exact absurd ⟨i, hi, rfl⟩ h
abbrev rmS (d : Nat) : Room := { frames := 10 + 2 * d, cells := 0, slots := 0, locals := 400 + 80 * d }
abbrev rmL (d : Nat) : Room := { frames := 11 + 2 * d, cells := 0, slots := 0, locals := 440 + 80 * d }
abbrev rm_X3_leadsOn : Room := { frames := 2, cells := 0, slots := 0, locals := 45 }
set_option maxHeartbeats 4000000 in
set_option maxRecDepth 100000 in
theorem c_X3_leadsOn (l : Launch) (g : GG) (d v : Nat) (f : Nat → Int64) (S : Nat → Nat) (cnt ll : Nat) (hf : DR f S cnt) (hc : cnt ≤ 50) (hll : ll ≤ 10) (Y F : Nat) (hW : RV Y) (hF : RV F) : Ci l yX3_leadsOn wsX3_leadsOn rm_X3_leadsOn g [.ref (d), .long (lN (Y)), .long (lN (F))] (DW g d v f (nI cnt) (nI ll)) (fun r w => w = (DW g d v f (nI cnt) (nI ll)) ∧ Bv r (ldP ll F Y)) := by
  refine Ci.ofZ (cc := cX3_leadsOn) (maxL := 5) (by decide) rfl (Nat.le_of_ble_eq_true rfl) ?_
  intro p e s m args below meth c A Z hx hb hml hts hown hK hA hret H locs ls hP hD hS hl
  have hl : lv_has ls 5 [(0, .ref (d)), (1, .long (lN (Y))), (3, .long (lN (F)))] := hl
  have hW0 := hW.lt
  have hF0 := hF.lt
  refine lv_aload_n hx hb dX3_leadsOn_0 rfl (lv_at hl 0 rfl) ?_
  refine lv_lload_n hx hb dX3_leadsOn_1 rfl (lv_at hl 1 rfl) ?_
  refine call_iVW (As := [.long (lN (Y))]) (rest := []) ⟨hx, hb, hml, hown, hts⟩ (c_X0_isLongEnough l g d v f S cnt ll hf hc hll Y hW) (cwV 1 hts gX3_leadsOn_X0_isLongEnough rfl rfl rfl (by decide +kernel) ⟨Nat.le_of_ble_eq_true rfl, Nat.le_of_ble_eq_true rfl⟩) hP hK hD hS hA 0 rfl rfl rfl rfl hl.1 rfl (Nat.le_of_ble_eq_true rfl) dX3_leadsOn_2 ⟨Nat.le_refl _, Nat.le_refl _⟩ (fun r_2 w H locs h_2 hP hD hS => ?_)
  obtain ⟨rfl, h_2⟩ := h_2
  have hP : va_P g.1 vwCl (DW g d v f (nI cnt) (nI ll)) H := hP
  have hD : va_D A (DW g d v f (nI cnt) (nI ll)) := hD
  refine lv_if_eq (tgt := 26) hx hb dX3_leadsOn_5 (by decide) (fun c_5_1 => ?_) (fun c_5_1 => ?_)
  · skip
    have n_5_1 := Bv.f h_2 c_5_1
    refine lv_iconst (v := nI 0) hx hb dX3_leadsOn_26 (by decide) ?_
    exact hret (nI (0)) (DW g d v f (nI cnt) (nI ll)) _ _ _ _ dX3_leadsOn_27 (Or.inl rfl) (⟨rfl, Bv.no (fun q9 => n_5_1 q9.1)⟩) hP hD hS
  · skip
    have n_5_1 := Bv.t h_2 c_5_1
    refine lv_lload_n hx hb dX3_leadsOn_8 rfl (lv_at hl 1 rfl) ?_
    refine lv_lload_n hx hb dX3_leadsOn_9 rfl (lv_at hl 2 rfl) ?_
    refine W.lcmp hx hb dX3_leadsOn_10 ?_
    refine lv_if_eq (tgt := 26) hx hb dX3_leadsOn_11 (by decide) (fun c_11_2 => ?_) (fun c_11_2 => ?_)
    · skip
      have n_11_2 : Y = F := (lc_eq (a := Y) (b := F) (by omega) (by omega)).mp c_11_2
      refine lv_iconst (v := nI 0) hx hb dX3_leadsOn_26 (by decide) ?_
      exact hret (nI (0)) (DW g d v f (nI cnt) (nI ll)) _ _ _ _ dX3_leadsOn_27 (Or.inl rfl) (⟨rfl, Bv.no (fun q9 => q9.2.1 n_11_2)⟩) hP hD hS
    · skip
      have n_11_2 : ¬ Y = F := fun q9 => c_11_2 ((lc_eq (a := Y) (b := F) (by omega) (by omega)).mpr q9)
      refine lv_lload_n hx hb dX3_leadsOn_14 rfl (lv_at hl 1 rfl) ?_
      refine lv_lload_n hx hb dX3_leadsOn_15 rfl (lv_at hl 2 rfl) ?_
      refine call_iP (As := [.long (lN (Y)), .long (lN (F))]) (rest := []) ⟨hx, hb, hml, hown, hts⟩ (c_X2_beginsWith l Y F hW hF) (va_cwS 2 hts gX3_leadsOn_X2_beginsWith rfl rfl rfl (by decide +kernel) ⟨Nat.le_of_ble_eq_true rfl, Nat.le_of_ble_eq_true rfl⟩) hP hK hD hS hA rfl hl.1 rfl (Nat.le_of_ble_eq_true rfl) dX3_leadsOn_16 ⟨Nat.le_refl _, Nat.le_refl _⟩ (fun r_16 H locs h_16 hP hD hS => ?_)
      refine lv_if_eq (tgt := 26) hx hb dX3_leadsOn_19 (by decide) (fun c_19_3 => ?_) (fun c_19_3 => ?_)
      · skip
        have n_19_3 := Bv.f h_16 c_19_3
        refine lv_iconst (v := nI 0) hx hb dX3_leadsOn_26 (by decide) ?_
        exact hret (nI (0)) (DW g d v f (nI cnt) (nI ll)) _ _ _ _ dX3_leadsOn_27 (Or.inl rfl) (⟨rfl, Bv.no (fun q9 => n_19_3 q9.2.2)⟩) hP hD hS
      · skip
        have n_19_3 := Bv.t h_16 c_19_3
        refine lv_iconst (v := nI 1) hx hb dX3_leadsOn_22 (by decide) ?_
        refine lv_goto (tgt := 27) hx hb dX3_leadsOn_23 (by decide) ?_
        exact hret (nI (1)) (DW g d v f (nI cnt) (nI ll)) _ _ _ _ dX3_leadsOn_27 (Or.inr rfl) (⟨rfl, Bv.yes ⟨n_5_1, n_11_2, n_19_3⟩⟩) hP hD hS

abbrev rm_X3_isIn : Room := { frames := 0, cells := 0, slots := 0, locals := 0 }
set_option maxHeartbeats 4000000 in
set_option maxRecDepth 100000 in
theorem c_X3_isIn (l : Launch) (mk a : Nat) (hm0 : mk < 67108864) (ha : a < 26) : Pi l yX3_isIn wsX3_isIn rm_X3_isIn [.int (nI (mk)), .int (nI (a))] (fun r => Bv r (mk.testBit a = true)) := by
  intro g
  refine Ci.ofZ (cc := cX3_isIn) (maxL := 2) (by decide) rfl (Nat.le_of_ble_eq_true rfl) ?_
  intro p e s m args below meth c A Z hx hb hml hts hown hK hA hret H locs ls hP hD hS hl
  have hl : lv_has ls 2 [(0, .int (nI (mk))), (1, .int (nI (a)))] := hl
  refine lv_iload_n hx hb dX3_isIn_0 rfl (lv_at hl 0 rfl) ?_
  refine lv_iload_n hx hb dX3_isIn_1 rfl (lv_at hl 1 rfl) ?_
  refine lv_ishr hx hb dX3_isIn_2 ?_
  refine tp_i (b := (nI (mk / 2 ^ a))) (mk_shr (by omega) (by omega)) ?_
  refine lv_iconst (v := nI 1) hx hb dX3_isIn_3 (by decide) ?_
  refine lv_iand hx hb dX3_isIn_4 ?_
  refine tp_i (b := (nI (mk / 2 ^ a % 2))) (fa_mask _ 1) ?_
  refine lv_if_eq (tgt := 12) hx hb dX3_isIn_5 (by decide) (fun c_5_1 => ?_) (fun c_5_1 => ?_)
  · skip
    have n_5_1 : mk / 2 ^ a % 2 = 0 := (nI_eq (a := mk / 2 ^ a % 2) (b := 0) (by omega) (by omega)).mp c_5_1
    refine lv_iconst (v := nI 0) hx hb dX3_isIn_12 (by decide) ?_
    exact hret (nI (0)) [] _ _ _ _ dX3_isIn_13 (Or.inl rfl) (⟨rfl, Bv.no (by rw [mk_tb.mp n_5_1]; exact Bool.false_ne_true)⟩) hP hD hS
  · skip
    have n_5_1 : ¬ mk / 2 ^ a % 2 = 0 := fun q9 => c_5_1 ((nI_eq (a := mk / 2 ^ a % 2) (b := 0) (by omega) (by omega)).mpr q9)
    refine lv_iconst (v := nI 1) hx hb dX3_isIn_8 (by decide) ?_
    refine lv_goto (tgt := 13) hx hb dX3_isIn_9 (by decide) ?_
    exact hret (nI (1)) [] _ _ _ _ dX3_isIn_13 (Or.inr rfl) (⟨rfl, Bv.yes (by rcases q8 : mk.testBit a with _ | _; exact absurd (mk_tb.mpr q8) n_5_1; rfl)⟩) hP hD hS

abbrev rm_X3_lettersOpenBehind : Room := { frames := 3, cells := 0, slots := 0, locals := 69 }
set_option maxHeartbeats 4000000 in
set_option maxRecDepth 100000 in
theorem c_X3_lettersOpenBehind (l : Launch) (g : GG) (d v : Nat) (f : Nat → Int64) (S : Nat → Nat) (cnt ll : Nat) (hf : DR f S cnt) (hc : cnt ≤ 50) (hll : ll ≤ 10) (F : Nat) (hF : RV F) : Ci l yX3_lettersOpenBehind wsX3_lettersOpenBehind rm_X3_lettersOpenBehind g [.ref (d), .long (lN (F))] (DW g d v f (nI cnt) (nI ll)) (fun r w => w = (DW g d v f (nI cnt) (nI ll)) ∧ r = nI (opM S ll F cnt)) := by
  refine Ci.ofI (cc := cX3_lettersOpenBehind) (maxL := 7) (by decide) rfl (Nat.le_of_ble_eq_true rfl) ?_
  intro p e s m args below meth c A Z hx hb hml hts hown hK hA hret H locs ls hP hD hS hl
  have hl : lv_has ls 7 [(0, .ref (d)), (1, .long (lN (F)))] := hl
  refine lv_iconst (v := nI 0) hx hb dX3_lettersOpenBehind_0 (by decide) ?_
  refine lv_istore_n (lv' := [(3, .int (nI (0))), (0, .ref (d)), (1, .long (lN (F)))]) hx hb dX3_lettersOpenBehind_1 rfl hl (by decide) rfl (fun ls hl => ?_)
  refine lv_iconst (v := nI 0) hx hb dX3_lettersOpenBehind_2 (by decide) ?_
  refine lv_istore (lv' := [(4, .int (nI (0))), (3, .int (nI (0))), (0, .ref (d)), (1, .long (lN (F)))]) hx hb dX3_lettersOpenBehind_3 hl (by decide) rfl (fun ls hl => ?_)
  have L_5 : ∀ (fu : Nat) (i o : Nat), cnt - i < fu → (i ≤ cnt) → (o = opM S ll F i) → ∀ (H : Heap) (locs : List Loc) (ls : Array Slot), va_P g.1 vwCl (DW g d v f (nI cnt) (nI ll)) H → va_D A (DW g d v f (nI cnt) (nI ll)) → va_S A s.heap H locs → lv_has ls 7 [(0, .ref (d)), (1, .long (lN (F))), (3, .int (nI (o))), (4, .int (nI (i)))] → W p l e rm_X3_lettersOpenBehind s m args below meth c H locs 0 0 Z (F0 m 5 ls []) := by
    intro fu
    induction fu with
    | zero => intro _ _ h0; exact absurd h0 (Nat.not_lt_zero _)
    | succ fu ih_5 =>
      intro i o hfu hi1 ho H locs ls hP hD hS hl
      refine lv_iload hx hb dX3_lettersOpenBehind_5 (lv_at hl 3 rfl) ?_
      refine lv_aload_n hx hb dX3_lettersOpenBehind_7 rfl (lv_at hl 0 rfl) ?_
      refine call_iVW (As := []) (rest := [.int (nI (i))]) ⟨hx, hb, hml, hown, hts⟩ (c_X0_size l g d v f S cnt ll hf hc) (cwV 0 hts gX3_lettersOpenBehind_X0_size rfl rfl rfl (by decide +kernel) ⟨Nat.le_of_ble_eq_true rfl, Nat.le_of_ble_eq_true rfl⟩) hP hK hD hS hA 0 rfl rfl rfl rfl hl.1 rfl (Nat.le_of_ble_eq_true rfl) dX3_lettersOpenBehind_8 ⟨Nat.le_refl _, Nat.le_refl _⟩ (fun r_8 w H locs h_8 hP hD hS => ?_)
      obtain ⟨rfl, h_8⟩ := h_8
      subst h_8
      have hP : va_P g.1 vwCl (DW g d v f (nI cnt) (nI ll)) H := hP
      have hD : va_D A (DW g d v f (nI cnt) (nI ll)) := hD
      refine lv_icmp_ge (tgt := 52) hx hb dX3_lettersOpenBehind_11 (by decide) (fun c_11_1 => ?_) (fun c_11_1 => ?_)
      · skip
        have n_11_1 : cnt ≤ i := (nI_leI (a := cnt) (b := i) (by omega) (by omega)).mp c_11_1
        refine lv_iload_n hx hb dX3_lettersOpenBehind_52 rfl (lv_at hl 2 rfl) ?_
        exact hret (nI (o)) (DW g d v f (nI cnt) (nI ll)) _ _ _ _ dX3_lettersOpenBehind_53 (⟨rfl, by rw [ho, show i = cnt by omega]⟩) hP hD hS
      · skip
        have n_11_1 : ¬ cnt ≤ i := fun q9 => c_11_1 ((nI_leI (a := cnt) (b := i) (by omega) (by omega)).mpr q9)
        refine lv_aload_n hx hb dX3_lettersOpenBehind_14 rfl (lv_at hl 0 rfl) ?_
        refine lv_iload hx hb dX3_lettersOpenBehind_15 (lv_at hl 3 rfl) ?_
        refine call_lVW (As := [.int (nI (i))]) (rest := []) ⟨hx, hb, hml, hown, hts⟩ (c_X0_wordAt l g d v f S cnt ll hf hc (nI (i))) (cwV 1 hts gX3_lettersOpenBehind_X0_wordAt rfl rfl rfl (by decide +kernel) ⟨Nat.le_of_ble_eq_true rfl, Nat.le_of_ble_eq_true rfl⟩) hP hK hD hS hA 0 rfl rfl rfl rfl hl.1 rfl (Nat.le_of_ble_eq_true rfl) dX3_lettersOpenBehind_17 ⟨Nat.le_refl _, Nat.le_refl _⟩ (fun r_17 w H locs h_17 hP hD hS => ?_)
        obtain ⟨rfl, h_17⟩ := h_17
        replace h_17 := wa_at (i := i) (by omega) hc h_17
        subst h_17
        have hP : va_P g.1 vwCl (DW g d v f (nI cnt) (nI ll)) H := hP
        have hD : va_D A (DW g d v f (nI cnt) (nI ll)) := hD
        refine lv_lstore (lv' := [(5, .long (lN (S i))), (0, .ref (d)), (1, .long (lN (F))), (3, .int (nI (o))), (4, .int (nI (i)))]) hx hb dX3_lettersOpenBehind_20 hl (by decide) rfl (fun ls hl => ?_)
        refine lv_aload_n hx hb dX3_lettersOpenBehind_22 rfl (lv_at hl 1 rfl) ?_
        refine lv_lload hx hb dX3_lettersOpenBehind_23 (lv_at hl 0 rfl) ?_
        refine lv_lload_n hx hb dX3_lettersOpenBehind_25 rfl (lv_at hl 2 rfl) ?_
        refine call_iSW (As := [.ref (d), .long (lN (S i)), .long (lN (F))]) (rest := []) ⟨hx, hb, hml, hown, hts⟩ (c_X3_leadsOn l g d v f S cnt ll hf hc hll (S i) F (hf i (by omega)).2 hF) (va_cwS 3 hts gX3_lettersOpenBehind_X3_leadsOn rfl rfl rfl (by decide +kernel) ⟨Nat.le_of_ble_eq_true rfl, Nat.le_of_ble_eq_true rfl⟩) hP hK hD hS hA rfl hl.1 rfl (Nat.le_of_ble_eq_true rfl) dX3_lettersOpenBehind_26 ⟨Nat.le_refl _, Nat.le_refl _⟩ (fun r_26 w H locs h_26 hP hD hS => ?_)
        obtain ⟨rfl, h_26⟩ := h_26
        have hP : va_P g.1 vwCl (DW g d v f (nI cnt) (nI ll)) H := hP
        have hD : va_D A (DW g d v f (nI cnt) (nI ll)) := hD
        refine lv_if_eq (tgt := 46) hx hb dX3_lettersOpenBehind_29 (by decide) (fun c_29_2 => ?_) (fun c_29_2 => ?_)
        · skip
          have n_29_2 := Bv.f h_26 c_29_2
          refine lv_iinc (v := (nI (i + 1))) (lv' := [(4, .int (nI (i + 1))), (5, .long (lN (S i))), (0, .ref (d)), (1, .long (lN (F))), (3, .int (nI (o)))]) hx hb dX3_lettersOpenBehind_46 hl (k := 4) rfl (nI_add (i) 1) (by decide) rfl (fun ls hl => ?_)
          refine lv_goto (tgt := 5) hx hb dX3_lettersOpenBehind_49 (by decide) ?_
          exact ih_5 (i + 1) o (by omega) (by omega) (opM_f ho n_29_2) _ _ _ hP hD hS (lv_sub hl [2, 3, 4, 0] rfl)
        · skip
          have n_29_2 := Bv.t h_26 c_29_2
          refine lv_iload_n hx hb dX3_lettersOpenBehind_32 rfl (lv_at hl 3 rfl) ?_
          refine lv_iconst (v := nI 1) hx hb dX3_lettersOpenBehind_33 (by decide) ?_
          refine lv_lload hx hb dX3_lettersOpenBehind_34 (lv_at hl 0 rfl) ?_
          refine lv_lload_n hx hb dX3_lettersOpenBehind_36 rfl (lv_at hl 2 rfl) ?_
          refine call_iP (As := [.long (lN (F))]) (rest := [.long (lN (S i)), .int (nI (1)), .int (nI (o))]) ⟨hx, hb, hml, hown, hts⟩ (c_X2_lengthOf l F (hF).lt) (va_cwS 1 hts gX3_lettersOpenBehind_X2_lengthOf rfl rfl rfl (by decide +kernel) ⟨Nat.le_of_ble_eq_true rfl, Nat.le_of_ble_eq_true rfl⟩) hP hK hD hS hA rfl hl.1 rfl (Nat.le_of_ble_eq_true rfl) dX3_lettersOpenBehind_37 ⟨Nat.le_refl _, Nat.le_refl _⟩ (fun r_37 H locs h_37 hP hD hS => ?_)
          subst h_37
          refine call_iP (As := [.long (lN (S i)), .int (nI (rwL F))]) (rest := [.int (nI (1)), .int (nI (o))]) ⟨hx, hb, hml, hown, hts⟩ (c_X2_letterAt l (S i) (nI (rwL F)) (hf i (by omega)).2) (va_cwS 2 hts gX3_lettersOpenBehind_X2_letterAt rfl rfl rfl (by decide +kernel) ⟨Nat.le_of_ble_eq_true rfl, Nat.le_of_ble_eq_true rfl⟩) hP hK hD hS hA rfl hl.1 rfl (Nat.le_of_ble_eq_true rfl) dX3_lettersOpenBehind_40 ⟨Nat.le_refl _, Nat.le_refl _⟩ (fun r_40 H locs h_40 hP hD hS => ?_)
          replace h_40 := la_at n_29_2.lt (hf i (by omega)).2 h_40
          subst h_40
          have hlt := (hf i (by omega)).2.2.2 (rwL F) n_29_2.lt
          refine lv_ishl hx hb dX3_lettersOpenBehind_43 ?_
          refine tp_i (b := (nI (2 ^ rwA (S i) (rwL F)))) (mk_shl hlt) ?_
          refine lv_ior hx hb dX3_lettersOpenBehind_44 ?_
          refine tp_i (b := (nI (o ||| 2 ^ rwA (S i) (rwL F)))) (fa_or _ _) ?_
          refine lv_istore_n (lv' := [(3, .int (nI (o ||| 2 ^ rwA (S i) (rwL F)))), (5, .long (lN (S i))), (0, .ref (d)), (1, .long (lN (F))), (4, .int (nI (i)))]) hx hb dX3_lettersOpenBehind_45 rfl hl (by decide) rfl (fun ls hl => ?_)
          refine lv_iinc (v := (nI (i + 1))) (lv' := [(4, .int (nI (i + 1))), (3, .int (nI (o ||| 2 ^ rwA (S i) (rwL F)))), (5, .long (lN (S i))), (0, .ref (d)), (1, .long (lN (F)))]) hx hb dX3_lettersOpenBehind_46 hl (k := 4) rfl (nI_add (i) 1) (by decide) rfl (fun ls hl => ?_)
          refine lv_goto (tgt := 5) hx hb dX3_lettersOpenBehind_49 (by decide) ?_
          exact ih_5 (i + 1) (o ||| 2 ^ rwA (S i) (rwL F)) (by omega) (by omega) (opM_t ho n_29_2) _ _ _ hP hD hS (lv_sub hl [3, 4, 1, 0] rfl)
  exact L_5 (_ + 1) 0 0 (Nat.lt_succ_self _) (Nat.zero_le _) (rfl) _ _ _ hP hD hS (lv_sub hl [2, 3, 1, 0] rfl)

set_option maxHeartbeats 4000000 in
set_option maxRecDepth 100000 in
theorem c_X3_scoreOfLetter (l : Launch) (g : GG) (d v : Nat) (f : Nat → Int64) (S : Nat → Nat) (cnt ll : Nat) (hf : DR f S cnt) (hc : cnt ≤ 50) (hll : ll ≤ 10) (dd : Nat) (hrec : ∀ (k F : Nat), k ≤ dd → RV F → rwL F + k = 10 → Ci l yX3_score wsX3_score (rmS dd) g [.ref d, .long (lN F)] (DW g d v f (nI cnt) (nI ll)) (fun r w => w = (DW g d v f (nI cnt) (nI ll)) ∧ r = zI (sc (fun F => opM S ll F cnt) (hwB S cnt ll) k F))) (k F a : Nat) (hkd : k ≤ dd) (hF : RV F) (hk : rwL F + (k + 1) = 10) (ha : a < 26) : Ci l yX3_scoreOfLetter wsX3_scoreOfLetter (rmL dd) g [.ref (d), .long (lN (F)), .int (nI (a))] (DW g d v f (nI cnt) (nI ll)) (fun r w => w = (DW g d v f (nI cnt) (nI ll)) ∧ r = zI (scL (fun F => opM S ll F cnt) (hwB S cnt ll) k F a)) := by
  refine Ci.ofI (cc := cX3_scoreOfLetter) (maxL := 7) (by decide) rfl (Nat.le_of_ble_eq_true rfl) ?_
  intro p e s m args below meth c A Z hx hb hml hts hown hK hA hret H locs ls hP hD hS hl
  have hl : lv_has ls 7 [(0, .ref (d)), (1, .long (lN (F))), (3, .int (nI (a)))] := hl
  have hX : RV (rwX F a) := hF.rx (by omega) ha
  have hXl : rwL (rwX F a) = rwL F + 1 := hF.rxl (by omega) (by omega)
  have J_27 : ∀ (o : Int), (-100 ≤ o) → (o ≤ 100) → (scA o = scL (fun F => opM S ll F cnt) (hwB S cnt ll) k F a) → ∀ (H : Heap) (locs : List Loc) (ls : Array Slot), va_P g.1 vwCl (DW g d v f (nI cnt) (nI ll)) H → va_D A (DW g d v f (nI cnt) (nI ll)) → va_S A s.heap H locs → lv_has ls 7 [] → W p l e (rmL dd) s m args below meth c H locs 0 0 Z (F0 m 27 ls [.int (zI (o))]) := by
    intro o ho1 ho2 ho3 H locs ls hP hD hS hl
    refine lv_istore (lv' := [(6, .int (zI (o)))]) hx hb dX3_scoreOfLetter_27 hl (by decide) rfl (fun ls hl => ?_)
    refine lv_iload hx hb dX3_scoreOfLetter_29 (lv_at hl 0 rfl) ?_
    refine lv_if_le (tgt := 41) hx hb dX3_scoreOfLetter_31 (by decide) (fun c_31_1 => ?_) (fun c_31_1 => ?_)
    · skip
      have n_31_1 : o ≤ 0 := (zI_le0 (by omega) (by omega)).mp c_31_1
      refine lv_iconst (v := -1) hx hb dX3_scoreOfLetter_41 (by decide) ?_
      refine tp_i (b := zI (-1)) (by decide) ?_
      refine lv_iload hx hb dX3_scoreOfLetter_42 (lv_at hl 0 rfl) ?_
      refine lv_isub hx hb dX3_scoreOfLetter_44 ?_
      refine tp_i (b := (zI (-1 - o))) (zI_sub _ _) ?_
      exact hret (zI (-1 - o)) (DW g d v f (nI cnt) (nI ll)) _ _ _ _ dX3_scoreOfLetter_45 (⟨rfl, by rw [← ho3]; unfold scA; rw [if_neg (by omega)]⟩) hP hD hS
    · skip
      have n_31_1 : ¬ o ≤ 0 := fun q9 => c_31_1 ((zI_le0 (by omega) (by omega)).mpr q9)
      refine lv_iconst (v := nI 1) hx hb dX3_scoreOfLetter_34 (by decide) ?_
      refine tp_i (b := zI 1) (by decide) ?_
      refine lv_iload hx hb dX3_scoreOfLetter_35 (lv_at hl 0 rfl) ?_
      refine lv_isub hx hb dX3_scoreOfLetter_37 ?_
      refine tp_i (b := (zI (1 - o))) (zI_sub _ _) ?_
      refine lv_goto (tgt := 45) hx hb dX3_scoreOfLetter_38 (by decide) ?_
      exact hret (zI (1 - o)) (DW g d v f (nI cnt) (nI ll)) _ _ _ _ dX3_scoreOfLetter_45 (⟨rfl, by rw [← ho3]; unfold scA; rw [if_pos (by omega)]⟩) hP hD hS
  refine lv_lload_n hx hb dX3_scoreOfLetter_0 rfl (lv_at hl 1 rfl) ?_
  refine lv_iload_n hx hb dX3_scoreOfLetter_1 rfl (lv_at hl 2 rfl) ?_
  refine call_lP (As := [.long (lN (F)), .int (nI (a))]) (rest := []) ⟨hx, hb, hml, hown, hts⟩ (c_X2_with l F a hF (by omega) (by omega)) (va_cwS 2 hts gX3_scoreOfLetter_X2_with rfl rfl rfl (by decide +kernel) ⟨by show _ ≤ _; simp only [rmS, rmL]; omega, by show _ ≤ _; simp only [rmS, rmL]; omega⟩) hP hK hD hS hA rfl hl.1 rfl (Nat.le_of_ble_eq_true rfl) dX3_scoreOfLetter_2 ⟨Nat.le_refl _, Nat.le_refl _⟩ (fun r_2 H locs h_2 hP hD hS => ?_)
  subst h_2
  refine lv_lstore (lv' := [(4, .long (lN (rwX F a))), (0, .ref (d)), (1, .long (lN (F))), (3, .int (nI (a)))]) hx hb dX3_scoreOfLetter_5 hl (by decide) rfl (fun ls hl => ?_)
  refine lv_aload_n hx hb dX3_scoreOfLetter_7 rfl (lv_at hl 1 rfl) ?_
  refine lv_lload hx hb dX3_scoreOfLetter_8 (lv_at hl 0 rfl) ?_
  refine call_iVW (As := [.long (lN (rwX F a))]) (rest := []) ⟨hx, hb, hml, hown, hts⟩ (c_X0_hasCounting l g d v f S cnt ll hf hc hll (rwX F a) hX) (cwV 1 hts gX3_scoreOfLetter_X0_hasCounting rfl rfl rfl (by decide +kernel) ⟨by show _ ≤ _; simp only [rmS, rmL]; omega, by show _ ≤ _; simp only [rmS, rmL]; omega⟩) hP hK hD hS hA 0 rfl rfl rfl rfl hl.1 rfl (Nat.le_of_ble_eq_true rfl) dX3_scoreOfLetter_10 ⟨Nat.le_refl _, Nat.le_refl _⟩ (fun r_10 w H locs h_10 hP hD hS => ?_)
  obtain ⟨rfl, h_10⟩ := h_10
  have hP : va_P g.1 vwCl (DW g d v f (nI cnt) (nI ll)) H := hP
  have hD : va_D A (DW g d v f (nI cnt) (nI ll)) := hD
  refine lv_if_eq (tgt := 21) hx hb dX3_scoreOfLetter_13 (by decide) (fun c_13_2 => ?_) (fun c_13_2 => ?_)
  · skip
    have n_13_2 := Bv.f h_10 c_13_2
    refine lv_aload_n hx hb dX3_scoreOfLetter_21 rfl (lv_at hl 1 rfl) ?_
    refine lv_lload hx hb dX3_scoreOfLetter_22 (lv_at hl 0 rfl) ?_
    refine call_iSW (As := [.ref (d), .long (lN (rwX F a))]) (rest := []) ⟨hx, hb, hml, hown, hts⟩ (hrec k (rwX F a) hkd hX (by omega)) (va_cwS 2 hts gX3_scoreOfLetter_X3_score rfl rfl rfl (by decide +kernel) ⟨by show _ ≤ _; simp only [rmS, rmL]; omega, by show _ ≤ _; simp only [rmS, rmL]; omega⟩) hP hK hD hS hA rfl hl.1 rfl (Nat.le_of_ble_eq_true rfl) dX3_scoreOfLetter_24 ⟨Nat.le_refl _, Nat.le_refl _⟩ (fun r_24 w H locs h_24 hP hD hS => ?_)
    obtain ⟨rfl, h_24⟩ := h_24
    subst h_24
    have hP : va_P g.1 vwCl (DW g d v f (nI cnt) (nI ll)) H := hP
    have hD : va_D A (DW g d v f (nI cnt) (nI ll)) := hD
    exact J_27 (sc (fun F => opM S ll F cnt) (hwB S cnt ll) k (rwX F a)) ((sc_b (fun F => opM S ll F cnt) (hwB S cnt ll) k (rwX F a)).1) ((sc_b (fun F => opM S ll F cnt) (hwB S cnt ll) k (rwX F a)).2) (by unfold scL; rw [if_neg (show ¬ (hwB S cnt ll) (rwX F a) = true by rw [show (hwB S cnt ll) (rwX F a) = false from bB_f n_13_2]; exact Bool.false_ne_true)]) _ _ _ hP hD hS (lv_sub hl [] rfl)
  · skip
    have n_13_2 := Bv.t h_10 c_13_2
    refine lv_bipush (v := nI 100) hx hb dX3_scoreOfLetter_16 (by decide) ?_
    refine tp_i (b := zI 100) (by decide) ?_
    refine lv_goto (tgt := 27) hx hb dX3_scoreOfLetter_18 (by decide) ?_
    exact J_27 100 (by omega) (by omega) (by unfold scL; rw [if_pos (show (hwB S cnt ll) (rwX F a) = true from bB_t n_13_2)]) _ _ _ hP hD hS (lv_sub hl [] rfl)

set_option maxHeartbeats 4000000 in
set_option maxRecDepth 100000 in
theorem c_X3_score_0 (l : Launch) (g : GG) (d v : Nat) (f : Nat → Int64) (S : Nat → Nat) (cnt ll : Nat) (hf : DR f S cnt) (hc : cnt ≤ 50) (hll : ll ≤ 10) (F : Nat) (hF : RV F) (hk : rwL F = 10) : Ci l yX3_score wsX3_score (rmS 0) g [.ref (d), .long (lN (F))] (DW g d v f (nI cnt) (nI ll)) (fun r w => w = (DW g d v f (nI cnt) (nI ll)) ∧ r = zI (sc (fun F => opM S ll F cnt) (hwB S cnt ll) 0 F)) := by
  refine Ci.ofI (cc := cX3_score) (maxL := 6) (by decide) rfl (Nat.le_of_ble_eq_true rfl) ?_
  intro p e s m args below meth c A Z hx hb hml hts hown hK hA hret H locs ls hP hD hS hl
  have hl : lv_has ls 6 [(0, .ref (d)), (1, .long (lN (F)))] := hl
  have h10 := hF.1
  refine lv_lload_n hx hb dX3_score_0 rfl (lv_at hl 1 rfl) ?_
  refine call_iP (As := [.long (lN (F))]) (rest := []) ⟨hx, hb, hml, hown, hts⟩ (c_X2_isFull l F hF) (va_cwS 1 hts gX3_score_X2_isFull rfl rfl rfl (by decide +kernel) ⟨by show _ ≤ _; simp only [rmS, rmL]; omega, by show _ ≤ _; simp only [rmS, rmL]; omega⟩) hP hK hD hS hA rfl hl.1 rfl (Nat.le_of_ble_eq_true rfl) dX3_score_1 ⟨Nat.le_refl _, Nat.le_refl _⟩ (fun r_1 H locs h_1 hP hD hS => ?_)
  refine lv_if_eq (tgt := 11) hx hb dX3_score_4 (by decide) (fun c_4_1 => ?_) (fun c_4_1 => ?_)
  · skip
    have n_4_1 := Bv.f h_1 c_4_1
    exact absurd (show 10 ≤ rwL F by omega) n_4_1
  · skip
    have n_4_1 := Bv.t h_1 c_4_1
    refine lv_iconst (v := nI 0) hx hb dX3_score_7 (by decide) ?_
    refine lv_goto (tgt := 16) hx hb dX3_score_8 (by decide) ?_
    refine lv_istore_n (lv' := [(3, .int (nI (0))), (0, .ref (d)), (1, .long (lN (F)))]) hx hb dX3_score_16 rfl hl (by decide) rfl (fun ls hl => ?_)
    refine lv_iload_n hx hb dX3_score_17 rfl (lv_at hl 0 rfl) ?_
    refine lv_if_ne (tgt := 24) hx hb dX3_score_18 (by decide) (fun c_18_2 => absurd (by decide) c_18_2) (fun c_18_2 => ?_)
    refine lv_bipush (v := nI 100) hx hb dX3_score_21 (by decide) ?_
    exact hret (nI (100)) (DW g d v f (nI cnt) (nI ll)) _ _ _ _ dX3_score_23 (⟨rfl, (by decide : nI 100 = zI 100)⟩) hP hD hS

set_option maxHeartbeats 4000000 in
set_option maxRecDepth 100000 in
theorem c_X3_score_s (l : Launch) (g : GG) (d v : Nat) (f : Nat → Int64) (S : Nat → Nat) (cnt ll : Nat) (hf : DR f S cnt) (hc : cnt ≤ 50) (hll : ll ≤ 10) (dd : Nat) (hlet : ∀ (k F a : Nat), k ≤ dd → RV F → rwL F + (k + 1) = 10 → a < 26 → Ci l yX3_scoreOfLetter wsX3_scoreOfLetter (rmL dd) g [.ref d, .long (lN F), .int (nI a)] (DW g d v f (nI cnt) (nI ll)) (fun r w => w = (DW g d v f (nI cnt) (nI ll)) ∧ r = zI (scL (fun F => opM S ll F cnt) (hwB S cnt ll) k F a))) (k1 F : Nat) (hkd : k1 ≤ dd + 1) (hF : RV F) (hk : rwL F + k1 = 10) : Ci l yX3_score wsX3_score (rmS (dd + 1)) g [.ref (d), .long (lN (F))] (DW g d v f (nI cnt) (nI ll)) (fun r w => w = (DW g d v f (nI cnt) (nI ll)) ∧ r = zI (sc (fun F => opM S ll F cnt) (hwB S cnt ll) k1 F)) := by
  refine Ci.ofI (cc := cX3_score) (maxL := 6) (by decide) rfl (Nat.le_of_ble_eq_true rfl) ?_
  intro p e s m args below meth c A Z hx hb hml hts hown hK hA hret H locs ls hP hD hS hl
  have hl : lv_has ls 6 [(0, .ref (d)), (1, .long (lN (F)))] := hl
  have h10 := hF.1
  refine lv_lload_n hx hb dX3_score_0 rfl (lv_at hl 1 rfl) ?_
  refine call_iP (As := [.long (lN (F))]) (rest := []) ⟨hx, hb, hml, hown, hts⟩ (c_X2_isFull l F hF) (va_cwS 1 hts gX3_score_X2_isFull rfl rfl rfl (by decide +kernel) ⟨by show _ ≤ _; simp only [rmS, rmL]; omega, by show _ ≤ _; simp only [rmS, rmL]; omega⟩) hP hK hD hS hA rfl hl.1 rfl (Nat.le_of_ble_eq_true rfl) dX3_score_1 ⟨Nat.le_refl _, Nat.le_refl _⟩ (fun r_1 H locs h_1 hP hD hS => ?_)
  refine lv_if_eq (tgt := 11) hx hb dX3_score_4 (by decide) (fun c_4_1 => ?_) (fun c_4_1 => ?_)
  · skip
    have n_4_1 := Bv.f h_1 c_4_1
    obtain ⟨k, rfl⟩ : ∃ k0, k1 = k0 + 1 := ⟨k1 - 1, by omega⟩
    refine lv_aload_n hx hb dX3_score_11 rfl (lv_at hl 0 rfl) ?_
    refine lv_lload_n hx hb dX3_score_12 rfl (lv_at hl 1 rfl) ?_
    refine call_iSW (As := [.ref (d), .long (lN (F))]) (rest := []) ⟨hx, hb, hml, hown, hts⟩ (c_X3_lettersOpenBehind l g d v f S cnt ll hf hc hll F hF) (va_cwS 2 hts gX3_score_X3_lettersOpenBehind rfl rfl rfl (by decide +kernel) ⟨by show _ ≤ _; simp only [rmS, rmL]; omega, by show _ ≤ _; simp only [rmS, rmL]; omega⟩) hP hK hD hS hA rfl hl.1 rfl (Nat.le_of_ble_eq_true rfl) dX3_score_13 ⟨Nat.le_refl _, Nat.le_refl _⟩ (fun r_13 w H locs h_13 hP hD hS => ?_)
    obtain ⟨rfl, h_13⟩ := h_13
    subst h_13
    have hmk : opM S ll F cnt < 67108864 := opM_lt (fun j hj => (hf j hj).2)
    have hP : va_P g.1 vwCl (DW g d v f (nI cnt) (nI ll)) H := hP
    have hD : va_D A (DW g d v f (nI cnt) (nI ll)) := hD
    refine lv_istore_n (lv' := [(3, .int (nI (opM S ll F cnt))), (0, .ref (d)), (1, .long (lN (F)))]) hx hb dX3_score_16 rfl hl (by decide) rfl (fun ls hl => ?_)
    refine lv_iload_n hx hb dX3_score_17 rfl (lv_at hl 0 rfl) ?_
    refine lv_if_ne (tgt := 24) hx hb dX3_score_18 (by decide) (fun c_18_2 => ?_) (fun c_18_2 => ?_)
    · skip
      have n_18_2 : ¬ opM S ll F cnt = 0 := fun q9 => c_18_2 ((nI_eq (a := opM S ll F cnt) (b := 0) (by omega) (by omega)).mpr q9)
      refine lv_bipush (v := -100) hx hb dX3_score_24 (by decide) ?_
      refine tp_i (b := zI (-100)) (by decide) ?_
      refine lv_istore (lv' := [(4, .int (zI (-100))), (3, .int (nI (opM S ll F cnt))), (0, .ref (d)), (1, .long (lN (F)))]) hx hb dX3_score_26 hl (by decide) rfl (fun ls hl => ?_)
      refine lv_iconst (v := nI 0) hx hb dX3_score_28 (by decide) ?_
      refine lv_istore (lv' := [(5, .int (nI (0))), (4, .int (zI (-100))), (3, .int (nI (opM S ll F cnt))), (0, .ref (d)), (1, .long (lN (F)))]) hx hb dX3_score_29 hl (by decide) rfl (fun ls hl => ?_)
      have L_31 : ∀ (fu : Nat) (a : Nat) (b : Int), 26 - a < fu → (a ≤ 26) → (-100 ≤ b) → (b ≤ 100) → (b = scM (opM S ll F cnt) (scL (fun F => opM S ll F cnt) (hwB S cnt ll) k F) a) → ∀ (H : Heap) (locs : List Loc) (ls : Array Slot), va_P g.1 vwCl (DW g d v f (nI cnt) (nI ll)) H → va_D A (DW g d v f (nI cnt) (nI ll)) → va_S A s.heap H locs → lv_has ls 6 [(0, .ref (d)), (1, .long (lN (F))), (3, .int (nI (opM S ll F cnt))), (4, .int (zI (b))), (5, .int (nI (a)))] → W p l e (rmS (dd + 1)) s m args below meth c H locs 0 0 Z (F0 m 31 ls []) := by
        intro fu
        induction fu with
        | zero => intro _ _ h0; exact absurd h0 (Nat.not_lt_zero _)
        | succ fu ih_31 =>
          intro a b hfu ha1 hb1 hb2 hb3 H locs ls hP hD hS hl
          refine lv_iload hx hb dX3_score_31 (lv_at hl 4 rfl) ?_
          refine lv_bipush (v := nI 26) hx hb dX3_score_33 (by decide) ?_
          refine lv_icmp_ge (tgt := 67) hx hb dX3_score_35 (by decide) (fun c_35_3 => ?_) (fun c_35_3 => ?_)
          · skip
            have n_35_3 : 26 ≤ a := (nI_leI (a := 26) (b := a) (by omega) (by omega)).mp c_35_3
            refine lv_iload hx hb dX3_score_67 (lv_at hl 3 rfl) ?_
            exact hret (zI (b)) (DW g d v f (nI cnt) (nI ll)) _ _ _ _ dX3_score_69 (⟨rfl, by rw [sc_s (om := (fun F => opM S ll F cnt)) n_18_2, hb3, show a = 26 by omega]⟩) hP hD hS
          · skip
            have n_35_3 : ¬ 26 ≤ a := fun q9 => c_35_3 ((nI_leI (a := 26) (b := a) (by omega) (by omega)).mpr q9)
            refine lv_iload_n hx hb dX3_score_38 rfl (lv_at hl 2 rfl) ?_
            refine lv_iload hx hb dX3_score_39 (lv_at hl 4 rfl) ?_
            refine call_iP (As := [.int (nI (opM S ll F cnt)), .int (nI (a))]) (rest := []) ⟨hx, hb, hml, hown, hts⟩ (c_X3_isIn l (opM S ll F cnt) a hmk (by omega)) (va_cwS 2 hts gX3_score_X3_isIn rfl rfl rfl (by decide +kernel) ⟨by show _ ≤ _; simp only [rmS, rmL]; omega, by show _ ≤ _; simp only [rmS, rmL]; omega⟩) hP hK hD hS hA rfl hl.1 rfl (Nat.le_of_ble_eq_true rfl) dX3_score_41 ⟨Nat.le_refl _, Nat.le_refl _⟩ (fun r_41 H locs h_41 hP hD hS => ?_)
            refine lv_if_eq (tgt := 61) hx hb dX3_score_44 (by decide) (fun c_44_4 => ?_) (fun c_44_4 => ?_)
            · skip
              have n_44_4 := Bv.f h_41 c_44_4
              refine lv_iinc (v := (nI (a + 1))) (lv' := [(5, .int (nI (a + 1))), (0, .ref (d)), (1, .long (lN (F))), (3, .int (nI (opM S ll F cnt))), (4, .int (zI (b)))]) hx hb dX3_score_61 hl (k := 4) rfl (nI_add (a) 1) (by decide) rfl (fun ls hl => ?_)
              refine lv_goto (tgt := 31) hx hb dX3_score_64 (by decide) ?_
              exact ih_31 (a + 1) b (by omega) (by omega) (hb1) (hb2) (scM_f hb3 n_44_4) _ _ _ hP hD hS (lv_sub hl [1, 2, 3, 4, 0] rfl)
            · skip
              have n_44_4 := Bv.t h_41 c_44_4
              refine lv_iload hx hb dX3_score_47 (lv_at hl 3 rfl) ?_
              refine lv_aload_n hx hb dX3_score_49 rfl (lv_at hl 0 rfl) ?_
              refine lv_lload_n hx hb dX3_score_50 rfl (lv_at hl 1 rfl) ?_
              refine lv_iload hx hb dX3_score_51 (lv_at hl 4 rfl) ?_
              refine call_iSW (As := [.ref (d), .long (lN (F)), .int (nI (a))]) (rest := [.int (zI (b))]) ⟨hx, hb, hml, hown, hts⟩ (hlet k F a (by omega) hF (by omega) (by omega)) (va_cwS 3 hts gX3_score_X3_scoreOfLetter rfl rfl rfl (by decide +kernel) ⟨by show _ ≤ _; simp only [rmS, rmL]; omega, by show _ ≤ _; simp only [rmS, rmL]; omega⟩) hP hK hD hS hA rfl hl.1 rfl (Nat.le_of_ble_eq_true rfl) dX3_score_53 ⟨Nat.le_refl _, Nat.le_refl _⟩ (fun r_53 w H locs h_53 hP hD hS => ?_)
              obtain ⟨rfl, h_53⟩ := h_53
              subst h_53
              have hsb := scL_b (fun F => opM S ll F cnt) (hwB S cnt ll) k F a
              have hP : va_P g.1 vwCl (DW g d v f (nI cnt) (nI ll)) H := hP
              have hD : va_D A (DW g d v f (nI cnt) (nI ll)) := hD
              refine va_mmax hx hb (by rw [hml]; exact hl.1.symm) hown (hts (.methodLink RX3 67 Lib.Math.max.name) (by decide +kernel)) (hts (.static Lib.Math.max.name) (by decide +kernel)) (hts (.initialized "java/lang/Math") (by decide +kernel)) (hts (.code Lib.Math.max.name Lib.Math.max.code 2 (some .int)) (by decide +kernel)) (Nat.le_of_ble_eq_true rfl) (Nat.le_of_ble_eq_true rfl) (Nat.zero_le _) (Nat.zero_le _) dX3_score_56 ?_
              refine tp_i (b := (zI (max b (scL (fun F => opM S ll F cnt) (hwB S cnt ll) k F a)))) (zI_max (by omega) (by omega) (by omega) (by omega)) ?_
              refine lv_istore (lv' := [(4, .int (zI (max b (scL (fun F => opM S ll F cnt) (hwB S cnt ll) k F a)))), (0, .ref (d)), (1, .long (lN (F))), (3, .int (nI (opM S ll F cnt))), (5, .int (nI (a)))]) hx hb dX3_score_59 hl (by decide) rfl (fun ls hl => ?_)
              refine lv_iinc (v := (nI (a + 1))) (lv' := [(5, .int (nI (a + 1))), (4, .int (zI (max b (scL (fun F => opM S ll F cnt) (hwB S cnt ll) k F a)))), (0, .ref (d)), (1, .long (lN (F))), (3, .int (nI (opM S ll F cnt)))]) hx hb dX3_score_61 hl (k := 4) rfl (nI_add (a) 1) (by decide) rfl (fun ls hl => ?_)
              refine lv_goto (tgt := 31) hx hb dX3_score_64 (by decide) ?_
              exact ih_31 (a + 1) (max b (scL (fun F => opM S ll F cnt) (hwB S cnt ll) k F a)) (by omega) (by omega) (by omega) (by omega) (scM_t (fn := scL (fun F => opM S ll F cnt) (hwB S cnt ll) k F) hb3 n_44_4) _ _ _ hP hD hS (lv_sub hl [2, 3, 4, 1, 0] rfl)
      exact L_31 (_ + 1) 0 (-100) (Nat.lt_succ_self _) (Nat.zero_le _) (by omega) (by omega) (rfl) _ _ _ hP hD hS (lv_sub hl [3, 4, 2, 1, 0] rfl)
    · skip
      have n_18_2 : opM S ll F cnt = 0 := (nI_eq (a := opM S ll F cnt) (b := 0) (by omega) (by omega)).mp c_18_2
      refine lv_bipush (v := nI 100) hx hb dX3_score_21 (by decide) ?_
      exact hret (nI (100)) (DW g d v f (nI cnt) (nI ll)) _ _ _ _ dX3_score_23 (⟨rfl, by rw [sc_z (om := (fun F => opM S ll F cnt)) n_18_2]; decide⟩) hP hD hS
  · skip
    have n_4_1 := Bv.t h_1 c_4_1
    have hk9 : k1 = 0 := by omega
    subst hk9
    refine lv_iconst (v := nI 0) hx hb dX3_score_7 (by decide) ?_
    refine lv_goto (tgt := 16) hx hb dX3_score_8 (by decide) ?_
    refine lv_istore_n (lv' := [(3, .int (nI (0))), (0, .ref (d)), (1, .long (lN (F)))]) hx hb dX3_score_16 rfl hl (by decide) rfl (fun ls hl => ?_)
    refine lv_iload_n hx hb dX3_score_17 rfl (lv_at hl 0 rfl) ?_
    refine lv_if_ne (tgt := 24) hx hb dX3_score_18 (by decide) (fun c_18_5 => absurd (by decide) c_18_5) (fun c_18_5 => ?_)
    refine lv_bipush (v := nI 100) hx hb dX3_score_21 (by decide) ?_
    exact hret (nI (100)) (DW g d v f (nI cnt) (nI ll)) _ _ _ _ dX3_score_23 (⟨rfl, (by decide : nI 100 = zI 100)⟩) hP hD hS

/-- the score, at every depth -/
theorem c_X3_score (l : Launch) (g : GG) (d v : Nat) (f : Nat → Int64) (S : Nat → Nat) (cnt ll : Nat) (hf : DR f S cnt) (hc : cnt ≤ 50) (hll : ll ≤ 10) : ∀ (dd k F : Nat), k ≤ dd → RV F → rwL F + k = 10 → Ci l yX3_score wsX3_score (rmS dd) g [.ref d, .long (lN F)] (DW g d v f (nI cnt) (nI ll)) (fun r w => w = (DW g d v f (nI cnt) (nI ll)) ∧ r = zI (sc (fun F => opM S ll F cnt) (hwB S cnt ll) k F)) := by
  intro dd
  induction dd with
  | zero =>
    intro k F hk hF h
    have e : k = 0 := by omega
    subst e
    exact c_X3_score_0 l g d v f S cnt ll hf hc hll F hF h
  | succ dd ih =>
    intro k F hk hF h
    exact c_X3_score_s l g d v f S cnt ll hf hc hll dd (fun k F a hkd hF hk ha => c_X3_scoreOfLetter l g d v f S cnt ll hf hc hll dd ih k F a hkd hF hk ha) k F hk hF h
theorem c_X3_scoreOf (l : Launch) (g : GG) (d v : Nat) (f : Nat → Int64) (S : Nat → Nat) (cnt ll : Nat) (hf : DR f S cnt) (hc : cnt ≤ 50) (hll : ll ≤ 10) (k F a : Nat) (hkd : k ≤ 10) (hF : RV F) (hk : rwL F + (k + 1) = 10) (ha : a < 26) : Ci l yX3_scoreOfLetter wsX3_scoreOfLetter (rmL 10) g [.ref d, .long (lN F), .int (nI a)] (DW g d v f (nI cnt) (nI ll)) (fun r w => w = (DW g d v f (nI cnt) (nI ll)) ∧ r = zI (scL (fun F => opM S ll F cnt) (hwB S cnt ll) k F a)) := c_X3_scoreOfLetter l g d v f S cnt ll hf hc hll 10 (c_X3_score l g d v f S cnt ll hf hc hll 10) k F a hkd hF hk ha
abbrev rm_X3_moverWins : Room := { frames := 31, cells := 0, slots := 0, locals := 1225 }
set_option maxHeartbeats 4000000 in
set_option maxRecDepth 100000 in
theorem c_X3_moverWins (l : Launch) (g : GG) (d v : Nat) (f : Nat → Int64) (S : Nat → Nat) (cnt ll : Nat) (hf : DR f S cnt) (hc : cnt ≤ 50) (hll : ll ≤ 10) (F : Nat) (hF : RV F) : Ci l yX3_moverWins wsX3_moverWins rm_X3_moverWins g [.ref (d), .long (lN (F))] (DW g d v f (nI cnt) (nI ll)) (fun r w => w = (DW g d v f (nI cnt) (nI ll)) ∧ Bv r (0 < sc (fun F => opM S ll F cnt) (hwB S cnt ll) (10 - rwL F) F)) := by
  refine Ci.ofZ (cc := cX3_moverWins) (maxL := 3) (by decide) rfl (Nat.le_of_ble_eq_true rfl) ?_
  intro p e s m args below meth c A Z hx hb hml hts hown hK hA hret H locs ls hP hD hS hl
  have hl : lv_has ls 3 [(0, .ref (d)), (1, .long (lN (F)))] := hl
  have h10 := hF.1
  refine lv_aload_n hx hb dX3_moverWins_0 rfl (lv_at hl 0 rfl) ?_
  refine lv_lload_n hx hb dX3_moverWins_1 rfl (lv_at hl 1 rfl) ?_
  refine call_iSW (As := [.ref (d), .long (lN (F))]) (rest := []) ⟨hx, hb, hml, hown, hts⟩ (c_X3_score l g d v f S cnt ll hf hc hll 10 (10 - rwL F) F (by omega) hF (by omega)) (va_cwS 2 hts gX3_moverWins_X3_score rfl rfl rfl (by decide +kernel) ⟨Nat.le_of_ble_eq_true rfl, Nat.le_of_ble_eq_true rfl⟩) hP hK hD hS hA rfl hl.1 rfl (Nat.le_of_ble_eq_true rfl) dX3_moverWins_2 ⟨Nat.le_refl _, Nat.le_refl _⟩ (fun r_2 w H locs h_2 hP hD hS => ?_)
  obtain ⟨rfl, h_2⟩ := h_2
  subst h_2
  have hsb := sc_b (fun F => opM S ll F cnt) (hwB S cnt ll) (10 - rwL F) F
  have hP : va_P g.1 vwCl (DW g d v f (nI cnt) (nI ll)) H := hP
  have hD : va_D A (DW g d v f (nI cnt) (nI ll)) := hD
  refine lv_if_le (tgt := 12) hx hb dX3_moverWins_5 (by decide) (fun c_5_1 => ?_) (fun c_5_1 => ?_)
  · skip
    have n_5_1 : sc (fun F => opM S ll F cnt) (hwB S cnt ll) (10 - rwL F) F ≤ 0 := (zI_le0 (by omega) (by omega)).mp c_5_1
    refine lv_iconst (v := nI 0) hx hb dX3_moverWins_12 (by decide) ?_
    exact hret (nI (0)) (DW g d v f (nI cnt) (nI ll)) _ _ _ _ dX3_moverWins_13 (Or.inl rfl) (⟨rfl, Bv.no (by omega)⟩) hP hD hS
  · skip
    have n_5_1 : ¬ sc (fun F => opM S ll F cnt) (hwB S cnt ll) (10 - rwL F) F ≤ 0 := fun q9 => c_5_1 ((zI_le0 (by omega) (by omega)).mpr q9)
    refine lv_iconst (v := nI 1) hx hb dX3_moverWins_8 (by decide) ?_
    refine lv_goto (tgt := 13) hx hb dX3_moverWins_9 (by decide) ?_
    exact hret (nI (1)) (DW g d v f (nI cnt) (nI ll)) _ _ _ _ dX3_moverWins_13 (Or.inr rfl) (⟨rfl, Bv.yes (by omega)⟩) hP hD hS

abbrev rm_X3_endBehind : Room := { frames := 31, cells := 0, slots := 0, locals := 1225 }
set_option maxHeartbeats 4000000 in
set_option maxRecDepth 100000 in
theorem c_X3_endBehind (l : Launch) (g : GG) (d v : Nat) (f : Nat → Int64) (S : Nat → Nat) (cnt ll : Nat) (hf : DR f S cnt) (hc : cnt ≤ 50) (hll : ll ≤ 10) (F : Nat) (hF : RV F) : Ci l yX3_endBehind wsX3_endBehind rm_X3_endBehind g [.ref (d), .long (lN (F))] (DW g d v f (nI cnt) (nI ll)) (fun r w => w = (DW g d v f (nI cnt) (nI ll)) ∧ r = nI (100 - (sc (fun F => opM S ll F cnt) (hwB S cnt ll) (10 - rwL F) F).natAbs)) := by
  refine Ci.ofI (cc := cX3_endBehind) (maxL := 3) (by decide) rfl (Nat.le_of_ble_eq_true rfl) ?_
  intro p e s m args below meth c A Z hx hb hml hts hown hK hA hret H locs ls hP hD hS hl
  have hl : lv_has ls 3 [(0, .ref (d)), (1, .long (lN (F)))] := hl
  have h10 := hF.1
  refine lv_bipush (v := nI 100) hx hb dX3_endBehind_0 (by decide) ?_
  refine lv_aload_n hx hb dX3_endBehind_2 rfl (lv_at hl 0 rfl) ?_
  refine lv_lload_n hx hb dX3_endBehind_3 rfl (lv_at hl 1 rfl) ?_
  refine call_iSW (As := [.ref (d), .long (lN (F))]) (rest := [.int (nI (100))]) ⟨hx, hb, hml, hown, hts⟩ (c_X3_score l g d v f S cnt ll hf hc hll 10 (10 - rwL F) F (by omega) hF (by omega)) (va_cwS 2 hts gX3_endBehind_X3_score rfl rfl rfl (by decide +kernel) ⟨Nat.le_of_ble_eq_true rfl, Nat.le_of_ble_eq_true rfl⟩) hP hK hD hS hA rfl hl.1 rfl (Nat.le_of_ble_eq_true rfl) dX3_endBehind_4 ⟨Nat.le_refl _, Nat.le_refl _⟩ (fun r_4 w H locs h_4 hP hD hS => ?_)
  obtain ⟨rfl, h_4⟩ := h_4
  subst h_4
  have hsb := sc_b (fun F => opM S ll F cnt) (hwB S cnt ll) (10 - rwL F) F
  have hP : va_P g.1 vwCl (DW g d v f (nI cnt) (nI ll)) H := hP
  have hD : va_D A (DW g d v f (nI cnt) (nI ll)) := hD
  refine va_mabs hx hb (by rw [hml]; exact hl.1.symm) hown (hts (.methodLink RX3 50 Lib.Math.abs.name) (by decide +kernel)) (hts (.static Lib.Math.abs.name) (by decide +kernel)) (hts (.initialized "java/lang/Math") (by decide +kernel)) (hts (.code Lib.Math.abs.name Lib.Math.abs.code 1 (some .int)) (by decide +kernel)) (Nat.le_of_ble_eq_true rfl) (Nat.le_of_ble_eq_true rfl) (Nat.zero_le _) (Nat.zero_le _) dX3_endBehind_7 ?_
  refine tp_i (b := (nI ((sc (fun F => opM S ll F cnt) (hwB S cnt ll) (10 - rwL F) F).natAbs))) (zI_abs (by omega) (by omega)) ?_
  refine lv_isub hx hb dX3_endBehind_10 ?_
  refine tp_i (pk_sub (a := 100) (b := (sc (fun F => opM S ll F cnt) (hwB S cnt ll) (10 - rwL F) F).natAbs) (by omega)) ?_
  exact hret (nI (100 - ((sc (fun F => opM S ll F cnt) (hwB S cnt ll) (10 - rwL F) F).natAbs))) (DW g d v f (nI cnt) (nI ll)) _ _ _ _ dX3_endBehind_11 (⟨rfl, rfl⟩) hP hD hS

abbrev rm_X3_lettersWinningBehind : Room := { frames := 32, cells := 0, slots := 0, locals := 1266 }
set_option maxHeartbeats 4000000 in
set_option maxRecDepth 100000 in
theorem c_X3_lettersWinningBehind (l : Launch) (g : GG) (d v : Nat) (f : Nat → Int64) (S : Nat → Nat) (cnt ll : Nat) (hf : DR f S cnt) (hc : cnt ≤ 50) (hll : ll ≤ 10) (F : Nat) (hF : RV F) : Ci l yX3_lettersWinningBehind wsX3_lettersWinningBehind rm_X3_lettersWinningBehind g [.ref (d), .long (lN (F))] (DW g d v f (nI cnt) (nI ll)) (fun r w => w = (DW g d v f (nI cnt) (nI ll)) ∧ r = nI (scW (fun F => opM S ll F cnt) (hwB S cnt ll) (9 - rwL F) F 26)) := by
  refine Ci.ofI (cc := cX3_lettersWinningBehind) (maxL := 6) (by decide) rfl (Nat.le_of_ble_eq_true rfl) ?_
  intro p e s m args below meth c A Z hx hb hml hts hown hK hA hret H locs ls hP hD hS hl
  have hl : lv_has ls 6 [(0, .ref (d)), (1, .long (lN (F)))] := hl
  have h10 := hF.1
  refine lv_aload_n hx hb dX3_lettersWinningBehind_0 rfl (lv_at hl 0 rfl) ?_
  refine lv_lload_n hx hb dX3_lettersWinningBehind_1 rfl (lv_at hl 1 rfl) ?_
  refine call_iSW (As := [.ref (d), .long (lN (F))]) (rest := []) ⟨hx, hb, hml, hown, hts⟩ (c_X3_lettersOpenBehind l g d v f S cnt ll hf hc hll F hF) (va_cwS 2 hts gX3_lettersWinningBehind_X3_lettersOpenBehind rfl rfl rfl (by decide +kernel) ⟨Nat.le_of_ble_eq_true rfl, Nat.le_of_ble_eq_true rfl⟩) hP hK hD hS hA rfl hl.1 rfl (Nat.le_of_ble_eq_true rfl) dX3_lettersWinningBehind_2 ⟨Nat.le_refl _, Nat.le_refl _⟩ (fun r_2 w H locs h_2 hP hD hS => ?_)
  obtain ⟨rfl, h_2⟩ := h_2
  subst h_2
  have hmk : opM S ll F cnt < 67108864 := opM_lt (fun j hj => (hf j hj).2)
  have hP : va_P g.1 vwCl (DW g d v f (nI cnt) (nI ll)) H := hP
  have hD : va_D A (DW g d v f (nI cnt) (nI ll)) := hD
  refine lv_istore_n (lv' := [(3, .int (nI (opM S ll F cnt))), (0, .ref (d)), (1, .long (lN (F)))]) hx hb dX3_lettersWinningBehind_5 rfl hl (by decide) rfl (fun ls hl => ?_)
  refine lv_iconst (v := nI 0) hx hb dX3_lettersWinningBehind_6 (by decide) ?_
  refine lv_istore (lv' := [(4, .int (nI (0))), (3, .int (nI (opM S ll F cnt))), (0, .ref (d)), (1, .long (lN (F)))]) hx hb dX3_lettersWinningBehind_7 hl (by decide) rfl (fun ls hl => ?_)
  refine lv_iconst (v := nI 0) hx hb dX3_lettersWinningBehind_9 (by decide) ?_
  refine lv_istore (lv' := [(5, .int (nI (0))), (4, .int (nI (0))), (3, .int (nI (opM S ll F cnt))), (0, .ref (d)), (1, .long (lN (F)))]) hx hb dX3_lettersWinningBehind_10 hl (by decide) rfl (fun ls hl => ?_)
  have L_12 : ∀ (fu : Nat) (a o : Nat), 26 - a < fu → (a ≤ 26) → (o = scW (fun F => opM S ll F cnt) (hwB S cnt ll) (9 - rwL F) F a) → ∀ (H : Heap) (locs : List Loc) (ls : Array Slot), va_P g.1 vwCl (DW g d v f (nI cnt) (nI ll)) H → va_D A (DW g d v f (nI cnt) (nI ll)) → va_S A s.heap H locs → lv_has ls 6 [(0, .ref (d)), (1, .long (lN (F))), (3, .int (nI (opM S ll F cnt))), (4, .int (nI (o))), (5, .int (nI (a)))] → W p l e rm_X3_lettersWinningBehind s m args below meth c H locs 0 0 Z (F0 m 12 ls []) := by
    intro fu
    induction fu with
    | zero => intro _ _ h0; exact absurd h0 (Nat.not_lt_zero _)
    | succ fu ih_12 =>
      intro a o hfu ha1 ho H locs ls hP hD hS hl
      refine lv_iload hx hb dX3_lettersWinningBehind_12 (lv_at hl 4 rfl) ?_
      refine lv_bipush (v := nI 26) hx hb dX3_lettersWinningBehind_14 (by decide) ?_
      refine lv_icmp_ge (tgt := 53) hx hb dX3_lettersWinningBehind_16 (by decide) (fun c_16_1 => ?_) (fun c_16_1 => ?_)
      · skip
        have n_16_1 : 26 ≤ a := (nI_leI (a := 26) (b := a) (by omega) (by omega)).mp c_16_1
        refine lv_iload hx hb dX3_lettersWinningBehind_53 (lv_at hl 3 rfl) ?_
        exact hret (nI (o)) (DW g d v f (nI cnt) (nI ll)) _ _ _ _ dX3_lettersWinningBehind_55 (⟨rfl, by rw [ho, show a = 26 by omega]⟩) hP hD hS
      · skip
        have n_16_1 : ¬ 26 ≤ a := fun q9 => c_16_1 ((nI_leI (a := 26) (b := a) (by omega) (by omega)).mpr q9)
        refine lv_iload_n hx hb dX3_lettersWinningBehind_19 rfl (lv_at hl 2 rfl) ?_
        refine lv_iload hx hb dX3_lettersWinningBehind_20 (lv_at hl 4 rfl) ?_
        refine call_iP (As := [.int (nI (opM S ll F cnt)), .int (nI (a))]) (rest := []) ⟨hx, hb, hml, hown, hts⟩ (c_X3_isIn l (opM S ll F cnt) a hmk (by omega)) (va_cwS 2 hts gX3_lettersWinningBehind_X3_isIn rfl rfl rfl (by decide +kernel) ⟨Nat.le_of_ble_eq_true rfl, Nat.le_of_ble_eq_true rfl⟩) hP hK hD hS hA rfl hl.1 rfl (Nat.le_of_ble_eq_true rfl) dX3_lettersWinningBehind_22 ⟨Nat.le_refl _, Nat.le_refl _⟩ (fun r_22 H locs h_22 hP hD hS => ?_)
        refine lv_if_eq (tgt := 47) hx hb dX3_lettersWinningBehind_25 (by decide) (fun c_25_2 => ?_) (fun c_25_2 => ?_)
        · skip
          have n_25_2 := Bv.f h_22 c_25_2
          refine lv_iinc (v := (nI (a + 1))) (lv' := [(5, .int (nI (a + 1))), (0, .ref (d)), (1, .long (lN (F))), (3, .int (nI (opM S ll F cnt))), (4, .int (nI (o)))]) hx hb dX3_lettersWinningBehind_47 hl (k := 4) rfl (nI_add (a) 1) (by decide) rfl (fun ls hl => ?_)
          refine lv_goto (tgt := 12) hx hb dX3_lettersWinningBehind_50 (by decide) ?_
          exact ih_12 (a + 1) o (by omega) (by omega) (scW_f ho (fun q9 => n_25_2 q9.1)) _ _ _ hP hD hS (lv_sub hl [1, 2, 3, 4, 0] rfl)
        · skip
          have n_25_2 := Bv.t h_22 c_25_2
          have hF9 : rwL F < 10 := by
            obtain ⟨j, h1, h2, -⟩ := opM_bit.mp n_25_2
            have h3 := h2.lt
            have h4 := (hf j h1).2.1
            omega
          refine lv_aload_n hx hb dX3_lettersWinningBehind_28 rfl (lv_at hl 0 rfl) ?_
          refine lv_lload_n hx hb dX3_lettersWinningBehind_29 rfl (lv_at hl 1 rfl) ?_
          refine lv_iload hx hb dX3_lettersWinningBehind_30 (lv_at hl 4 rfl) ?_
          refine call_iSW (As := [.ref (d), .long (lN (F)), .int (nI (a))]) (rest := []) ⟨hx, hb, hml, hown, hts⟩ (c_X3_scoreOf l g d v f S cnt ll hf hc hll (9 - rwL F) F a (by omega) hF (by omega) (by omega)) (va_cwS 3 hts gX3_lettersWinningBehind_X3_scoreOfLetter rfl rfl rfl (by decide +kernel) ⟨Nat.le_of_ble_eq_true rfl, Nat.le_of_ble_eq_true rfl⟩) hP hK hD hS hA rfl hl.1 rfl (Nat.le_of_ble_eq_true rfl) dX3_lettersWinningBehind_32 ⟨Nat.le_refl _, Nat.le_refl _⟩ (fun r_32 w H locs h_32 hP hD hS => ?_)
          obtain ⟨rfl, h_32⟩ := h_32
          subst h_32
          have hlb := scL_b (fun F => opM S ll F cnt) (hwB S cnt ll) (9 - rwL F) F a
          have hP : va_P g.1 vwCl (DW g d v f (nI cnt) (nI ll)) H := hP
          have hD : va_D A (DW g d v f (nI cnt) (nI ll)) := hD
          refine lv_if_le (tgt := 47) hx hb dX3_lettersWinningBehind_35 (by decide) (fun c_35_3 => ?_) (fun c_35_3 => ?_)
          · skip
            have n_35_3 : scL (fun F => opM S ll F cnt) (hwB S cnt ll) (9 - rwL F) F a ≤ 0 := (zI_le0 (by omega) (by omega)).mp c_35_3
            refine lv_iinc (v := (nI (a + 1))) (lv' := [(5, .int (nI (a + 1))), (0, .ref (d)), (1, .long (lN (F))), (3, .int (nI (opM S ll F cnt))), (4, .int (nI (o)))]) hx hb dX3_lettersWinningBehind_47 hl (k := 4) rfl (nI_add (a) 1) (by decide) rfl (fun ls hl => ?_)
            refine lv_goto (tgt := 12) hx hb dX3_lettersWinningBehind_50 (by decide) ?_
            exact ih_12 (a + 1) o (by omega) (by omega) (scW_f ho (fun q9 => by have := q9.2; omega)) _ _ _ hP hD hS (lv_sub hl [1, 2, 3, 4, 0] rfl)
          · skip
            have n_35_3 : ¬ scL (fun F => opM S ll F cnt) (hwB S cnt ll) (9 - rwL F) F a ≤ 0 := fun q9 => c_35_3 ((zI_le0 (by omega) (by omega)).mpr q9)
            refine lv_iload hx hb dX3_lettersWinningBehind_38 (lv_at hl 3 rfl) ?_
            refine lv_iconst (v := nI 1) hx hb dX3_lettersWinningBehind_40 (by decide) ?_
            refine lv_iload hx hb dX3_lettersWinningBehind_41 (lv_at hl 4 rfl) ?_
            refine lv_ishl hx hb dX3_lettersWinningBehind_43 ?_
            refine tp_i (b := (nI (2 ^ a))) (mk_shl (by omega)) ?_
            refine lv_ior hx hb dX3_lettersWinningBehind_44 ?_
            refine tp_i (b := (nI (o ||| 2 ^ a))) (fa_or _ _) ?_
            refine lv_istore (lv' := [(4, .int (nI (o ||| 2 ^ a))), (0, .ref (d)), (1, .long (lN (F))), (3, .int (nI (opM S ll F cnt))), (5, .int (nI (a)))]) hx hb dX3_lettersWinningBehind_45 hl (by decide) rfl (fun ls hl => ?_)
            refine lv_iinc (v := (nI (a + 1))) (lv' := [(5, .int (nI (a + 1))), (4, .int (nI (o ||| 2 ^ a))), (0, .ref (d)), (1, .long (lN (F))), (3, .int (nI (opM S ll F cnt)))]) hx hb dX3_lettersWinningBehind_47 hl (k := 4) rfl (nI_add (a) 1) (by decide) rfl (fun ls hl => ?_)
            refine lv_goto (tgt := 12) hx hb dX3_lettersWinningBehind_50 (by decide) ?_
            exact ih_12 (a + 1) (o ||| 2 ^ a) (by omega) (by omega) (scW_t ho ⟨n_25_2, by omega⟩) _ _ _ hP hD hS (lv_sub hl [2, 3, 4, 1, 0] rfl)
  exact L_12 (_ + 1) 0 0 (Nat.lt_succ_self _) (Nat.zero_le _) (rfl) _ _ _ hP hD hS (lv_sub hl [3, 4, 2, 1, 0] rfl)

abbrev rm_X3_letterChosenBehind : Room := { frames := 32, cells := 0, slots := 0, locals := 1266 }
set_option maxHeartbeats 4000000 in
set_option maxRecDepth 100000 in
theorem c_X3_letterChosenBehind (l : Launch) (g : GG) (d v : Nat) (f : Nat → Int64) (S : Nat → Nat) (cnt ll : Nat) (hf : DR f S cnt) (hc : cnt ≤ 50) (hll : ll ≤ 10) (F : Nat) (hF : RV F) : Ci l yX3_letterChosenBehind wsX3_letterChosenBehind rm_X3_letterChosenBehind g [.ref (d), .long (lN (F))] (DW g d v f (nI cnt) (nI ll)) (fun r w => w = (DW g d v f (nI cnt) (nI ll)) ∧ ((∃ a, a < 26 ∧ ((opM S ll F cnt).testBit a = true ∧ scL (fun F => opM S ll F cnt) (hwB S cnt ll) (9 - rwL F) F a = sc (fun F => opM S ll F cnt) (hwB S cnt ll) (10 - rwL F) F) ∧ (∀ b, b < a → ¬ ((opM S ll F cnt).testBit b = true ∧ scL (fun F => opM S ll F cnt) (hwB S cnt ll) (9 - rwL F) F b = sc (fun F => opM S ll F cnt) (hwB S cnt ll) (10 - rwL F) F)) ∧ r = nI a) ∨ ((∀ b, b < 26 → ¬ ((opM S ll F cnt).testBit b = true ∧ scL (fun F => opM S ll F cnt) (hwB S cnt ll) (9 - rwL F) F b = sc (fun F => opM S ll F cnt) (hwB S cnt ll) (10 - rwL F) F)) ∧ r = -1))) := by
  refine Ci.ofI (cc := cX3_letterChosenBehind) (maxL := 6) (by decide) rfl (Nat.le_of_ble_eq_true rfl) ?_
  intro p e s m args below meth c A Z hx hb hml hts hown hK hA hret H locs ls hP hD hS hl
  have hl : lv_has ls 6 [(0, .ref (d)), (1, .long (lN (F)))] := hl
  have h10 := hF.1
  refine lv_aload_n hx hb dX3_letterChosenBehind_0 rfl (lv_at hl 0 rfl) ?_
  refine lv_lload_n hx hb dX3_letterChosenBehind_1 rfl (lv_at hl 1 rfl) ?_
  refine call_iSW (As := [.ref (d), .long (lN (F))]) (rest := []) ⟨hx, hb, hml, hown, hts⟩ (c_X3_lettersOpenBehind l g d v f S cnt ll hf hc hll F hF) (va_cwS 2 hts gX3_letterChosenBehind_X3_lettersOpenBehind rfl rfl rfl (by decide +kernel) ⟨Nat.le_of_ble_eq_true rfl, Nat.le_of_ble_eq_true rfl⟩) hP hK hD hS hA rfl hl.1 rfl (Nat.le_of_ble_eq_true rfl) dX3_letterChosenBehind_2 ⟨Nat.le_refl _, Nat.le_refl _⟩ (fun r_2 w H locs h_2 hP hD hS => ?_)
  obtain ⟨rfl, h_2⟩ := h_2
  subst h_2
  have hmk : opM S ll F cnt < 67108864 := opM_lt (fun j hj => (hf j hj).2)
  have hP : va_P g.1 vwCl (DW g d v f (nI cnt) (nI ll)) H := hP
  have hD : va_D A (DW g d v f (nI cnt) (nI ll)) := hD
  refine lv_istore_n (lv' := [(3, .int (nI (opM S ll F cnt))), (0, .ref (d)), (1, .long (lN (F)))]) hx hb dX3_letterChosenBehind_5 rfl hl (by decide) rfl (fun ls hl => ?_)
  refine lv_aload_n hx hb dX3_letterChosenBehind_6 rfl (lv_at hl 1 rfl) ?_
  refine lv_lload_n hx hb dX3_letterChosenBehind_7 rfl (lv_at hl 2 rfl) ?_
  refine call_iSW (As := [.ref (d), .long (lN (F))]) (rest := []) ⟨hx, hb, hml, hown, hts⟩ (c_X3_score l g d v f S cnt ll hf hc hll 10 (10 - rwL F) F (by omega) hF (by omega)) (va_cwS 2 hts gX3_letterChosenBehind_X3_score rfl rfl rfl (by decide +kernel) ⟨Nat.le_of_ble_eq_true rfl, Nat.le_of_ble_eq_true rfl⟩) hP hK hD hS hA rfl hl.1 rfl (Nat.le_of_ble_eq_true rfl) dX3_letterChosenBehind_8 ⟨Nat.le_refl _, Nat.le_refl _⟩ (fun r_8 w H locs h_8 hP hD hS => ?_)
  obtain ⟨rfl, h_8⟩ := h_8
  subst h_8
  have hsb := sc_b (fun F => opM S ll F cnt) (hwB S cnt ll) (10 - rwL F) F
  have hP : va_P g.1 vwCl (DW g d v f (nI cnt) (nI ll)) H := hP
  have hD : va_D A (DW g d v f (nI cnt) (nI ll)) := hD
  refine lv_istore (lv' := [(4, .int (zI (sc (fun F => opM S ll F cnt) (hwB S cnt ll) (10 - rwL F) F))), (3, .int (nI (opM S ll F cnt))), (0, .ref (d)), (1, .long (lN (F)))]) hx hb dX3_letterChosenBehind_11 hl (by decide) rfl (fun ls hl => ?_)
  refine lv_iconst (v := nI 0) hx hb dX3_letterChosenBehind_13 (by decide) ?_
  refine lv_istore (lv' := [(5, .int (nI (0))), (4, .int (zI (sc (fun F => opM S ll F cnt) (hwB S cnt ll) (10 - rwL F) F))), (3, .int (nI (opM S ll F cnt))), (0, .ref (d)), (1, .long (lN (F)))]) hx hb dX3_letterChosenBehind_14 hl (by decide) rfl (fun ls hl => ?_)
  have L_16 : ∀ (fu : Nat) (a : Nat), 26 - a < fu → (a ≤ 26) → (∀ b, b < a → ¬ ((opM S ll F cnt).testBit b = true ∧ scL (fun F => opM S ll F cnt) (hwB S cnt ll) (9 - rwL F) F b = sc (fun F => opM S ll F cnt) (hwB S cnt ll) (10 - rwL F) F)) → ∀ (H : Heap) (locs : List Loc) (ls : Array Slot), va_P g.1 vwCl (DW g d v f (nI cnt) (nI ll)) H → va_D A (DW g d v f (nI cnt) (nI ll)) → va_S A s.heap H locs → lv_has ls 6 [(0, .ref (d)), (1, .long (lN (F))), (3, .int (nI (opM S ll F cnt))), (4, .int (zI (sc (fun F => opM S ll F cnt) (hwB S cnt ll) (10 - rwL F) F))), (5, .int (nI (a)))] → W p l e rm_X3_letterChosenBehind s m args below meth c H locs 0 0 Z (F0 m 16 ls []) := by
    intro fu
    induction fu with
    | zero => intro _ h0; exact absurd h0 (Nat.not_lt_zero _)
    | succ fu ih_16 =>
      intro a hfu ha1 ha2 H locs ls hP hD hS hl
      refine lv_iload hx hb dX3_letterChosenBehind_16 (lv_at hl 4 rfl) ?_
      refine lv_bipush (v := nI 26) hx hb dX3_letterChosenBehind_18 (by decide) ?_
      refine lv_icmp_ge (tgt := 53) hx hb dX3_letterChosenBehind_20 (by decide) (fun c_20_1 => ?_) (fun c_20_1 => ?_)
      · skip
        have n_20_1 : 26 ≤ a := (nI_leI (a := 26) (b := a) (by omega) (by omega)).mp c_20_1
        refine lv_iconst (v := -1) hx hb dX3_letterChosenBehind_53 (by decide) ?_
        exact hret (-1) (DW g d v f (nI cnt) (nI ll)) _ _ _ _ dX3_letterChosenBehind_54 (⟨rfl, Or.inr ⟨fun b hb => ha2 b (by omega), rfl⟩⟩) hP hD hS
      · skip
        have n_20_1 : ¬ 26 ≤ a := fun q9 => c_20_1 ((nI_leI (a := 26) (b := a) (by omega) (by omega)).mpr q9)
        refine lv_iload_n hx hb dX3_letterChosenBehind_23 rfl (lv_at hl 2 rfl) ?_
        refine lv_iload hx hb dX3_letterChosenBehind_24 (lv_at hl 4 rfl) ?_
        refine call_iP (As := [.int (nI (opM S ll F cnt)), .int (nI (a))]) (rest := []) ⟨hx, hb, hml, hown, hts⟩ (c_X3_isIn l (opM S ll F cnt) a hmk (by omega)) (va_cwS 2 hts gX3_letterChosenBehind_X3_isIn rfl rfl rfl (by decide +kernel) ⟨Nat.le_of_ble_eq_true rfl, Nat.le_of_ble_eq_true rfl⟩) hP hK hD hS hA rfl hl.1 rfl (Nat.le_of_ble_eq_true rfl) dX3_letterChosenBehind_26 ⟨Nat.le_refl _, Nat.le_refl _⟩ (fun r_26 H locs h_26 hP hD hS => ?_)
        refine lv_if_eq (tgt := 47) hx hb dX3_letterChosenBehind_29 (by decide) (fun c_29_2 => ?_) (fun c_29_2 => ?_)
        · skip
          have n_29_2 := Bv.f h_26 c_29_2
          refine lv_iinc (v := (nI (a + 1))) (lv' := [(5, .int (nI (a + 1))), (0, .ref (d)), (1, .long (lN (F))), (3, .int (nI (opM S ll F cnt))), (4, .int (zI (sc (fun F => opM S ll F cnt) (hwB S cnt ll) (10 - rwL F) F)))]) hx hb dX3_letterChosenBehind_47 hl (k := 4) rfl (nI_add (a) 1) (by decide) rfl (fun ls hl => ?_)
          refine lv_goto (tgt := 16) hx hb dX3_letterChosenBehind_50 (by decide) ?_
          exact ih_16 (a + 1) (by omega) (by omega) (lt_s ha2 (fun q9 => n_29_2 q9.1)) _ _ _ hP hD hS (lv_sub hl [1, 2, 3, 4, 0] rfl)
        · skip
          have n_29_2 := Bv.t h_26 c_29_2
          have hF9 : rwL F < 10 := by
            obtain ⟨j, h1, h2, -⟩ := opM_bit.mp n_29_2
            have h3 := h2.lt
            have h4 := (hf j h1).2.1
            omega
          refine lv_aload_n hx hb dX3_letterChosenBehind_32 rfl (lv_at hl 0 rfl) ?_
          refine lv_lload_n hx hb dX3_letterChosenBehind_33 rfl (lv_at hl 1 rfl) ?_
          refine lv_iload hx hb dX3_letterChosenBehind_34 (lv_at hl 4 rfl) ?_
          refine call_iSW (As := [.ref (d), .long (lN (F)), .int (nI (a))]) (rest := []) ⟨hx, hb, hml, hown, hts⟩ (c_X3_scoreOf l g d v f S cnt ll hf hc hll (9 - rwL F) F a (by omega) hF (by omega) (by omega)) (va_cwS 3 hts gX3_letterChosenBehind_X3_scoreOfLetter rfl rfl rfl (by decide +kernel) ⟨Nat.le_of_ble_eq_true rfl, Nat.le_of_ble_eq_true rfl⟩) hP hK hD hS hA rfl hl.1 rfl (Nat.le_of_ble_eq_true rfl) dX3_letterChosenBehind_36 ⟨Nat.le_refl _, Nat.le_refl _⟩ (fun r_36 w H locs h_36 hP hD hS => ?_)
          obtain ⟨rfl, h_36⟩ := h_36
          subst h_36
          have hlb := scL_b (fun F => opM S ll F cnt) (hwB S cnt ll) (9 - rwL F) F a
          have hP : va_P g.1 vwCl (DW g d v f (nI cnt) (nI ll)) H := hP
          have hD : va_D A (DW g d v f (nI cnt) (nI ll)) := hD
          refine lv_iload hx hb dX3_letterChosenBehind_39 (lv_at hl 3 rfl) ?_
          refine lv_icmp_ne (tgt := 47) hx hb dX3_letterChosenBehind_41 (by decide) (fun c_41_3 => ?_) (fun c_41_3 => ?_)
          · skip
            have n_41_3 : ¬ scL (fun F => opM S ll F cnt) (hwB S cnt ll) (9 - rwL F) F a = sc (fun F => opM S ll F cnt) (hwB S cnt ll) (10 - rwL F) F := fun q9 => c_41_3 ((zI_eq (by omega) (by omega) (by omega) (by omega)).mpr q9)
            refine lv_iinc (v := (nI (a + 1))) (lv' := [(5, .int (nI (a + 1))), (0, .ref (d)), (1, .long (lN (F))), (3, .int (nI (opM S ll F cnt))), (4, .int (zI (sc (fun F => opM S ll F cnt) (hwB S cnt ll) (10 - rwL F) F)))]) hx hb dX3_letterChosenBehind_47 hl (k := 4) rfl (nI_add (a) 1) (by decide) rfl (fun ls hl => ?_)
            refine lv_goto (tgt := 16) hx hb dX3_letterChosenBehind_50 (by decide) ?_
            exact ih_16 (a + 1) (by omega) (by omega) (lt_s ha2 (fun q9 => n_41_3 q9.2)) _ _ _ hP hD hS (lv_sub hl [1, 2, 3, 4, 0] rfl)
          · skip
            have n_41_3 : scL (fun F => opM S ll F cnt) (hwB S cnt ll) (9 - rwL F) F a = sc (fun F => opM S ll F cnt) (hwB S cnt ll) (10 - rwL F) F := (zI_eq (by omega) (by omega) (by omega) (by omega)).mp c_41_3
            refine lv_iload hx hb dX3_letterChosenBehind_44 (lv_at hl 4 rfl) ?_
            exact hret (nI (a)) (DW g d v f (nI cnt) (nI ll)) _ _ _ _ dX3_letterChosenBehind_46 (⟨rfl, Or.inl ⟨a, by omega, ⟨n_29_2, n_41_3⟩, ha2, rfl⟩⟩) hP hD hS
  exact L_16 (_ + 1) 0 (Nat.lt_succ_self _) (Nat.zero_le _) (fun b h => absurd h (Nat.not_lt_zero _)) _ _ _ hP hD hS (lv_sub hl [3, 4, 2, 1, 0] rfl)

abbrev rm_X3_otherSideCompletes : Room := { frames := 1, cells := 0, slots := 0, locals := 21 }
set_option maxHeartbeats 4000000 in
set_option maxRecDepth 100000 in
theorem c_X3_otherSideCompletes (l : Launch) (Y F : Nat) (hW : RV Y) (hF : RV F) (hl0 : rwL F ≤ rwL Y) : Pi l yX3_otherSideCompletes wsX3_otherSideCompletes rm_X3_otherSideCompletes [.long (lN (Y)), .long (lN (F))] (fun r => Bv r ((rwL Y - rwL F) % 2 = 0)) := by
  intro g
  refine Ci.ofZ (cc := cX3_otherSideCompletes) (maxL := 4) (by decide) rfl (Nat.le_of_ble_eq_true rfl) ?_
  intro p e s m args below meth c A Z hx hb hml hts hown hK hA hret H locs ls hP hD hS hl
  have hl : lv_has ls 4 [(0, .long (lN (Y))), (2, .long (lN (F)))] := hl
  have h10 := hW.1
  refine lv_lload_n hx hb dX3_otherSideCompletes_0 rfl (lv_at hl 0 rfl) ?_
  refine call_iP (As := [.long (lN (Y))]) (rest := []) ⟨hx, hb, hml, hown, hts⟩ (c_X2_lengthOf l Y (hW).lt) (va_cwS 1 hts gX3_otherSideCompletes_X2_lengthOf rfl rfl rfl (by decide +kernel) ⟨Nat.le_of_ble_eq_true rfl, Nat.le_of_ble_eq_true rfl⟩) hP hK hD hS hA rfl hl.1 rfl (Nat.le_of_ble_eq_true rfl) dX3_otherSideCompletes_1 ⟨Nat.le_refl _, Nat.le_refl _⟩ (fun r_1 H locs h_1 hP hD hS => ?_)
  subst h_1
  refine lv_lload_n hx hb dX3_otherSideCompletes_4 rfl (lv_at hl 1 rfl) ?_
  refine call_iP (As := [.long (lN (F))]) (rest := [.int (nI (rwL Y))]) ⟨hx, hb, hml, hown, hts⟩ (c_X2_lengthOf l F (hF).lt) (va_cwS 1 hts gX3_otherSideCompletes_X2_lengthOf rfl rfl rfl (by decide +kernel) ⟨Nat.le_of_ble_eq_true rfl, Nat.le_of_ble_eq_true rfl⟩) hP hK hD hS hA rfl hl.1 rfl (Nat.le_of_ble_eq_true rfl) dX3_otherSideCompletes_5 ⟨Nat.le_refl _, Nat.le_refl _⟩ (fun r_5 H locs h_5 hP hD hS => ?_)
  subst h_5
  refine lv_isub hx hb dX3_otherSideCompletes_8 ?_
  refine tp_i (pk_sub (a := rwL Y) (b := rwL F) (by omega)) ?_
  refine lv_iconst (v := nI 2) hx hb dX3_otherSideCompletes_9 (by decide) ?_
  refine lv_irem hx hb dX3_otherSideCompletes_10 (by decide) ?_
  refine tp_i (b := (nI ((rwL Y - rwL F) % 2))) (pk_rem (by omega) (by decide) (by decide)) ?_
  refine lv_if_ne (tgt := 18) hx hb dX3_otherSideCompletes_11 (by decide) (fun c_11_1 => ?_) (fun c_11_1 => ?_)
  · skip
    have n_11_1 : ¬ (rwL Y - rwL F) % 2 = 0 := fun q9 => c_11_1 ((nI_eq (a := (rwL Y - rwL F) % 2) (b := 0) (by omega) (by omega)).mpr q9)
    refine lv_iconst (v := nI 0) hx hb dX3_otherSideCompletes_18 (by decide) ?_
    exact hret (nI (0)) [] _ _ _ _ dX3_otherSideCompletes_19 (Or.inl rfl) (⟨rfl, Bv.no (by omega)⟩) hP hD hS
  · skip
    have n_11_1 : (rwL Y - rwL F) % 2 = 0 := (nI_eq (a := (rwL Y - rwL F) % 2) (b := 0) (by omega) (by omega)).mp c_11_1
    refine lv_iconst (v := nI 1) hx hb dX3_otherSideCompletes_14 (by decide) ?_
    refine lv_goto (tgt := 19) hx hb dX3_otherSideCompletes_15 (by decide) ?_
    exact hret (nI (1)) [] _ _ _ _ dX3_otherSideCompletes_19 (Or.inr rfl) (⟨rfl, Bv.yes (by omega)⟩) hP hD hS

abbrev rm_X3_isWay : Room := { frames := 3, cells := 0, slots := 0, locals := 69 }
set_option maxHeartbeats 4000000 in
set_option maxRecDepth 100000 in
theorem c_X3_isWay (l : Launch) (g : GG) (d v : Nat) (f : Nat → Int64) (S : Nat → Nat) (cnt ll : Nat) (hf : DR f S cnt) (hc : cnt ≤ 50) (hll : ll ≤ 10) (Y F : Nat) (hW : RV Y) (hF : RV F) : Ci l yX3_isWay wsX3_isWay rm_X3_isWay g [.ref (d), .long (lN (Y)), .long (lN (F))] (DW g d v f (nI cnt) (nI ll)) (fun r w => w = (DW g d v f (nI cnt) (nI ll)) ∧ Bv r (wyP S cnt ll F Y)) := by
  refine Ci.ofZ (cc := cX3_isWay) (maxL := 6) (by decide) rfl (Nat.le_of_ble_eq_true rfl) ?_
  intro p e s m args below meth c A Z hx hb hml hts hown hK hA hret H locs ls hP hD hS hl
  have hl : lv_has ls 6 [(0, .ref (d)), (1, .long (lN (Y))), (3, .long (lN (F)))] := hl
  have h10 := hW.1
  have h11 := hF.1
  refine lv_aload_n hx hb dX3_isWay_0 rfl (lv_at hl 0 rfl) ?_
  refine lv_lload_n hx hb dX3_isWay_1 rfl (lv_at hl 1 rfl) ?_
  refine lv_lload_n hx hb dX3_isWay_2 rfl (lv_at hl 2 rfl) ?_
  refine call_iSW (As := [.ref (d), .long (lN (Y)), .long (lN (F))]) (rest := []) ⟨hx, hb, hml, hown, hts⟩ (c_X3_leadsOn l g d v f S cnt ll hf hc hll Y F hW hF) (va_cwS 3 hts gX3_isWay_X3_leadsOn rfl rfl rfl (by decide +kernel) ⟨Nat.le_of_ble_eq_true rfl, Nat.le_of_ble_eq_true rfl⟩) hP hK hD hS hA rfl hl.1 rfl (Nat.le_of_ble_eq_true rfl) dX3_isWay_3 ⟨Nat.le_refl _, Nat.le_refl _⟩ (fun r_3 w H locs h_3 hP hD hS => ?_)
  obtain ⟨rfl, h_3⟩ := h_3
  have hP : va_P g.1 vwCl (DW g d v f (nI cnt) (nI ll)) H := hP
  have hD : va_D A (DW g d v f (nI cnt) (nI ll)) := hD
  refine lv_if_ne (tgt := 11) hx hb dX3_isWay_6 (by decide) (fun c_6_1 => ?_) (fun c_6_1 => ?_)
  · skip
    have n_6_1 := Bv.t h_3 c_6_1
    refine lv_lload_n hx hb dX3_isWay_11 rfl (lv_at hl 2 rfl) ?_
    refine call_iP (As := [.long (lN (F))]) (rest := []) ⟨hx, hb, hml, hown, hts⟩ (c_X2_lengthOf l F (hF).lt) (va_cwS 1 hts gX3_isWay_X2_lengthOf rfl rfl rfl (by decide +kernel) ⟨Nat.le_of_ble_eq_true rfl, Nat.le_of_ble_eq_true rfl⟩) hP hK hD hS hA rfl hl.1 rfl (Nat.le_of_ble_eq_true rfl) dX3_isWay_12 ⟨Nat.le_refl _, Nat.le_refl _⟩ (fun r_12 H locs h_12 hP hD hS => ?_)
    subst h_12
    refine lv_iconst (v := nI 1) hx hb dX3_isWay_15 (by decide) ?_
    refine lv_iadd hx hb dX3_isWay_16 ?_
    refine tp_i (nI_add (rwL F) 1) ?_
    refine lv_istore (lv' := [(5, .int (nI ((rwL F) + 1))), (0, .ref (d)), (1, .long (lN (Y))), (3, .long (lN (F)))]) hx hb dX3_isWay_17 hl (by decide) rfl (fun ls hl => ?_)
    have L_19 : ∀ (fu : Nat) (k : Nat), 20 - k < fu → (rwL F < k) → (∀ j, rwL F < j → j < k → ¬ (ll ≤ j ∧ inS S cnt (rwB Y j))) → (k ≤ 11) → ∀ (H : Heap) (locs : List Loc) (ls : Array Slot), va_P g.1 vwCl (DW g d v f (nI cnt) (nI ll)) H → va_D A (DW g d v f (nI cnt) (nI ll)) → va_S A s.heap H locs → lv_has ls 6 [(0, .ref (d)), (1, .long (lN (Y))), (3, .long (lN (F))), (5, .int (nI (k)))] → W p l e rm_X3_isWay s m args below meth c H locs 0 0 Z (F0 m 19 ls []) := by
      intro fu
      induction fu with
      | zero => intro _ h0; exact absurd h0 (Nat.not_lt_zero _)
      | succ fu ih_19 =>
        intro k hfu hk1 hk2 hk3 H locs ls hP hD hS hl
        refine lv_iload hx hb dX3_isWay_19 (lv_at hl 3 rfl) ?_
        refine lv_lload_n hx hb dX3_isWay_21 rfl (lv_at hl 1 rfl) ?_
        refine call_iP (As := [.long (lN (Y))]) (rest := [.int (nI (k))]) ⟨hx, hb, hml, hown, hts⟩ (c_X2_lengthOf l Y (hW).lt) (va_cwS 1 hts gX3_isWay_X2_lengthOf rfl rfl rfl (by decide +kernel) ⟨Nat.le_of_ble_eq_true rfl, Nat.le_of_ble_eq_true rfl⟩) hP hK hD hS hA rfl hl.1 rfl (Nat.le_of_ble_eq_true rfl) dX3_isWay_22 ⟨Nat.le_refl _, Nat.le_refl _⟩ (fun r_22 H locs h_22 hP hD hS => ?_)
        subst h_22
        refine lv_icmp_ge (tgt := 49) hx hb dX3_isWay_25 (by decide) (fun c_25_2 => ?_) (fun c_25_2 => ?_)
        · skip
          have n_25_2 : rwL Y ≤ k := (nI_leI (a := rwL Y) (b := k) (by omega) (by omega)).mp c_25_2
          refine lv_iconst (v := nI 1) hx hb dX3_isWay_49 (by decide) ?_
          exact hret (nI (1)) (DW g d v f (nI cnt) (nI ll)) _ _ _ _ dX3_isWay_50 (Or.inr rfl) (⟨rfl, Bv.yes ⟨n_6_1, fun j h1 h2 => hk2 j h1 (by omega)⟩⟩) hP hD hS
        · skip
          have n_25_2 : ¬ rwL Y ≤ k := fun q9 => c_25_2 ((nI_leI (a := rwL Y) (b := k) (by omega) (by omega)).mpr q9)
          refine lv_aload_n hx hb dX3_isWay_28 rfl (lv_at hl 0 rfl) ?_
          refine lv_lload_n hx hb dX3_isWay_29 rfl (lv_at hl 1 rfl) ?_
          refine lv_iload hx hb dX3_isWay_30 (lv_at hl 3 rfl) ?_
          refine call_lP (As := [.long (lN (Y)), .int (nI (k))]) (rest := [.ref (d)]) ⟨hx, hb, hml, hown, hts⟩ (c_X2_beginning l Y k hW (by omega)) (va_cwS 2 hts gX3_isWay_X2_beginning rfl rfl rfl (by decide +kernel) ⟨Nat.le_of_ble_eq_true rfl, Nat.le_of_ble_eq_true rfl⟩) hP hK hD hS hA rfl hl.1 rfl (Nat.le_of_ble_eq_true rfl) dX3_isWay_32 ⟨Nat.le_refl _, Nat.le_refl _⟩ (fun r_32 H locs h_32 hP hD hS => ?_)
          subst h_32
          refine call_iVW (As := [.long (lN (rwB Y k))]) (rest := []) ⟨hx, hb, hml, hown, hts⟩ (c_X0_hasCounting l g d v f S cnt ll hf hc hll (rwB Y k) (hW.rb (by omega))) (cwV 1 hts gX3_isWay_X0_hasCounting rfl rfl rfl (by decide +kernel) ⟨Nat.le_of_ble_eq_true rfl, Nat.le_of_ble_eq_true rfl⟩) hP hK hD hS hA 0 rfl rfl rfl rfl hl.1 rfl (Nat.le_of_ble_eq_true rfl) dX3_isWay_35 ⟨Nat.le_refl _, Nat.le_refl _⟩ (fun r_35 w H locs h_35 hP hD hS => ?_)
          obtain ⟨rfl, h_35⟩ := h_35
          have hP : va_P g.1 vwCl (DW g d v f (nI cnt) (nI ll)) H := hP
          have hD : va_D A (DW g d v f (nI cnt) (nI ll)) := hD
          refine lv_if_eq (tgt := 43) hx hb dX3_isWay_38 (by decide) (fun c_38_3 => ?_) (fun c_38_3 => ?_)
          · skip
            have n_38_3 := Bv.f h_35 c_38_3
            refine lv_iinc (v := (nI (k + 1))) (lv' := [(5, .int (nI (k + 1))), (0, .ref (d)), (1, .long (lN (Y))), (3, .long (lN (F)))]) hx hb dX3_isWay_43 hl (k := 3) rfl (nI_add (k) 1) (by decide) rfl (fun ls hl => ?_)
            refine lv_goto (tgt := 19) hx hb dX3_isWay_46 (by decide) ?_
            exact ih_19 (k + 1) (by omega) (by omega) (fun j a b => if e9 : j = k then (by have := n_38_3; rw [hW.rbl (by omega)] at this; rw [e9]; exact this) else hk2 j a (by omega)) (by omega) _ _ _ hP hD hS (lv_sub hl [1, 2, 3, 0] rfl)
          · skip
            have n_38_3 := Bv.t h_35 c_38_3
            refine lv_iconst (v := nI 0) hx hb dX3_isWay_41 (by decide) ?_
            exact hret (nI (0)) (DW g d v f (nI cnt) (nI ll)) _ _ _ _ dX3_isWay_42 (Or.inl rfl) (⟨rfl, Bv.no (fun q9 => q9.2 k (by omega) (by omega) (by have := n_38_3; rw [hW.rbl (by omega)] at this; exact this))⟩) hP hD hS
    exact L_19 (_ + 1) ((rwL F) + 1) (Nat.lt_succ_self _) (Nat.lt_succ_self _) (fun j a b => absurd a (by omega)) (by omega) _ _ _ hP hD hS (lv_sub hl [1, 2, 3, 0] rfl)
  · skip
    have n_6_1 := Bv.f h_3 c_6_1
    refine lv_iconst (v := nI 0) hx hb dX3_isWay_9 (by decide) ?_
    exact hret (nI (0)) (DW g d v f (nI cnt) (nI ll)) _ _ _ _ dX3_isWay_10 (Or.inl rfl) (⟨rfl, Bv.no (fun q9 => n_6_1 q9.1)⟩) hP hD hS

abbrev rm_X3_countWays : Room := { frames := 4, cells := 0, slots := 0, locals := 94 }
set_option maxHeartbeats 4000000 in
set_option maxRecDepth 100000 in
theorem c_X3_countWays (l : Launch) (g : GG) (d v : Nat) (f : Nat → Int64) (S : Nat → Nat) (cnt ll : Nat) (hf : DR f S cnt) (hc : cnt ≤ 50) (hll : ll ≤ 10) (F : Nat) (hF : RV F) : Ci l yX3_countWays wsX3_countWays rm_X3_countWays g [.ref (d), .long (lN (F))] (DW g d v f (nI cnt) (nI ll)) (fun r w => w = (DW g d v f (nI cnt) (nI ll)) ∧ r = nI (fb_ct (fun i => bB (wyP S cnt ll F (S i))) cnt)) := by
  refine Ci.ofI (cc := cX3_countWays) (maxL := 5) (by decide) rfl (Nat.le_of_ble_eq_true rfl) ?_
  intro p e s m args below meth c A Z hx hb hml hts hown hK hA hret H locs ls hP hD hS hl
  have hl : lv_has ls 5 [(0, .ref (d)), (1, .long (lN (F)))] := hl
  refine lv_iconst (v := nI 0) hx hb dX3_countWays_0 (by decide) ?_
  refine lv_istore_n (lv' := [(3, .int (nI (0))), (0, .ref (d)), (1, .long (lN (F)))]) hx hb dX3_countWays_1 rfl hl (by decide) rfl (fun ls hl => ?_)
  refine lv_iconst (v := nI 0) hx hb dX3_countWays_2 (by decide) ?_
  refine lv_istore (lv' := [(4, .int (nI (0))), (3, .int (nI (0))), (0, .ref (d)), (1, .long (lN (F)))]) hx hb dX3_countWays_3 hl (by decide) rfl (fun ls hl => ?_)
  have L_5 : ∀ (fu : Nat) (i c0 : Nat), cnt - i < fu → (i ≤ cnt) → (c0 = fb_ct (fun i => bB (wyP S cnt ll F (S i))) i) → ∀ (H : Heap) (locs : List Loc) (ls : Array Slot), va_P g.1 vwCl (DW g d v f (nI cnt) (nI ll)) H → va_D A (DW g d v f (nI cnt) (nI ll)) → va_S A s.heap H locs → lv_has ls 5 [(0, .ref (d)), (1, .long (lN (F))), (3, .int (nI (c0))), (4, .int (nI (i)))] → W p l e rm_X3_countWays s m args below meth c H locs 0 0 Z (F0 m 5 ls []) := by
    intro fu
    induction fu with
    | zero => intro _ _ h0; exact absurd h0 (Nat.not_lt_zero _)
    | succ fu ih_5 =>
      intro i c0 hfu hi1 hc1 H locs ls hP hD hS hl
      refine lv_iload hx hb dX3_countWays_5 (lv_at hl 3 rfl) ?_
      refine lv_aload_n hx hb dX3_countWays_7 rfl (lv_at hl 0 rfl) ?_
      refine call_iVW (As := []) (rest := [.int (nI (i))]) ⟨hx, hb, hml, hown, hts⟩ (c_X0_size l g d v f S cnt ll hf hc) (cwV 0 hts gX3_countWays_X0_size rfl rfl rfl (by decide +kernel) ⟨Nat.le_of_ble_eq_true rfl, Nat.le_of_ble_eq_true rfl⟩) hP hK hD hS hA 0 rfl rfl rfl rfl hl.1 rfl (Nat.le_of_ble_eq_true rfl) dX3_countWays_8 ⟨Nat.le_refl _, Nat.le_refl _⟩ (fun r_8 w H locs h_8 hP hD hS => ?_)
      obtain ⟨rfl, h_8⟩ := h_8
      subst h_8
      have hP : va_P g.1 vwCl (DW g d v f (nI cnt) (nI ll)) H := hP
      have hD : va_D A (DW g d v f (nI cnt) (nI ll)) := hD
      refine lv_icmp_ge (tgt := 37) hx hb dX3_countWays_11 (by decide) (fun c_11_1 => ?_) (fun c_11_1 => ?_)
      · skip
        have n_11_1 : cnt ≤ i := (nI_leI (a := cnt) (b := i) (by omega) (by omega)).mp c_11_1
        refine lv_iload_n hx hb dX3_countWays_37 rfl (lv_at hl 2 rfl) ?_
        exact hret (nI (c0)) (DW g d v f (nI cnt) (nI ll)) _ _ _ _ dX3_countWays_38 (⟨rfl, by rw [hc1, show i = cnt by omega]⟩) hP hD hS
      · skip
        have n_11_1 : ¬ cnt ≤ i := fun q9 => c_11_1 ((nI_leI (a := cnt) (b := i) (by omega) (by omega)).mpr q9)
        refine lv_aload_n hx hb dX3_countWays_14 rfl (lv_at hl 0 rfl) ?_
        refine lv_aload_n hx hb dX3_countWays_15 rfl (lv_at hl 0 rfl) ?_
        refine lv_iload hx hb dX3_countWays_16 (lv_at hl 3 rfl) ?_
        refine call_lVW (As := [.int (nI (i))]) (rest := [.ref (d)]) ⟨hx, hb, hml, hown, hts⟩ (c_X0_wordAt l g d v f S cnt ll hf hc (nI (i))) (cwV 1 hts gX3_countWays_X0_wordAt rfl rfl rfl (by decide +kernel) ⟨Nat.le_of_ble_eq_true rfl, Nat.le_of_ble_eq_true rfl⟩) hP hK hD hS hA 0 rfl rfl rfl rfl hl.1 rfl (Nat.le_of_ble_eq_true rfl) dX3_countWays_18 ⟨Nat.le_refl _, Nat.le_refl _⟩ (fun r_18 w H locs h_18 hP hD hS => ?_)
        obtain ⟨rfl, h_18⟩ := h_18
        replace h_18 := wa_at (i := i) (by omega) hc h_18
        subst h_18
        have hP : va_P g.1 vwCl (DW g d v f (nI cnt) (nI ll)) H := hP
        have hD : va_D A (DW g d v f (nI cnt) (nI ll)) := hD
        refine lv_lload_n hx hb dX3_countWays_21 rfl (lv_at hl 1 rfl) ?_
        refine call_iSW (As := [.ref (d), .long (lN (S i)), .long (lN (F))]) (rest := []) ⟨hx, hb, hml, hown, hts⟩ (c_X3_isWay l g d v f S cnt ll hf hc hll (S i) F (hf i (by omega)).2 hF) (va_cwS 3 hts gX3_countWays_X3_isWay rfl rfl rfl (by decide +kernel) ⟨Nat.le_of_ble_eq_true rfl, Nat.le_of_ble_eq_true rfl⟩) hP hK hD hS hA rfl hl.1 rfl (Nat.le_of_ble_eq_true rfl) dX3_countWays_22 ⟨Nat.le_refl _, Nat.le_refl _⟩ (fun r_22 w H locs h_22 hP hD hS => ?_)
        obtain ⟨rfl, h_22⟩ := h_22
        have hP : va_P g.1 vwCl (DW g d v f (nI cnt) (nI ll)) H := hP
        have hD : va_D A (DW g d v f (nI cnt) (nI ll)) := hD
        refine lv_if_eq (tgt := 31) hx hb dX3_countWays_25 (by decide) (fun c_25_2 => ?_) (fun c_25_2 => ?_)
        · skip
          have n_25_2 := Bv.f h_22 c_25_2
          refine lv_iinc (v := (nI (i + 1))) (lv' := [(4, .int (nI (i + 1))), (0, .ref (d)), (1, .long (lN (F))), (3, .int (nI (c0)))]) hx hb dX3_countWays_31 hl (k := 3) rfl (nI_add (i) 1) (by decide) rfl (fun ls hl => ?_)
          refine lv_goto (tgt := 5) hx hb dX3_countWays_34 (by decide) ?_
          exact ih_5 (i + 1) c0 (by omega) (by omega) (ct_f hc1 (bB_f n_25_2)) _ _ _ hP hD hS (lv_sub hl [1, 2, 3, 0] rfl)
        · skip
          have n_25_2 := Bv.t h_22 c_25_2
          refine lv_iinc (v := (nI (c0 + 1))) (lv' := [(3, .int (nI (c0 + 1))), (0, .ref (d)), (1, .long (lN (F))), (4, .int (nI (i)))]) hx hb dX3_countWays_28 hl (k := 2) rfl (nI_add (c0) 1) (by decide) rfl (fun ls hl => ?_)
          refine lv_iinc (v := (nI (i + 1))) (lv' := [(4, .int (nI (i + 1))), (3, .int (nI (c0 + 1))), (0, .ref (d)), (1, .long (lN (F)))]) hx hb dX3_countWays_31 hl (k := 3) rfl (nI_add (i) 1) (by decide) rfl (fun ls hl => ?_)
          refine lv_goto (tgt := 5) hx hb dX3_countWays_34 (by decide) ?_
          exact ih_5 (i + 1) (c0 + 1) (by omega) (by omega) (ct_t hc1 (bB_t n_25_2)) _ _ _ hP hD hS (lv_sub hl [2, 3, 1, 0] rfl)
  exact L_5 (_ + 1) 0 0 (Nat.lt_succ_self _) (Nat.zero_le _) (rfl) _ _ _ hP hD hS (lv_sub hl [2, 3, 1, 0] rfl)

abbrev rm_X3_countWonWays : Room := { frames := 4, cells := 0, slots := 0, locals := 94 }
set_option maxHeartbeats 4000000 in
set_option maxRecDepth 100000 in
theorem c_X3_countWonWays (l : Launch) (g : GG) (d v : Nat) (f : Nat → Int64) (S : Nat → Nat) (cnt ll : Nat) (hf : DR f S cnt) (hc : cnt ≤ 50) (hll : ll ≤ 10) (F : Nat) (hF : RV F) : Ci l yX3_countWonWays wsX3_countWonWays rm_X3_countWonWays g [.ref (d), .long (lN (F))] (DW g d v f (nI cnt) (nI ll)) (fun r w => w = (DW g d v f (nI cnt) (nI ll)) ∧ r = nI (fb_ct (fun i => bB (wyP S cnt ll F (S i) ∧ (rwL (S i) - rwL F) % 2 = 0)) cnt)) := by
  refine Ci.ofI (cc := cX3_countWonWays) (maxL := 7) (by decide) rfl (Nat.le_of_ble_eq_true rfl) ?_
  intro p e s m args below meth c A Z hx hb hml hts hown hK hA hret H locs ls hP hD hS hl
  have hl : lv_has ls 7 [(0, .ref (d)), (1, .long (lN (F)))] := hl
  refine lv_iconst (v := nI 0) hx hb dX3_countWonWays_0 (by decide) ?_
  refine lv_istore_n (lv' := [(3, .int (nI (0))), (0, .ref (d)), (1, .long (lN (F)))]) hx hb dX3_countWonWays_1 rfl hl (by decide) rfl (fun ls hl => ?_)
  refine lv_iconst (v := nI 0) hx hb dX3_countWonWays_2 (by decide) ?_
  refine lv_istore (lv' := [(4, .int (nI (0))), (3, .int (nI (0))), (0, .ref (d)), (1, .long (lN (F)))]) hx hb dX3_countWonWays_3 hl (by decide) rfl (fun ls hl => ?_)
  have L_5 : ∀ (fu : Nat) (i c0 : Nat), cnt - i < fu → (i ≤ cnt) → (c0 = fb_ct (fun i => bB (wyP S cnt ll F (S i) ∧ (rwL (S i) - rwL F) % 2 = 0)) i) → ∀ (H : Heap) (locs : List Loc) (ls : Array Slot), va_P g.1 vwCl (DW g d v f (nI cnt) (nI ll)) H → va_D A (DW g d v f (nI cnt) (nI ll)) → va_S A s.heap H locs → lv_has ls 7 [(0, .ref (d)), (1, .long (lN (F))), (3, .int (nI (c0))), (4, .int (nI (i)))] → W p l e rm_X3_countWonWays s m args below meth c H locs 0 0 Z (F0 m 5 ls []) := by
    intro fu
    induction fu with
    | zero => intro _ _ h0; exact absurd h0 (Nat.not_lt_zero _)
    | succ fu ih_5 =>
      intro i c0 hfu hi1 hc1 H locs ls hP hD hS hl
      refine lv_iload hx hb dX3_countWonWays_5 (lv_at hl 3 rfl) ?_
      refine lv_aload_n hx hb dX3_countWonWays_7 rfl (lv_at hl 0 rfl) ?_
      refine call_iVW (As := []) (rest := [.int (nI (i))]) ⟨hx, hb, hml, hown, hts⟩ (c_X0_size l g d v f S cnt ll hf hc) (cwV 0 hts gX3_countWonWays_X0_size rfl rfl rfl (by decide +kernel) ⟨Nat.le_of_ble_eq_true rfl, Nat.le_of_ble_eq_true rfl⟩) hP hK hD hS hA 0 rfl rfl rfl rfl hl.1 rfl (Nat.le_of_ble_eq_true rfl) dX3_countWonWays_8 ⟨Nat.le_refl _, Nat.le_refl _⟩ (fun r_8 w H locs h_8 hP hD hS => ?_)
      obtain ⟨rfl, h_8⟩ := h_8
      subst h_8
      have hP : va_P g.1 vwCl (DW g d v f (nI cnt) (nI ll)) H := hP
      have hD : va_D A (DW g d v f (nI cnt) (nI ll)) := hD
      refine lv_icmp_ge (tgt := 50) hx hb dX3_countWonWays_11 (by decide) (fun c_11_1 => ?_) (fun c_11_1 => ?_)
      · skip
        have n_11_1 : cnt ≤ i := (nI_leI (a := cnt) (b := i) (by omega) (by omega)).mp c_11_1
        refine lv_iload_n hx hb dX3_countWonWays_50 rfl (lv_at hl 2 rfl) ?_
        exact hret (nI (c0)) (DW g d v f (nI cnt) (nI ll)) _ _ _ _ dX3_countWonWays_51 (⟨rfl, by rw [hc1, show i = cnt by omega]⟩) hP hD hS
      · skip
        have n_11_1 : ¬ cnt ≤ i := fun q9 => c_11_1 ((nI_leI (a := cnt) (b := i) (by omega) (by omega)).mpr q9)
        refine lv_aload_n hx hb dX3_countWonWays_14 rfl (lv_at hl 0 rfl) ?_
        refine lv_iload hx hb dX3_countWonWays_15 (lv_at hl 3 rfl) ?_
        refine call_lVW (As := [.int (nI (i))]) (rest := []) ⟨hx, hb, hml, hown, hts⟩ (c_X0_wordAt l g d v f S cnt ll hf hc (nI (i))) (cwV 1 hts gX3_countWonWays_X0_wordAt rfl rfl rfl (by decide +kernel) ⟨Nat.le_of_ble_eq_true rfl, Nat.le_of_ble_eq_true rfl⟩) hP hK hD hS hA 0 rfl rfl rfl rfl hl.1 rfl (Nat.le_of_ble_eq_true rfl) dX3_countWonWays_17 ⟨Nat.le_refl _, Nat.le_refl _⟩ (fun r_17 w H locs h_17 hP hD hS => ?_)
        obtain ⟨rfl, h_17⟩ := h_17
        replace h_17 := wa_at (i := i) (by omega) hc h_17
        subst h_17
        have hP : va_P g.1 vwCl (DW g d v f (nI cnt) (nI ll)) H := hP
        have hD : va_D A (DW g d v f (nI cnt) (nI ll)) := hD
        refine lv_lstore (lv' := [(5, .long (lN (S i))), (0, .ref (d)), (1, .long (lN (F))), (3, .int (nI (c0))), (4, .int (nI (i)))]) hx hb dX3_countWonWays_20 hl (by decide) rfl (fun ls hl => ?_)
        refine lv_aload_n hx hb dX3_countWonWays_22 rfl (lv_at hl 1 rfl) ?_
        refine lv_lload hx hb dX3_countWonWays_23 (lv_at hl 0 rfl) ?_
        refine lv_lload_n hx hb dX3_countWonWays_25 rfl (lv_at hl 2 rfl) ?_
        refine call_iSW (As := [.ref (d), .long (lN (S i)), .long (lN (F))]) (rest := []) ⟨hx, hb, hml, hown, hts⟩ (c_X3_isWay l g d v f S cnt ll hf hc hll (S i) F (hf i (by omega)).2 hF) (va_cwS 3 hts gX3_countWonWays_X3_isWay rfl rfl rfl (by decide +kernel) ⟨Nat.le_of_ble_eq_true rfl, Nat.le_of_ble_eq_true rfl⟩) hP hK hD hS hA rfl hl.1 rfl (Nat.le_of_ble_eq_true rfl) dX3_countWonWays_26 ⟨Nat.le_refl _, Nat.le_refl _⟩ (fun r_26 w H locs h_26 hP hD hS => ?_)
        obtain ⟨rfl, h_26⟩ := h_26
        have hP : va_P g.1 vwCl (DW g d v f (nI cnt) (nI ll)) H := hP
        have hD : va_D A (DW g d v f (nI cnt) (nI ll)) := hD
        refine lv_if_eq (tgt := 44) hx hb dX3_countWonWays_29 (by decide) (fun c_29_2 => ?_) (fun c_29_2 => ?_)
        · skip
          have n_29_2 := Bv.f h_26 c_29_2
          refine lv_iinc (v := (nI (i + 1))) (lv' := [(4, .int (nI (i + 1))), (5, .long (lN (S i))), (0, .ref (d)), (1, .long (lN (F))), (3, .int (nI (c0)))]) hx hb dX3_countWonWays_44 hl (k := 4) rfl (nI_add (i) 1) (by decide) rfl (fun ls hl => ?_)
          refine lv_goto (tgt := 5) hx hb dX3_countWonWays_47 (by decide) ?_
          exact ih_5 (i + 1) c0 (by omega) (by omega) (ct_f hc1 (bB_f (fun q9 => n_29_2 q9.1))) _ _ _ hP hD hS (lv_sub hl [2, 3, 4, 0] rfl)
        · skip
          have n_29_2 := Bv.t h_26 c_29_2
          refine lv_lload hx hb dX3_countWonWays_32 (lv_at hl 0 rfl) ?_
          refine lv_lload_n hx hb dX3_countWonWays_34 rfl (lv_at hl 2 rfl) ?_
          refine call_iP (As := [.long (lN (S i)), .long (lN (F))]) (rest := []) ⟨hx, hb, hml, hown, hts⟩ (c_X3_otherSideCompletes l (S i) F (hf i (by omega)).2 hF (Nat.le_of_lt n_29_2.1.lt)) (va_cwS 2 hts gX3_countWonWays_X3_otherSideCompletes rfl rfl rfl (by decide +kernel) ⟨Nat.le_of_ble_eq_true rfl, Nat.le_of_ble_eq_true rfl⟩) hP hK hD hS hA rfl hl.1 rfl (Nat.le_of_ble_eq_true rfl) dX3_countWonWays_35 ⟨Nat.le_refl _, Nat.le_refl _⟩ (fun r_35 H locs h_35 hP hD hS => ?_)
          refine lv_if_eq (tgt := 44) hx hb dX3_countWonWays_38 (by decide) (fun c_38_3 => ?_) (fun c_38_3 => ?_)
          · skip
            have n_38_3 := Bv.f h_35 c_38_3
            refine lv_iinc (v := (nI (i + 1))) (lv' := [(4, .int (nI (i + 1))), (5, .long (lN (S i))), (0, .ref (d)), (1, .long (lN (F))), (3, .int (nI (c0)))]) hx hb dX3_countWonWays_44 hl (k := 4) rfl (nI_add (i) 1) (by decide) rfl (fun ls hl => ?_)
            refine lv_goto (tgt := 5) hx hb dX3_countWonWays_47 (by decide) ?_
            exact ih_5 (i + 1) c0 (by omega) (by omega) (ct_f hc1 (bB_f (fun q9 => n_38_3 q9.2))) _ _ _ hP hD hS (lv_sub hl [2, 3, 4, 0] rfl)
          · skip
            have n_38_3 := Bv.t h_35 c_38_3
            refine lv_iinc (v := (nI (c0 + 1))) (lv' := [(3, .int (nI (c0 + 1))), (5, .long (lN (S i))), (0, .ref (d)), (1, .long (lN (F))), (4, .int (nI (i)))]) hx hb dX3_countWonWays_41 hl (k := 3) rfl (nI_add (c0) 1) (by decide) rfl (fun ls hl => ?_)
            refine lv_iinc (v := (nI (i + 1))) (lv' := [(4, .int (nI (i + 1))), (3, .int (nI (c0 + 1))), (5, .long (lN (S i))), (0, .ref (d)), (1, .long (lN (F)))]) hx hb dX3_countWonWays_44 hl (k := 4) rfl (nI_add (i) 1) (by decide) rfl (fun ls hl => ?_)
            refine lv_goto (tgt := 5) hx hb dX3_countWonWays_47 (by decide) ?_
            exact ih_5 (i + 1) (c0 + 1) (by omega) (by omega) (ct_t hc1 (bB_t ⟨n_29_2, n_38_3⟩)) _ _ _ hP hD hS (lv_sub hl [3, 4, 1, 0] rfl)
  exact L_5 (_ + 1) 0 0 (Nat.lt_succ_self _) (Nat.zero_le _) (rfl) _ _ _ hP hD hS (lv_sub hl [2, 3, 1, 0] rfl)
