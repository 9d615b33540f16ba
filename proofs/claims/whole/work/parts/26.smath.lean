/-! the solver, of the class and of the reference, over one list of words -/
theorem scM_ge {mk : Nat} {fn : Nat → Int} : ∀ {a b : Nat}, b < a → mk.testBit b = true → fn b ≤ scM mk fn a
  | 0, _, h, _ => absurd h (Nat.not_lt_zero _)
  | a + 1, b, h, hb => by
    unfold scM
    by_cases q : mk.testBit a = true
    · rw [if_pos q]
      by_cases e : b = a
      · subst e; omega
      · have := scM_ge (mk := mk) (fn := fn) (a := a) (show b < a by omega) hb; omega
    · rw [if_neg q]
      by_cases e : b = a
      · subst e; exact absurd hb q
      · exact scM_ge (show b < a by omega) hb
theorem scM_at {mk : Nat} {fn : Nat → Int} (hf : ∀ a, -100 ≤ fn a) : ∀ {a : Nat}, (∃ b, b < a ∧ mk.testBit b = true) → ∃ b, b < a ∧ mk.testBit b = true ∧ fn b = scM mk fn a
  | 0, h => by obtain ⟨b, h, -⟩ := h; omega
  | a + 1, h => by
    by_cases q : mk.testBit a = true
    · have e : scM mk fn (a + 1) = max (scM mk fn a) (fn a) := by
        show (if mk.testBit a = true then _ else _) = _
        rw [if_pos q]
      rw [e]
      by_cases z : ∃ b, b < a ∧ mk.testBit b = true
      · obtain ⟨b, h1, h2, h3⟩ := scM_at hf z
        by_cases c : scM mk fn a ≤ fn a
        · exact ⟨a, by omega, q, by omega⟩
        · exact ⟨b, by omega, h2, by omega⟩
      · have e2 : ∀ c, c ≤ a → scM mk fn c = -100 := by
          intro c
          induction c with
          | zero => intro _; rfl
          | succ c ih =>
            intro hc
            unfold scM
            rw [if_neg (fun y => z ⟨c, by omega, y⟩)]
            exact ih (by omega)
        have := hf a
        have := e2 a (Nat.le_refl a)
        exact ⟨a, by omega, q, by omega⟩
    · have e : scM mk fn (a + 1) = scM mk fn a := by
        show (if mk.testBit a = true then _ else _) = _
        rw [if_neg q]
      rw [e]
      obtain ⟨b, h1, h2⟩ := h
      obtain ⟨b', h3, h4, h5⟩ := scM_at (mk := mk) hf (a := a) ⟨b, by rcases Nat.lt_or_ge b a with w | w; exact w; exact absurd (by rw [show b = a by omega] at h2; exact h2) q, h2⟩
      exact ⟨b', by omega, h4, h5⟩
theorem bit_of {mk : Nat} (h : mk < 67108864) (h0 : mk ≠ 0) : ∃ b, b < 26 ∧ mk.testBit b = true := by
  apply Classical.byContradiction
  intro q
  apply h0
  apply Nat.eq_of_testBit_eq
  intro i
  rw [Nat.zero_testBit]
  rcases Nat.lt_or_ge i 26 with w | w
  · rcases z : mk.testBit i with _ | _
    · rfl
    · exact absurd ⟨i, w, z⟩ q
  · exact Nat.testBit_lt_two_pow (Nat.lt_of_lt_of_le h (Nat.pow_le_pow_right (n := 2) (by decide) w))
theorem scA_abs {o : Int} {t : Nat} (h1 : t ≤ o.natAbs) (h2 : o.natAbs ≤ 100) (ht : 2 ≤ t) : t - 1 ≤ (scA o).natAbs ∧ (scA o).natAbs + 1 = o.natAbs := by
  unfold scA
  by_cases h : 0 < o
  · rw [if_pos h]; omega
  · rw [if_neg h]; omega
theorem scW_hi {om : Nat → Nat} {hw : Nat → Bool} {k F a : Nat} : ∀ {m : Nat}, m ≤ a → (scW om hw k F m).testBit a = false
  | 0, _ => Nat.zero_testBit a
  | m + 1, h => by
    by_cases q : (om F).testBit m = true ∧ 0 < scL om hw k F m
    · rw [← scW_t rfl q, mk_tb2, scW_hi (show m ≤ a by omega), Bool.false_or]
      exact decide_eq_false (by omega)
    · rw [← scW_f rfl q]
      exact scW_hi (show m ≤ a by omega)
theorem scW_bit {om : Nat → Nat} {hw : Nat → Bool} {k F a : Nat} : ∀ {m : Nat}, a < m → ((scW om hw k F m).testBit a = true ↔ (om F).testBit a = true ∧ 0 < scL om hw k F a)
  | 0, h => absurd h (Nat.not_lt_zero _)
  | m + 1, h => by
    by_cases q : (om F).testBit m = true ∧ 0 < scL om hw k F m
    · rw [← scW_t rfl q, mk_tb2, Bool.or_eq_true, decide_eq_true_iff]
      by_cases e : a = m
      · subst e; exact ⟨fun _ => q, fun _ => Or.inr rfl⟩
      · rw [scW_bit (show a < m by omega)]
        exact ⟨fun z => z.elim id (fun z => absurd z e), fun z => Or.inl z⟩
    · rw [← scW_f rfl q]
      by_cases e : a = m
      · subst e
        refine ⟨fun z => ?_, fun z => absurd z q⟩
        have := scW_hi (om := om) (hw := hw) (k := k) (F := F) (a := a) (m := a) (Nat.le_refl a)
        rw [this] at z
        exact absurd z Bool.false_ne_true
      · exact scW_bit (show a < m by omega)
section SMATH
variable {om : Nat → Nat} {hw : Nat → Bool}
theorem scL_abs {k F a : Nat} (hk : k ≤ 9) (h : ∀ F, 100 - k ≤ (sc om hw k F).natAbs) : 99 - k ≤ (scL om hw k F a).natAbs ∧ (scL om hw k F a).natAbs ≤ 99 := by
  unfold scL
  by_cases z : hw (rwX F a) = true
  · rw [if_pos z]
    have := scA_abs (o := 100) (t := 100) (by decide) (by decide) (by decide)
    omega
  · rw [if_neg z]
    have h1 := sc_b om hw k (rwX F a)
    have := scA_abs (h (rwX F a)) (by omega) (by omega)
    have := h (rwX F a)
    omega
theorem sc_abs (hom : ∀ F, om F < 67108864) : ∀ {k : Nat}, k ≤ 10 → ∀ F, 100 - k ≤ (sc om hw k F).natAbs
  | 0, _, F => by show 100 ≤ (100 : Int).natAbs; decide
  | k + 1, hk, F => by
    by_cases q : om F = 0
    · rw [sc_z q]; omega
    · rw [sc_s q]
      obtain ⟨b, h1, h2, h3⟩ := scM_at (fn := scL om hw k F) (fun a => (scL_b om hw k F a).1) (bit_of (hom F) q)
      rw [← h3]
      have := scL_abs (om := om) (hw := hw) (k := k) (F := F) (a := b) (by omega) (sc_abs hom (by omega))
      omega
/-- the mover wins just where a letter wins, or none is open -/
theorem sc_pos (hom : ∀ F, om F < 67108864) {k F : Nat} (hk : k ≤ 9) : 0 < sc om hw (k + 1) F ↔ om F = 0 ∨ scW om hw k F 26 ≠ 0 := by
  by_cases q : om F = 0
  · rw [sc_z q]
    exact ⟨fun _ => Or.inl q, fun _ => by decide⟩
  · rw [sc_s q]
    constructor
    · intro h
      obtain ⟨b, h1, h2, h3⟩ := scM_at (fn := scL om hw k F) (fun a => (scL_b om hw k F a).1) (bit_of (hom F) q)
      refine Or.inr (tb_ne0 (a := b) ((scW_bit h1).mpr ⟨h2, ?_⟩))
      rw [h3]; exact h
    · rintro (h | h)
      · exact absurd h q
      · obtain ⟨b, h1, h2⟩ := bit_of (scW_lt (om := om) (hw := hw) (k := k) (F := F) (Nat.le_refl 26)) h
        obtain ⟨h3, h4⟩ := (scW_bit h1).mp h2
        have := scM_ge (fn := scL om hw k F) h1 h3
        omega
end SMATH
/-- the best letter so far, among those of the mask G, by the cost ct -/
def BS (G : Nat) (eb ct : Nat → Nat) (a : Nat) (x : Int32) (e : Nat) : Prop := (x = -1 ∧ e = 0 ∧ ∀ b, b < a → ¬ G.testBit b = true) ∨ (∃ t, t < a ∧ x = nI t ∧ G.testBit t = true ∧ e = eb t ∧ (∀ b, b < a → G.testBit b = true → ct t ≤ ct b) ∧ ∀ b, b < t → G.testBit b = true → ct t < ct b)
section BSL
variable {G : Nat} {eb ct : Nat → Nat} {a : Nat} {x : Int32} {e : Nat}
theorem BS.nil : BS G eb ct 0 (-1) 0 := Or.inl ⟨rfl, rfl, fun b h => absurd h (Nat.not_lt_zero _)⟩
theorem BS.skip (h : BS G eb ct a x e) (hG : ¬ G.testBit a = true) : BS G eb ct (a + 1) x e := by
  rcases h with ⟨h1, h2, h3⟩ | ⟨t, h1, h2, h3, h4, h5, h6⟩
  · exact Or.inl ⟨h1, h2, lt_s h3 hG⟩
  · exact Or.inr ⟨t, by omega, h2, h3, h4, lt_s h5 (fun q => absurd q hG), h6⟩
theorem BS.first (h : BS G eb ct a x e) (hx : x = -1) (ha : a < 26) (hG : G.testBit a = true) : BS G eb ct (a + 1) (nI a) (eb a) := by
  rcases h with ⟨h1, h2, h3⟩ | ⟨t, h1, h2, h3, h4, h5, h6⟩
  · exact Or.inr ⟨a, by omega, rfl, hG, rfl, lt_s (fun b hb q => absurd q (h3 b hb)) (fun _ => Nat.le_refl _), fun b hb q => absurd q (h3 b hb)⟩
  · rw [h2] at hx; exact absurd hx (nI_nem1 (by omega))
theorem BS.better (h : BS G eb ct a x e) (hx : ¬ x = -1) (hG : G.testBit a = true) (hc : ∀ t, t < a → G.testBit t = true → e = eb t → ct a < ct t) : BS G eb ct (a + 1) (nI a) (eb a) := by
  rcases h with ⟨h1, h2, h3⟩ | ⟨t, h1, h2, h3, h4, h5, h6⟩
  · exact absurd h1 hx
  · have := hc t h1 h3 h4
    exact Or.inr ⟨a, by omega, rfl, hG, rfl, lt_s (fun b hb q => by have := h5 b hb q; omega) (fun _ => Nat.le_refl _), fun b hb q => by have := h5 b hb q; omega⟩
theorem BS.keep (h : BS G eb ct a x e) (hx : ¬ x = -1) (hc : ∀ t, t < a → G.testBit t = true → e = eb t → ct t ≤ ct a) : BS G eb ct (a + 1) x e := by
  rcases h with ⟨h1, h2, h3⟩ | ⟨t, h1, h2, h3, h4, h5, h6⟩
  · exact absurd h1 hx
  · exact Or.inr ⟨t, by omega, h2, h3, h4, lt_s h5 (fun _ => hc t h1 h3 h4), h6⟩
end BSL
/-- of a list of words -/
noncomputable def scP (D : Nat → Nat) (n ll q : Nat) : Int := sc (fun F => opM D ll F n) (hwB D n ll) (10 - rwL q) q
noncomputable def slP (D : Nat → Nat) (n ll p a : Nat) : Int := scL (fun F => opM D ll F n) (hwB D n ll) (9 - rwL p) p a
noncomputable def gmP (D : Nat → Nat) (n ll p : Nat) : Nat := scW (fun F => opM D ll F n) (hwB D n ll) (9 - rwL p) p 26
def chP (D : Nat → Nat) (n ll p : Nat) (x : Int32) : Prop := (∃ a, a < 26 ∧ ((opM D ll p n).testBit a = true ∧ slP D n ll p a = scP D n ll p) ∧ (∀ b, b < a → ¬ ((opM D ll p n).testBit b = true ∧ slP D n ll p b = scP D n ll p)) ∧ x = nI a) ∨ ((∀ b, b < 26 → ¬ ((opM D ll p n).testBit b = true ∧ slP D n ll p b = scP D n ll p)) ∧ x = -1)
def TB (D : Nat → Nat) (n ll : Nat) (fW fE fC fG fO : Nat → Int32) (i p : Nat) : Prop := fO i = nI (opM D ll p n) ∧ fG i = nI (gmP D n ll p) ∧ Bv (fW i) (0 < scP D n ll p) ∧ fE i = nI (100 - (scP D n ll p).natAbs) ∧ chP D n ll p (fC i)
section PD
variable {D : Nat → Nat} {n ll : Nat}
theorem scP_abs (hV : ∀ j, j < n → RV (D j)) (q : Nat) : 90 ≤ (scP D n ll q).natAbs ∧ (scP D n ll q).natAbs ≤ 100 := by
  have h1 := sc_abs (om := fun F => opM D ll F n) (hw := hwB D n ll) (fun F => opM_lt hV) (k := 10 - rwL q) (by omega) q
  have h2 := sc_b (fun F => opM D ll F n) (hwB D n ll) (10 - rwL q) q
  unfold scP
  omega
theorem slP_abs (hV : ∀ j, j < n → RV (D j)) (p a : Nat) : 90 ≤ (slP D n ll p a).natAbs ∧ (slP D n ll p a).natAbs ≤ 99 := by
  have h1 := scL_abs (om := fun F => opM D ll F n) (hw := hwB D n ll) (k := 9 - rwL p) (F := p) (a := a) (by omega) (sc_abs (fun F => opM_lt hV) (by omega))
  unfold slP
  omega
theorem slP_eq {p a : Nat} (hp : RV p) (hl : rwL p < 10) (ha : a < 26) : slP D n ll p a = scA (if hwB D n ll (rwX p a) = true then 100 else scP D n ll (rwX p a)) := by
  unfold slP scL scP
  rw [hp.rxl hl (by omega), show 10 - (rwL p + 1) = 9 - rwL p by omega]
theorem eb_hw {p a : Nat} (hp : RV p) (hl : rwL p < 10) (ha : a < 26) (h : hwB D n ll (rwX p a) = true) : 100 - (slP D n ll p a).natAbs = 1 := by
  rw [slP_eq hp hl ha, if_pos h]
  decide
theorem eb_no (hV : ∀ j, j < n → RV (D j)) {p a : Nat} (hp : RV p) (hl : rwL p < 10) (ha : a < 26) (h : ¬ hwB D n ll (rwX p a) = true) : 100 - (slP D n ll p a).natAbs = 1 + (100 - (scP D n ll (rwX p a)).natAbs) := by
  have h1 := scP_abs (ll := ll) hV (rwX p a)
  have h2 := slP_abs (ll := ll) hV p a
  rw [slP_eq hp hl ha, if_neg h] at h2 ⊢
  have := scA_abs (o := scP D n ll (rwX p a)) (t := 90) h1.1 h1.2 (by decide)
  omega
theorem slP_pos (hV : ∀ j, j < n → RV (D j)) {p a : Nat} (hp : RV p) (hl : rwL p < 10) (ha : a < 26) : 0 < slP D n ll p a ↔ ¬ hwB D n ll (rwX p a) = true ∧ ¬ 0 < scP D n ll (rwX p a) := by
  have h1 := scP_abs (ll := ll) hV (rwX p a)
  rw [slP_eq hp hl ha]
  by_cases h : hwB D n ll (rwX p a) = true
  · rw [if_pos h]
    exact ⟨fun q => absurd q (by decide), fun q => absurd h q.1⟩
  · rw [if_neg h]
    unfold scA
    by_cases z : 0 < scP D n ll (rwX p a)
    · rw [if_pos z]
      exact ⟨fun q => by omega, fun q => absurd z q.2⟩
    · rw [if_neg z]
      exact ⟨fun _ => ⟨h, z⟩, fun _ => by omega⟩
theorem gmP_bit {p a : Nat} (ha : a < 26) : (gmP D n ll p).testBit a = true ↔ (opM D ll p n).testBit a = true ∧ 0 < slP D n ll p a := scW_bit ha
theorem gmP_lt {p : Nat} : gmP D n ll p < 67108864 := scW_lt (Nat.le_refl 26)
/-- the masks: what the reference gathers is what the class finds -/
noncomputable def gdM (D : Nat → Nat) (n ll p : Nat) : Nat → Nat
  | 0 => 0
  | k + 1 => if bB (ldP ll p (D k) ∧ ¬ hwB D n ll (rwX p (rwA (D k) (rwL p))) = true ∧ ¬ 0 < scP D n ll (rwX p (rwA (D k) (rwL p)))) = true then gdM D n ll p k ||| 2 ^ rwA (D k) (rwL p) else gdM D n ll p k
theorem gdM_t {p k o : Nat} (ho : o = gdM D n ll p k) (h1 : ldP ll p (D k)) (h2 : ¬ hwB D n ll (rwX p (rwA (D k) (rwL p))) = true) (h3 : ¬ 0 < scP D n ll (rwX p (rwA (D k) (rwL p)))) : o ||| 2 ^ rwA (D k) (rwL p) = gdM D n ll p (k + 1) := by
  unfold gdM; rw [if_pos (bB_t ⟨h1, h2, h3⟩), ho]
theorem gdM_f {p k o : Nat} (ho : o = gdM D n ll p k) (h : ¬ (ldP ll p (D k) ∧ ¬ hwB D n ll (rwX p (rwA (D k) (rwL p))) = true ∧ ¬ 0 < scP D n ll (rwX p (rwA (D k) (rwL p))))) : o = gdM D n ll p (k + 1) := by
  unfold gdM; rw [if_neg (by rw [bB_f h]; exact Bool.false_ne_true), ho]
theorem gdM_bit {p a : Nat} : ∀ {k : Nat}, (gdM D n ll p k).testBit a = true ↔ ∃ j, j < k ∧ (ldP ll p (D j) ∧ ¬ hwB D n ll (rwX p (rwA (D j) (rwL p))) = true ∧ ¬ 0 < scP D n ll (rwX p (rwA (D j) (rwL p)))) ∧ rwA (D j) (rwL p) = a
  | 0 => ⟨fun h => absurd h (by rw [show gdM D n ll p 0 = 0 from rfl, Nat.zero_testBit]; exact Bool.false_ne_true), fun ⟨j, h, _⟩ => absurd h (Nat.not_lt_zero _)⟩
  | k + 1 => by
    have ih := gdM_bit (p := p) (a := a) (k := k)
    by_cases q : ldP ll p (D k) ∧ ¬ hwB D n ll (rwX p (rwA (D k) (rwL p))) = true ∧ ¬ 0 < scP D n ll (rwX p (rwA (D k) (rwL p)))
    · rw [← gdM_t rfl q.1 q.2.1 q.2.2, mk_tb2, Bool.or_eq_true, ih, decide_eq_true_iff]
      constructor
      · rintro (⟨j, h1, h2⟩ | h)
        · exact ⟨j, by omega, h2⟩
        · exact ⟨k, by omega, q, h.symm⟩
      · rintro ⟨j, h1, h2, h3⟩
        by_cases e : j = k
        · subst e; exact Or.inr h3.symm
        · exact Or.inl ⟨j, by omega, h2, h3⟩
    · rw [← gdM_f rfl q, ih]
      constructor
      · rintro ⟨j, h1, h2⟩; exact ⟨j, by omega, h2⟩
      · rintro ⟨j, h1, h2, h3⟩
        by_cases e : j = k
        · subst e; exact absurd h2 q
        · exact ⟨j, by omega, h2, h3⟩
theorem gdM_eq (hV : ∀ j, j < n → RV (D j)) {p : Nat} (hp : RV p) : gdM D n ll p n = gmP D n ll p := by
  apply Nat.eq_of_testBit_eq
  intro a
  by_cases ha : a < 26
  · apply Bool.eq_iff_iff.mpr
    rw [gdM_bit, gmP_bit ha, opM_bit]
    constructor
    · rintro ⟨j, h1, ⟨h2, h3, h4⟩, h5⟩
      have hl : rwL p < 10 := by have := h2.lt; have := (hV j h1).1; omega
      rw [h5] at h3 h4
      exact ⟨⟨j, h1, h2, h5⟩, (slP_pos hV hp hl ha).mpr ⟨h3, h4⟩⟩
    · rintro ⟨⟨j, h1, h2, h5⟩, h⟩
      have hl : rwL p < 10 := by have := h2.lt; have := (hV j h1).1; omega
      obtain ⟨h3, h4⟩ := (slP_pos hV hp hl ha).mp h
      exact ⟨j, h1, ⟨h2, by rw [h5]; exact h3, by rw [h5]; exact h4⟩, h5⟩
  · have e1 : (gmP D n ll p).testBit a = false := Nat.testBit_lt_two_pow (Nat.lt_of_lt_of_le gmP_lt (Nat.pow_le_pow_right (n := 2) (by decide) (show 26 ≤ a by omega)))
    rw [e1]
    rcases z : (gdM D n ll p n).testBit a with _ | _
    · rfl
    · obtain ⟨j, h1, ⟨h2, -⟩, h5⟩ := gdM_bit.mp z
      have := (hV j h1).2.2 _ h2.lt
      omega
theorem wins_iff (hV : ∀ j, j < n → RV (D j)) {p : Nat} (hp : RV p) : 0 < scP D n ll p ↔ opM D ll p n = 0 ∨ gmP D n ll p ≠ 0 := by
  by_cases h : rwL p < 10
  · have h1 := sc_pos (om := fun F => opM D ll F n) (hw := hwB D n ll) (fun F => opM_lt hV) (k := 9 - rwL p) (F := p) (by omega)
    rw [show 9 - rwL p + 1 = 10 - rwL p by omega] at h1
    exact h1
  · have e : opM D ll p n = 0 := by
      apply Classical.byContradiction
      intro q
      obtain ⟨b, -, h2⟩ := bit_of (opM_lt hV) q
      obtain ⟨j, h3, h4, -⟩ := opM_bit.mp h2
      have := h4.lt
      have := (hV j h3).1
      omega
    unfold scP
    rw [sc_z (om := fun F => opM D ll F n) e]
    exact ⟨fun _ => Or.inl e, fun _ => by decide⟩
/-- the mask of the letters among which the mover chooses, and their costs -/
noncomputable def GMk (D : Nat → Nat) (n ll p : Nat) : Nat := if gmP D n ll p ≠ 0 then gmP D n ll p else opM D ll p n
noncomputable def ebP (D : Nat → Nat) (n ll p a : Nat) : Nat := 100 - (slP D n ll p a).natAbs
noncomputable def ctP (D : Nat → Nat) (n ll p a : Nat) : Nat := if gmP D n ll p ≠ 0 then ebP D n ll p a else 100 - ebP D n ll p a
theorem BS_end (hV : ∀ j, j < n → RV (D j)) {p : Nat} (hp : RV p) {x : Int32} {e : Nat} (h : BS (GMk D n ll p) (ebP D n ll p) (ctP D n ll p) 26 x e) : e = 100 - (scP D n ll p).natAbs ∧ chP D n ll p x := by
  by_cases q : opM D ll p n = 0
  · have hs : scP D n ll p = 100 := sc_z (om := fun F => opM D ll F n) q
    have hno : ∀ b, b < 26 → ¬ ((opM D ll p n).testBit b = true ∧ slP D n ll p b = scP D n ll p) := fun b _ z => by
      rw [q, Nat.zero_testBit] at z
      exact Bool.false_ne_true z.1
    rcases h with ⟨h1, h2, -⟩ | ⟨t, h1, h2, h3, -⟩
    · exact ⟨by rw [h2, hs]; decide, Or.inr ⟨hno, h1⟩⟩
    · have : (opM D ll p n).testBit t = true := by
        unfold GMk at h3
        by_cases z : gmP D n ll p ≠ 0
        · rw [if_pos z] at h3; exact ((gmP_bit h1).mp h3).1
        · rw [if_neg z] at h3; exact h3
      rw [q, Nat.zero_testBit] at this
      exact absurd this Bool.false_ne_true
  · obtain ⟨b0, hb0, hb1⟩ := bit_of (opM_lt hV) q
    have hl : rwL p < 10 := by
      obtain ⟨j, h3, h4, -⟩ := opM_bit.mp hb1
      have := h4.lt
      have := (hV j h3).1
      omega
    have hsc : scP D n ll p = scM (opM D ll p n) (slP D n ll p) 26 := by
      have := sc_s (om := fun F => opM D ll F n) (hw := hwB D n ll) (k := 9 - rwL p) (F := p) q
      rw [show 9 - rwL p + 1 = 10 - rwL p by omega] at this
      exact this
    have hat := scM_at (mk := opM D ll p n) (fn := slP D n ll p) (fun a => (scL_b _ _ _ _ a).1) (a := 26) ⟨b0, hb0, hb1⟩
    have hge : ∀ b, b < 26 → (opM D ll p n).testBit b = true → slP D n ll p b ≤ scP D n ll p := fun b h1 h2 => by rw [hsc]; exact scM_ge h1 h2
    rw [← hsc] at hat
    obtain ⟨c0, hc0, hc1, hc2⟩ := hat
    rcases h with ⟨h1, h2, h3⟩ | ⟨t, h1, h2, h3, h4, h5, h6⟩
    · exfalso
      unfold GMk at h3
      by_cases z : gmP D n ll p ≠ 0
      · rw [if_pos z] at h3
        obtain ⟨b, g1, g2⟩ := bit_of gmP_lt z
        exact h3 b g1 g2
      · rw [if_neg z] at h3
        exact h3 b0 hb0 hb1
    · by_cases z : gmP D n ll p ≠ 0
      · have hG : GMk D n ll p = gmP D n ll p := if_pos z
        have hc : ∀ a, ctP D n ll p a = ebP D n ll p a := fun a => if_pos z
        rw [hG] at h3 h5 h6
        have ht := (gmP_bit h1).mp h3
        have hpos : 0 < scP D n ll p := (wins_iff hV hp).mpr (Or.inr z)
        have hcg : (gmP D n ll p).testBit c0 = true := (gmP_bit hc0).mpr ⟨hc1, by rw [hc2]; exact hpos⟩
        have k1 := h5 c0 hc0 hcg
        rw [hc, hc] at k1
        have k2 := hge t h1 ht.1
        have a1 := slP_abs (ll := ll) hV p t
        have a2 := slP_abs (ll := ll) hV p c0
        have e1 : slP D n ll p t = scP D n ll p := by unfold ebP at k1; omega
        refine ⟨by rw [h4]; unfold ebP; rw [e1], Or.inl ⟨t, h1, ⟨ht.1, e1⟩, fun b hb y => ?_, h2⟩⟩
        have g1 := h6 b hb ((gmP_bit (by omega)).mpr ⟨y.1, by rw [y.2]; exact hpos⟩)
        rw [hc, hc] at g1
        unfold ebP at g1
        rw [e1, y.2] at g1
        omega
      · have hG : GMk D n ll p = opM D ll p n := if_neg z
        have hc : ∀ a, ctP D n ll p a = 100 - ebP D n ll p a := fun a => if_neg z
        rw [hG] at h3 h5 h6
        have hneg : ¬ 0 < scP D n ll p := fun y => by
          rcases (wins_iff hV hp).mp y with w | w
          · exact q w
          · exact z w
        have hall : ∀ b, b < 26 → (opM D ll p n).testBit b = true → slP D n ll p b < 0 := fun b g1 g2 => by
          have := hge b g1 g2
          have := slP_abs (ll := ll) hV p b
          omega
        have k1 := h5 c0 hc0 hc1
        rw [hc, hc] at k1
        have k2 := hge t h1 h3
        have a1 := slP_abs (ll := ll) hV p t
        have a2 := slP_abs (ll := ll) hV p c0
        have b1 := hall t h1 h3
        have b2 := hall c0 hc0 hc1
        have e1 : slP D n ll p t = scP D n ll p := by unfold ebP at k1; omega
        refine ⟨by rw [h4]; unfold ebP; rw [e1], Or.inl ⟨t, h1, ⟨h3, e1⟩, fun b hb y => ?_, h2⟩⟩
        have g1 := h6 b hb y.1
        rw [hc, hc] at g1
        unfold ebP at g1
        rw [e1, y.2] at g1
        omega
end PD
