/-! letters moved on by the same number -/
theorem rv_ext {P Q : Nat} (h : RV P) (h' : RV Q) (e : rwL P = rwL Q) (ha : ∀ i, i < rwL P → rwA P i = rwA Q i) : P = Q := by
  have q := RV.ext h h' (m := rwL P) (Nat.le_refl _) (by omega) ha
  rw [rb_all] at q
  rw [q, e, rb_all]
/-- Q is P with each letter moved on by m; P's letters are below 4 -/
def SR (m P Q : Nat) : Prop := RV P ∧ RV Q ∧ rwL Q = rwL P ∧ ∀ i, i < rwL P → rwA P i < 4 ∧ rwA Q i = rwA P i + m
theorem SR.zero (m : Nat) : SR m 0 0 := ⟨RV.zero, RV.zero, rfl, fun i hi => absurd hi (by simp [rwL])⟩
theorem SR.rx {m P Q a : Nat} (h : SR m P Q) (hl : rwL P < 10) (ha : a < 4) (hm : m ≤ 21) : SR m (rwX P a) (rwX Q (a + m)) := by
  obtain ⟨h1, h2, h3, h4⟩ := h
  have hl2 : rwL Q < 10 := by omega
  refine ⟨h1.rx hl (by omega), h2.rx hl2 (by omega), by rw [h1.rxl hl (by omega), h2.rxl hl2 (by omega), h3], fun i hi => ?_⟩
  rw [h1.rxl hl (by omega)] at hi
  by_cases e : i = rwL P
  · rw [e, h1.rxa hl (by omega), ← h3, h2.rxa hl2 (by omega)]
    exact ⟨ha, rfl⟩
  · rw [h1.rxi hl (by omega) (by omega), h2.rxi hl2 (by omega) (by omega)]
    exact h4 i (by omega)
theorem SR.rb {m P Q k : Nat} (h : SR m P Q) (hk : k ≤ rwL P) : SR m (rwB P k) (rwB Q k) := by
  obtain ⟨h1, h2, h3, h4⟩ := h
  have hk2 : k ≤ rwL Q := by omega
  refine ⟨h1.rb hk, h2.rb hk2, by rw [h1.rbl hk, h2.rbl hk2], fun i hi => ?_⟩
  rw [h1.rbl hk] at hi
  rw [h1.rbra hk hi, h2.rbra hk2 hi]
  exact h4 i (by omega)
theorem SR.rbe {m P Q P' Q' k : Nat} (h : SR m P Q) (h' : SR m P' Q') (hk : k ≤ rwL P) (hk' : k ≤ rwL P') : rwB P k = rwB P' k ↔ rwB Q k = rwB Q' k := by
  obtain ⟨h1, h2, h3, h4⟩ := h
  obtain ⟨g1, g2, g3, g4⟩ := h'
  constructor
  · intro e
    refine RV.ext h2 g2 (by omega) (by omega) (fun i hi => ?_)
    rw [(h4 i (by omega)).2, (g4 i (by omega)).2, RV.ext_a h1 g1 hk hk' e hi]
  · intro e
    refine RV.ext h1 g1 hk hk' (fun i hi => ?_)
    have a := RV.ext_a h2 g2 (by omega) (by omega) e hi
    rw [(h4 i (by omega)).2, (g4 i (by omega)).2] at a
    omega
theorem SR.eqi {m P Q P' Q' : Nat} (h : SR m P Q) (h' : SR m P' Q') : P = P' ↔ Q = Q' := by
  have hl := h.2.2.1
  have hl' := h'.2.2.1
  constructor
  · intro e
    subst e
    have q := (h.rbe h' (Nat.le_refl _) (Nat.le_refl _)).mp rfl
    rw [← hl, rb_all, hl, ← hl', rb_all] at q
    exact q
  · intro e
    subst e
    have q := (h.rbe h' (k := rwL Q) (by omega) (by omega)).mpr rfl
    rw [hl, rb_all, ← hl, hl', rb_all] at q
    exact q
theorem SR.bg {m P Q P' Q' : Nat} (h : SR m P Q) (h' : SR m P' Q') : bgP P P' ↔ bgP Q Q' := by
  have hl := h.2.2.1
  have hl' := h'.2.2.1
  unfold bgP
  by_cases q : rwL P' ≤ rwL P
  · have e := h.rbe h' q (Nat.le_refl _)
    rw [rb_all] at e
    rw [← hl', rb_all] at e
    rw [hl'] at e
    constructor
    · rintro ⟨a, b⟩
      exact ⟨by omega, by rw [hl']; exact e.mp b⟩
    · rintro ⟨a, b⟩
      rw [hl'] at b
      exact ⟨q, e.mpr b⟩
  · constructor
    · rintro ⟨a, b⟩; exact absurd a q
    · rintro ⟨a, b⟩; exact absurd (show rwL P' ≤ rwL P by omega) q
def rpN : Nat → Nat
  | 0 => 0
  | k + 1 => rpN k * 32 + 1
theorem SR.code {m P Q : Nat} (h : SR m P Q) (hm : m ≤ 21) : ∀ k, k ≤ rwL P → rwC (rwB Q k) = rwC (rwB P k) + m * rpN k
  | 0, _ => by
    rw [h.2.1.rb0, h.1.rb0]
    show _ = _ + m * 0
    rw [Nat.mul_zero, Nat.add_zero]
  | k + 1, hk => by
    have ih := SR.code h hm k (by omega)
    obtain ⟨h1, h2, h3, h4⟩ := h
    have a1 := h1.rbs (m := k) (by omega)
    have a2 := h2.rbs (m := k) (by omega)
    have l1 := h1.1
    have b1 := h1.rb (m := k) (by omega)
    have b2 := h2.rb (m := k) (by omega)
    have c1 := h1.rbl (m := k) (by omega)
    have c2 := h2.rbl (m := k) (by omega)
    have d := h4 k (by omega)
    rw [a1, a2, b1.rxc (by omega) (by omega), b2.rxc (by omega) (by omega), ih, d.2]
    show _ = _ + m * (rpN k * 32 + 1)
    rw [Nat.mul_add, Nat.mul_one, ← Nat.mul_assoc]
    omega
theorem SR.lt {m P Q P' Q' : Nat} (h : SR m P Q) (h' : SR m P' Q') (hm : m ≤ 21) : P < P' ↔ Q < Q' := by
  have a := h.code hm (rwL P) (Nat.le_refl _)
  have b := h'.code hm (rwL P') (Nat.le_refl _)
  have hl := h.2.2.1
  have hl' := h'.2.2.1
  rw [rb_all] at a b
  rw [← hl, rb_all] at a
  rw [← hl', rb_all] at b
  have e1 := rk_e P
  have e2 := rk_e P'
  have e3 := rk_e Q
  have e4 := rk_e Q'
  have c1 := rc_lt P
  have c2 := rc_lt P'
  have c3 := rc_lt Q
  have c4 := rc_lt Q'
  unfold rwK at e1 e2 e3 e4
  rw [hl] at e3 a
  rw [hl'] at e4 b
  by_cases q : rwL P = rwL P'
  · rw [q] at a e1 e3
    generalize m * rpN (rwL P') = z at a b
    omega
  · generalize m * rpN (rwL P') = z at b
    generalize m * rpN (rwL P) = y at a
    omega
theorem SR.le {m P Q P' Q' : Nat} (h : SR m P Q) (h' : SR m P' Q') (hm : m ≤ 21) : P ≤ P' ↔ Q ≤ Q' := by
  have := h'.lt h hm
  omega
/-- word by word -/
def WS (m : Nat) (S T : Nat → Nat) (cnt : Nat) : Prop := ∀ i, i < cnt → SR m (S i) (T i)
theorem WS.ins {m : Nat} {S T : Nat → Nat} {cnt P Q : Nat} (h : WS m S T cnt) (h' : SR m P Q) : inS S cnt P ↔ inS T cnt Q := by
  constructor
  · rintro ⟨i, a, b⟩
    exact ⟨i, a, ((h i a).eqi h').mp b⟩
  · rintro ⟨i, a, b⟩
    exact ⟨i, a, ((h i a).eqi h').mpr b⟩
def SI (S : Nat → Nat) (n : Nat) : Prop := ∀ i j, i < j → j < n → S i < S j
theorem InsAt.SI {S S' : Nat → Nat} {n t Q : Nat} (h : InsAt S n t Q S') (hs : SI S n) (hn : ¬ inS S n Q) : SI S' (n + 1) := by
  obtain ⟨ht, h1, h2, h3, h4, h5⟩ := h
  have hlt : ∀ i, i < t → S i < Q := fun i hi => by
    rcases h4 with q | q
    · omega
    · have a : S (t - 1) ≠ Q := fun z => hn ⟨t - 1, by omega, z⟩
      by_cases e : i = t - 1
      · rw [e]; omega
      · have := hs i (t - 1) (by omega) (by omega); omega
  intro i j hij hj
  by_cases a : j < t
  · rw [h1 i (by omega), h1 j a]; exact hs i j hij (by omega)
  · by_cases b : j = t
    · rw [b, h2, h1 i (by omega)]; exact hlt i (by omega)
    · have ej := h3 (j - 1) (by omega) (by omega)
      rw [Nat.sub_add_cancel (by omega)] at ej
      rw [ej]
      by_cases c : i < t
      · rw [h1 i c]; exact hs i (j - 1) (by omega) (by omega)
      · by_cases d : i = t
        · rw [d, h2]; exact h5 (j - 1) (by omega) (by omega)
        · have ei := h3 (i - 1) (by omega) (by omega)
          rw [Nat.sub_add_cancel (by omega)] at ei
          rw [ei]; exact hs (i - 1) (j - 1) (by omega) (by omega)
theorem RemAt.SI {S S' : Nat → Nat} {n t : Nat} (h : RemAt S n t S') (hs : SI S n) : SI S' (n - 1) := by
  obtain ⟨ht, h1, h2⟩ := h
  intro i j hij hj
  by_cases a : j < t
  · rw [h1 i (by omega), h1 j a]; exact hs i j hij (by omega)
  · rw [h2 j (by omega) (by omega)]
    by_cases b : i < t
    · rw [h1 i b]; exact hs i (j + 1) (by omega) (by omega)
    · rw [h2 i (by omega) (by omega)]; exact hs (i + 1) (j + 1) (by omega) (by omega)
theorem InsAt.by {S S' : Nat → Nat} {n t Q : Nat} (h : InsAt S n t Q S') (R : Nat → Prop) (h0 : ∀ i, i < n → R (S i)) (hQ : R Q) : ∀ i, i < n + 1 → R (S' i) := by
  obtain ⟨ht, h1, h2, h3, -, -⟩ := h
  intro i hi
  by_cases a : i < t
  · rw [h1 i a]; exact h0 i (by omega)
  · by_cases b : i = t
    · rw [b, h2]; exact hQ
    · have ei := h3 (i - 1) (by omega) (by omega)
      rw [Nat.sub_add_cancel (by omega)] at ei
      rw [ei]; exact h0 (i - 1) (by omega)
theorem RemAt.by {S S' : Nat → Nat} {n t : Nat} (h : RemAt S n t S') (R : Nat → Prop) (h0 : ∀ i, i < n → R (S i)) : ∀ i, i < n - 1 → R (S' i) := by
  obtain ⟨ht, h1, h2⟩ := h
  intro i hi
  by_cases a : i < t
  · rw [h1 i a]; exact h0 i (by omega)
  · rw [h2 i (by omega) (by omega)]; exact h0 (i + 1) (by omega)
theorem WS.add {m : Nat} {S T S' T' : Nat → Nat} {n t t' P Q : Nat} (h : WS m S T n) (h' : SR m P Q) (hm : m ≤ 21) (h1 : InsAt S n t P S') (h2 : InsAt T n t' Q T') : WS m S' T' (n + 1) := by
  obtain ⟨ht, a1, a2, a3, a4, a5⟩ := h1
  obtain ⟨ht', b1, b2, b3, b4, b5⟩ := h2
  have e : t = t' := by
    rcases Nat.lt_trichotomy t t' with q | q | q
    · rcases b4 with z | z
      · omega
      · have y := a5 (t' - 1) (by omega) (by omega)
        have x := (h'.lt (h (t' - 1) (by omega)) hm).mp y
        omega
    · exact q
    · rcases a4 with z | z
      · omega
      · have y := b5 (t - 1) (by omega) (by omega)
        have x := (h'.lt (h (t - 1) (by omega)) hm).mpr y
        omega
  subst e
  intro i hi
  by_cases a : i < t
  · rw [a1 i a, b1 i a]; exact h i (by omega)
  · by_cases b : i = t
    · rw [b, a2, b2]; exact h'
    · have ei := a3 (i - 1) (by omega) (by omega)
      have ej := b3 (i - 1) (by omega) (by omega)
      rw [Nat.sub_add_cancel (by omega)] at ei ej
      rw [ei, ej]; exact h (i - 1) (by omega)
theorem WS.rem {m : Nat} {S T S' T' : Nat → Nat} {n t t' P Q : Nat} (h : WS m S T n) (h' : SR m P Q) (hs : SI S n) (e1 : S t = P) (e2 : T t' = Q) (h1 : RemAt S n t S') (h2 : RemAt T n t' T') : WS m S' T' (n - 1) := by
  obtain ⟨ht, a1, a2⟩ := h1
  obtain ⟨ht', b1, b2⟩ := h2
  have e : t = t' := by
    have z := ((h t' ht').eqi h').mpr e2
    rcases Nat.lt_trichotomy t t' with q | q | q
    · have := hs t t' q ht'; omega
    · exact q
    · have := hs t' t q ht; omega
  subst e
  intro i hi
  by_cases a : i < t
  · rw [a1 i a, b1 i a]; exact h i (by omega)
  · rw [a2 i (by omega) (by omega), b2 i (by omega) (by omega)]; exact h (i + 1) (by omega)
/-! what is counted -/
theorem WS.fromSlip {m : Nat} {S T : Nat → Nat} {cnt P Q : Nat} (h : WS m S T cnt) (h' : SR m P Q) : fb_ct (fun i => bgB (S i) P) cnt = fb_ct (fun i => bgB (T i) Q) cnt :=
  fb_ct_cong (fun i hi => by
    apply Bool.eq_iff_iff.mpr
    rw [bgB_t, bgB_t]
    exact (h i hi).bg h')
theorem SR.shd {m P Q P' Q' : Nat} (h : SR m P Q) (h' : SR m P' Q') : ∀ k, k ≤ rwL P → k ≤ rwL P' → shD P P' k = shD Q Q' k
  | 0, _, _ => rfl
  | k + 1, a, b => by
    have ih := SR.shd h h' k (by omega) (by omega)
    have e := h.rbe h' a b
    unfold shD
    by_cases q : rwB P (k + 1) = rwB P' (k + 1)
    · rw [if_pos q, if_pos (e.mp q)]
    · rw [if_neg q, if_neg (fun z => q (e.mpr z)), ih]
theorem SR.shR {m P Q P' Q' : Nat} (h : SR m P Q) (h' : SR m P' Q') : shr P P' = shr Q Q' := by
  unfold shr
  rw [h.2.2.1, h'.2.2.1]
  exact h.shd h' _ (Nat.min_le_left _ _) (Nat.min_le_right _ _)
theorem WS.lsf {m : Nat} {S T : Nat → Nat} {cnt P Q : Nat} (h : WS m S T cnt) (h' : SR m P Q) : ∀ j, j ≤ cnt → lsF S P j = lsF T Q j
  | 0, _ => rfl
  | j + 1, hj => by
    have ih := WS.lsf h h' j (by omega)
    unfold lsF
    rw [ih, (h j (by omega)).shR h']
theorem WS.bgn {m : Nat} {S T : Nat → Nat} {cnt : Nat} (h : WS m S T cnt) : bgnN S cnt = bgnN T cnt := by
  unfold bgnN
  congr 1
  refine fb_sm_cong (fun i hi => ?_)
  rw [h.lsf (h i hi) i (by omega), (h i hi).2.2.1]
/-! the solver -/
theorem SR.ld {m P Q P' Q' ll : Nat} (h : SR m P Q) (h' : SR m P' Q') : ldP ll P P' ↔ ldP ll Q Q' := by
  unfold ldP
  rw [h'.2.2.1, h'.bg h]
  constructor
  · rintro ⟨a, b, c⟩; exact ⟨a, fun z => b ((h'.eqi h).mpr z), c⟩
  · rintro ⟨a, b, c⟩; exact ⟨a, fun z => b ((h'.eqi h).mp z), c⟩
theorem WS.opb {m : Nat} {S T : Nat → Nat} {cnt ll P Q : Nat} (h : WS m S T cnt) (h' : SR m P Q) {a : Nat} (ha : (opM S ll P cnt).testBit a = true) : a < 4 ∧ rwL P < 10 := by
  obtain ⟨j, h1, h2, h3⟩ := opM_bit.mp ha
  have hj := h j h1
  have := h2.lt
  have h4 := hj.2.2.2 (rwL P) this
  have := hj.1.1
  omega
theorem WS.op {m : Nat} {S T : Nat → Nat} {cnt ll P Q : Nat} (h : WS m S T cnt) (h' : SR m P Q) : opM T ll Q cnt = opM S ll P cnt * 2 ^ m := by
  apply Nat.eq_of_testBit_eq
  intro b
  rw [Nat.testBit_mul_two_pow]
  apply Bool.eq_iff_iff.mpr
  rw [Bool.and_eq_true, opM_bit, opM_bit, decide_eq_true_iff]
  constructor
  · rintro ⟨j, h1, h2, h3⟩
    have hj := h j h1
    have h4 := (h'.ld hj).mpr h2
    have h5 := (hj.2.2.2 (rwL P) h4.lt).2
    rw [h'.2.2.1] at h3
    exact ⟨by omega, j, h1, h4, by omega⟩
  · rintro ⟨h0, j, h1, h2, h3⟩
    have hj := h j h1
    have h5 := (hj.2.2.2 (rwL P) h2.lt).2
    exact ⟨j, h1, (h'.ld hj).mp h2, by rw [h'.2.2.1]; omega⟩
theorem lt16 {n : Nat} (h : ∀ a, n.testBit a = true → a < 4) : n < 16 :=
  Nat.lt_pow_two_of_testBit (n := 4) n (fun i hi => by
    cases q : n.testBit i
    · rfl
    · have := h i q; omega)
theorem WS.hw {m : Nat} {S T : Nat → Nat} {cnt ll P Q : Nat} (h : WS m S T cnt) (h' : SR m P Q) : hwB T cnt ll Q = hwB S cnt ll P := by
  unfold hwB
  exact bB_cong (by rw [h'.2.2.1, h.ins h'])
theorem scM_skip {mk : Nat} {fn : Nat → Int} {i : Nat} : ∀ j, (∀ a, i ≤ a → a < i + j → ¬ mk.testBit a = true) → scM mk fn (i + j) = scM mk fn i
  | 0, _ => rfl
  | j + 1, h => by
    have ih := scM_skip (mk := mk) (fn := fn) (i := i) j (fun a h1 h2 => h a h1 (by omega))
    rw [← ih]
    exact (scM_f rfl (h (i + j) (by omega) (by omega))).symm
theorem scM_move {mk m : Nat} {fn fn' : Nat → Int} (hf : ∀ a, a < 4 → mk.testBit a = true → fn' (a + m) = fn a) : ∀ j, j ≤ 4 → scM (mk * 2 ^ m) fn' (m + j) = scM mk fn j
  | 0, _ => by
    have := scM_skip (mk := mk * 2 ^ m) (fn := fn') (i := 0) m (fun a _ h2 => by
      rw [Nat.testBit_mul_two_pow, show decide (m ≤ a) = false from decide_eq_false (by omega), Bool.false_and]
      exact Bool.false_ne_true)
    rw [Nat.zero_add] at this
    exact this
  | j + 1, hj => by
    have ih := scM_move hf j (by omega)
    have tb : (mk * 2 ^ m).testBit (m + j) = mk.testBit j := by
      rw [Nat.testBit_mul_two_pow, show decide (m ≤ m + j) = true from decide_eq_true (by omega), Bool.true_and, Nat.add_sub_cancel_left]
    by_cases q : mk.testBit j = true
    · have e1 := scM_t (fn := fn) (rfl : scM mk fn j = _) q
      have e2 := scM_t (fn := fn') (rfl : scM (mk * 2 ^ m) fn' (m + j) = _) (tb.trans q)
      rw [← e1]
      show scM (mk * 2 ^ m) fn' (m + j + 1) = _
      rw [← e2, ih, Nat.add_comm m j, hf j (by omega) q]
    · have e1 := scM_f (fn := fn) (rfl : scM mk fn j = _) q
      have e2 := scM_f (fn := fn') (rfl : scM (mk * 2 ^ m) fn' (m + j) = _) (fun z => q (tb.symm.trans z))
      rw [← e1]
      show scM (mk * 2 ^ m) fn' (m + j + 1) = _
      rw [← e2, ih]
theorem scM_26 {mk m : Nat} {fn fn' : Nat → Int} (hm : m ≤ 22) (hb : ∀ a, mk.testBit a = true → a < 4) (hf : ∀ a, a < 4 → mk.testBit a = true → fn' (a + m) = fn a) : scM (mk * 2 ^ m) fn' 26 = scM mk fn 26 := by
  have e1 := scM_skip (mk := mk) (fn := fn) (i := 4) 22 (fun a h1 _ z => by have := hb a z; omega)
  have e2 := scM_skip (mk := mk * 2 ^ m) (fn := fn') (i := m + 4) (22 - m) (fun a h1 _ z => by
    rw [Nat.testBit_mul_two_pow, Bool.and_eq_true] at z
    have := hb _ z.2
    omega)
  rw [show m + 4 + (22 - m) = 26 by omega] at e2
  rw [e2, scM_move hf 4 (Nat.le_refl _)]
  exact e1.symm
section SOLVE
variable {m : Nat} {S T : Nat → Nat} {cnt ll : Nat}
theorem WS.scc (h : WS m S T cnt) (hm : m ≤ 21) : ∀ (k : Nat) {P Q : Nat}, SR m P Q → rwL P + k ≤ 10 → sc (fun F => opM T ll F cnt) (hwB T cnt ll) k Q = sc (fun F => opM S ll F cnt) (hwB S cnt ll) k P
  | 0, _, _, _, _ => rfl
  | k + 1, P, Q, h', hl => by
    have ih := fun (P Q : Nat) (h9 : SR m P Q) (hl9 : rwL P + k ≤ 10) => WS.scc h hm k h9 hl9
    have e := h.op (ll := ll) h'
    unfold sc
    show (if opM T ll Q cnt = 0 then (100 : Int) else scM (opM T ll Q cnt) _ 26) = if opM S ll P cnt = 0 then (100 : Int) else scM (opM S ll P cnt) _ 26
    have hz : opM T ll Q cnt = 0 ↔ opM S ll P cnt = 0 := by
      rw [e]
      have := Nat.two_pow_pos m
      rw [Nat.mul_eq_zero]
      omega
    by_cases q : opM S ll P cnt = 0
    · rw [if_pos q, if_pos (hz.mpr q)]
    · rw [if_neg q, if_neg (fun z => q (hz.mp z)), e]
      refine scM_26 (by omega) (fun a ha => (h.opb h' ha).1) (fun a ha _ => ?_)
      have hx := h'.rx (by omega) ha hm
      rw [h.hw hx, ih _ _ hx (by rw [h'.1.rxl (by omega) (by omega)]; omega)]
theorem WS.scl (h : WS m S T cnt) (hm : m ≤ 21) {k P Q a : Nat} (h' : SR m P Q) (hl : rwL P + k ≤ 9) (ha : a < 4) : scL (fun F => opM T ll F cnt) (hwB T cnt ll) k Q (a + m) = scL (fun F => opM S ll F cnt) (hwB S cnt ll) k P a := by
  have hx := h'.rx (by omega) ha hm
  unfold scL
  rw [h.hw hx, h.scc hm k hx (by rw [h'.1.rxl (by omega) (by omega)]; omega)]
theorem scW_bit {om : Nat → Nat} {hw : Nat → Bool} {k F a : Nat} : ∀ {n : Nat}, (scW om hw k F n).testBit a = true ↔ a < n ∧ (om F).testBit a = true ∧ 0 < scL om hw k F a
  | 0 => ⟨fun h => absurd h (by rw [show scW om hw k F 0 = 0 from rfl, Nat.zero_testBit]; exact Bool.false_ne_true), fun h => absurd h.1 (Nat.not_lt_zero _)⟩
  | n + 1 => by
    have ih := scW_bit (om := om) (hw := hw) (k := k) (F := F) (a := a) (n := n)
    by_cases q : (om F).testBit n = true ∧ 0 < scL om hw k F n
    · rw [← scW_t rfl q, mk_tb2, Bool.or_eq_true, ih, decide_eq_true_iff]
      constructor
      · rintro (⟨h1, h2⟩ | h)
        · exact ⟨by omega, h2⟩
        · subst h; exact ⟨by omega, q⟩
      · rintro ⟨h1, h2⟩
        by_cases e : a = n
        · exact Or.inr e
        · exact Or.inl ⟨by omega, h2⟩
    · rw [← scW_f rfl q, ih]
      constructor
      · rintro ⟨h1, h2⟩; exact ⟨by omega, h2⟩
      · rintro ⟨h1, h2⟩
        by_cases e : a = n
        · subst e; exact absurd h2 q
        · exact ⟨by omega, h2⟩
theorem WS.tb (h : WS m S T cnt) {P Q b : Nat} (h' : SR m P Q) : (opM T ll Q cnt).testBit b = true ↔ ∃ a, a < 4 ∧ b = a + m ∧ (opM S ll P cnt).testBit a = true := by
  rw [h.op h', Nat.testBit_mul_two_pow, Bool.and_eq_true, decide_eq_true_iff]
  constructor
  · rintro ⟨a, c⟩
    exact ⟨b - m, (h.opb h' c).1, by omega, c⟩
  · rintro ⟨a, b1, rfl, c⟩
    exact ⟨by omega, by rw [Nat.add_sub_cancel]; exact c⟩
theorem WS.win (h : WS m S T cnt) (hm : m ≤ 21) {P Q : Nat} (h' : SR m P Q) : scW (fun F => opM T ll F cnt) (hwB T cnt ll) (9 - rwL Q) Q 26 = scW (fun F => opM S ll F cnt) (hwB S cnt ll) (9 - rwL P) P 26 * 2 ^ m := by
  apply Nat.eq_of_testBit_eq
  intro b
  rw [Nat.testBit_mul_two_pow]
  apply Bool.eq_iff_iff.mpr
  rw [Bool.and_eq_true, scW_bit, scW_bit, decide_eq_true_iff, h'.2.2.1]
  constructor
  · rintro ⟨h1, h2, h3⟩
    obtain ⟨a, ha, e, h4⟩ := (h.tb h').mp h2
    have hl := (h.opb h' h4).2
    rw [e, h.scl hm h' (by omega) ha] at h3
    rw [show b - m = a by omega]
    exact ⟨by omega, by omega, h4, h3⟩
  · rintro ⟨h0, h1, h2, h3⟩
    have hl := h.opb h' h2
    have e : b = (b - m) + m := by omega
    refine ⟨by omega, (h.tb h').mpr ⟨b - m, hl.1, e, h2⟩, ?_⟩
    rw [e, h.scl hm h' (by omega) hl.1]
    exact h3
theorem WS.win16 (h : WS m S T cnt) {P Q : Nat} (h' : SR m P Q) : scW (fun F => opM S ll F cnt) (hwB S cnt ll) (9 - rwL P) P 26 < 16 :=
  lt16 (fun a ha => (h.opb h' (scW_bit.mp ha).2.1).1)
theorem WS.op16 (h : WS m S T cnt) {P Q : Nat} (h' : SR m P Q) : opM S ll P cnt < 16 := lt16 (fun a ha => (h.opb h' ha).1)
/-- the letter chosen -/
def chB (S : Nat → Nat) (cnt ll F a : Nat) : Prop := (opM S ll F cnt).testBit a = true ∧ scL (fun F => opM S ll F cnt) (hwB S cnt ll) (9 - rwL F) F a = sc (fun F => opM S ll F cnt) (hwB S cnt ll) (10 - rwL F) F
theorem WS.ch (h : WS m S T cnt) (hm : m ≤ 21) {P Q b : Nat} (h' : SR m P Q) : chB T cnt ll Q b ↔ ∃ a, a < 4 ∧ b = a + m ∧ chB S cnt ll P a := by
  unfold chB
  rw [h'.2.2.1]
  constructor
  · rintro ⟨h1, h2⟩
    obtain ⟨a, ha, e, h4⟩ := (h.tb h').mp h1
    have hl := (h.opb h' h4).2
    rw [e, h.scl hm h' (by omega) ha, h.scc hm _ h' (by omega)] at h2
    exact ⟨a, ha, e, h4, h2⟩
  · rintro ⟨a, ha, rfl, h4, h2⟩
    have hl := (h.opb h' h4).2
    refine ⟨(h.tb h').mpr ⟨a, ha, rfl, h4⟩, ?_⟩
    rw [h.scl hm h' (by omega) ha, h.scc hm _ h' (by omega)]
    exact h2
def chP (S : Nat → Nat) (cnt ll F : Nat) (r : Int32) : Prop := (∃ a, a < 26 ∧ chB S cnt ll F a ∧ (∀ b, b < a → ¬ chB S cnt ll F b) ∧ r = nI a) ∨ ((∀ b, b < 26 → ¬ chB S cnt ll F b) ∧ r = -1)
theorem WS.chs (h : WS m S T cnt) (hm : m ≤ 21) {P Q : Nat} (h' : SR m P Q) {r r' : Int32} (h1 : chP S cnt ll P r) (h2 : chP T cnt ll Q r') : (r = -1 ∧ r' = -1) ∨ ∃ a, a < 4 ∧ r = nI a ∧ r' = nI (a + m) := by
  rcases h1 with ⟨a, a1, a2, a3, rfl⟩ | ⟨a1, rfl⟩
  · have ha := (h.opb h' a2.1).1
    rcases h2 with ⟨b, b1, b2, b3, rfl⟩ | ⟨b1, rfl⟩
    · obtain ⟨c, c1, rfl, c2⟩ := (h.ch hm h').mp b2
      refine Or.inr ⟨a, ha, rfl, ?_⟩
      rcases Nat.lt_trichotomy a c with q | q | q
      · exact absurd ((h.ch hm h').mpr ⟨a, ha, rfl, a2⟩) (b3 (a + m) (by omega))
      · rw [q]
      · exact absurd c2 (a3 c q)
    · exact absurd ((h.ch hm h').mpr ⟨a, ha, rfl, a2⟩) (b1 (a + m) (by omega))
  · rcases h2 with ⟨b, b1, b2, b3, rfl⟩ | ⟨b1, rfl⟩
    · obtain ⟨c, c1, rfl, c2⟩ := (h.ch hm h').mp b2
      exact absurd c2 (a1 c (by omega))
    · exact Or.inl ⟨rfl, rfl⟩
theorem WS.way (h : WS m S T cnt) {P Q V W : Nat} (h' : SR m P Q) (h2 : SR m V W) : wyP S cnt ll P V ↔ wyP T cnt ll Q W := by
  unfold wyP
  rw [h'.ld h2, h'.2.2.1, h2.2.2.1]
  constructor
  · rintro ⟨a, b⟩
    exact ⟨a, fun k h3 h4 z => b k h3 h4 ⟨z.1, (h.ins (h2.rb (by omega))).mpr z.2⟩⟩
  · rintro ⟨a, b⟩
    exact ⟨a, fun k h3 h4 z => b k h3 h4 ⟨z.1, (h.ins (h2.rb (by omega))).mp z.2⟩⟩
theorem WS.ways (h : WS m S T cnt) {P Q : Nat} (h' : SR m P Q) : fb_ct (fun i => bB (wyP S cnt ll P (S i))) cnt = fb_ct (fun i => bB (wyP T cnt ll Q (T i))) cnt :=
  fb_ct_cong (fun i hi => bB_cong (h.way h' (h i hi)))
theorem WS.wways (h : WS m S T cnt) {P Q : Nat} (h' : SR m P Q) : fb_ct (fun i => bB (wyP S cnt ll P (S i) ∧ (rwL (S i) - rwL P) % 2 = 0)) cnt = fb_ct (fun i => bB (wyP T cnt ll Q (T i) ∧ (rwL (T i) - rwL Q) % 2 = 0)) cnt :=
  fb_ct_cong (fun i hi => bB_cong (by rw [h.way h' (h i hi), (h i hi).2.2.1, h'.2.2.1]))
theorem WS.whole (h : WS m S T cnt) {P Q : Nat} (h' : SR m P Q) : (ll ≤ rwL P ∧ inS S cnt P) ↔ (ll ≤ rwL Q ∧ inS T cnt Q) := by
  rw [h'.2.2.1, h.ins h']
theorem WS.from (h : WS m S T cnt) {P Q : Nat} (h' : SR m P Q) : (∃ i, i < cnt ∧ ll ≤ rwL (S i) ∧ bgP (S i) P) ↔ (∃ i, i < cnt ∧ ll ≤ rwL (T i) ∧ bgP (T i) Q) := by
  constructor
  · rintro ⟨i, a, b, c⟩
    exact ⟨i, a, by rw [(h i a).2.2.1]; exact b, ((h i a).bg h').mp c⟩
  · rintro ⟨i, a, b, c⟩
    rw [(h i a).2.2.1] at b
    exact ⟨i, a, b, ((h i a).bg h').mpr c⟩
end SOLVE
/-! the round's end -/
theorem nxF_in {K : Nat → Nat} {np : Nat} : ∀ {s c t : Nat}, c < np → nxF K np s c = some t → t < np ∧ K t < 5
  | 0, _, _, _, h => by cases h
  | s + 1, c, t, hc, h => by
    have h1 : nx1 np c < np := by unfold nx1; by_cases q : c + 1 < np; (rw [if_pos q]; exact q); (rw [if_neg q]; omega)
    have e : nxF K np (s + 1) c = if K (nx1 np c) < 5 then some (nx1 np c) else nxF K np s (nx1 np c) := rfl
    rw [e] at h
    by_cases q : K (nx1 np c) < 5
    · rw [if_pos q] at h
      cases h
      exact ⟨h1, q⟩
    · rw [if_neg q] at h
      exact nxF_in h1 h
theorem nxF_none {K : Nat → Nat} {np : Nat} : ∀ {s c : Nat}, c < np → nxF K np s c = none → ∀ r, 1 ≤ r → r ≤ s → 5 ≤ K ((c + r) % np)
  | 0, _, _, _, r, h1, h2 => by omega
  | s + 1, c, hc, h, r, h1, h2 => by
    have e1 : nx1 np c = (c + 1) % np := by
      unfold nx1
      by_cases q : c + 1 < np
      · rw [if_pos q, Nat.mod_eq_of_lt q]
      · rw [if_neg q, show c + 1 = np by omega, Nat.mod_self]
    have hlt : nx1 np c < np := by rw [e1]; exact Nat.mod_lt _ (by omega)
    have e : nxF K np (s + 1) c = if K (nx1 np c) < 5 then some (nx1 np c) else nxF K np s (nx1 np c) := rfl
    rw [e] at h
    by_cases q : K (nx1 np c) < 5
    · rw [if_pos q] at h; cases h
    · rw [if_neg q] at h
      by_cases z : r = 1
      · subst z; rw [← e1]; omega
      · have := nxF_none hlt h (r - 1) (by omega) (by omega)
        rw [e1, Nat.mod_add_mod, show c + 1 + (r - 1) = c + r by omega] at this
        exact this
theorem nxF_some {K : Nat → Nat} {np c i : Nat} (hc : c < np) (hi : i < np) (hK : K i < 5) : ∃ t, nxF K np np c = some t := by
  cases h : nxF K np np c with
  | some t => exact ⟨t, rfl⟩
  | none =>
    have := nxF_none hc h
    by_cases q : c < i
    · have := this (i - c) (by omega) (by omega)
      rw [show c + (i - c) = i by omega, Nat.mod_eq_of_lt hi] at this
      omega
    · have := this (i + np - c) (by omega) (by omega)
      rw [show c + (i + np - c) = i + np by omega, Nat.add_mod_right, Nat.mod_eq_of_lt hi] at this
      omega
theorem left_er {K : Nat → Nat} {np j : Nat} (hj : j < np) (hK : K j < 5) : leftN (erK K j) np + (if erK K j j < 5 then 0 else 1) = leftN K np := by
  have e : (fun i => decide (erK K j i < 5)) = fun k => if k = j then decide (erK K j j < 5) else decide (K k < 5) := by
    funext k
    by_cases q : k = j
    · subst q; rw [if_pos rfl]
    · rw [if_neg q]; unfold erK; rw [if_neg q]
  have h := fb_ct_upd (fun i => decide (K i < 5)) (decide (erK K j j < 5)) (i := j) (n := np) hj
  have e2 : (if decide (K j < 5) = true then 1 else 0) = 1 := by rw [if_pos (decide_eq_true hK)]
  unfold leftN
  rw [e]
  by_cases q : erK K j j < 5
  · rw [if_pos q]
    have e3 : (if decide (erK K j j < 5) = true then 1 else 0) = 1 := by rw [if_pos (decide_eq_true q)]
    omega
  · rw [if_neg q]
    have e3 : (if decide (erK K j j < 5) = true then 1 else 0) = 0 := by rw [if_neg (by rw [decide_eq_false q]; exact Bool.false_ne_true)]
    omega
theorem left_ex {K : Nat → Nat} {np : Nat} (h : 0 < leftN K np) : ∃ i, i < np ∧ K i < 5 := by
  obtain ⟨i, h1, h2⟩ := fb_ct_pos.mp h
  exact ⟨i, h1, of_decide_eq_true h2⟩
theorem left_0 : ∀ n, leftN (fun _ => 0) n = n
  | 0 => rfl
  | n + 1 => by
    show fb_ct _ (n + 1) = n + 1
    rw [fb_ct_succ]
    have := left_0 n
    unfold leftN at this
    rw [this]
    rfl
/-- the game: off, or on with a player whose turn it is -/
def GS (K : Nat → Nat) (np F : Nat) (mv lm : Int32) : Prop := (mv = -1 ∧ F = 0) ∨ (2 ≤ leftN K np ∧ (∃ j, mv = nI j ∧ j < np ∧ K j < 5) ∧ (0 < rwL F → ∃ i, lm = nI i ∧ i < np ∧ K i < 5))
theorem GS.hmv {K : Nat → Nat} {np F : Nat} {mv lm : Int32} (h : GS K np F mv lm) : mv = -1 ∨ ∃ j, mv = nI j ∧ j < np ∧ K j < 5 := by
  rcases h with ⟨a, -⟩ | ⟨-, a, -⟩
  · exact Or.inl a
  · exact Or.inr a
theorem GS.hlm {K : Nat → Nat} {np F : Nat} {mv lm : Int32} (h : GS K np F mv lm) : 0 < rwL F → ∃ i, lm = nI i ∧ i < np ∧ K i < 5 := by
  rcases h with ⟨-, a⟩ | ⟨-, -, a⟩
  · intro z; subst a; exact absurd z (by simp [rwL])
  · exact a
theorem GS.on {K : Nat → Nat} {np F : Nat} {mv lm : Int32} {j : Nat} (h : GS K np F mv lm) (e : mv = nI j) (hj : j < 1000) : 2 ≤ leftN K np := by
  rcases h with ⟨a, -⟩ | ⟨a, -⟩
  · exact absurd (e.symm.trans a) (nI_nem1 (by omega))
  · exact a
theorem GS.lost {K : Nat → Nat} {np j : Nat} {lm : Int32} (h2 : 2 ≤ leftN K np) (hj : j < np) (hK : K j < 5) : GS (erK K j) np 0 (erM K np j) lm := by
  have h3 := left_er hj hK
  have z0 : 0 < rwL 0 → ∃ i, lm = nI i ∧ i < np ∧ erK K j i < 5 := fun z => absurd z (by simp [rwL])
  unfold erM
  by_cases q : leftN (erK K j) np = 1
  · rw [if_pos q]; exact Or.inl ⟨rfl, rfl⟩
  · rw [if_neg q]
    by_cases h5 : erK K j j < 5
    · rw [if_pos h5] at h3
      rw [if_neg (by omega)]
      exact Or.inr ⟨by omega, ⟨j, rfl, hj, h5⟩, z0⟩
    · rw [if_neg h5] at h3
      obtain ⟨i, h4, h6⟩ := left_ex (K := erK K j) (np := np) (by omega)
      obtain ⟨t, ht⟩ := nxF_some hj h4 h6
      have hin := nxF_in hj ht
      rw [if_pos (by omega), ht]
      exact Or.inr ⟨by omega, ⟨t, rfl, hin.1, hin.2⟩, z0⟩
theorem GS.played {K : Nat → Nat} {np j F : Nat} (h2 : 2 ≤ leftN K np) (hj : j < np) (hK : K j < 5) : GS K np F (oI (nxF K np np j)) (nI j) := by
  obtain ⟨t, ht⟩ := nxF_some hj hj hK
  have hin := nxF_in hj ht
  rw [ht]
  exact Or.inr ⟨h2, ⟨t, rfl, hin.1, hin.2⟩, fun _ => ⟨j, rfl, hj, hK⟩⟩
theorem GS.begun {n : Nat} {lm : Int32} (h : 2 ≤ n) : GS (fun _ => 0) n 0 (nI 0) lm :=
  Or.inr ⟨by rw [left_0]; exact h, ⟨0, rfl, by omega, by decide⟩, fun z => absurd z (by simp [rwL])⟩
theorem GS.none {K : Nat → Nat} {np : Nat} {lm : Int32} : GS K np 0 (-1) lm := Or.inl ⟨rfl, rfl⟩
theorem GS.len {K : Nat → Nat} {np F F' : Nat} {mv lm : Int32} (h : GS K np F mv lm) (e : rwL F' = rwL F) (e0 : F = 0 → F' = 0) : GS K np F' mv lm := by
  rcases h with ⟨a, b⟩ | ⟨a, b, c⟩
  · exact Or.inl ⟨a, e0 b⟩
  · exact Or.inr ⟨a, b, by rw [e]; exact c⟩
