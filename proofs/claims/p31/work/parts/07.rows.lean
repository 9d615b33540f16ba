def DW (g : GG) (d : Nat) (v : Nat) (f : Nat → Int64) (n : Int32) (L : Int32) : va_W := [(d, .inr (0, [.ref (v), .int (n), .int (L)])), (v, .inl (g.2.2.1, 50, .inr (.inl (f))))]
def QW (g : GG) (q : Nat) (u : Nat) (k : Nat → Int32) (P : Int32) (mv : Int32) (lm : Int32) (ch : Int32) (fr : Int64) : va_W := [(q, .inr (1, [.ref (u), .int (P), .int (mv), .int (lm), .int (ch), .long (fr)])), (u, .inl (g.2.1, 4, .inl (k)))]
def QDW (g : GG) (q : Nat) (u : Nat) (k : Nat → Int32) (P : Int32) (mv : Int32) (lm : Int32) (ch : Int32) (fr : Int64) (d : Nat) (v : Nat) (f : Nat → Int64) (n : Int32) (L : Int32) : va_W := [(q, .inr (1, [.ref (u), .int (P), .int (mv), .int (lm), .int (ch), .long (fr)])), (u, .inl (g.2.1, 4, .inl (k))), (d, .inr (0, [.ref (v), .int (n), .int (L)])), (v, .inl (g.2.2.1, 50, .inr (.inl (f))))]
def FW (g : GG) (x : Nat) (sl : Int64) (q : Nat) (u : Nat) (k : Nat → Int32) (P : Int32) (mv : Int32) (lm : Int32) (ch : Int32) (fr : Int64) (d : Nat) (v : Nat) (f : Nat → Int64) (n : Int32) (L : Int32) : va_W := [(x, .inr (2, [.ref (d), .ref (q), .long (sl)])), (q, .inr (1, [.ref (u), .int (P), .int (mv), .int (lm), .int (ch), .long (fr)])), (u, .inl (g.2.1, 4, .inl (k))), (d, .inr (0, [.ref (v), .int (n), .int (L)])), (v, .inl (g.2.2.1, 50, .inr (.inl (f))))]
/-! rows of letters packed into a number: its length, its letters to the base 32 -/
def rwL (P : Nat) : Nat := P / 1125899906842624
def rwC (P : Nat) : Nat := P % 1125899906842624
def rwK (n c : Nat) : Nat := n * 1125899906842624 + c
def rwX (P a : Nat) : Nat := rwK (rwL P + 1) (rwC P * 32 + a)
def rwB (P m : Nat) : Nat := rwK m (rwC P / 32 ^ (rwL P - m))
def rwA (P i : Nat) : Nat := rwC P / 32 ^ (rwL P - 1 - i) % 32
def RV (P : Nat) : Prop := rwL P ≤ 10 ∧ rwC P < 32 ^ rwL P ∧ ∀ i, i < rwL P → rwA P i < 26
theorem rk_l {n c : Nat} (h : c < 1125899906842624) : rwL (rwK n c) = n := by unfold rwL rwK; omega
theorem rk_c {n c : Nat} (h : c < 1125899906842624) : rwC (rwK n c) = c := by unfold rwC rwK; omega
theorem rk_e (P : Nat) : rwK (rwL P) (rwC P) = P := by unfold rwK rwL rwC; omega
theorem p32 {n m : Nat} (h : n ≤ m) : 32 ^ n ≤ 32 ^ m := Nat.pow_le_pow_right (by decide) h
theorem p32_10 : 32 ^ 10 = 1125899906842624 := by decide
theorem rc_lt (P : Nat) : rwC P < 1125899906842624 := Nat.mod_lt _ (by decide)
theorem rl_mono {P Q : Nat} (h : P ≤ Q) : rwL P ≤ rwL Q := Nat.div_le_div_right h
theorem RV.lt {P : Nat} (h : RV P) : P < 18014398509481984 := by
  have := h.1
  unfold rwL at this
  omega
theorem RV.code {P m : Nat} (h : RV P) (hm : m ≤ rwL P) : rwC P / 32 ^ (rwL P - m) < 32 ^ m := by
  rw [Nat.div_lt_iff_lt_mul (Nat.pow_pos (by decide)), ← Nat.pow_add, Nat.add_sub_cancel' hm]
  exact h.2.1
theorem RV.rbl {P m : Nat} (h : RV P) (hm : m ≤ rwL P) : rwL (rwB P m) = m :=
  rk_l (by have h1 := h.code hm; have h2 := p32 (Nat.le_trans hm h.1); rw [p32_10] at h2; omega)
theorem RV.rbc {P m : Nat} (h : RV P) (hm : m ≤ rwL P) : rwC (rwB P m) = rwC P / 32 ^ (rwL P - m) :=
  rk_c (by have h1 := h.code hm; have h2 := p32 (Nat.le_trans hm h.1); rw [p32_10] at h2; omega)
theorem RV.rbra {P m i : Nat} (h : RV P) (hm : m ≤ rwL P) (hi : i < m) : rwA (rwB P m) i = rwA P i := by
  unfold rwA
  rw [h.rbl hm, h.rbc hm, Nat.div_div_eq_div_mul, ← Nat.pow_add]
  congr 3
  omega
theorem RV.rb {P m : Nat} (h : RV P) (hm : m ≤ rwL P) : RV (rwB P m) := by
  refine ⟨by rw [h.rbl hm]; have := h.1; omega, by rw [h.rbl hm, h.rbc hm]; exact h.code hm, fun i hi => ?_⟩
  rw [h.rbl hm] at hi
  rw [h.rbra hm hi]
  exact h.2.2 i (by omega)
theorem rb_all {P : Nat} : rwB P (rwL P) = P := by
  unfold rwB
  rw [Nat.sub_self, Nat.pow_zero, Nat.div_one, rk_e]
theorem RV.rbb {P m k : Nat} (h : RV P) (hm : m ≤ rwL P) (hk : k ≤ m) : rwB (rwB P m) k = rwB P k := by
  show rwK k _ = rwK k _
  rw [h.rbl hm, h.rbc hm, Nat.div_div_eq_div_mul, ← Nat.pow_add]
  congr 3
  omega
theorem RV.rb0 {P : Nat} (h : RV P) : rwB P 0 = 0 := by
  show rwK 0 _ = 0
  have := h.code (Nat.zero_le _)
  rw [Nat.pow_zero] at this
  unfold rwK
  generalize rwC P / 32 ^ (rwL P - 0) = z at this ⊢
  omega
theorem RV.zero : RV 0 := ⟨by decide, by decide, fun i hi => absurd hi (by unfold rwL; simp)⟩
theorem RV.rbs {P m : Nat} (h : RV P) (hm : m < rwL P) : rwB P (m + 1) = rwX (rwB P m) (rwA P m) := by
  show _ = rwK (rwL (rwB P m) + 1) (rwC (rwB P m) * 32 + rwA P m)
  rw [h.rbl (by omega), h.rbc (by omega)]
  show rwK (m + 1) _ = _
  congr 1
  unfold rwA
  have e : rwL P - m = (rwL P - 1 - m) + 1 := by omega
  have e2 : rwL P - (m + 1) = rwL P - 1 - m := by omega
  rw [e, e2, Nat.pow_succ, ← Nat.div_div_eq_div_mul]
  omega
theorem RV.rxl {P a : Nat} (h : RV P) (hl : rwL P < 10) (ha : a < 32) : rwL (rwX P a) = rwL P + 1 :=
  rk_l (by have h1 := h.2.1; have h2 := p32 (show rwL P ≤ 9 by omega); rw [show 32 ^ 9 = 35184372088832 by decide] at h2; omega)
theorem RV.rxc {P a : Nat} (h : RV P) (hl : rwL P < 10) (ha : a < 32) : rwC (rwX P a) = rwC P * 32 + a :=
  rk_c (by have h1 := h.2.1; have h2 := p32 (show rwL P ≤ 9 by omega); rw [show 32 ^ 9 = 35184372088832 by decide] at h2; omega)
theorem RV.rxb {P a m : Nat} (h : RV P) (hl : rwL P < 10) (ha : a < 32) (hm : m ≤ rwL P) : rwB (rwX P a) m = rwB P m := by
  show rwK m _ = rwK m _
  rw [h.rxl hl ha, h.rxc hl ha, show rwL P + 1 - m = (rwL P - m) + 1 by omega, Nat.pow_succ, Nat.mul_comm (32 ^ _), ← Nat.div_div_eq_div_mul]
  congr 2
  omega
theorem RV.rxa {P a : Nat} (h : RV P) (hl : rwL P < 10) (ha : a < 32) : rwA (rwX P a) (rwL P) = a := by
  unfold rwA
  rw [h.rxl hl ha, h.rxc hl ha, show rwL P + 1 - 1 - rwL P = 0 by omega, Nat.pow_zero, Nat.div_one]
  omega
theorem RV.rxi {P a i : Nat} (h : RV P) (hl : rwL P < 10) (ha : a < 32) (hi : i < rwL P) : rwA (rwX P a) i = rwA P i := by
  unfold rwA
  rw [h.rxl hl ha, h.rxc hl ha, show rwL P + 1 - 1 - i = (rwL P - 1 - i) + 1 by omega, Nat.pow_succ, Nat.mul_comm (32 ^ _), ← Nat.div_div_eq_div_mul]
  congr 2
  omega
theorem RV.rx {P a : Nat} (h : RV P) (hl : rwL P < 10) (ha : a < 26) : RV (rwX P a) := by
  refine ⟨by rw [h.rxl hl (by omega)]; omega, ?_, fun i hi => ?_⟩
  · rw [h.rxl hl (by omega), h.rxc hl (by omega), Nat.pow_succ]
    have := h.2.1
    omega
  · rw [h.rxl hl (by omega)] at hi
    by_cases e : i = rwL P
    · rw [e, h.rxa hl (by omega)]; exact ha
    · rw [h.rxi hl (by omega) (by omega)]; exact h.2.2 i (by omega)
/-- the same letters up to m: the same beginning -/
theorem RV.ext {P Q : Nat} (h : RV P) (h' : RV Q) : ∀ {m : Nat}, m ≤ rwL P → m ≤ rwL Q → (∀ i, i < m → rwA P i = rwA Q i) → rwB P m = rwB Q m
  | 0, _, _, _ => by rw [h.rb0, h'.rb0]
  | m + 1, h1, h2, h3 => by rw [h.rbs h1, h'.rbs h2, RV.ext h h' (by omega) (by omega) (fun i hi => h3 i (by omega)), h3 m (by omega)]
theorem RV.ext_a {P Q m i : Nat} (h : RV P) (h' : RV Q) (h1 : m ≤ rwL P) (h2 : m ≤ rwL Q) (e : rwB P m = rwB Q m) (hi : i < m) : rwA P i = rwA Q i := by
  rw [← h.rbra h1 hi, e, h'.rbra h2 hi]
theorem RV.ext_l {P Q m m' : Nat} (h : RV P) (h' : RV Q) (h1 : m ≤ rwL P) (h2 : m ≤ rwL Q) (e : rwB P m = rwB Q m) (hm : m' ≤ m) : rwB P m' = rwB Q m' := by
  rw [← h.rbb h1 hm, e, h'.rbb h2 hm]
theorem RV.inj {P a b : Nat} (h : RV P) (hl : rwL P < 10) (ha : a < 32) (hb : b < 32) (e : rwX P a = rwX P b) : a = b := by
  rw [← h.rxa hl ha, e, h.rxa hl hb]
/-! of the machine's numbers -/
theorem lc_eq {a b : Nat} (ha : a < 9223372036854775808) (hb : b < 9223372036854775808) : lg_cmp (lN a) (lN b) = 0 ↔ a = b := by
  rw [lg_cmp_eq, pk_lEQ (by omega) (by omega)]
theorem lc_le {a b : Nat} (ha : a < 9223372036854775808) (hb : b < 9223372036854775808) : lg_cmp (lN a) (lN b) ≤ 0 ↔ a ≤ b := by
  rw [lg_cmp_le, pk_lLE (by omega) (by omega)]
theorem dec1 {n : Nat} (h : 0 < n) : nI n + (-1) = nI (n - 1) := by
  have := pk_m1 (n - 1)
  rwa [Nat.sub_add_cancel h] at this
theorem p2_5 (k : Nat) : 2 ^ (5 * k) = 32 ^ k := by rw [Nat.pow_mul]
/-- the letter at a place, out of the whole number -/
theorem ra_of {P t : Nat} (h : t ≤ 9) : P / 32 ^ t % 32 = rwC P / 32 ^ t % 32 := by
  have e : P = rwC P + 32 * 32 ^ (9 - t) * rwL P * 32 ^ t := by
    have h1 : 32 * 32 ^ (9 - t) * rwL P * 32 ^ t = rwL P * 1125899906842624 := by
      rw [← p32_10, show 32 ^ 10 = 32 * 32 ^ 9 by decide, show 32 ^ 9 = 32 ^ (9 - t) * 32 ^ t by rw [← Nat.pow_add]; congr 1; omega]
      simp only [Nat.mul_comm, Nat.mul_left_comm, Nat.mul_assoc]
    rw [h1]
    have := rk_e P
    unfold rwK at this
    omega
  rw (occs := .pos [1]) [e]
  rw [Nat.add_mul_div_right _ _ (Nat.pow_pos (by decide)), Nat.mul_assoc 32, Nat.add_mul_mod_self_left]
theorem pk_or {n c : Nat} (hc : c < 1125899906842624) : lN (n * 2 ^ 50) ||| lN c = lN (rwK n c) := by
  have h := fb_or_sumL (k := 50) n hc
  rw [Nat.mul_comm] at h
  exact h
theorem pk_sh {P : Nat} (hP : P < 18014398509481984) (k : Nat) (hk : k ≤ 10) : ((lN P).toUInt64 >>> ((nI (5 * k)).toInt64.toUInt64 &&& Int64.toUInt64 63)).toInt64 = lN (P / 32 ^ k) := by
  rw [wb_shr (by omega) (by omega), p2_5]
theorem pk_ad {c a : Nat} (ha : a < 32) : lN (c * 2 ^ 5) ||| lN a = lN (c * 32 + a) := by
  have h := fb_or_sumL (k := 5) c ha
  rw [Nat.mul_comm] at h
  exact h
theorem min_nI {a b : Nat} (ha : a < 2 ^ 31) (hb : b < 2 ^ 31) : (if nI b < nI a then nI b else nI a) = nI (min a b) := by
  by_cases h : b < a
  · rw [if_pos ((nI_ltI hb ha).mpr h), Nat.min_eq_right (by omega)]
  · rw [if_neg (fun q => h ((nI_ltI hb ha).mp q)), Nat.min_eq_left (by omega)]
theorem max_nI {a b : Nat} (ha : a < 2 ^ 31) (hb : b < 2 ^ 31) : (if nI a < nI b then nI b else nI a) = nI (max a b) := by
  by_cases h : a < b
  · rw [if_pos ((nI_ltI ha hb).mpr h), Nat.max_eq_right (by omega)]
  · rw [if_neg (fun q => h ((nI_ltI ha hb).mp q)), Nat.max_eq_left (by omega)]
/-- the longest beginning in common -/
def shD (P Q : Nat) : Nat → Nat
  | 0 => 0
  | k + 1 => if rwB P (k + 1) = rwB Q (k + 1) then k + 1 else shD P Q k
def shr (P Q : Nat) : Nat := shD P Q (min (rwL P) (rwL Q))
theorem shD_le (P Q : Nat) : ∀ k, shD P Q k ≤ k
  | 0 => Nat.le_refl _
  | k + 1 => by
    unfold shD
    by_cases h : rwB P (k + 1) = rwB Q (k + 1)
    · rw [if_pos h]; exact Nat.le_refl _
    · rw [if_neg h]; exact Nat.le_succ_of_le (shD_le P Q k)
theorem shD_t {P Q k : Nat} (h : rwB P k = rwB Q k) : shD P Q k = k := by
  cases k with
  | zero => rfl
  | succ k => exact if_pos h
theorem shD_f {P Q k : Nat} (h0 : 0 < k) (h : ¬ rwB P k = rwB Q k) : shD P Q k = shD P Q (k - 1) := by
  cases k with
  | zero => omega
  | succ k => exact if_neg h
theorem shr_le (P Q : Nat) : shr P Q ≤ rwL P ∧ shr P Q ≤ rwL Q := by
  have := shD_le P Q (min (rwL P) (rwL Q))
  unfold shr
  omega
theorem nI_nem1 {n : Nat} (h : n < 2147483648) : ¬ nI n = -1 := fun q => by
  have h1 := nI_toInt (n := n) (by omega)
  rw [q] at h1
  have h2 : (-1 : Int32).toInt = -1 := by decide
  omega
