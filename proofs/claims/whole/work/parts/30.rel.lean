/-! the same words on both sides -/
def EQV (S D : Nat → Nat) (n : Nat) : Prop := ∀ p : Nat → Bool, fb_ct (fun i => p (S i)) n = fb_ct (fun i => p (D i)) n
def SI (S : Nat → Nat) (n : Nat) : Prop := ∀ i j, i < j → j < n → S i < S j
def WR (S D : Nat → Nat) (n : Nat) : Prop := EQV S D n ∧ SI S n ∧ ∀ i, i < n → 2 ≤ rwL (S i)
theorem EQV.ex {S D : Nat → Nat} {n : Nat} (h : EQV S D n) (P : Nat → Prop) : (∃ i, i < n ∧ P (S i)) ↔ ∃ i, i < n ∧ P (D i) := by
  have e := h (fun q => bB (P q))
  constructor
  · rintro ⟨i, h1, h2⟩
    have : 0 < fb_ct (fun i => bB (P (S i))) n := fb_ct_pos.mpr ⟨i, h1, bB_t h2⟩
    rw [e] at this
    obtain ⟨j, h3, h4⟩ := fb_ct_pos.mp this
    exact ⟨j, h3, bB_p h4⟩
  · rintro ⟨i, h1, h2⟩
    have : 0 < fb_ct (fun i => bB (P (D i))) n := fb_ct_pos.mpr ⟨i, h1, bB_t h2⟩
    rw [← e] at this
    obtain ⟨j, h3, h4⟩ := fb_ct_pos.mp this
    exact ⟨j, h3, bB_p h4⟩
theorem EQV.ins {S D : Nat → Nat} {n : Nat} (h : EQV S D n) (Q : Nat) : inS S n Q ↔ inS D n Q := h.ex (fun q => q = Q)
theorem EQV.op {S D : Nat → Nat} {n : Nat} (h : EQV S D n) (ll F : Nat) : opM S ll F n = opM D ll F n := by
  apply Nat.eq_of_testBit_eq
  intro a
  apply Bool.eq_iff_iff.mpr
  rw [opM_bit, opM_bit]
  exact h.ex (fun q => ldP ll F q ∧ rwA q (rwL F) = a)
theorem EQV.hw {S D : Nat → Nat} {n : Nat} (h : EQV S D n) (ll : Nat) : hwB S n ll = hwB D n ll := by
  funext q
  unfold hwB
  exact bB_cong (and_congr Iff.rfl (h.ins q))
theorem EQV.opf {S D : Nat → Nat} {n : Nat} (h : EQV S D n) (ll : Nat) : (fun F => opM S ll F n) = fun F => opM D ll F n := funext (fun F => h.op ll F)
theorem EQV.way {S D : Nat → Nat} {n : Nat} (h : EQV S D n) (ll F Y : Nat) : wyP S n ll F Y ↔ wyP D n ll F Y :=
  and_congr Iff.rfl (forall_congr' fun k => imp_congr Iff.rfl (imp_congr Iff.rfl (not_congr (and_congr Iff.rfl (h.ins _)))))
theorem EQV.ways {S D : Nat → Nat} {n : Nat} (h : EQV S D n) (ll F : Nat) (R : Nat → Prop) : fb_ct (fun i => bB (wyP S n ll F (S i) ∧ R (S i))) n = fb_ct (fun i => bB (wyP D n ll F (D i) ∧ R (D i))) n := by
  rw [← h (fun q => bB (wyP D n ll F q ∧ R q))]
  exact fb_ct_cong (fun k _ => bB_cong (and_congr (h.way ll F _) Iff.rfl))
theorem EQV.ways1 {S D : Nat → Nat} {n : Nat} (h : EQV S D n) (ll F : Nat) : fb_ct (fun i => bB (wyP S n ll F (S i))) n = fb_ct (fun i => bB (wyP D n ll F (D i))) n := by
  rw [← h (fun q => bB (wyP D n ll F q))]
  exact fb_ct_cong (fun k _ => bB_cong (h.way ll F _))
theorem EQV.whole {S D : Nat → Nat} {n : Nat} (h : EQV S D n) (ll X : Nat) : (ll ≤ rwL X ∧ inS S n X) ↔ ∃ k, k < n ∧ hwM D n ll X k true := by
  rw [h.ins X]
  constructor
  · rintro ⟨a, k, b, c⟩
    exact ⟨k, b, by rw [c]; exact a, by rw [c]; exact bg_self X, fun _ => by rw [c]⟩
  · rintro ⟨k, b, c, d, e⟩
    have e1 := e rfl
    exact ⟨by omega, k, b, bg_eq e1 d⟩
theorem EQV.from {S D : Nat → Nat} {n : Nat} (h : EQV S D n) (ll F : Nat) : (∃ i, i < n ∧ ll ≤ rwL (S i) ∧ bgP (S i) F) ↔ ∃ k, k < n ∧ hwM D n ll F k false := by
  rw [h.ex (fun q => ll ≤ rwL q ∧ bgP q F)]
  constructor
  · rintro ⟨k, a, b, c⟩; exact ⟨k, a, b, c, fun q => absurd q Bool.false_ne_true⟩
  · rintro ⟨k, a, b, c, -⟩; exact ⟨k, a, b, c⟩
/-! a word more, a word less -/
theorem ct_if (b : Bool) : (if b = true then 1 else 0) ≤ 1 := by cases b <;> decide
theorem InsAt.ct {S S' : Nat → Nat} {n t Q : Nat} (h : InsAt S n t Q S') (p : Nat → Bool) : fb_ct (fun i => p (S' i)) (n + 1) = fb_ct (fun i => p (S i)) n + (if p Q = true then 1 else 0) := by
  obtain ⟨ht, h1, h2, h3, -, -⟩ := h
  have e1 : n + 1 = t + ((n - t) + 1) := by omega
  have e2 : n = t + (n - t) := by omega
  have k1 : fb_ct (fun i => p (S' i)) t = fb_ct (fun i => p (S i)) t := fb_ct_cong (fun k hk => by rw [h1 k hk])
  have k2 : ∀ m, m ≤ n - t → fb_ct (fun k => p (S' (t + k))) (m + 1) = fb_ct (fun k => p (S (t + k))) m + (if p Q = true then 1 else 0) := by
    intro m
    induction m with
    | zero => intro _; rw [fb_ct_succ]; show 0 + (if p (S' (t + 0)) = true then 1 else 0) = 0 + _; rw [Nat.add_zero, h2]
    | succ m ih =>
      intro hm
      rw [fb_ct_succ, ih (by omega), fb_ct_succ, show t + (m + 1) = (t + m) + 1 by omega, h3 (t + m) (by omega) (by omega)]
      omega
  rw [e1, fb_ct_split, k1, k2 (n - t) (Nat.le_refl _)]
  have e3 : fb_ct (fun i => p (S i)) n = fb_ct (fun i => p (S i)) (t + (n - t)) := congrArg _ e2
  rw [e3, fb_ct_split]
  omega
theorem InsAt.SI {S S' : Nat → Nat} {n t Q : Nat} (h : InsAt S n t Q S') (hs : SI S n) (hn : ¬ inS S n Q) : SI S' (n + 1) := by
  obtain ⟨ht, h1, h2, h3, h4, h5⟩ := h
  have hlt : ∀ i, i < t → S i < Q := fun i hi => by
    rcases h4 with q | q
    · omega
    · have a : S (t - 1) ≠ Q := fun z => hn ⟨t - 1, by omega, z⟩
      by_cases e : i = t - 1
      · rw [e]; omega
      · have := hs i (t - 1) (by omega) (by omega); omega
  intro i j hij hj
  by_cases a : j < t
  · rw [h1 i (by omega), h1 j a]; exact hs i j hij (by omega)
  · by_cases b : j = t
    · rw [b, h2, h1 i (by omega)]; exact hlt i (by omega)
    · have ej := h3 (j - 1) (by omega) (by omega)
      rw [Nat.sub_add_cancel (by omega)] at ej
      rw [ej]
      by_cases c : i < t
      · rw [h1 i c]; exact hs i (j - 1) (by omega) (by omega)
      · by_cases d : i = t
        · rw [d, h2]; exact h5 (j - 1) (by omega) (by omega)
        · have ei := h3 (i - 1) (by omega) (by omega)
          rw [Nat.sub_add_cancel (by omega)] at ei
          rw [ei]; exact hs (i - 1) (j - 1) (by omega) (by omega)
theorem adD_ct (D : Nat → Nat) (n Q : Nat) (p : Nat → Bool) : fb_ct (fun i => p (adD D n Q i)) (n + 1) = fb_ct (fun i => p (D i)) n + (if p Q = true then 1 else 0) := by
  rw [fb_ct_succ]
  have e : adD D n Q n = Q := if_pos rfl
  rw [e]
  congr 1
  exact fb_ct_cong (fun k hk => by rw [show adD D n Q k = D k from if_neg (by omega)])
theorem WR.add {S D S' : Nat → Nat} {n t Q : Nat} (h : WR S D n) (hi : InsAt S n t Q S') (hn : ¬ inS S n Q) (hQ : 2 ≤ rwL Q) : WR S' (adD D n Q) (n + 1) := by
  refine ⟨fun p => by rw [hi.ct, adD_ct, h.1 p], hi.SI h.2.1 hn, fun i hi9 => ?_⟩
  obtain ⟨ht, h1, h2, h3, -, -⟩ := hi
  by_cases a : i < t
  · rw [h1 i a]; exact h.2.2 i (by omega)
  · by_cases b : i = t
    · rw [b, h2]; exact hQ
    · have ei := h3 (i - 1) (by omega) (by omega)
      rw [Nat.sub_add_cancel (by omega)] at ei
      rw [ei]; exact h.2.2 (i - 1) (by omega)
theorem RemAt.ct {S S' : Nat → Nat} {n t : Nat} (h : RemAt S n t S') (p : Nat → Bool) : fb_ct (fun i => p (S i)) n = fb_ct (fun i => p (S' i)) (n - 1) + (if p (S t) = true then 1 else 0) := by
  obtain ⟨ht, h1, h2⟩ := h
  have k1 : fb_ct (fun i => p (S' i)) t = fb_ct (fun i => p (S i)) t := fb_ct_cong (fun k hk => by rw [h1 k hk])
  have k2 : fb_ct (fun k => p (S' (t + k))) (n - 1 - t) = fb_ct (fun k => p (S (t + 1 + k))) (n - 1 - t) := fb_ct_cong (fun k hk => by rw [h2 (t + k) (by omega) (by omega)]; congr 2; omega)
  have e1 : fb_ct (fun i => p (S' i)) (n - 1) = fb_ct (fun i => p (S' i)) (t + (n - 1 - t)) := by congr 1; omega
  have e2 : fb_ct (fun i => p (S i)) n = fb_ct (fun i => p (S i)) ((t + 1) + (n - 1 - t)) := by congr 1; omega
  rw [e1, e2, fb_ct_split (fun i => p (S i)) (t + 1), fb_ct_split (fun i => p (S' i)) t, k1, k2, fb_ct_succ]
  omega
theorem rmD_ct {D : Nat → Nat} {n t : Nat} (ht : t < n) (p : Nat → Bool) : fb_ct (fun i => p (D i)) n = fb_ct (fun i => p (rmD D n t i)) (n - 1) + (if p (D t) = true then 1 else 0) := by
  have e0 : (fun i => p (rmD D n t i)) = fun k => if k = t then p (D (n - 1)) else p (D k) := by
    funext k
    unfold rmD
    by_cases e : k = t
    · rw [if_pos e, if_pos e]
    · rw [if_neg e, if_neg e]
  have e1 : fb_ct (fun i => p (D i)) n = fb_ct (fun i => p (D i)) (n - 1) + (if p (D (n - 1)) = true then 1 else 0) := by
    have := fb_ct_succ (fun i => p (D i)) (n - 1)
    rw [Nat.sub_add_cancel (by omega)] at this
    exact this
  rw [e0, e1]
  by_cases e : t = n - 1
  · rw [fb_ct_out (fun i => p (D i)) _ (by omega), e]
  · have := fb_ct_upd (fun i => p (D i)) (p (D (n - 1))) (i := t) (n := n - 1) (by omega)
    omega
theorem WR.rem {S D S' : Nat → Nat} {n t t' : Nat} (h : WR S D n) (hr : RemAt S n t S') (ht' : t' < n) (e : S t = D t') : WR S' (rmD D n t') (n - 1) := by
  refine ⟨fun p => ?_, ?_, ?_⟩
  · have a := hr.ct p
    have b := rmD_ct (D := D) ht' p
    have c := h.1 p
    rw [e] at a
    omega
  · obtain ⟨ht, h1, h2⟩ := hr
    intro i j hij hj
    by_cases a : j < t
    · rw [h1 i (by omega), h1 j a]; exact h.2.1 i j hij (by omega)
    · rw [h2 j (by omega) (by omega)]
      by_cases b : i < t
      · rw [h1 i b]; exact h.2.1 i (j + 1) (by omega) (by omega)
      · rw [h2 i (by omega) (by omega)]; exact h.2.1 (i + 1) (j + 1) (by omega) (by omega)
  · obtain ⟨ht, h1, h2⟩ := hr
    intro i hi
    by_cases a : i < t
    · rw [h1 i a]; exact h.2.2 i (by omega)
    · rw [h2 i (by omega) (by omega)]; exact h.2.2 (i + 1) (by omega)
/-! the word at a place of the order -/
theorem SI.rank {S : Nat → Nat} {n i : Nat} (h : SI S n) (hi : i < n) : fb_ct (fun z => bB (S z < S i)) n = i := by
  have e : n = i + (n - i) := by omega
  rw [e, fb_ct_split]
  have k1 : fb_ct (fun z => bB (S z < S i)) i = i := fb_ct_all.mpr (fun k hk => bB_t (h k i hk hi))
  have k2 : fb_ct (fun k => bB (S (i + k) < S i)) (n - i) = 0 := fb_ct_zero.mpr (fun k hk => bB_f (fun q => by
    by_cases z : k = 0
    · subst z; rw [Nat.add_zero] at q; exact Nat.lt_irrefl _ q
    · have := h i (i + k) (by omega) (by omega)
      omega))
  rw [k1, k2, Nat.add_zero]
theorem WR.rank {S D : Nat → Nat} {n j t : Nat} (h : WR S D n) (hj : j < n) (ht : t < n) (hr : rankD D n t = j) : D t = S j := by
  obtain ⟨i, h1, h2⟩ := (h.1.ex (fun q => q = D t)).mpr ⟨t, ht, rfl⟩
  have e := h.1 (fun q => bB (q < D t))
  have r := h.2.1.rank h1
  rw [h2] at r
  have : rankD D n t = fb_ct (fun i => bB (D i < D t)) n := rfl
  rw [this, ← e, r] at hr
  rw [← h2, hr]
theorem WR.ranks {S D : Nat → Nat} {n : Nat} (h : WR S D n) : ∀ j, j < n → ∃ k, k < n ∧ rankD D n k = j := fun j hj => by
  obtain ⟨k, h1, h2⟩ := (h.1.ex (fun q => q = S j)).mp ⟨j, hj, rfl⟩
  refine ⟨k, h1, ?_⟩
  show fb_ct (fun i => bB (D i < D k)) n = j
  rw [h2, ← h.1 (fun q => bB (q < S j))]
  exact h.2.1.rank hj
/-! the beginnings -/
def isPre (D : Nat → Nat) (n q : Nat) : Prop := ∃ k, k < n ∧ ∃ i, i ≤ rwL (D k) ∧ q = rwB (D k) i
theorem ct_one {c : Nat} : ∀ {n : Nat}, c < n → fb_ct (fun q => bB (q = c)) n = 1
  | 0, h => absurd h (Nat.not_lt_zero _)
  | n + 1, h => by
    rw [fb_ct_succ]
    by_cases e : n = c
    · subst e
      rw [fb_ct_zero.mpr (fun k hk => bB_f (by omega)), bB_t rfl]
      rfl
    · rw [ct_one (show c < n by omega), bB_f e]
      rfl
theorem ct_img {M : Nat} {g : Nat → Nat} {P : Nat → Prop} : ∀ {m : Nat}, (∀ i, i < m → g i < M) → (∀ i j, i < m → j < m → g i = g j → i = j) → fb_ct (fun q => bB (∃ i, i < m ∧ P i ∧ q = g i)) M = fb_ct (fun i => bB (P i)) m
  | 0, _, _ => fb_ct_zero.mpr (fun k _ => bB_f (fun ⟨i, h, _⟩ => absurd h (Nat.not_lt_zero _)))
  | m + 1, h1, h2 => by
    have ih := ct_img (M := M) (g := g) (P := P) (m := m) (fun i hi => h1 i (by omega)) (fun i j hi hj => h2 i j (by omega) (by omega))
    rw [fb_ct_succ, ← ih]
    by_cases p : P m
    · rw [bB_t p, if_pos rfl]
      refine Eq.trans ?_ (congrArg (fun z => fb_ct (fun q => bB (∃ i, i < m ∧ P i ∧ q = g i)) M + z) (ct_one (h1 m (by omega))))
      rw [← fb_ct_or]
      · refine fb_ct_cong (fun q _ => Bool.eq_iff_iff.mpr ?_)
        rw [Bool.or_eq_true, bB_iff, bB_iff, bB_iff]
        constructor
        · rintro ⟨i, a, b, c⟩
          by_cases e : i = m
          · subst e; exact Or.inr c
          · exact Or.inl ⟨i, by omega, b, c⟩
        · rintro (⟨i, a, b, c⟩ | c)
          · exact ⟨i, by omega, b, c⟩
          · exact ⟨m, by omega, p, c⟩
      · rintro q - ⟨a, b⟩
        obtain ⟨i, c, -, d⟩ := bB_p a
        have e := bB_p b
        have := h2 i m (by omega) (by omega) (d.symm.trans e)
        omega
    · rw [bB_f p, if_neg Bool.false_ne_true, Nat.add_zero]
      refine fb_ct_cong (fun q _ => bB_cong ?_)
      constructor
      · rintro ⟨i, a, b, c⟩
        exact ⟨i, by rcases Nat.lt_or_ge i m with w | w; exact w; exact absurd (by rw [show i = m by omega] at b; exact b) p, b, c⟩
      · rintro ⟨i, a, b, c⟩; exact ⟨i, by omega, b, c⟩
theorem bgm_pre {D : Nat → Nat} : ∀ {n : Nat}, (∀ j, j < n → RV (D j)) → bgmD D n = fb_ct (fun q => bB (isPre D n q)) 18014398509481984
  | 0, _ => (fb_ct_zero.mpr (fun k _ => bB_f (fun ⟨i, h, _⟩ => absurd h (Nat.not_lt_zero _)))).symm
  | n + 1, h => by
    have ih := bgm_pre (D := D) (n := n) (fun j hj => h j (by omega))
    have hn := h n (by omega)
    have e : bgmD D (n + 1) = bgmD D n + fb_ct (fun i => bB (∀ j, j < n → ¬ alP (D n) (D j) i)) (rwL (D n) + 1) := by unfold bgmD; rw [fb_sm_succ]
    have im := ct_img (M := 18014398509481984) (g := rwB (D n)) (P := fun i => ∀ j, j < n → ¬ alP (D n) (D j) i) (m := rwL (D n) + 1) (fun i hi => (hn.rb (by omega)).lt) (fun i j hi hj e => by
      have a := hn.rbl (m := i) (by omega)
      have b := hn.rbl (m := j) (by omega)
      rw [e] at a; omega)
    rw [e, ih, ← im, ← fb_ct_or]
    · refine fb_ct_cong (fun q _ => Bool.eq_iff_iff.mpr ?_)
      rw [Bool.or_eq_true, bB_iff, bB_iff, bB_iff]
      constructor
      · rintro (⟨k, a, b⟩ | ⟨i, a, -, c⟩)
        · exact ⟨k, by omega, b⟩
        · exact ⟨n, by omega, i, by omega, c⟩
      · rintro ⟨k, a, i, b, c⟩
        by_cases z : k = n
        · subst z
          by_cases y : ∀ j, j < k → ¬ alP (D k) (D j) i
          · exact Or.inr ⟨i, by omega, y, c⟩
          · have : ∃ j, j < k ∧ alP (D k) (D j) i := Classical.byContradiction (fun w => y (fun j hj hal => w ⟨j, hj, hal⟩))
            obtain ⟨j, d, al⟩ := this
            exact Or.inl ⟨j, d, i, al.2.1, by rw [c]; exact al.2.2⟩
        · exact Or.inl ⟨k, by omega, i, b, c⟩
    · rintro q - ⟨a, b⟩
      obtain ⟨k, c, i, d, e1⟩ := bB_p a
      obtain ⟨i', f, g, e2⟩ := bB_p b
      have hk := h k (by omega)
      have l1 := hk.rbl d
      have l2 := hn.rbl (m := i') (by omega)
      rw [← e1, e2, l2] at l1
      subst l1
      exact g k c ⟨by omega, d, e2.symm.trans e1⟩
theorem shD_spec {P Q : Nat} (hP : RV P) (hQ : RV Q) : ∀ {k i : Nat}, k ≤ rwL P → k ≤ rwL Q → i ≤ k → (rwB P i = rwB Q i ↔ i ≤ shD P Q k)
  | 0, i, _, _, hi => by
    rw [show i = 0 by omega]
    exact ⟨fun _ => Nat.zero_le _, fun _ => by rw [hP.rb0, hQ.rb0]⟩
  | k + 1, i, h1, h2, hi => by
    by_cases e : rwB P (k + 1) = rwB Q (k + 1)
    · rw [shD_t e]
      exact ⟨fun _ => hi, fun _ => RV.ext_l hP hQ h1 h2 e hi⟩
    · rw [shD_f (by omega) e, Nat.add_sub_cancel]
      have hle := shD_le P Q k
      by_cases z : i = k + 1
      · subst z
        exact ⟨fun q => absurd q e, fun q => by omega⟩
      · exact shD_spec hP hQ (by omega) (by omega) (by omega)
theorem al_shr {P Q i : Nat} (hP : RV P) (hQ : RV Q) : alP Q P i ↔ i ≤ shr P Q := by
  have hs := shr_le P Q
  constructor
  · rintro ⟨a, b, c⟩
    exact (shD_spec hP hQ (k := min (rwL P) (rwL Q)) (by omega) (by omega) (by omega)).mp c.symm
  · intro h
    refine ⟨by omega, by omega, ((shD_spec hP hQ (k := min (rwL P) (rwL Q)) (by omega) (by omega) (by omega)).mpr h).symm⟩
theorem lsF_spec {S : Nat → Nat} {Q : Nat} (hQ : RV Q) {i : Nat} : ∀ {j : Nat}, 0 < j → (∀ k, k < j → RV (S k)) → ((∃ k, k < j ∧ alP Q (S k) i) ↔ i ≤ lsF S Q j)
  | 0, h, _ => absurd h (Nat.lt_irrefl 0)
  | j + 1, _, hV => by
    have hm : lsF S Q (j + 1) = max (lsF S Q j) (shr (S j) Q) := rfl
    rw [hm]
    by_cases z : j = 0
    · subst z
      have h0 : lsF S Q 0 = 0 := rfl
      rw [h0]
      constructor
      · rintro ⟨k, a, b⟩
        rw [show k = 0 by omega] at b
        have := (al_shr (hV 0 (by omega)) hQ).mp b
        omega
      · intro h
        exact ⟨0, by omega, (al_shr (hV 0 (by omega)) hQ).mpr (by omega)⟩
    · have ih := lsF_spec (S := S) hQ (i := i) (j := j) (by omega) (fun k hk => hV k (by omega))
      constructor
      · rintro ⟨k, a, b⟩
        by_cases e : k = j
        · subst e
          have := (al_shr (hV k (by omega)) hQ).mp b
          omega
        · have := ih.mp ⟨k, by omega, b⟩
          omega
      · intro h
        by_cases e : i ≤ lsF S Q j
        · obtain ⟨k, a, b⟩ := ih.mpr e
          exact ⟨k, by omega, b⟩
        · exact ⟨j, by omega, (al_shr (hV j (by omega)) hQ).mpr (by omega)⟩
theorem ct_gt {L : Nat} : ∀ {m : Nat}, fb_ct (fun i => bB (L < i)) m = m - 1 - L
  | 0 => by show 0 = _; omega
  | m + 1 => by
    rw [fb_ct_succ, ct_gt]
    by_cases e : L < m
    · rw [bB_t e, if_pos rfl]; omega
    · rw [bB_f e, if_neg Bool.false_ne_true]; omega
theorem bgn_S {S : Nat → Nat} : ∀ {n : Nat}, (∀ k, k < n → RV (S k)) → bgnN S n = if n = 0 then 1 else bgmD S n
  | 0, _ => rfl
  | n + 1, hV => by
    rw [if_neg (by omega)]
    have ih := bgn_S (S := S) (n := n) (fun k hk => hV k (by omega))
    have e1 : bgnN S (n + 1) = bgnN S n + (rwL (S n) - lsF S (S n) n) := by unfold bgnN; rw [fb_sm_succ]; omega
    have e2 : bgmD S (n + 1) = bgmD S n + fb_ct (fun i => bB (∀ j, j < n → ¬ alP (S n) (S j) i)) (rwL (S n) + 1) := by unfold bgmD; rw [fb_sm_succ]
    rw [e1, e2, ih]
    by_cases z : n = 0
    · subst z
      rw [if_pos rfl]
      have a : fb_ct (fun i => bB (∀ j, j < 0 → ¬ alP (S 0) (S j) i)) (rwL (S 0) + 1) = rwL (S 0) + 1 := fb_ct_all.mpr (fun k _ => bB_t (fun j h => absurd h (Nat.not_lt_zero _)))
      rw [a]
      show 1 + (rwL (S 0) - 0) = 0 + _
      omega
    · rw [if_neg z]
      congr 1
      have a : fb_ct (fun i => bB (∀ j, j < n → ¬ alP (S n) (S j) i)) (rwL (S n) + 1) = fb_ct (fun i => bB (lsF S (S n) n < i)) (rwL (S n) + 1) := fb_ct_cong (fun i _ => bB_cong (by
        have := lsF_spec (S := S) (hV n (by omega)) (i := i) (j := n) (by omega) (fun k hk => hV k (by omega))
        constructor
        · intro q
          rcases Nat.lt_or_ge (lsF S (S n) n) i with w | w
          · exact w
          · obtain ⟨k, b, c⟩ := this.mpr w
            exact absurd c (q k b)
        · intro q j hj hal
          have := this.mp ⟨j, hj, hal⟩
          omega))
      rw [a, ct_gt]
      omega
theorem WR.beg {S D : Nat → Nat} {n : Nat} (h : WR S D n) (hS : ∀ k, k < n → RV (S k)) (hD : ∀ k, k < n → RV (D k)) : bgnN S n = if n = 0 then 1 else bgmD D n := by
  rw [bgn_S hS]
  by_cases z : n = 0
  · rw [if_pos z, if_pos z]
  · rw [if_neg z, if_neg z, bgm_pre hS, bgm_pre hD]
    exact fb_ct_cong (fun q _ => bB_cong (h.1.ex (fun w => ∃ i, i ≤ rwL w ∧ q = rwB w i)))
/-! the round's end -/
theorem nxF_in {K : Nat → Nat} {np : Nat} : ∀ {s c t : Nat}, c < np → nxF K np s c = some t → t < np ∧ K t < 5
  | 0, _, _, _, h => by cases h
  | s + 1, c, t, hc, h => by
    have h1 : nx1 np c < np := by unfold nx1; by_cases q : c + 1 < np; (rw [if_pos q]; exact q); (rw [if_neg q]; omega)
    have e : nxF K np (s + 1) c = if K (nx1 np c) < 5 then some (nx1 np c) else nxF K np s (nx1 np c) := rfl
    rw [e] at h
    by_cases q : K (nx1 np c) < 5
    · rw [if_pos q] at h
      cases h
      exact ⟨h1, q⟩
    · rw [if_neg q] at h
      exact nxF_in h1 h
theorem nxF_none {K : Nat → Nat} {np : Nat} : ∀ {s c : Nat}, c < np → nxF K np s c = none → ∀ r, 1 ≤ r → r ≤ s → 5 ≤ K ((c + r) % np)
  | 0, _, _, _, r, h1, h2 => by omega
  | s + 1, c, hc, h, r, h1, h2 => by
    have e1 : nx1 np c = (c + 1) % np := by
      unfold nx1
      by_cases q : c + 1 < np
      · rw [if_pos q, Nat.mod_eq_of_lt q]
      · rw [if_neg q, show c + 1 = np by omega, Nat.mod_self]
    have hlt : nx1 np c < np := by rw [e1]; exact Nat.mod_lt _ (by omega)
    have e : nxF K np (s + 1) c = if K (nx1 np c) < 5 then some (nx1 np c) else nxF K np s (nx1 np c) := rfl
    rw [e] at h
    by_cases q : K (nx1 np c) < 5
    · rw [if_pos q] at h; cases h
    · rw [if_neg q] at h
      by_cases z : r = 1
      · subst z; rw [← e1]; omega
      · have := nxF_none hlt h (r - 1) (by omega) (by omega)
        rw [e1, Nat.mod_add_mod, show c + 1 + (r - 1) = c + r by omega] at this
        exact this
theorem nxF_some {K : Nat → Nat} {np c i : Nat} (hc : c < np) (hi : i < np) (hK : K i < 5) : ∃ t, nxF K np np c = some t := by
  cases h : nxF K np np c with
  | some t => exact ⟨t, rfl⟩
  | none =>
    have := nxF_none hc h
    by_cases q : c < i
    · have := this (i - c) (by omega) (by omega)
      rw [show c + (i - c) = i by omega, Nat.mod_eq_of_lt hi] at this
      omega
    · have := this (i + np - c) (by omega) (by omega)
      rw [show c + (i + np - c) = i + np by omega, Nat.add_mod_right, Nat.mod_eq_of_lt hi] at this
      omega
theorem left_er {K : Nat → Nat} {np j : Nat} (hj : j < np) (hK : K j < 5) : leftN (erK K j) np + (if erK K j j < 5 then 0 else 1) = leftN K np := by
  have e : (fun i => decide (erK K j i < 5)) = fun k => if k = j then decide (erK K j j < 5) else decide (K k < 5) := by
    funext k
    by_cases q : k = j
    · subst q; rw [if_pos rfl]
    · rw [if_neg q]; unfold erK; rw [if_neg q]
  have h := fb_ct_upd (fun i => decide (K i < 5)) (decide (erK K j j < 5)) (i := j) (n := np) hj
  have e2 : (if decide (K j < 5) = true then 1 else 0) = 1 := by rw [if_pos (decide_eq_true hK)]
  unfold leftN
  rw [e]
  by_cases q : erK K j j < 5
  · rw [if_pos q]
    have e3 : (if decide (erK K j j < 5) = true then 1 else 0) = 1 := by rw [if_pos (decide_eq_true q)]
    omega
  · rw [if_neg q]
    have e3 : (if decide (erK K j j < 5) = true then 1 else 0) = 0 := by rw [if_neg (by rw [decide_eq_false q]; exact Bool.false_ne_true)]
    omega
theorem left_ex {K : Nat → Nat} {np : Nat} (h : 0 < leftN K np) : ∃ i, i < np ∧ K i < 5 := by
  obtain ⟨i, h1, h2⟩ := fb_ct_pos.mp h
  exact ⟨i, h1, of_decide_eq_true h2⟩
/-- the game on both sides -/
def GR (K : Nat → Nat) (np F : Nat) (mv lm ch tu la wi : Int32) : Prop := ch = wi ∧ (0 < np → wi = -1 → mv = tu ∧ 2 ≤ leftN K np ∧ ∃ j, tu = nI j ∧ j < np ∧ K j < 5) ∧ (¬ (0 < np ∧ wi = -1) → mv = -1 ∧ F = 0) ∧ (0 < rwL F → lm = la ∧ ∃ j, la = nI j ∧ j < np ∧ K j < 5)
theorem GR.go {K : Nat → Nat} {np F : Nat} {mv lm ch tu la wi : Int32} (h : GR K np F mv lm ch tu la wi) : 0 < np → wi = -1 → ∃ j, tu = nI j ∧ j < np ∧ K j < 5 := fun a b => (h.2.1 a b).2.2
theorem GR.mv {K : Nat → Nat} {np F : Nat} {mv lm ch tu la wi : Int32} (h : GR K np F mv lm ch tu la wi) : mv = -1 ∨ ∃ j, mv = nI j ∧ j < np ∧ K j < 5 := by
  by_cases q : 0 < np ∧ wi = -1
  · obtain ⟨a, -, b⟩ := h.2.1 q.1 q.2
    rw [a]; exact Or.inr b
  · exact Or.inl (h.2.2.1 q).1
theorem GR.off {K : Nat → Nat} {np F : Nat} {mv lm ch tu la wi : Int32} (h : GR K np F mv lm ch tu la wi) (hp : np ≤ 4) : (mv = -1) ↔ ¬ (0 < np ∧ wi = -1) := by
  constructor
  · intro e q
    obtain ⟨a, -, j, b, c, -⟩ := h.2.1 q.1 q.2
    rw [e, b] at a
    exact nI_nem1 (by omega) a.symm
  · intro q; exact (h.2.2.1 q).1
theorem GR.next {K : Nat → Nat} {np : Nat} : ∀ j, j < np → K j < 5 → ∃ t, nxF K np np j = some t := fun _ hj hK => nxF_some hj hj hK
theorem GR.next2 {K : Nat → Nat} {np F : Nat} {mv lm ch tu la wi : Int32} (h : GR K np F mv lm ch tu la wi) (hg : 0 < np ∧ wi = -1) : ∀ j, j < np → K j < 5 → 5 ≤ erK K j j → ∃ t, nxF (erK K j) np np j = some t := fun j hj hK h5 => by
  have h2 := (h.2.1 hg.1 hg.2).2.1
  have h3 := left_er hj hK
  rw [if_neg (by omega)] at h3
  obtain ⟨i, h4, h6⟩ := left_ex (K := erK K j) (np := np) (by omega)
  exact nxF_some hj h4 h6
theorem GR.lost {K : Nat → Nat} {np F j : Nat} {mv lm ch tu la wi lm' la' : Int32} (h : GR K np F mv lm ch tu la wi) (hg : 0 < np ∧ wi = -1) (hj : j < np) (hK : K j < 5) (hp : np ≤ 4) : GR (erK K j) np 0 (erM K np j) lm' (erC K np j ch) (lsT K np j) la' (lsW K np j) := by
  have h2 := (h.2.1 hg.1 hg.2).2.1
  have h3 := left_er hj hK
  have hch : ch = -1 := h.1.trans hg.2
  by_cases q : leftN (erK K j) np = 1
  · have h5 : ¬ erK K j j < 5 := fun z => by rw [if_pos z] at h3; omega
    obtain ⟨t, ht⟩ := h.next2 hg j hj hK (by omega)
    have hin := nxF_in hj ht
    have e1 : lsT K np j = nI t := by unfold lsT; rw [if_neg h5, ht]; rfl
    have e2 : lsW K np j = nI t := by unfold lsW; rw [if_pos q, e1]
    have e3 : erC K np j ch = nI t := by unfold erC; rw [if_pos q, ht]; rfl
    have e4 : erM K np j = -1 := by unfold erM; rw [if_pos q]
    refine ⟨by rw [e3, e2], fun _ z => ?_, fun _ => ⟨e4, rfl⟩, fun z => absurd z (by decide)⟩
    rw [e2] at z
    exact absurd z (nI_nem1 (by omega))
  · have e2 : lsW K np j = -1 := by unfold lsW; rw [if_neg q]
    have e3 : erC K np j ch = ch := by unfold erC; rw [if_neg q]
    have e4 : erM K np j = if 5 ≤ erK K j j then oI (nxF (erK K j) np np j) else nI j := by unfold erM; rw [if_neg q]
    refine ⟨by rw [e3, e2, hch], fun _ _ => ?_, fun z => absurd ⟨hg.1, e2⟩ z, fun z => absurd z (by decide)⟩
    by_cases h5 : erK K j j < 5
    · rw [if_pos h5] at h3
      have e5 : lsT K np j = nI j := by unfold lsT; rw [if_pos h5]
      rw [e4, if_neg (by omega), e5]
      exact ⟨rfl, by omega, j, rfl, hj, h5⟩
    · rw [if_neg h5] at h3
      obtain ⟨t, ht⟩ := h.next2 hg j hj hK (by omega)
      have hin := nxF_in hj ht
      have e5 : lsT K np j = nI t := by unfold lsT; rw [if_neg h5, ht]; rfl
      rw [e4, if_pos (by omega), e5, ht]
      exact ⟨rfl, by omega, t, rfl, hin.1, hin.2⟩
theorem GR.played {K : Nat → Nat} {np F F' j t : Nat} {mv lm ch tu la wi : Int32} (h : GR K np F mv lm ch tu la wi) (hg : 0 < np ∧ wi = -1) (hj : j < np) (hK : K j < 5) (ht : nxF K np np j = some t) : GR K np F' (nI t) (nI j) ch (nI t) (nI j) wi := by
  have hin := nxF_in hj ht
  exact ⟨h.1, fun a b => ⟨rfl, (h.2.1 a b).2.1, t, rfl, hin.1, hin.2⟩, fun z => absurd hg z, fun _ => ⟨rfl, j, rfl, hj, hK⟩⟩
theorem left_0 : ∀ n, leftN (fun _ => 0) n = n
  | 0 => rfl
  | n + 1 => by
    show fb_ct _ (n + 1) = n + 1
    rw [fb_ct_succ]
    have := left_0 n
    unfold leftN at this
    rw [this]
    rfl
theorem GR.begun {n : Nat} {lm la : Int32} (h : 2 ≤ n) : GR (fun _ => 0) n 0 (nI 0) lm (-1) (nI 0) la (-1) :=
  ⟨rfl, fun _ _ => ⟨rfl, by rw [left_0]; exact h, 0, rfl, by omega, by decide⟩, fun z => absurd ⟨by omega, rfl⟩ z, fun z => absurd z (by decide)⟩
theorem GR.none {K : Nat → Nat} {lm tu la : Int32} : GR K 0 0 (-1) lm (-1) tu la (-1) :=
  ⟨rfl, fun z => absurd z (by decide), fun _ => ⟨rfl, rfl⟩, fun z => absurd z (by decide)⟩
