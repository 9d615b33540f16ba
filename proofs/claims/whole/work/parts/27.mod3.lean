/-! the reference's solver, over its rows -/
theorem MD.V {fL fN : Nat → Int32} {D : Nat → Nat} {n : Nat} (h : MD fL fN D n) : ∀ j, j < n → RV (D j) := fun j hj => (h j hj).1
/-- what leads on from a beginning of a word -/
theorem ld_of {D : Nat → Nat} {ll k y m : Nat} (hk : RV (D k)) (hy : RV (D y)) (h1 : ll ≤ rwL (D k)) (h2 : m < rwL (D k)) (h3 : alP (D k) (D y) m) : ldP ll (rwB (D y) m) (D k) := by
  have e := hy.rbl h3.2.1
  refine ⟨h1, fun q => ?_, ?_, ?_⟩
  · rw [q, e] at h2; omega
  · rw [e]; exact h3.1
  · rw [e]; exact h3.2.2
theorem ld_to {D : Nat → Nat} {ll k y m : Nat} (hy : RV (D y)) (hm : m ≤ rwL (D y)) (h : ldP ll (rwB (D y) m) (D k)) : ll ≤ rwL (D k) ∧ m < rwL (D k) ∧ alP (D k) (D y) m := by
  have e := hy.rbl hm
  have h1 := h.lt
  have h2 := h.2.2.2
  rw [e] at h1 h2
  exact ⟨h.1, h1, by omega, hm, h2⟩
theorem ld_next {D : Nat → Nat} {ll k y m : Nat} (hk : RV (D k)) (hy : RV (D y)) (hm : m ≤ rwL (D y)) (h : ldP ll (rwB (D y) m) (D k)) : rwB (D k) (m + 1) = rwX (rwB (D y) m) (rwA (D k) m) := by
  obtain ⟨h1, h2, h3⟩ := ld_to hy hm h
  rw [hk.rbs h2, h3.2.2]
theorem hw_of {D : Nat → Nat} {n ll j y m : Nat} (hj : j < n) (h1 : ll ≤ rwL (D j)) (h2 : rwL (D j) = m) (h3 : alP (D j) (D y) m) : ll ≤ m ∧ inS D n (rwB (D y) m) := by
  have e := h3.2.2
  rw [← h2, rb_all, h2] at e
  exact ⟨by omega, j, hj, e⟩
theorem hw_to {D : Nat → Nat} {j y m : Nat} (hy : RV (D y)) (hm : m ≤ rwL (D y)) (h : D j = rwB (D y) m) : rwL (D j) = m ∧ alP (D j) (D y) m := by
  have e : rwL (D j) = m := by rw [h, hy.rbl hm]
  refine ⟨e, by omega, hm, ?_⟩
  rw [← h]
  rw (occs := .pos [1]) [← e]
  exact rb_all
theorem hwB_iff {D : Nat → Nat} {n ll q m : Nat} (h : rwL q = m) : hwB D n ll q = true ↔ ll ≤ m ∧ inS D n q := by
  unfold hwB
  rw [bB_iff, h]
/-- the matches of endBehind -/
def mtP (D : Nat → Nat) (ll p lt k : Nat) : Prop := ldP ll p (D k) ∧ rwA (D k) (rwL p) = lt
def ebI (D : Nat → Nat) (n ll p lt k e : Nat) : Prop := ((∀ i, i < k → ¬ mtP D ll p lt i) ∧ e = 0) ∨ ((∃ i, i < k ∧ mtP D ll p lt i) ∧ e = ebP D n ll p lt)
theorem ebI_f {D : Nat → Nat} {n ll p lt k e : Nat} (h : ebI D n ll p lt k e) (hn : ¬ mtP D ll p lt k) : ebI D n ll p lt (k + 1) e := by
  rcases h with ⟨h1, h2⟩ | ⟨⟨i, h1, h2⟩, h3⟩
  · exact Or.inl ⟨lt_s h1 hn, h2⟩
  · exact Or.inr ⟨⟨i, by omega, h2⟩, h3⟩
theorem ebI_t {D : Nat → Nat} {n ll p lt k e : Nat} (hn : mtP D ll p lt k) (he : e = ebP D n ll p lt) : ebI D n ll p lt (k + 1) e := Or.inr ⟨⟨k, by omega, hn⟩, he⟩
theorem ebI_end {D : Nat → Nat} {n ll p lt e : Nat} (h : ebI D n ll p lt n e) (hb : (opM D ll p n).testBit lt = true) : e = ebP D n ll p lt := by
  rcases h with ⟨h1, h2⟩ | ⟨-, h3⟩
  · obtain ⟨j, a, b, c⟩ := opM_bit.mp hb
    exact absurd ⟨b, c⟩ (h1 j a)
  · exact h3
/-- all beginnings longer than m are solved -/
def TA (D : Nat → Nat) (n ll : Nat) (fW fE fC fG fO : Nat → Int32) (m : Nat) : Prop := ∀ k i, k < n → ll ≤ rwL (D k) → m ≤ i → i ≤ rwL (D k) → TB D n ll fW fE fC fG fO (11 * k + i) (rwB (D k) i)
def TK (D : Nat → Nat) (n ll : Nat) (fW fE fC fG fO : Nat → Int32) (m kk : Nat) : Prop := ∀ k, k < kk → ll ≤ rwL (D k) → m ≤ rwL (D k) → TB D n ll fW fE fC fG fO (11 * k + m) (rwB (D k) m)
theorem TB.kept {D : Nat → Nat} {n ll : Nat} {fW fE fC fG fO gW gE gC gG gO : Nat → Int32} {i p : Nat} (h : TB D n ll fW fE fC fG fO i p) (e : gW i = fW i ∧ gE i = fE i ∧ gC i = fC i ∧ gG i = fG i ∧ gO i = fO i) : TB D n ll gW gE gC gG gO i p := by
  obtain ⟨h1, h2, h3, h4, h5⟩ := h
  obtain ⟨e1, e2, e3, e4, e5⟩ := e
  exact ⟨by rw [e5]; exact h1, by rw [e4]; exact h2, by rw [e1]; exact h3, by rw [e2]; exact h4, by rw [e3]; exact h5⟩
def ALK (fW fE fC fG fO gW gE gC gG gO : Nat → Int32) (z : Nat) : Prop := gW z = fW z ∧ gE z = fE z ∧ gC z = fC z ∧ gG z = fG z ∧ gO z = fO z
theorem TA.kept {D : Nat → Nat} {n ll : Nat} {fW fE fC fG fO gW gE gC gG gO : Nat → Int32} {m y0 : Nat} (hV : ∀ j, j < n → RV (D j)) (h : TA D n ll fW fE fC fG fO (m + 1)) (hm : m ≤ 10) (ho : ∀ z, z ≠ 11 * y0 + m → ALK fW fE fC fG fO gW gE gC gG gO z) : TA D n ll gW gE gC gG gO (m + 1) := fun k i hk hl h1 h2 =>
  (h k i hk hl h1 h2).kept (ho _ (by have := (hV k hk).1; omega))
theorem TK.step {D : Nat → Nat} {n ll : Nat} {fW fE fC fG fO gW gE gC gG gO : Nat → Int32} {m kk : Nat} (h : TK D n ll fW fE fC fG fO m kk) (hm : m ≤ 10) (ho : ∀ z, z ≠ 11 * kk + m → ALK fW fE fC fG fO gW gE gC gG gO z) (ht : TB D n ll gW gE gC gG gO (11 * kk + m) (rwB (D kk) m)) : TK D n ll gW gE gC gG gO m (kk + 1) := fun k hk hl h1 => by
  by_cases e : k = kk
  · subst e; exact ht
  · exact (h k (by omega) hl h1).kept (ho _ (by omega))
theorem TK.skip {D : Nat → Nat} {n ll : Nat} {fW fE fC fG fO : Nat → Int32} {m kk : Nat} (h : TK D n ll fW fE fC fG fO m kk) (hn : ¬ (ll ≤ rwL (D kk) ∧ m ≤ rwL (D kk))) : TK D n ll fW fE fC fG fO m (kk + 1) := fun k hk hl h1 => by
  by_cases e : k = kk
  · subst e; exact absurd ⟨hl, h1⟩ hn
  · exact h k (by omega) hl h1
theorem TA.step {D : Nat → Nat} {n ll : Nat} {fW fE fC fG fO : Nat → Int32} {m : Nat} (h : TA D n ll fW fE fC fG fO (m + 1)) (hk : TK D n ll fW fE fC fG fO m n) : TA D n ll fW fE fC fG fO m := fun k i h1 h2 h3 h4 => by
  by_cases e : i = m
  · subst e; exact hk k h1 h2 h4
  · exact h k i h1 h2 (by omega) h4
theorem TA.top {D : Nat → Nat} {n ll : Nat} {fW fE fC fG fO : Nat → Int32} (hV : ∀ j, j < n → RV (D j)) : TA D n ll fW fE fC fG fO 11 := fun k i h1 _ h3 h4 => by
  have := (hV k h1).1
  omega
def lkP (D : Nat → Nat) (ll F k : Nat) : Prop := ll ≤ rwL (D k) ∧ bgP (D k) F
def lkI (D : Nat → Nat) (n ll F : Nat) (fW fE fC fG fO : Nat → Int32) (k : Nat) (x : Int32) : Prop := (∃ i, i < k ∧ i < n ∧ lkP D ll F i ∧ x = nI (11 * i + rwL F)) ∨ ((∀ i, i < k → ¬ lkP D ll F i) ∧ x = -1)
/-- where the fragment is a beginning: its answers; where it isn't, none -/
def lkQ (D : Nat → Nat) (n ll F : Nat) (fW fE fC fG fO : Nat → Int32) (r : Int32) : Prop := (∃ i, i < 550 ∧ r = nI i ∧ TB D n ll fW fE fC fG fO i F) ∨ (r = -1 ∧ opM D ll F n = 0)
theorem no_ld {D : Nat → Nat} {n ll F : Nat} (hV : ∀ j, j < n → RV (D j)) (h : ∀ i, i < n → ¬ lkP D ll F i) : opM D ll F n = 0 := by
  apply Classical.byContradiction
  intro q
  obtain ⟨b, -, h2⟩ := bit_of (opM_lt hV) q
  obtain ⟨j, h3, h4, -⟩ := opM_bit.mp h2
  exact h j h3 ⟨h4.1, h4.2.2⟩
theorem lkI_end {D : Nat → Nat} {n ll F : Nat} {fW fE fC fG fO : Nat → Int32} {x : Int32} (hV : ∀ j, j < n → RV (D j)) (hF : RV F) (hA : TA D n ll fW fE fC fG fO (rwL F)) (h : lkI D n ll F fW fE fC fG fO n x) (hn : n ≤ 50) : lkQ D n ll F fW fE fC fG fO x := by
  rcases h with ⟨i, h1, h0, h2, h3⟩ | ⟨h1, h2⟩
  · have ht := hA i (rwL F) h1 h2.1 (Nat.le_refl _) h2.2.1
    rw [h2.2.2] at ht
    have := hF.1
    exact Or.inl ⟨_, by omega, h3, ht⟩
  · exact Or.inr ⟨h2, no_ld hV h1⟩
theorem lkI_t {D : Nat → Nat} {n ll F : Nat} {fW fE fC fG fO : Nat → Int32} {k : Nat} (hk : k < n) (h : lkP D ll F k) : lkI D n ll F fW fE fC fG fO (k + 1) (nI (11 * k + rwL F)) := Or.inl ⟨k, by omega, hk, h, rfl⟩
theorem lkI_f {D : Nat → Nat} {n ll F : Nat} {fW fE fC fG fO : Nat → Int32} {k : Nat} {x : Int32} (h : lkI D n ll F fW fE fC fG fO k x) (hn : ¬ lkP D ll F k) : lkI D n ll F fW fE fC fG fO (k + 1) x := by
  rcases h with ⟨i, h1, h0, h2, h3⟩ | ⟨h1, h2⟩
  · exact Or.inl ⟨i, by omega, h0, h2, h3⟩
  · exact Or.inr ⟨lt_s h1 hn, h2⟩
theorem gm_0 {D : Nat → Nat} {n ll p : Nat} (h : opM D ll p n = 0) : gmP D n ll p = 0 := by
  apply Classical.byContradiction
  intro q
  obtain ⟨b, h1, h2⟩ := bit_of gmP_lt q
  have := ((gmP_bit h1).mp h2).1
  rw [h, Nat.zero_testBit] at this
  exact Bool.false_ne_true this
theorem sc_0 {D : Nat → Nat} {n ll p : Nat} (h : opM D ll p n = 0) : scP D n ll p = 100 := sc_z (om := fun F => opM D ll F n) h
theorem ch_0 {D : Nat → Nat} {n ll p : Nat} (h : opM D ll p n = 0) : chP D n ll p (-1) := Or.inr ⟨fun b _ z => by rw [h, Nat.zero_testBit] at z; exact Bool.false_ne_true z.1, rfl⟩
def iwP (D : Nat → Nat) (ll y0 i j : Nat) : Prop := ll ≤ rwL (D j) ∧ rwL (D j) = i ∧ alP (D j) (D y0) i
theorem iw_none {D : Nat → Nat} {ll y0 i k : Nat} (h1 : ¬ ∃ j, j < k ∧ iwP D ll y0 i j) (h2 : ¬ iwP D ll y0 i k) : Bv (nI 0) (∃ j, j < k + 1 ∧ iwP D ll y0 i j) := by
  refine Bv.no ?_
  rintro ⟨j, a, c⟩
  by_cases e : j = k
  · subst e; exact h2 c
  · exact h1 ⟨j, by omega, c⟩
abbrev rm_X5_turn : Room := { frames := 1, cells := 0, slots := 0, locals := 21 }
set_option maxHeartbeats 4000000 in
set_option maxRecDepth 100000 in
theorem c_X5_turn (l : Launch) (g : GG) (h : Nat) (a : Nat → Nat) (SL n ll np : Nat) (tu la wi : Int32) (F : Nat) (th : Int32) (fS fL fN fK fF fW fE fC fG fO : Nat → Int32) (D : Nat → Nat) (hDm : MD fL fN D n) (hn : n ≤ 50) (hSL : RV SL) (hfS : MRw fS SL) (hFr : RV F) (hfF : MRw fF F) (hll : ll ≤ 10) (hp : np ≤ 4) : Ci l yX5_turn wsX5_turn rm_X5_turn g [.ref (h)] (MW g h a (nI (rwL SL)) (nI n) (nI ll) (nI np) tu la wi (nI (rwL F)) th fS fL fN fK fF fW fE fC fG fO) (fun r w => (((0 < np ∧ wi = -1) ∧ r = tu) ∨ (¬ (0 < np ∧ wi = -1) ∧ r = -1)) ∧ w = (MW g h a (nI (rwL SL)) (nI n) (nI ll) (nI np) tu la wi (nI (rwL F)) (nI 0) fS fL fN fK fF fW fE fC fG fO)) := by
  refine Ci.ofI (cc := cX5_turn) (maxL := 1) (by decide) rfl (Nat.le_of_ble_eq_true rfl) ?_
  intro p e s m args below meth c A Z hx hb hml hts hown hK hA hret H locs ls hP hD hS hl
  have f_91 := hts (.fieldLink RX5 91 "GhostGameModel" "turn" "I") (by decide +kernel)
  have hi_3 : ∀ w ∈ wsX50, w ∈ wsX5_turn := by decide +kernel
  have hl : lv_has ls 1 [(0, .ref (h))] := hl
  refine lv_aload_n hx hb dX5_turn_0 rfl (lv_at hl 0 rfl) ?_
  refine lv_aload_n hx hb dX5_turn_1 rfl (lv_at hl 0 rfl) ?_
  refine call_iVW (As := []) (rest := [.ref (h)]) ⟨hx, hb, hml, hown, hts⟩ (c_X5_goesOn l g h a SL n ll np tu la wi F th fS fL fN fK fF fW fE fC fG fO D hDm hn hSL hfS hFr hfF hll hp) (cwV 0 hts gX5_turn_X5_goesOn rfl rfl rfl (by decide +kernel) ⟨Nat.le_of_ble_eq_true rfl, Nat.le_of_ble_eq_true rfl⟩) hP hK hD hS hA 0 rfl rfl rfl rfl hl.1 rfl (Nat.le_of_ble_eq_true rfl) dX5_turn_2 ⟨Nat.le_refl _, Nat.le_refl _⟩ (fun r_2 w H locs h_2 hP hD hS => ?_)
  rcases h_2 with ⟨rfl, ⟨rfl, hgo⟩ | ⟨rfl, ngo⟩⟩
  · skip
    have hP : va_P g.1 vwCl (MW g h a (nI (rwL SL)) (nI n) (nI ll) (nI np) tu la wi (nI (rwL F)) th fS fL fN fK fF fW fE fC fG fO) H := hP
    have hD : va_D A (MW g h a (nI (rwL SL)) (nI n) (nI ll) (nI np) tu la wi (nI (rwL F)) th fS fL fN fK fF fW fE fC fG fO) := hD
    refine lv_if_eq (tgt := 15) hx hb dX5_turn_5 (by decide) (fun c_5_1 => absurd c_5_1 (by decide)) (fun c_5_1 => ?_)
    refine lv_aload_n hx hb dX5_turn_8 rfl (lv_at hl 0 rfl) ?_
    refine va_get (D := g.1) (ci := 3) (v := .int (tu)) (C := RX5) (T := TX5) (N := 19) hx hb hts hi_3 hown hK hP 0 rfl rfl 8 (by decide) f_91 (fun _ h9 => h9) rfl dX5_turn_9 ?_
    refine lv_goto (tgt := 16) hx hb dX5_turn_12 (by decide) ?_
    refine call_iVW (As := [.int (tu)]) (rest := []) ⟨hx, hb, hml, hown, hts⟩ (c_X5_told l g h a (nI (rwL SL)) (nI n) (nI ll) (nI np) tu la wi (nI (rwL F)) th fS fL fN fK fF fW fE fC fG fO (tu)) (cwV 1 hts gX5_turn_X5_told rfl rfl rfl (by decide +kernel) ⟨Nat.le_of_ble_eq_true rfl, Nat.le_of_ble_eq_true rfl⟩) hP hK hD hS hA 0 rfl rfl rfl rfl hl.1 rfl (Nat.le_of_ble_eq_true rfl) dX5_turn_16 ⟨Nat.le_refl _, Nat.le_refl _⟩ (fun r_16 w H locs h_16 hP hD hS => ?_)
    obtain ⟨h_16, rfl⟩ := h_16
    replace h_16 := h_16.symm
    subst h_16
    have hP : va_P g.1 vwCl (MW g h a (nI (rwL SL)) (nI n) (nI ll) (nI np) tu la wi (nI (rwL F)) (nI 0) fS fL fN fK fF fW fE fC fG fO) H := hP
    have hD : va_D A (MW g h a (nI (rwL SL)) (nI n) (nI ll) (nI np) tu la wi (nI (rwL F)) (nI 0) fS fL fN fK fF fW fE fC fG fO) := hD
    exact hret (tu) (MW g h a (nI (rwL SL)) (nI n) (nI ll) (nI np) tu la wi (nI (rwL F)) (nI 0) fS fL fN fK fF fW fE fC fG fO) _ _ _ _ dX5_turn_19 (⟨Or.inl ⟨hgo, rfl⟩, rfl⟩) hP hD hS
  · skip
    have hP : va_P g.1 vwCl (MW g h a (nI (rwL SL)) (nI n) (nI ll) (nI np) tu la wi (nI (rwL F)) th fS fL fN fK fF fW fE fC fG fO) H := hP
    have hD : va_D A (MW g h a (nI (rwL SL)) (nI n) (nI ll) (nI np) tu la wi (nI (rwL F)) th fS fL fN fK fF fW fE fC fG fO) := hD
    refine lv_if_eq (tgt := 15) hx hb dX5_turn_5 (by decide) (fun c_5_2 => ?_) (fun c_5_2 => absurd (by decide) c_5_2)
    refine lv_iconst (v := -1) hx hb dX5_turn_15 (by decide) ?_
    refine call_iVW (As := [.int (-1)]) (rest := []) ⟨hx, hb, hml, hown, hts⟩ (c_X5_told l g h a (nI (rwL SL)) (nI n) (nI ll) (nI np) tu la wi (nI (rwL F)) th fS fL fN fK fF fW fE fC fG fO (-1)) (cwV 1 hts gX5_turn_X5_told rfl rfl rfl (by decide +kernel) ⟨Nat.le_of_ble_eq_true rfl, Nat.le_of_ble_eq_true rfl⟩) hP hK hD hS hA 0 rfl rfl rfl rfl hl.1 rfl (Nat.le_of_ble_eq_true rfl) dX5_turn_16 ⟨Nat.le_refl _, Nat.le_refl _⟩ (fun r_16 w H locs h_16 hP hD hS => ?_)
    obtain ⟨h_16, rfl⟩ := h_16
    replace h_16 := h_16.symm
    subst h_16
    have hP : va_P g.1 vwCl (MW g h a (nI (rwL SL)) (nI n) (nI ll) (nI np) tu la wi (nI (rwL F)) (nI 0) fS fL fN fK fF fW fE fC fG fO) H := hP
    have hD : va_D A (MW g h a (nI (rwL SL)) (nI n) (nI ll) (nI np) tu la wi (nI (rwL F)) (nI 0) fS fL fN fK fF fW fE fC fG fO) := hD
    exact hret (-1) (MW g h a (nI (rwL SL)) (nI n) (nI ll) (nI np) tu la wi (nI (rwL F)) (nI 0) fS fL fN fK fF fW fE fC fG fO) _ _ _ _ dX5_turn_19 (⟨Or.inr ⟨ngo, rfl⟩, rfl⟩) hP hD hS

abbrev rm_X5_play : Room := { frames := 2, cells := 0, slots := 0, locals := 48 }
set_option maxHeartbeats 4000000 in
set_option maxRecDepth 100000 in
theorem c_X5_play (l : Launch) (g : GG) (h : Nat) (a : Nat → Nat) (SL n ll np : Nat) (tu la wi : Int32) (F : Nat) (th : Int32) (fS fL fN fK fF fW fE fC fG fO : Nat → Int32) (D : Nat → Nat) (hDm : MD fL fN D n) (hn : n ≤ 50) (hSL : RV SL) (hfS : MRw fS SL) (hFr : RV F) (hfF : MRw fF F) (hll : ll ≤ 10) (hp : np ≤ 4) (K : Nat → Nat) (hk : GK fK K) (hn1 : ∀ j, j < np → K j < 5 → ∃ t, nxF K np np j = some t) (hn2 : (0 < np ∧ wi = -1) → ∀ j, j < np → K j < 5 → 5 ≤ erK K j j → ∃ t, nxF (erK K j) np np j = some t) (hgo0 : 0 < np → wi = -1 → ∃ j, tu = nI j ∧ j < np ∧ K j < 5) (x0 : Int32) : Ci l yX5_play wsX5_play rm_X5_play g [.ref (h), .int (x0)] (MW g h a (nI (rwL SL)) (nI n) (nI ll) (nI np) tu la wi (nI (rwL F)) th fS fL fN fK fF fW fE fC fG fO) (fun r w => (∃ lt j : Nat, lt < 26 ∧ nI lt = x0 ∧ (0 < np ∧ wi = -1) ∧ tu = nI j ∧ j < np ∧ K j < 5 ∧ rwL F < 10 ∧ (((∃ k, k < n ∧ hwM D n ll (rwX F lt) k true) ∧ r = nI j ∧ w = (MW g h a (nI (rwL SL)) (nI n) (nI ll) (nI np) (lsT K np j) la (lsW K np j) (nI 0) (nI 0) fS fL fN (upd fK j (nI ((K j) + 1))) (upd fF (rwL F) (nI lt)) fW fE fC fG fO)) ∨ (¬ (∃ k, k < n ∧ hwM D n ll (rwX F lt) k true) ∧ r = -1 ∧ ∃ t, nxF K np np j = some t ∧ w = (MW g h a (nI (rwL SL)) (nI n) (nI ll) (nI np) (nI t) (nI j) wi (nI (rwL (rwX F lt))) (nI 0) fS fL fN fK (upd fF (rwL F) (nI lt)) fW fE fC fG fO)))) ∨ (¬ (∃ z : Nat, z < 26 ∧ nI z = x0) ∧ w = (MW g h a (nI (rwL SL)) (nI n) (nI ll) (nI np) tu la wi (nI (rwL F)) (nI 1) fS fL fN fK fF fW fE fC fG fO)) ∨ ((∃ z : Nat, z < 26 ∧ nI z = x0) ∧ (¬ (0 < np ∧ wi = -1) ∨ 10 ≤ rwL F) ∧ w = (MW g h a (nI (rwL SL)) (nI n) (nI ll) (nI np) tu la wi (nI (rwL F)) (nI 2) fS fL fN fK fF fW fE fC fG fO))) := by
  refine Ci.ofI (cc := cX5_play) (maxL := 2) (by decide) rfl (Nat.le_of_ble_eq_true rfl) ?_
  intro p e s m args below meth c A Z hx hb hml hts hown hK hA hret H locs ls hP hD hS hl
  have f_29 := hts (.fieldLink RX5 29 "GhostGameModel" "fragment" "[I") (by decide +kernel)
  have f_91 := hts (.fieldLink RX5 91 "GhostGameModel" "turn" "I") (by decide +kernel)
  have f_94 := hts (.fieldLink RX5 94 "GhostGameModel" "fragmentLength" "I") (by decide +kernel)
  have f_113 := hts (.fieldLink RX5 113 "GhostGameModel" "latest" "I") (by decide +kernel)
  have hi_3 : ∀ w ∈ wsX50, w ∈ wsX5_play := by decide +kernel
  have hl : lv_has ls 2 [(0, .ref (h)), (1, .int (x0))] := hl
  have hz1 := hSL.1
  have hz2 := hFr.1
  refine lv_aload_n hx hb dX5_play_0 rfl (lv_at hl 0 rfl) ?_
  refine lv_iload_n hx hb dX5_play_1 rfl (lv_at hl 1 rfl) ?_
  refine call_iP (As := [.int (x0)]) (rest := [.ref (h)]) ⟨hx, hb, hml, hown, hts⟩ (c_X5_isLetter l (x0)) (va_cwS 1 hts gX5_play_X5_isLetter rfl rfl rfl (by decide +kernel) ⟨Nat.le_of_ble_eq_true rfl, Nat.le_of_ble_eq_true rfl⟩) hP hK hD hS hA rfl hl.1 rfl (Nat.le_of_ble_eq_true rfl) dX5_play_2 ⟨Nat.le_refl _, Nat.le_refl _⟩ (fun r_2 H locs h_2 hP hD hS => ?_)
  rcases h_2 with ⟨rfl, lt, hlt, rfl⟩ | ⟨rfl, nlt⟩
  · skip
    have hP : va_P g.1 vwCl (MW g h a (nI (rwL SL)) (nI n) (nI ll) (nI np) tu la wi (nI (rwL F)) th fS fL fN fK fF fW fE fC fG fO) H := hP
    have hD : va_D A (MW g h a (nI (rwL SL)) (nI n) (nI ll) (nI np) tu la wi (nI (rwL F)) th fS fL fN fK fF fW fE fC fG fO) := hD
    refine lv_aload_n hx hb dX5_play_5 rfl (lv_at hl 0 rfl) ?_
    refine call_iVW (As := []) (rest := [.int (nI (1)), .ref (h)]) ⟨hx, hb, hml, hown, hts⟩ (c_X5_goesOn l g h a SL n ll np tu la wi F th fS fL fN fK fF fW fE fC fG fO D hDm hn hSL hfS hFr hfF hll hp) (cwV 0 hts gX5_play_X5_goesOn rfl rfl rfl (by decide +kernel) ⟨Nat.le_of_ble_eq_true rfl, Nat.le_of_ble_eq_true rfl⟩) hP hK hD hS hA 0 rfl rfl rfl rfl hl.1 rfl (Nat.le_of_ble_eq_true rfl) dX5_play_6 ⟨Nat.le_refl _, Nat.le_refl _⟩ (fun r_6 w H locs h_6 hP hD hS => ?_)
    rcases h_6 with ⟨rfl, ⟨rfl, hgo⟩ | ⟨rfl, ngo⟩⟩
    · skip
      have hP : va_P g.1 vwCl (MW g h a (nI (rwL SL)) (nI n) (nI ll) (nI np) tu la wi (nI (rwL F)) th fS fL fN fK fF fW fE fC fG fO) H := hP
      have hD : va_D A (MW g h a (nI (rwL SL)) (nI n) (nI ll) (nI np) tu la wi (nI (rwL F)) th fS fL fN fK fF fW fE fC fG fO) := hD
      refine lv_if_eq (tgt := 25) hx hb dX5_play_9 (by decide) (fun c_9_1 => absurd c_9_1 (by decide)) (fun c_9_1 => ?_)
      refine lv_aload_n hx hb dX5_play_12 rfl (lv_at hl 0 rfl) ?_
      refine va_get (D := g.1) (ci := 3) (v := .int (nI (rwL F))) (C := RX5) (T := TX5) (N := 19) hx hb hts hi_3 hown hK hP 0 rfl rfl 12 (by decide) f_94 (fun _ h9 => h9) rfl dX5_play_13 ?_
      refine lv_bipush (v := nI 10) hx hb dX5_play_16 (by decide) ?_
      refine lv_icmp_ge (tgt := 25) hx hb dX5_play_18 (by decide) (fun c_18_2 => ?_) (fun c_18_2 => ?_)
      · skip
        have n_18_2 : 10 ≤ rwL F := (nI_leI (a := 10) (b := rwL F) (by omega) (by omega)).mp c_18_2
        refine lv_iconst (v := nI 0) hx hb dX5_play_25 (by decide) ?_
        refine call_iVW (As := [.int (nI (1)), .int (nI (0))]) (rest := []) ⟨hx, hb, hml, hown, hts⟩ (c_X5_asked__10 l g h a (nI (rwL SL)) (nI n) (nI ll) (nI np) tu la wi (nI (rwL F)) th fS fL fN fK fF fW fE fC fG fO ) (cwV 2 hts gX5_play_X5_asked_ rfl rfl rfl (by decide +kernel) ⟨Nat.le_of_ble_eq_true rfl, Nat.le_of_ble_eq_true rfl⟩) hP hK hD hS hA 0 rfl rfl rfl rfl hl.1 rfl (Nat.le_of_ble_eq_true rfl) dX5_play_26 ⟨Nat.le_refl _, Nat.le_refl _⟩ (fun r_26 w H locs h_26 hP hD hS => ?_)
        obtain ⟨h_26, rfl⟩ := h_26
        replace h_26 := h_26.symm
        subst h_26
        have hP : va_P g.1 vwCl (MW g h a (nI (rwL SL)) (nI n) (nI ll) (nI np) tu la wi (nI (rwL F)) (nI 2) fS fL fN fK fF fW fE fC fG fO) H := hP
        have hD : va_D A (MW g h a (nI (rwL SL)) (nI n) (nI ll) (nI np) tu la wi (nI (rwL F)) (nI 2) fS fL fN fK fF fW fE fC fG fO) := hD
        refine lv_if_ne (tgt := 34) hx hb dX5_play_29 (by decide) (fun c_29_3 => absurd (by decide) c_29_3) (fun c_29_3 => ?_)
        refine lv_iconst (v := nI 0) hx hb dX5_play_32 (by decide) ?_
        exact hret (nI (0)) (MW g h a (nI (rwL SL)) (nI n) (nI ll) (nI np) tu la wi (nI (rwL F)) (nI 2) fS fL fN fK fF fW fE fC fG fO) _ _ _ _ dX5_play_33 (Or.inr (Or.inr ⟨⟨lt, hlt, rfl⟩, Or.inr (by omega), rfl⟩)) hP hD hS
      · skip
        have n_18_2 : ¬ 10 ≤ rwL F := fun q9 => c_18_2 ((nI_leI (a := 10) (b := rwL F) (by omega) (by omega)).mpr q9)
        refine lv_iconst (v := nI 1) hx hb dX5_play_21 (by decide) ?_
        refine lv_goto (tgt := 26) hx hb dX5_play_22 (by decide) ?_
        refine call_iVW (As := [.int (nI (1)), .int (nI (1))]) (rest := []) ⟨hx, hb, hml, hown, hts⟩ (c_X5_asked__11 l g h a (nI (rwL SL)) (nI n) (nI ll) (nI np) tu la wi (nI (rwL F)) th fS fL fN fK fF fW fE fC fG fO ) (cwV 2 hts gX5_play_X5_asked_ rfl rfl rfl (by decide +kernel) ⟨Nat.le_of_ble_eq_true rfl, Nat.le_of_ble_eq_true rfl⟩) hP hK hD hS hA 0 rfl rfl rfl rfl hl.1 rfl (Nat.le_of_ble_eq_true rfl) dX5_play_26 ⟨Nat.le_refl _, Nat.le_refl _⟩ (fun r_26 w H locs h_26 hP hD hS => ?_)
        obtain ⟨h_26, rfl⟩ := h_26
        replace h_26 := h_26.symm
        subst h_26
        have hP : va_P g.1 vwCl (MW g h a (nI (rwL SL)) (nI n) (nI ll) (nI np) tu la wi (nI (rwL F)) (nI 0) fS fL fN fK fF fW fE fC fG fO) H := hP
        have hD : va_D A (MW g h a (nI (rwL SL)) (nI n) (nI ll) (nI np) tu la wi (nI (rwL F)) (nI 0) fS fL fN fK fF fW fE fC fG fO) := hD
        refine lv_if_ne (tgt := 34) hx hb dX5_play_29 (by decide) (fun c_29_4 => ?_) (fun c_29_4 => absurd c_29_4 (by decide))
        refine lv_aload_n hx hb dX5_play_34 rfl (lv_at hl 0 rfl) ?_
        refine va_get (D := g.1) (ci := 3) (v := .ref (a 11)) (C := RX5) (T := TX5) (N := 19) hx hb hts hi_3 hown hK hP 0 rfl rfl 11 (by decide) f_29 (fun _ h9 => h9) rfl dX5_play_35 ?_
        refine lv_aload_n hx hb dX5_play_38 rfl (lv_at hl 0 rfl) ?_
        refine va_get (D := g.1) (ci := 3) (v := .int (nI (rwL F))) (C := RX5) (T := TX5) (N := 19) hx hb hts hi_3 hown hK hP 0 rfl rfl 12 (by decide) f_94 (fun _ h9 => h9) rfl dX5_play_39 ?_
        refine lv_iload_n hx hb dX5_play_42 rfl (lv_at hl 1 rfl) ?_
        refine va_iast (n := 10) (f := fF) hx hb hK hP hD hS 5 0 rfl rfl (vp_in_nI (n := rwL F) (by omega) (by decide)) dX5_play_43 (fun H locs hP hD hS => ?_)
        rw [nI_clamp (n := rwL F) (by omega)] at hP hD
        have hP : va_P g.1 vwCl (MW g h a (nI (rwL SL)) (nI n) (nI ll) (nI np) tu la wi (nI (rwL F)) (nI 0) fS fL fN fK (upd fF (rwL F) (nI (lt))) fW fE fC fG fO) H := hP
        have hD : va_D A (MW g h a (nI (rwL SL)) (nI n) (nI ll) (nI np) tu la wi (nI (rwL F)) (nI 0) fS fL fN fK (upd fF (rwL F) (nI (lt))) fW fE fC fG fO) := hD
        refine lv_aload_n hx hb dX5_play_44 rfl (lv_at hl 0 rfl) ?_
        refine lv_dup hx hb dX5_play_45 rfl ?_
        refine va_get (D := g.1) (ci := 3) (v := .int (nI (rwL F))) (C := RX5) (T := TX5) (N := 19) hx hb hts hi_3 hown hK hP 0 rfl rfl 12 (by decide) f_94 (fun _ h9 => h9) rfl dX5_play_46 ?_
        refine lv_iconst (v := nI 1) hx hb dX5_play_49 (by decide) ?_
        refine lv_iadd hx hb dX5_play_50 ?_
        refine tp_i (nI_add (rwL F) 1) ?_
        refine va_put (D := g.1) (ci := 3) (v := .int (nI ((rwL F) + 1))) (ty := .int) (C := RX5) (T := TX5) (N := 19) hx hb hts hi_3 tyX5 tyX5_ok nmX5 hown hK hP hD hS 0 rfl rfl 12 (by decide) f_94 (fun _ h9 => h9) rfl (by decide +kernel) rfl rfl (Nat.le_of_ble_eq_true rfl) dX5_play_51 (fun H locs hP hD hS => ?_)
        have hP : va_P g.1 vwCl (MW g h a (nI (rwL SL)) (nI n) (nI ll) (nI np) tu la wi (nI ((rwL F) + 1)) (nI 0) fS fL fN fK (upd fF (rwL F) (nI (lt))) fW fE fC fG fO) H := hP
        have hD : va_D A (MW g h a (nI (rwL SL)) (nI n) (nI ll) (nI np) tu la wi (nI ((rwL F) + 1)) (nI 0) fS fL fN fK (upd fF (rwL F) (nI (lt))) fW fE fC fG fO) := hD
        obtain ⟨j, rfl, hj, hKj⟩ := hgo0 hgo.1 hgo.2
        have hFx : RV (rwX F lt) := hFr.rx (by omega) hlt
        have hfx := hfF.put hFr (by omega) hlt
        have hFl : rwL F + 1 = rwL (rwX F lt) := (hFr.rxl (by omega) (by omega)).symm
        rw [hFl] at hP hD
        obtain ⟨t, ht⟩ := hn1 j hj hKj
        refine lv_aload_n hx hb dX5_play_54 rfl (lv_at hl 0 rfl) ?_
        refine lv_iconst (v := nI 1) hx hb dX5_play_55 (by decide) ?_
        refine call_iVW (As := [.int (nI (1))]) (rest := []) ⟨hx, hb, hml, hown, hts⟩ (c_X5_hasWord_1 l g h a SL n ll np (nI j) la wi (rwX F lt) (nI 0) fS fL fN fK (upd fF (rwL F) (nI (lt))) fW fE fC fG fO D hDm hn hSL hfS hFx hfx hll hp) (cwV 1 hts gX5_play_X5_hasWord rfl rfl rfl (by decide +kernel) ⟨Nat.le_of_ble_eq_true rfl, Nat.le_of_ble_eq_true rfl⟩) hP hK hD hS hA 0 rfl rfl rfl rfl hl.1 rfl (Nat.le_of_ble_eq_true rfl) dX5_play_56 ⟨Nat.le_refl _, Nat.le_refl _⟩ (fun r_56 w H locs h_56 hP hD hS => ?_)
        obtain ⟨rfl, h_56⟩ := h_56
        have hP : va_P g.1 vwCl (MW g h a (nI (rwL SL)) (nI n) (nI ll) (nI np) (nI j) la wi (nI (rwL (rwX F lt))) (nI 0) fS fL fN fK (upd fF (rwL F) (nI (lt))) fW fE fC fG fO) H := hP
        have hD : va_D A (MW g h a (nI (rwL SL)) (nI n) (nI ll) (nI np) (nI j) la wi (nI (rwL (rwX F lt))) (nI 0) fS fL fN fK (upd fF (rwL F) (nI (lt))) fW fE fC fG fO) := hD
        refine lv_if_eq (tgt := 71) hx hb dX5_play_59 (by decide) (fun c_59_5 => ?_) (fun c_59_5 => ?_)
        · skip
          have n_59_5 := Bv.f h_56 c_59_5
          refine lv_aload_n hx hb dX5_play_71 rfl (lv_at hl 0 rfl) ?_
          refine lv_aload_n hx hb dX5_play_72 rfl (lv_at hl 0 rfl) ?_
          refine va_get (D := g.1) (ci := 3) (v := .int (nI (j))) (C := RX5) (T := TX5) (N := 19) hx hb hts hi_3 hown hK hP 0 rfl rfl 8 (by decide) f_91 (fun _ h9 => h9) rfl dX5_play_73 ?_
          refine va_put (D := g.1) (ci := 3) (v := .int (nI (j))) (ty := .int) (C := RX5) (T := TX5) (N := 19) hx hb hts hi_3 tyX5 tyX5_ok nmX5 hown hK hP hD hS 0 rfl rfl 9 (by decide) f_113 (fun _ h9 => h9) rfl (by decide +kernel) rfl rfl (Nat.le_of_ble_eq_true rfl) dX5_play_76 (fun H locs hP hD hS => ?_)
          have hP : va_P g.1 vwCl (MW g h a (nI (rwL SL)) (nI n) (nI ll) (nI np) (nI j) (nI j) wi (nI (rwL (rwX F lt))) (nI 0) fS fL fN fK (upd fF (rwL F) (nI (lt))) fW fE fC fG fO) H := hP
          have hD : va_D A (MW g h a (nI (rwL SL)) (nI n) (nI ll) (nI np) (nI j) (nI j) wi (nI (rwL (rwX F lt))) (nI 0) fS fL fN fK (upd fF (rwL F) (nI (lt))) fW fE fC fG fO) := hD
          refine lv_aload_n hx hb dX5_play_79 rfl (lv_at hl 0 rfl) ?_
          refine lv_aload_n hx hb dX5_play_80 rfl (lv_at hl 0 rfl) ?_
          refine lv_aload_n hx hb dX5_play_81 rfl (lv_at hl 0 rfl) ?_
          refine va_get (D := g.1) (ci := 3) (v := .int (nI (j))) (C := RX5) (T := TX5) (N := 19) hx hb hts hi_3 hown hK hP 0 rfl rfl 8 (by decide) f_91 (fun _ h9 => h9) rfl dX5_play_82 ?_
          refine call_iVW (As := [.int (nI (j))]) (rest := [.ref (h)]) ⟨hx, hb, hml, hown, hts⟩ (c_X5_behind l g h a SL n ll np (nI j) (nI j) wi (rwX F lt) (nI 0) fS fL fN fK (upd fF (rwL F) (nI (lt))) fW fE fC fG fO D hDm hn hSL hfS hFx hfx hll hp K hk j t hj ht) (cwV 1 hts gX5_play_X5_behind rfl rfl rfl (by decide +kernel) ⟨Nat.le_of_ble_eq_true rfl, Nat.le_of_ble_eq_true rfl⟩) hP hK hD hS hA 0 rfl rfl rfl rfl hl.1 rfl (Nat.le_of_ble_eq_true rfl) dX5_play_85 ⟨Nat.le_refl _, Nat.le_refl _⟩ (fun r_85 w H locs h_85 hP hD hS => ?_)
          obtain ⟨rfl, h_85⟩ := h_85
          subst h_85
          have hP : va_P g.1 vwCl (MW g h a (nI (rwL SL)) (nI n) (nI ll) (nI np) (nI j) (nI j) wi (nI (rwL (rwX F lt))) (nI 0) fS fL fN fK (upd fF (rwL F) (nI (lt))) fW fE fC fG fO) H := hP
          have hD : va_D A (MW g h a (nI (rwL SL)) (nI n) (nI ll) (nI np) (nI j) (nI j) wi (nI (rwL (rwX F lt))) (nI 0) fS fL fN fK (upd fF (rwL F) (nI (lt))) fW fE fC fG fO) := hD
          refine va_put (D := g.1) (ci := 3) (v := .int (nI (t))) (ty := .int) (C := RX5) (T := TX5) (N := 19) hx hb hts hi_3 tyX5 tyX5_ok nmX5 hown hK hP hD hS 0 rfl rfl 8 (by decide) f_91 (fun _ h9 => h9) rfl (by decide +kernel) rfl rfl (Nat.le_of_ble_eq_true rfl) dX5_play_88 (fun H locs hP hD hS => ?_)
          have hP : va_P g.1 vwCl (MW g h a (nI (rwL SL)) (nI n) (nI ll) (nI np) (nI t) (nI j) wi (nI (rwL (rwX F lt))) (nI 0) fS fL fN fK (upd fF (rwL F) (nI (lt))) fW fE fC fG fO) H := hP
          have hD : va_D A (MW g h a (nI (rwL SL)) (nI n) (nI ll) (nI np) (nI t) (nI j) wi (nI (rwL (rwX F lt))) (nI 0) fS fL fN fK (upd fF (rwL F) (nI (lt))) fW fE fC fG fO) := hD
          refine lv_iconst (v := -1) hx hb dX5_play_91 (by decide) ?_
          exact hret (-1) (MW g h a (nI (rwL SL)) (nI n) (nI ll) (nI np) (nI t) (nI j) wi (nI (rwL (rwX F lt))) (nI 0) fS fL fN fK (upd fF (rwL F) (nI (lt))) fW fE fC fG fO) _ _ _ _ dX5_play_92 (Or.inl ⟨lt, j, hlt, rfl, hgo, rfl, hj, hKj, by omega, Or.inr ⟨n_59_5, rfl, t, ht, rfl⟩⟩) hP hD hS
        · skip
          have n_59_5 := Bv.t h_56 c_59_5
          refine lv_aload_n hx hb dX5_play_62 rfl (lv_at hl 0 rfl) ?_
          refine lv_aload_n hx hb dX5_play_63 rfl (lv_at hl 0 rfl) ?_
          refine va_get (D := g.1) (ci := 3) (v := .int (nI (j))) (C := RX5) (T := TX5) (N := 19) hx hb hts hi_3 hown hK hP 0 rfl rfl 8 (by decide) f_91 (fun _ h9 => h9) rfl dX5_play_64 ?_
          refine call_iVW (As := [.int (nI (j))]) (rest := []) ⟨hx, hb, hml, hown, hts⟩ (c_X5_loses l g h a SL n ll np (nI j) la wi (rwX F lt) (nI 0) fS fL fN fK (upd fF (rwL F) (nI (lt))) fW fE fC fG fO D hDm hn hSL hfS hFx hfx hll hp K hk j hj hKj (hn2 hgo j hj hKj)) (cwV 1 hts gX5_play_X5_loses rfl rfl rfl (by decide +kernel) ⟨Nat.le_of_ble_eq_true rfl, Nat.le_of_ble_eq_true rfl⟩) hP hK hD hS hA 0 rfl rfl rfl rfl hl.1 rfl (Nat.le_of_ble_eq_true rfl) dX5_play_67 ⟨Nat.le_refl _, Nat.le_refl _⟩ (fun r_67 w H locs h_67 hP hD hS => ?_)
          obtain ⟨h_67, rfl⟩ := h_67
          subst h_67
          have hP : va_P g.1 vwCl (MW g h a (nI (rwL SL)) (nI n) (nI ll) (nI np) (lsT K np j) la (lsW K np j) (nI 0) (nI 0) fS fL fN (upd fK j (nI ((K j) + 1))) (upd fF (rwL F) (nI (lt))) fW fE fC fG fO) H := hP
          have hD : va_D A (MW g h a (nI (rwL SL)) (nI n) (nI ll) (nI np) (lsT K np j) la (lsW K np j) (nI 0) (nI 0) fS fL fN (upd fK j (nI ((K j) + 1))) (upd fF (rwL F) (nI (lt))) fW fE fC fG fO) := hD
          exact hret (nI (j)) (MW g h a (nI (rwL SL)) (nI n) (nI ll) (nI np) (lsT K np j) la (lsW K np j) (nI 0) (nI 0) fS fL fN (upd fK j (nI ((K j) + 1))) (upd fF (rwL F) (nI (lt))) fW fE fC fG fO) _ _ _ _ dX5_play_70 (Or.inl ⟨lt, j, hlt, rfl, hgo, rfl, hj, hKj, by omega, Or.inl ⟨n_59_5, rfl, rfl⟩⟩) hP hD hS
    · skip
      have hP : va_P g.1 vwCl (MW g h a (nI (rwL SL)) (nI n) (nI ll) (nI np) tu la wi (nI (rwL F)) th fS fL fN fK fF fW fE fC fG fO) H := hP
      have hD : va_D A (MW g h a (nI (rwL SL)) (nI n) (nI ll) (nI np) tu la wi (nI (rwL F)) th fS fL fN fK fF fW fE fC fG fO) := hD
      refine lv_if_eq (tgt := 25) hx hb dX5_play_9 (by decide) (fun c_9_6 => ?_) (fun c_9_6 => absurd (by decide) c_9_6)
      refine lv_iconst (v := nI 0) hx hb dX5_play_25 (by decide) ?_
      refine call_iVW (As := [.int (nI (1)), .int (nI (0))]) (rest := []) ⟨hx, hb, hml, hown, hts⟩ (c_X5_asked__10 l g h a (nI (rwL SL)) (nI n) (nI ll) (nI np) tu la wi (nI (rwL F)) th fS fL fN fK fF fW fE fC fG fO ) (cwV 2 hts gX5_play_X5_asked_ rfl rfl rfl (by decide +kernel) ⟨Nat.le_of_ble_eq_true rfl, Nat.le_of_ble_eq_true rfl⟩) hP hK hD hS hA 0 rfl rfl rfl rfl hl.1 rfl (Nat.le_of_ble_eq_true rfl) dX5_play_26 ⟨Nat.le_refl _, Nat.le_refl _⟩ (fun r_26 w H locs h_26 hP hD hS => ?_)
      obtain ⟨h_26, rfl⟩ := h_26
      replace h_26 := h_26.symm
      subst h_26
      have hP : va_P g.1 vwCl (MW g h a (nI (rwL SL)) (nI n) (nI ll) (nI np) tu la wi (nI (rwL F)) (nI 2) fS fL fN fK fF fW fE fC fG fO) H := hP
      have hD : va_D A (MW g h a (nI (rwL SL)) (nI n) (nI ll) (nI np) tu la wi (nI (rwL F)) (nI 2) fS fL fN fK fF fW fE fC fG fO) := hD
      refine lv_if_ne (tgt := 34) hx hb dX5_play_29 (by decide) (fun c_29_7 => absurd (by decide) c_29_7) (fun c_29_7 => ?_)
      refine lv_iconst (v := nI 0) hx hb dX5_play_32 (by decide) ?_
      exact hret (nI (0)) (MW g h a (nI (rwL SL)) (nI n) (nI ll) (nI np) tu la wi (nI (rwL F)) (nI 2) fS fL fN fK fF fW fE fC fG fO) _ _ _ _ dX5_play_33 (Or.inr (Or.inr ⟨⟨lt, hlt, rfl⟩, Or.inl ngo, rfl⟩)) hP hD hS
  · skip
    have hP : va_P g.1 vwCl (MW g h a (nI (rwL SL)) (nI n) (nI ll) (nI np) tu la wi (nI (rwL F)) th fS fL fN fK fF fW fE fC fG fO) H := hP
    have hD : va_D A (MW g h a (nI (rwL SL)) (nI n) (nI ll) (nI np) tu la wi (nI (rwL F)) th fS fL fN fK fF fW fE fC fG fO) := hD
    refine lv_aload_n hx hb dX5_play_5 rfl (lv_at hl 0 rfl) ?_
    refine call_iVW (As := []) (rest := [.int (nI (0)), .ref (h)]) ⟨hx, hb, hml, hown, hts⟩ (c_X5_goesOn l g h a SL n ll np tu la wi F th fS fL fN fK fF fW fE fC fG fO D hDm hn hSL hfS hFr hfF hll hp) (cwV 0 hts gX5_play_X5_goesOn rfl rfl rfl (by decide +kernel) ⟨Nat.le_of_ble_eq_true rfl, Nat.le_of_ble_eq_true rfl⟩) hP hK hD hS hA 0 rfl rfl rfl rfl hl.1 rfl (Nat.le_of_ble_eq_true rfl) dX5_play_6 ⟨Nat.le_refl _, Nat.le_refl _⟩ (fun r_6 w H locs h_6 hP hD hS => ?_)
    rcases h_6 with ⟨rfl, ⟨rfl, hgo⟩ | ⟨rfl, ngo⟩⟩
    · skip
      have hP : va_P g.1 vwCl (MW g h a (nI (rwL SL)) (nI n) (nI ll) (nI np) tu la wi (nI (rwL F)) th fS fL fN fK fF fW fE fC fG fO) H := hP
      have hD : va_D A (MW g h a (nI (rwL SL)) (nI n) (nI ll) (nI np) tu la wi (nI (rwL F)) th fS fL fN fK fF fW fE fC fG fO) := hD
      refine lv_if_eq (tgt := 25) hx hb dX5_play_9 (by decide) (fun c_9_8 => absurd c_9_8 (by decide)) (fun c_9_8 => ?_)
      refine lv_aload_n hx hb dX5_play_12 rfl (lv_at hl 0 rfl) ?_
      refine va_get (D := g.1) (ci := 3) (v := .int (nI (rwL F))) (C := RX5) (T := TX5) (N := 19) hx hb hts hi_3 hown hK hP 0 rfl rfl 12 (by decide) f_94 (fun _ h9 => h9) rfl dX5_play_13 ?_
      refine lv_bipush (v := nI 10) hx hb dX5_play_16 (by decide) ?_
      refine lv_icmp_ge (tgt := 25) hx hb dX5_play_18 (by decide) (fun c_18_9 => ?_) (fun c_18_9 => ?_)
      · skip
        have n_18_9 : 10 ≤ rwL F := (nI_leI (a := 10) (b := rwL F) (by omega) (by omega)).mp c_18_9
        refine lv_iconst (v := nI 0) hx hb dX5_play_25 (by decide) ?_
        refine call_iVW (As := [.int (nI (0)), .int (nI (0))]) (rest := []) ⟨hx, hb, hml, hown, hts⟩ (c_X5_asked__00 l g h a (nI (rwL SL)) (nI n) (nI ll) (nI np) tu la wi (nI (rwL F)) th fS fL fN fK fF fW fE fC fG fO ) (cwV 2 hts gX5_play_X5_asked_ rfl rfl rfl (by decide +kernel) ⟨Nat.le_of_ble_eq_true rfl, Nat.le_of_ble_eq_true rfl⟩) hP hK hD hS hA 0 rfl rfl rfl rfl hl.1 rfl (Nat.le_of_ble_eq_true rfl) dX5_play_26 ⟨Nat.le_refl _, Nat.le_refl _⟩ (fun r_26 w H locs h_26 hP hD hS => ?_)
        obtain ⟨h_26, rfl⟩ := h_26
        replace h_26 := h_26.symm
        subst h_26
        have hP : va_P g.1 vwCl (MW g h a (nI (rwL SL)) (nI n) (nI ll) (nI np) tu la wi (nI (rwL F)) (nI 1) fS fL fN fK fF fW fE fC fG fO) H := hP
        have hD : va_D A (MW g h a (nI (rwL SL)) (nI n) (nI ll) (nI np) tu la wi (nI (rwL F)) (nI 1) fS fL fN fK fF fW fE fC fG fO) := hD
        refine lv_if_ne (tgt := 34) hx hb dX5_play_29 (by decide) (fun c_29_10 => absurd (by decide) c_29_10) (fun c_29_10 => ?_)
        refine lv_iconst (v := nI 0) hx hb dX5_play_32 (by decide) ?_
        exact hret (nI (0)) (MW g h a (nI (rwL SL)) (nI n) (nI ll) (nI np) tu la wi (nI (rwL F)) (nI 1) fS fL fN fK fF fW fE fC fG fO) _ _ _ _ dX5_play_33 (Or.inr (Or.inl ⟨nlt, rfl⟩)) hP hD hS
      · skip
        have n_18_9 : ¬ 10 ≤ rwL F := fun q9 => c_18_9 ((nI_leI (a := 10) (b := rwL F) (by omega) (by omega)).mpr q9)
        refine lv_iconst (v := nI 1) hx hb dX5_play_21 (by decide) ?_
        refine lv_goto (tgt := 26) hx hb dX5_play_22 (by decide) ?_
        refine call_iVW (As := [.int (nI (0)), .int (nI (1))]) (rest := []) ⟨hx, hb, hml, hown, hts⟩ (c_X5_asked__01 l g h a (nI (rwL SL)) (nI n) (nI ll) (nI np) tu la wi (nI (rwL F)) th fS fL fN fK fF fW fE fC fG fO ) (cwV 2 hts gX5_play_X5_asked_ rfl rfl rfl (by decide +kernel) ⟨Nat.le_of_ble_eq_true rfl, Nat.le_of_ble_eq_true rfl⟩) hP hK hD hS hA 0 rfl rfl rfl rfl hl.1 rfl (Nat.le_of_ble_eq_true rfl) dX5_play_26 ⟨Nat.le_refl _, Nat.le_refl _⟩ (fun r_26 w H locs h_26 hP hD hS => ?_)
        obtain ⟨h_26, rfl⟩ := h_26
        replace h_26 := h_26.symm
        subst h_26
        have hP : va_P g.1 vwCl (MW g h a (nI (rwL SL)) (nI n) (nI ll) (nI np) tu la wi (nI (rwL F)) (nI 1) fS fL fN fK fF fW fE fC fG fO) H := hP
        have hD : va_D A (MW g h a (nI (rwL SL)) (nI n) (nI ll) (nI np) tu la wi (nI (rwL F)) (nI 1) fS fL fN fK fF fW fE fC fG fO) := hD
        refine lv_if_ne (tgt := 34) hx hb dX5_play_29 (by decide) (fun c_29_11 => absurd (by decide) c_29_11) (fun c_29_11 => ?_)
        refine lv_iconst (v := nI 0) hx hb dX5_play_32 (by decide) ?_
        exact hret (nI (0)) (MW g h a (nI (rwL SL)) (nI n) (nI ll) (nI np) tu la wi (nI (rwL F)) (nI 1) fS fL fN fK fF fW fE fC fG fO) _ _ _ _ dX5_play_33 (Or.inr (Or.inl ⟨nlt, rfl⟩)) hP hD hS
    · skip
      have hP : va_P g.1 vwCl (MW g h a (nI (rwL SL)) (nI n) (nI ll) (nI np) tu la wi (nI (rwL F)) th fS fL fN fK fF fW fE fC fG fO) H := hP
      have hD : va_D A (MW g h a (nI (rwL SL)) (nI n) (nI ll) (nI np) tu la wi (nI (rwL F)) th fS fL fN fK fF fW fE fC fG fO) := hD
      refine lv_if_eq (tgt := 25) hx hb dX5_play_9 (by decide) (fun c_9_12 => ?_) (fun c_9_12 => absurd (by decide) c_9_12)
      refine lv_iconst (v := nI 0) hx hb dX5_play_25 (by decide) ?_
      refine call_iVW (As := [.int (nI (0)), .int (nI (0))]) (rest := []) ⟨hx, hb, hml, hown, hts⟩ (c_X5_asked__00 l g h a (nI (rwL SL)) (nI n) (nI ll) (nI np) tu la wi (nI (rwL F)) th fS fL fN fK fF fW fE fC fG fO ) (cwV 2 hts gX5_play_X5_asked_ rfl rfl rfl (by decide +kernel) ⟨Nat.le_of_ble_eq_true rfl, Nat.le_of_ble_eq_true rfl⟩) hP hK hD hS hA 0 rfl rfl rfl rfl hl.1 rfl (Nat.le_of_ble_eq_true rfl) dX5_play_26 ⟨Nat.le_refl _, Nat.le_refl _⟩ (fun r_26 w H locs h_26 hP hD hS => ?_)
      obtain ⟨h_26, rfl⟩ := h_26
      replace h_26 := h_26.symm
      subst h_26
      have hP : va_P g.1 vwCl (MW g h a (nI (rwL SL)) (nI n) (nI ll) (nI np) tu la wi (nI (rwL F)) (nI 1) fS fL fN fK fF fW fE fC fG fO) H := hP
      have hD : va_D A (MW g h a (nI (rwL SL)) (nI n) (nI ll) (nI np) tu la wi (nI (rwL F)) (nI 1) fS fL fN fK fF fW fE fC fG fO) := hD
      refine lv_if_ne (tgt := 34) hx hb dX5_play_29 (by decide) (fun c_29_13 => absurd (by decide) c_29_13) (fun c_29_13 => ?_)
      refine lv_iconst (v := nI 0) hx hb dX5_play_32 (by decide) ?_
      exact hret (nI (0)) (MW g h a (nI (rwL SL)) (nI n) (nI ll) (nI np) tu la wi (nI (rwL F)) (nI 1) fS fL fN fK fF fW fE fC fG fO) _ _ _ _ dX5_play_33 (Or.inr (Or.inl ⟨nlt, rfl⟩)) hP hD hS

abbrev rm_X5_challenge : Room := { frames := 2, cells := 0, slots := 0, locals := 48 }
set_option maxHeartbeats 4000000 in
set_option maxRecDepth 100000 in
theorem c_X5_challenge (l : Launch) (g : GG) (h : Nat) (a : Nat → Nat) (SL n ll np : Nat) (tu la wi : Int32) (F : Nat) (th : Int32) (fS fL fN fK fF fW fE fC fG fO : Nat → Int32) (D : Nat → Nat) (hDm : MD fL fN D n) (hn : n ≤ 50) (hSL : RV SL) (hfS : MRw fS SL) (hFr : RV F) (hfF : MRw fF F) (hll : ll ≤ 10) (hp : np ≤ 4) (K : Nat → Nat) (hk : GK fK K) (hn1 : ∀ j, j < np → K j < 5 → ∃ t, nxF K np np j = some t) (hn2 : (0 < np ∧ wi = -1) → ∀ j, j < np → K j < 5 → 5 ≤ erK K j j → ∃ t, nxF (erK K j) np np j = some t) (hgo0 : 0 < np → wi = -1 → ∃ j, tu = nI j ∧ j < np ∧ K j < 5) (hla : 0 < np → wi = -1 → 0 < rwL F → ∃ j, la = nI j ∧ j < np ∧ K j < 5) : Ci l yX5_challenge wsX5_challenge rm_X5_challenge g [.ref (h)] (MW g h a (nI (rwL SL)) (nI n) (nI ll) (nI np) tu la wi (nI (rwL F)) th fS fL fN fK fF fW fE fC fG fO) (fun r w => (∃ j j2 : Nat, (0 < np ∧ wi = -1) ∧ 0 < rwL F ∧ tu = nI j ∧ la = nI j2 ∧ j < np ∧ K j < 5 ∧ j2 < np ∧ K j2 < 5 ∧ (((∃ k, k < n ∧ hwM D n ll F k false) ∧ r = nI j ∧ w = (MW g h a (nI (rwL SL)) (nI n) (nI ll) (nI np) (lsT K np j) (nI j2) (lsW K np j) (nI 0) (nI 0) fS fL fN (upd fK j (nI ((K j) + 1))) fF fW fE fC fG fO)) ∨ (¬ (∃ k, k < n ∧ hwM D n ll F k false) ∧ r = nI j2 ∧ w = (MW g h a (nI (rwL SL)) (nI n) (nI ll) (nI np) (lsT K np j2) (nI j2) (lsW K np j2) (nI 0) (nI 0) fS fL fN (upd fK j2 (nI ((K j2) + 1))) fF fW fE fC fG fO)))) ∨ (¬ ((0 < np ∧ wi = -1) ∧ 0 < rwL F) ∧ w = (MW g h a (nI (rwL SL)) (nI n) (nI ll) (nI np) tu la wi (nI (rwL F)) (nI 1) fS fL fN fK fF fW fE fC fG fO))) := by
  refine Ci.ofI (cc := cX5_challenge) (maxL := 1) (by decide) rfl (Nat.le_of_ble_eq_true rfl) ?_
  intro p e s m args below meth c A Z hx hb hml hts hown hK hA hret H locs ls hP hD hS hl
  have f_91 := hts (.fieldLink RX5 91 "GhostGameModel" "turn" "I") (by decide +kernel)
  have f_94 := hts (.fieldLink RX5 94 "GhostGameModel" "fragmentLength" "I") (by decide +kernel)
  have f_113 := hts (.fieldLink RX5 113 "GhostGameModel" "latest" "I") (by decide +kernel)
  have hi_3 : ∀ w ∈ wsX50, w ∈ wsX5_challenge := by decide +kernel
  have hl : lv_has ls 1 [(0, .ref (h))] := hl
  have hz1 := hSL.1
  have hz2 := hFr.1
  refine lv_aload_n hx hb dX5_challenge_0 rfl (lv_at hl 0 rfl) ?_
  refine lv_aload_n hx hb dX5_challenge_1 rfl (lv_at hl 0 rfl) ?_
  refine call_iVW (As := []) (rest := [.ref (h)]) ⟨hx, hb, hml, hown, hts⟩ (c_X5_goesOn l g h a SL n ll np tu la wi F th fS fL fN fK fF fW fE fC fG fO D hDm hn hSL hfS hFr hfF hll hp) (cwV 0 hts gX5_challenge_X5_goesOn rfl rfl rfl (by decide +kernel) ⟨Nat.le_of_ble_eq_true rfl, Nat.le_of_ble_eq_true rfl⟩) hP hK hD hS hA 0 rfl rfl rfl rfl hl.1 rfl (Nat.le_of_ble_eq_true rfl) dX5_challenge_2 ⟨Nat.le_refl _, Nat.le_refl _⟩ (fun r_2 w H locs h_2 hP hD hS => ?_)
  rcases h_2 with ⟨rfl, ⟨rfl, hgo⟩ | ⟨rfl, ngo⟩⟩
  · skip
    have hP : va_P g.1 vwCl (MW g h a (nI (rwL SL)) (nI n) (nI ll) (nI np) tu la wi (nI (rwL F)) th fS fL fN fK fF fW fE fC fG fO) H := hP
    have hD : va_D A (MW g h a (nI (rwL SL)) (nI n) (nI ll) (nI np) tu la wi (nI (rwL F)) th fS fL fN fK fF fW fE fC fG fO) := hD
    refine lv_if_eq (tgt := 19) hx hb dX5_challenge_5 (by decide) (fun c_5_1 => absurd c_5_1 (by decide)) (fun c_5_1 => ?_)
    refine lv_aload_n hx hb dX5_challenge_8 rfl (lv_at hl 0 rfl) ?_
    refine va_get (D := g.1) (ci := 3) (v := .int (nI (rwL F))) (C := RX5) (T := TX5) (N := 19) hx hb hts hi_3 hown hK hP 0 rfl rfl 12 (by decide) f_94 (fun _ h9 => h9) rfl dX5_challenge_9 ?_
    refine lv_if_le (tgt := 19) hx hb dX5_challenge_12 (by decide) (fun c_12_2 => ?_) (fun c_12_2 => ?_)
    · skip
      have n_12_2 : rwL F ≤ 0 := (nI_leI (a := rwL F) (b := 0) (by omega) (by omega)).mp c_12_2
      refine lv_iconst (v := nI 0) hx hb dX5_challenge_19 (by decide) ?_
      refine call_iVW (As := [.int (nI (0))]) (rest := []) ⟨hx, hb, hml, hown, hts⟩ (c_X5_asked_0 l g h a (nI (rwL SL)) (nI n) (nI ll) (nI np) tu la wi (nI (rwL F)) th fS fL fN fK fF fW fE fC fG fO ) (cwV 1 hts gX5_challenge_X5_asked rfl rfl rfl (by decide +kernel) ⟨Nat.le_of_ble_eq_true rfl, Nat.le_of_ble_eq_true rfl⟩) hP hK hD hS hA 0 rfl rfl rfl rfl hl.1 rfl (Nat.le_of_ble_eq_true rfl) dX5_challenge_20 ⟨Nat.le_refl _, Nat.le_refl _⟩ (fun r_20 w H locs h_20 hP hD hS => ?_)
      obtain ⟨h_20, rfl⟩ := h_20
      replace h_20 := h_20.symm
      subst h_20
      have hP : va_P g.1 vwCl (MW g h a (nI (rwL SL)) (nI n) (nI ll) (nI np) tu la wi (nI (rwL F)) (nI 1) fS fL fN fK fF fW fE fC fG fO) H := hP
      have hD : va_D A (MW g h a (nI (rwL SL)) (nI n) (nI ll) (nI np) tu la wi (nI (rwL F)) (nI 1) fS fL fN fK fF fW fE fC fG fO) := hD
      refine lv_if_ne (tgt := 28) hx hb dX5_challenge_23 (by decide) (fun c_23_3 => absurd (by decide) c_23_3) (fun c_23_3 => ?_)
      refine lv_iconst (v := nI 0) hx hb dX5_challenge_26 (by decide) ?_
      exact hret (nI (0)) (MW g h a (nI (rwL SL)) (nI n) (nI ll) (nI np) tu la wi (nI (rwL F)) (nI 1) fS fL fN fK fF fW fE fC fG fO) _ _ _ _ dX5_challenge_27 (Or.inr ⟨fun q9 => (by have := q9.2; omega), rfl⟩) hP hD hS
    · skip
      have n_12_2 : ¬ rwL F ≤ 0 := fun q9 => c_12_2 ((nI_leI (a := rwL F) (b := 0) (by omega) (by omega)).mpr q9)
      refine lv_iconst (v := nI 1) hx hb dX5_challenge_15 (by decide) ?_
      refine lv_goto (tgt := 20) hx hb dX5_challenge_16 (by decide) ?_
      refine call_iVW (As := [.int (nI (1))]) (rest := []) ⟨hx, hb, hml, hown, hts⟩ (c_X5_asked_1 l g h a (nI (rwL SL)) (nI n) (nI ll) (nI np) tu la wi (nI (rwL F)) th fS fL fN fK fF fW fE fC fG fO ) (cwV 1 hts gX5_challenge_X5_asked rfl rfl rfl (by decide +kernel) ⟨Nat.le_of_ble_eq_true rfl, Nat.le_of_ble_eq_true rfl⟩) hP hK hD hS hA 0 rfl rfl rfl rfl hl.1 rfl (Nat.le_of_ble_eq_true rfl) dX5_challenge_20 ⟨Nat.le_refl _, Nat.le_refl _⟩ (fun r_20 w H locs h_20 hP hD hS => ?_)
      obtain ⟨h_20, rfl⟩ := h_20
      replace h_20 := h_20.symm
      subst h_20
      have hP : va_P g.1 vwCl (MW g h a (nI (rwL SL)) (nI n) (nI ll) (nI np) tu la wi (nI (rwL F)) (nI 0) fS fL fN fK fF fW fE fC fG fO) H := hP
      have hD : va_D A (MW g h a (nI (rwL SL)) (nI n) (nI ll) (nI np) tu la wi (nI (rwL F)) (nI 0) fS fL fN fK fF fW fE fC fG fO) := hD
      refine lv_if_ne (tgt := 28) hx hb dX5_challenge_23 (by decide) (fun c_23_4 => ?_) (fun c_23_4 => absurd c_23_4 (by decide))
      obtain ⟨j, rfl, hj, hKj⟩ := hgo0 hgo.1 hgo.2
      obtain ⟨j2, rfl, hj2, hKj2⟩ := hla hgo.1 hgo.2 (by omega)
      refine lv_aload_n hx hb dX5_challenge_28 rfl (lv_at hl 0 rfl) ?_
      refine lv_aload_n hx hb dX5_challenge_29 rfl (lv_at hl 0 rfl) ?_
      refine lv_iconst (v := nI 0) hx hb dX5_challenge_30 (by decide) ?_
      refine call_iVW (As := [.int (nI (0))]) (rest := [.ref (h)]) ⟨hx, hb, hml, hown, hts⟩ (c_X5_hasWord_0 l g h a SL n ll np (nI j) (nI j2) wi F (nI 0) fS fL fN fK fF fW fE fC fG fO D hDm hn hSL hfS hFr hfF hll hp) (cwV 1 hts gX5_challenge_X5_hasWord rfl rfl rfl (by decide +kernel) ⟨Nat.le_of_ble_eq_true rfl, Nat.le_of_ble_eq_true rfl⟩) hP hK hD hS hA 0 rfl rfl rfl rfl hl.1 rfl (Nat.le_of_ble_eq_true rfl) dX5_challenge_31 ⟨Nat.le_refl _, Nat.le_refl _⟩ (fun r_31 w H locs h_31 hP hD hS => ?_)
      obtain ⟨rfl, h_31⟩ := h_31
      have hP : va_P g.1 vwCl (MW g h a (nI (rwL SL)) (nI n) (nI ll) (nI np) (nI j) (nI j2) wi (nI (rwL F)) (nI 0) fS fL fN fK fF fW fE fC fG fO) H := hP
      have hD : va_D A (MW g h a (nI (rwL SL)) (nI n) (nI ll) (nI np) (nI j) (nI j2) wi (nI (rwL F)) (nI 0) fS fL fN fK fF fW fE fC fG fO) := hD
      refine lv_if_eq (tgt := 44) hx hb dX5_challenge_34 (by decide) (fun c_34_5 => ?_) (fun c_34_5 => ?_)
      · skip
        have n_34_5 := Bv.f h_31 c_34_5
        refine lv_aload_n hx hb dX5_challenge_44 rfl (lv_at hl 0 rfl) ?_
        refine va_get (D := g.1) (ci := 3) (v := .int (nI (j2))) (C := RX5) (T := TX5) (N := 19) hx hb hts hi_3 hown hK hP 0 rfl rfl 9 (by decide) f_113 (fun _ h9 => h9) rfl dX5_challenge_45 ?_
        refine call_iVW (As := [.int (nI (j2))]) (rest := []) ⟨hx, hb, hml, hown, hts⟩ (c_X5_loses l g h a SL n ll np (nI j) (nI j2) wi F (nI 0) fS fL fN fK fF fW fE fC fG fO D hDm hn hSL hfS hFr hfF hll hp K hk j2 hj2 hKj2 (hn2 hgo j2 hj2 hKj2)) (cwV 1 hts gX5_challenge_X5_loses rfl rfl rfl (by decide +kernel) ⟨Nat.le_of_ble_eq_true rfl, Nat.le_of_ble_eq_true rfl⟩) hP hK hD hS hA 0 rfl rfl rfl rfl hl.1 rfl (Nat.le_of_ble_eq_true rfl) dX5_challenge_48 ⟨Nat.le_refl _, Nat.le_refl _⟩ (fun r_48 w H locs h_48 hP hD hS => ?_)
        obtain ⟨h_48, rfl⟩ := h_48
        subst h_48
        have hP : va_P g.1 vwCl (MW g h a (nI (rwL SL)) (nI n) (nI ll) (nI np) (lsT K np j2) (nI j2) (lsW K np j2) (nI 0) (nI 0) fS fL fN (upd fK j2 (nI ((K j2) + 1))) fF fW fE fC fG fO) H := hP
        have hD : va_D A (MW g h a (nI (rwL SL)) (nI n) (nI ll) (nI np) (lsT K np j2) (nI j2) (lsW K np j2) (nI 0) (nI 0) fS fL fN (upd fK j2 (nI ((K j2) + 1))) fF fW fE fC fG fO) := hD
        exact hret (nI (j2)) (MW g h a (nI (rwL SL)) (nI n) (nI ll) (nI np) (lsT K np j2) (nI j2) (lsW K np j2) (nI 0) (nI 0) fS fL fN (upd fK j2 (nI ((K j2) + 1))) fF fW fE fC fG fO) _ _ _ _ dX5_challenge_51 (Or.inl ⟨j, j2, hgo, by omega, rfl, rfl, hj, hKj, hj2, hKj2, Or.inr ⟨n_34_5, rfl, rfl⟩⟩) hP hD hS
      · skip
        have n_34_5 := Bv.t h_31 c_34_5
        refine lv_aload_n hx hb dX5_challenge_37 rfl (lv_at hl 0 rfl) ?_
        refine va_get (D := g.1) (ci := 3) (v := .int (nI (j))) (C := RX5) (T := TX5) (N := 19) hx hb hts hi_3 hown hK hP 0 rfl rfl 8 (by decide) f_91 (fun _ h9 => h9) rfl dX5_challenge_38 ?_
        refine lv_goto (tgt := 48) hx hb dX5_challenge_41 (by decide) ?_
        refine call_iVW (As := [.int (nI (j))]) (rest := []) ⟨hx, hb, hml, hown, hts⟩ (c_X5_loses l g h a SL n ll np (nI j) (nI j2) wi F (nI 0) fS fL fN fK fF fW fE fC fG fO D hDm hn hSL hfS hFr hfF hll hp K hk j hj hKj (hn2 hgo j hj hKj)) (cwV 1 hts gX5_challenge_X5_loses rfl rfl rfl (by decide +kernel) ⟨Nat.le_of_ble_eq_true rfl, Nat.le_of_ble_eq_true rfl⟩) hP hK hD hS hA 0 rfl rfl rfl rfl hl.1 rfl (Nat.le_of_ble_eq_true rfl) dX5_challenge_48 ⟨Nat.le_refl _, Nat.le_refl _⟩ (fun r_48 w H locs h_48 hP hD hS => ?_)
        obtain ⟨h_48, rfl⟩ := h_48
        subst h_48
        have hP : va_P g.1 vwCl (MW g h a (nI (rwL SL)) (nI n) (nI ll) (nI np) (lsT K np j) (nI j2) (lsW K np j) (nI 0) (nI 0) fS fL fN (upd fK j (nI ((K j) + 1))) fF fW fE fC fG fO) H := hP
        have hD : va_D A (MW g h a (nI (rwL SL)) (nI n) (nI ll) (nI np) (lsT K np j) (nI j2) (lsW K np j) (nI 0) (nI 0) fS fL fN (upd fK j (nI ((K j) + 1))) fF fW fE fC fG fO) := hD
        exact hret (nI (j)) (MW g h a (nI (rwL SL)) (nI n) (nI ll) (nI np) (lsT K np j) (nI j2) (lsW K np j) (nI 0) (nI 0) fS fL fN (upd fK j (nI ((K j) + 1))) fF fW fE fC fG fO) _ _ _ _ dX5_challenge_51 (Or.inl ⟨j, j2, hgo, by omega, rfl, rfl, hj, hKj, hj2, hKj2, Or.inl ⟨n_34_5, rfl, rfl⟩⟩) hP hD hS
  · skip
    have hP : va_P g.1 vwCl (MW g h a (nI (rwL SL)) (nI n) (nI ll) (nI np) tu la wi (nI (rwL F)) th fS fL fN fK fF fW fE fC fG fO) H := hP
    have hD : va_D A (MW g h a (nI (rwL SL)) (nI n) (nI ll) (nI np) tu la wi (nI (rwL F)) th fS fL fN fK fF fW fE fC fG fO) := hD
    refine lv_if_eq (tgt := 19) hx hb dX5_challenge_5 (by decide) (fun c_5_6 => ?_) (fun c_5_6 => absurd (by decide) c_5_6)
    refine lv_iconst (v := nI 0) hx hb dX5_challenge_19 (by decide) ?_
    refine call_iVW (As := [.int (nI (0))]) (rest := []) ⟨hx, hb, hml, hown, hts⟩ (c_X5_asked_0 l g h a (nI (rwL SL)) (nI n) (nI ll) (nI np) tu la wi (nI (rwL F)) th fS fL fN fK fF fW fE fC fG fO ) (cwV 1 hts gX5_challenge_X5_asked rfl rfl rfl (by decide +kernel) ⟨Nat.le_of_ble_eq_true rfl, Nat.le_of_ble_eq_true rfl⟩) hP hK hD hS hA 0 rfl rfl rfl rfl hl.1 rfl (Nat.le_of_ble_eq_true rfl) dX5_challenge_20 ⟨Nat.le_refl _, Nat.le_refl _⟩ (fun r_20 w H locs h_20 hP hD hS => ?_)
    obtain ⟨h_20, rfl⟩ := h_20
    replace h_20 := h_20.symm
    subst h_20
    have hP : va_P g.1 vwCl (MW g h a (nI (rwL SL)) (nI n) (nI ll) (nI np) tu la wi (nI (rwL F)) (nI 1) fS fL fN fK fF fW fE fC fG fO) H := hP
    have hD : va_D A (MW g h a (nI (rwL SL)) (nI n) (nI ll) (nI np) tu la wi (nI (rwL F)) (nI 1) fS fL fN fK fF fW fE fC fG fO) := hD
    refine lv_if_ne (tgt := 28) hx hb dX5_challenge_23 (by decide) (fun c_23_7 => absurd (by decide) c_23_7) (fun c_23_7 => ?_)
    refine lv_iconst (v := nI 0) hx hb dX5_challenge_26 (by decide) ?_
    exact hret (nI (0)) (MW g h a (nI (rwL SL)) (nI n) (nI ll) (nI np) tu la wi (nI (rwL F)) (nI 1) fS fL fN fK fF fW fE fC fG fO) _ _ _ _ dX5_challenge_27 (Or.inr ⟨fun q9 => ngo q9.1, rfl⟩) hP hD hS

abbrev rm_X5_isWhole : Room := { frames := 1, cells := 0, slots := 0, locals := 25 }
set_option maxHeartbeats 4000000 in
set_option maxRecDepth 100000 in
theorem c_X5_isWhole (l : Launch) (g : GG) (h : Nat) (a : Nat → Nat) (SL n ll np : Nat) (tu la wi : Int32) (F : Nat) (th : Int32) (fS fL fN fK fF fW fE fC fG fO : Nat → Int32) (D : Nat → Nat) (hDm : MD fL fN D n) (hn : n ≤ 50) (hSL : RV SL) (hfS : MRw fS SL) (hFr : RV F) (hfF : MRw fF F) (hll : ll ≤ 10) (hp : np ≤ 4) (y0 i : Nat) (hy0 : y0 < n) (hi0 : i ≤ rwL (D y0)) : Ci l yX5_isWhole wsX5_isWhole rm_X5_isWhole g [.ref (h), .int (nI (y0)), .int (nI (i))] (MW g h a (nI (rwL SL)) (nI n) (nI ll) (nI np) tu la wi (nI (rwL F)) th fS fL fN fK fF fW fE fC fG fO) (fun r w => w = (MW g h a (nI (rwL SL)) (nI n) (nI ll) (nI np) tu la wi (nI (rwL F)) th fS fL fN fK fF fW fE fC fG fO) ∧ Bv r (ll ≤ i ∧ inS D n (rwB (D y0) i))) := by
  refine Ci.ofZ (cc := cX5_isWhole) (maxL := 5) (by decide) rfl (Nat.le_of_ble_eq_true rfl) ?_
  intro p e s m args below meth c A Z hx hb hml hts hown hK hA hret H locs ls hP hD hS hl
  have f_16 := hts (.fieldLink RX5 16 "GhostGameModel" "length" "[I") (by decide +kernel)
  have f_51 := hts (.fieldLink RX5 51 "GhostGameModel" "words" "I") (by decide +kernel)
  have hi_3 : ∀ w ∈ wsX50, w ∈ wsX5_isWhole := by decide +kernel
  have hl : lv_has ls 5 [(0, .ref (h)), (1, .int (nI (y0))), (2, .int (nI (i)))] := hl
  have h10 : ∀ k9, k9 < n → rwL (D k9) ≤ 10 := fun k9 h9 => (hDm k9 h9).1.1
  have hy3 := h10 y0 hy0
  refine lv_iconst (v := nI 0) hx hb dX5_isWhole_0 (by decide) ?_
  refine lv_istore_n (lv' := [(3, .int (nI (0))), (0, .ref (h)), (1, .int (nI (y0))), (2, .int (nI (i)))]) hx hb dX5_isWhole_1 rfl hl (by decide) rfl (fun ls hl => ?_)
  refine lv_iconst (v := nI 0) hx hb dX5_isWhole_2 (by decide) ?_
  refine lv_istore (lv' := [(4, .int (nI (0))), (3, .int (nI (0))), (0, .ref (h)), (1, .int (nI (y0))), (2, .int (nI (i)))]) hx hb dX5_isWhole_3 hl (by decide) rfl (fun ls hl => ?_)
  have L_5 : ∀ (fu : Nat) (x : Int32) (k : Nat), n - k < fu → (k ≤ n) → (Bv x (∃ j, j < k ∧ iwP D ll y0 i j)) → ∀ (H : Heap) (locs : List Loc) (ls : Array Slot), va_P g.1 vwCl (MW g h a (nI (rwL SL)) (nI n) (nI ll) (nI np) tu la wi (nI (rwL F)) th fS fL fN fK fF fW fE fC fG fO) H → va_D A (MW g h a (nI (rwL SL)) (nI n) (nI ll) (nI np) tu la wi (nI (rwL F)) th fS fL fN fK fF fW fE fC fG fO) → va_S A s.heap H locs → lv_has ls 5 [(0, .ref (h)), (1, .int (nI (y0))), (2, .int (nI (i))), (3, .int (x)), (4, .int (nI (k)))] → W p l e rm_X5_isWhole s m args below meth c H locs 0 0 Z (F0 m 5 ls []) := by
    intro fu
    induction fu with
    | zero => intro _ _ h0; exact absurd h0 (Nat.not_lt_zero _)
    | succ fu ih_5 =>
      intro x k hfu hk1 hx0 H locs ls hP hD hS hl
      refine lv_iload hx hb dX5_isWhole_5 (lv_at hl 4 rfl) ?_
      refine lv_aload_n hx hb dX5_isWhole_7 rfl (lv_at hl 0 rfl) ?_
      refine va_get (D := g.1) (ci := 3) (v := .int (nI (n))) (C := RX5) (T := TX5) (N := 19) hx hb hts hi_3 hown hK hP 0 rfl rfl 4 (by decide) f_51 (fun _ h9 => h9) rfl dX5_isWhole_8 ?_
      refine lv_icmp_ge (tgt := 61) hx hb dX5_isWhole_11 (by decide) (fun c_11_1 => ?_) (fun c_11_1 => ?_)
      · skip
        have n_11_1 : n ≤ k := (nI_leI (a := n) (b := k) (by omega) (by omega)).mp c_11_1
        refine lv_iload_n hx hb dX5_isWhole_61 rfl (lv_at hl 3 rfl) ?_
        exact hret (x) (MW g h a (nI (rwL SL)) (nI n) (nI ll) (nI np) tu la wi (nI (rwL F)) th fS fL fN fK fF fW fE fC fG fO) _ _ _ _ dX5_isWhole_62 (Bv.z hx0) (⟨rfl, hx0.iff ⟨fun ⟨j, a, b, c9, d9⟩ => hw_of (by omega) b c9 d9, fun ⟨a, j, b, c9⟩ => ⟨j, by omega, by rw [(hw_to (hDm y0 hy0).1 hi0 c9).1]; exact a, hw_to (hDm y0 hy0).1 hi0 c9⟩⟩⟩) hP hD hS
      · skip
        have n_11_1 : ¬ n ≤ k := fun q9 => c_11_1 ((nI_leI (a := n) (b := k) (by omega) (by omega)).mpr q9)
        refine lv_iload_n hx hb dX5_isWhole_14 rfl (lv_at hl 3 rfl) ?_
        refine lv_if_ne (tgt := 49) hx hb dX5_isWhole_15 (by decide) (fun c_15_2 => ?_) (fun c_15_2 => ?_)
        · skip
          have n_15_2 := Bv.t hx0 c_15_2
          refine lv_iconst (v := nI 1) hx hb dX5_isWhole_49 (by decide) ?_
          refine lv_goto (tgt := 54) hx hb dX5_isWhole_50 (by decide) ?_
          refine lv_istore_n (lv' := [(3, .int (nI (1))), (0, .ref (h)), (1, .int (nI (y0))), (2, .int (nI (i))), (4, .int (nI (k)))]) hx hb dX5_isWhole_54 rfl hl (by decide) rfl (fun ls hl => ?_)
          refine lv_iinc (v := (nI (k + 1))) (lv' := [(4, .int (nI (k + 1))), (3, .int (nI (1))), (0, .ref (h)), (1, .int (nI (y0))), (2, .int (nI (i)))]) hx hb dX5_isWhole_55 hl (k := 4) rfl (nI_add (k) 1) (by decide) rfl (fun ls hl => ?_)
          refine lv_goto (tgt := 5) hx hb dX5_isWhole_58 (by decide) ?_
          exact ih_5 (nI (1)) (k + 1) (by omega) (by omega) (Bv.yes (let ⟨j, a, b⟩ := n_15_2; ⟨j, by omega, b⟩)) _ _ _ hP hD hS (lv_sub hl [2, 3, 4, 1, 0] rfl)
        · skip
          have n_15_2 := Bv.f hx0 c_15_2
          refine lv_aload_n hx hb dX5_isWhole_18 rfl (lv_at hl 0 rfl) ?_
          refine lv_iload hx hb dX5_isWhole_19 (lv_at hl 4 rfl) ?_
          refine call_iVW (As := [.int (nI (k))]) (rest := []) ⟨hx, hb, hml, hown, hts⟩ (c_X5_counts l g h a SL n ll np tu la wi F th fS fL fN fK fF fW fE fC fG fO D hDm hn hSL hfS hFr hfF hll hp k (by omega)) (cwV 1 hts gX5_isWhole_X5_counts rfl rfl rfl (by decide +kernel) ⟨Nat.le_of_ble_eq_true rfl, Nat.le_of_ble_eq_true rfl⟩) hP hK hD hS hA 0 rfl rfl rfl rfl hl.1 rfl (Nat.le_of_ble_eq_true rfl) dX5_isWhole_21 ⟨Nat.le_refl _, Nat.le_refl _⟩ (fun r_21 w H locs h_21 hP hD hS => ?_)
          obtain ⟨rfl, h_21⟩ := h_21
          have hP : va_P g.1 vwCl (MW g h a (nI (rwL SL)) (nI n) (nI ll) (nI np) tu la wi (nI (rwL F)) th fS fL fN fK fF fW fE fC fG fO) H := hP
          have hD : va_D A (MW g h a (nI (rwL SL)) (nI n) (nI ll) (nI np) tu la wi (nI (rwL F)) th fS fL fN fK fF fW fE fC fG fO) := hD
          refine lv_if_eq (tgt := 53) hx hb dX5_isWhole_24 (by decide) (fun c_24_3 => ?_) (fun c_24_3 => ?_)
          · skip
            have n_24_3 := Bv.f h_21 c_24_3
            refine lv_iconst (v := nI 0) hx hb dX5_isWhole_53 (by decide) ?_
            refine lv_istore_n (lv' := [(3, .int (nI (0))), (0, .ref (h)), (1, .int (nI (y0))), (2, .int (nI (i))), (4, .int (nI (k)))]) hx hb dX5_isWhole_54 rfl hl (by decide) rfl (fun ls hl => ?_)
            refine lv_iinc (v := (nI (k + 1))) (lv' := [(4, .int (nI (k + 1))), (3, .int (nI (0))), (0, .ref (h)), (1, .int (nI (y0))), (2, .int (nI (i)))]) hx hb dX5_isWhole_55 hl (k := 4) rfl (nI_add (k) 1) (by decide) rfl (fun ls hl => ?_)
            refine lv_goto (tgt := 5) hx hb dX5_isWhole_58 (by decide) ?_
            exact ih_5 (nI (0)) (k + 1) (by omega) (by omega) (iw_none n_15_2 (fun q9 => n_24_3 q9.1)) _ _ _ hP hD hS (lv_sub hl [2, 3, 4, 1, 0] rfl)
          · skip
            have n_24_3 := Bv.t h_21 c_24_3
            refine lv_aload_n hx hb dX5_isWhole_27 rfl (lv_at hl 0 rfl) ?_
            refine va_get (D := g.1) (ci := 3) (v := .ref (a 3)) (C := RX5) (T := TX5) (N := 19) hx hb hts hi_3 hown hK hP 0 rfl rfl 3 (by decide) f_16 (fun _ h9 => h9) rfl dX5_isWhole_28 ?_
            refine lv_iload hx hb dX5_isWhole_31 (lv_at hl 4 rfl) ?_
            refine va_iald (n := 50) (f := fN) hx hb hK hP 3 0 rfl rfl (vp_in_nI (n := k) (by omega) (by decide)) dX5_isWhole_33 ?_
            refine tp_i (congrArg fN (nI_clamp (n := k) (by omega))) ?_
            refine tp_i (b := (nI (rwL (D k)))) ((hDm k (by omega)).2.1) ?_
            have hk3 := h10 k (by omega)
            refine lv_iload_n hx hb dX5_isWhole_34 rfl (lv_at hl 2 rfl) ?_
            refine lv_icmp_ne (tgt := 53) hx hb dX5_isWhole_35 (by decide) (fun c_35_4 => ?_) (fun c_35_4 => ?_)
            · skip
              have n_35_4 : ¬ rwL (D k) = i := fun q9 => c_35_4 ((nI_eq (a := rwL (D k)) (b := i) (by omega) (by omega)).mpr q9)
              refine lv_iconst (v := nI 0) hx hb dX5_isWhole_53 (by decide) ?_
              refine lv_istore_n (lv' := [(3, .int (nI (0))), (0, .ref (h)), (1, .int (nI (y0))), (2, .int (nI (i))), (4, .int (nI (k)))]) hx hb dX5_isWhole_54 rfl hl (by decide) rfl (fun ls hl => ?_)
              refine lv_iinc (v := (nI (k + 1))) (lv' := [(4, .int (nI (k + 1))), (3, .int (nI (0))), (0, .ref (h)), (1, .int (nI (y0))), (2, .int (nI (i)))]) hx hb dX5_isWhole_55 hl (k := 4) rfl (nI_add (k) 1) (by decide) rfl (fun ls hl => ?_)
              refine lv_goto (tgt := 5) hx hb dX5_isWhole_58 (by decide) ?_
              exact ih_5 (nI (0)) (k + 1) (by omega) (by omega) (iw_none n_15_2 (fun q9 => n_35_4 q9.2.1)) _ _ _ hP hD hS (lv_sub hl [2, 3, 4, 1, 0] rfl)
            · skip
              have n_35_4 : rwL (D k) = i := (nI_eq (a := rwL (D k)) (b := i) (by omega) (by omega)).mp c_35_4
              refine lv_aload_n hx hb dX5_isWhole_38 rfl (lv_at hl 0 rfl) ?_
              refine lv_iload hx hb dX5_isWhole_39 (lv_at hl 4 rfl) ?_
              refine lv_iload_n hx hb dX5_isWhole_41 rfl (lv_at hl 1 rfl) ?_
              refine lv_iload_n hx hb dX5_isWhole_42 rfl (lv_at hl 2 rfl) ?_
              refine call_iVW (As := [.int (nI (k)), .int (nI (y0)), .int (nI (i))]) (rest := []) ⟨hx, hb, hml, hown, hts⟩ (c_X5_areAlike l g h a SL n ll np tu la wi F th fS fL fN fK fF fW fE fC fG fO D hDm hn hSL hfS hFr hfF hll hp k y0 i (by omega) hy0 (by omega)) (cwV 3 hts gX5_isWhole_X5_areAlike rfl rfl rfl (by decide +kernel) ⟨Nat.le_of_ble_eq_true rfl, Nat.le_of_ble_eq_true rfl⟩) hP hK hD hS hA 0 rfl rfl rfl rfl hl.1 rfl (Nat.le_of_ble_eq_true rfl) dX5_isWhole_43 ⟨Nat.le_refl _, Nat.le_refl _⟩ (fun r_43 w H locs h_43 hP hD hS => ?_)
              obtain ⟨rfl, h_43⟩ := h_43
              have hP : va_P g.1 vwCl (MW g h a (nI (rwL SL)) (nI n) (nI ll) (nI np) tu la wi (nI (rwL F)) th fS fL fN fK fF fW fE fC fG fO) H := hP
              have hD : va_D A (MW g h a (nI (rwL SL)) (nI n) (nI ll) (nI np) tu la wi (nI (rwL F)) th fS fL fN fK fF fW fE fC fG fO) := hD
              refine lv_if_eq (tgt := 53) hx hb dX5_isWhole_46 (by decide) (fun c_46_5 => ?_) (fun c_46_5 => ?_)
              · skip
                have n_46_5 := Bv.f h_43 c_46_5
                refine lv_iconst (v := nI 0) hx hb dX5_isWhole_53 (by decide) ?_
                refine lv_istore_n (lv' := [(3, .int (nI (0))), (0, .ref (h)), (1, .int (nI (y0))), (2, .int (nI (i))), (4, .int (nI (k)))]) hx hb dX5_isWhole_54 rfl hl (by decide) rfl (fun ls hl => ?_)
                refine lv_iinc (v := (nI (k + 1))) (lv' := [(4, .int (nI (k + 1))), (3, .int (nI (0))), (0, .ref (h)), (1, .int (nI (y0))), (2, .int (nI (i)))]) hx hb dX5_isWhole_55 hl (k := 4) rfl (nI_add (k) 1) (by decide) rfl (fun ls hl => ?_)
                refine lv_goto (tgt := 5) hx hb dX5_isWhole_58 (by decide) ?_
                exact ih_5 (nI (0)) (k + 1) (by omega) (by omega) (iw_none n_15_2 (fun q9 => n_46_5 q9.2.2)) _ _ _ hP hD hS (lv_sub hl [2, 3, 4, 1, 0] rfl)
              · skip
                have n_46_5 := Bv.t h_43 c_46_5
                refine lv_iconst (v := nI 1) hx hb dX5_isWhole_49 (by decide) ?_
                refine lv_goto (tgt := 54) hx hb dX5_isWhole_50 (by decide) ?_
                refine lv_istore_n (lv' := [(3, .int (nI (1))), (0, .ref (h)), (1, .int (nI (y0))), (2, .int (nI (i))), (4, .int (nI (k)))]) hx hb dX5_isWhole_54 rfl hl (by decide) rfl (fun ls hl => ?_)
                refine lv_iinc (v := (nI (k + 1))) (lv' := [(4, .int (nI (k + 1))), (3, .int (nI (1))), (0, .ref (h)), (1, .int (nI (y0))), (2, .int (nI (i)))]) hx hb dX5_isWhole_55 hl (k := 4) rfl (nI_add (k) 1) (by decide) rfl (fun ls hl => ?_)
                refine lv_goto (tgt := 5) hx hb dX5_isWhole_58 (by decide) ?_
                exact ih_5 (nI (1)) (k + 1) (by omega) (by omega) (Bv.yes ⟨k, by omega, n_24_3, n_35_4, n_46_5⟩) _ _ _ hP hD hS (lv_sub hl [2, 3, 4, 1, 0] rfl)
  exact L_5 (_ + 1) (nI (0)) 0 (Nat.lt_succ_self _) (Nat.zero_le _) (Bv.no (fun ⟨j, a, _⟩ => absurd a (Nat.not_lt_zero _))) _ _ _ hP hD hS (lv_sub hl [2, 3, 4, 1, 0] rfl)

abbrev rm_X5_isWay : Room := { frames := 2, cells := 0, slots := 0, locals := 49 }
set_option maxHeartbeats 4000000 in
set_option maxRecDepth 100000 in
theorem c_X5_isWay (l : Launch) (g : GG) (h : Nat) (a : Nat → Nat) (SL n ll np : Nat) (tu la wi : Int32) (F : Nat) (th : Int32) (fS fL fN fK fF fW fE fC fG fO : Nat → Int32) (D : Nat → Nat) (hDm : MD fL fN D n) (hn : n ≤ 50) (hSL : RV SL) (hfS : MRw fS SL) (hFr : RV F) (hfF : MRw fF F) (hll : ll ≤ 10) (hp : np ≤ 4) (y0 : Nat) (hy0 : y0 < n) : Ci l yX5_isWay wsX5_isWay rm_X5_isWay g [.ref (h), .int (nI (y0))] (MW g h a (nI (rwL SL)) (nI n) (nI ll) (nI np) tu la wi (nI (rwL F)) th fS fL fN fK fF fW fE fC fG fO) (fun r w => w = (MW g h a (nI (rwL SL)) (nI n) (nI ll) (nI np) tu la wi (nI (rwL F)) th fS fL fN fK fF fW fE fC fG fO) ∧ Bv r (wyP D n ll F (D y0))) := by
  refine Ci.ofZ (cc := cX5_isWay) (maxL := 4) (by decide) rfl (Nat.le_of_ble_eq_true rfl) ?_
  intro p e s m args below meth c A Z hx hb hml hts hown hK hA hret H locs ls hP hD hS hl
  have f_16 := hts (.fieldLink RX5 16 "GhostGameModel" "length" "[I") (by decide +kernel)
  have f_29 := hts (.fieldLink RX5 29 "GhostGameModel" "fragment" "[I") (by decide +kernel)
  have f_94 := hts (.fieldLink RX5 94 "GhostGameModel" "fragmentLength" "I") (by decide +kernel)
  have hi_3 : ∀ w ∈ wsX50, w ∈ wsX5_isWay := by decide +kernel
  have hl : lv_has ls 4 [(0, .ref (h)), (1, .int (nI (y0)))] := hl
  have h10 : ∀ k9, k9 < n → rwL (D k9) ≤ 10 := fun k9 h9 => (hDm k9 h9).1.1
  have hy3 := h10 y0 hy0
  have hz2 := hFr.1
  refine lv_aload_n hx hb dX5_isWay_0 rfl (lv_at hl 0 rfl) ?_
  refine lv_iload_n hx hb dX5_isWay_1 rfl (lv_at hl 1 rfl) ?_
  refine call_iVW (As := [.int (nI (y0))]) (rest := []) ⟨hx, hb, hml, hown, hts⟩ (c_X5_counts l g h a SL n ll np tu la wi F th fS fL fN fK fF fW fE fC fG fO D hDm hn hSL hfS hFr hfF hll hp y0 hy0) (cwV 1 hts gX5_isWay_X5_counts rfl rfl rfl (by decide +kernel) ⟨Nat.le_of_ble_eq_true rfl, Nat.le_of_ble_eq_true rfl⟩) hP hK hD hS hA 0 rfl rfl rfl rfl hl.1 rfl (Nat.le_of_ble_eq_true rfl) dX5_isWay_2 ⟨Nat.le_refl _, Nat.le_refl _⟩ (fun r_2 w H locs h_2 hP hD hS => ?_)
  obtain ⟨rfl, h_2⟩ := h_2
  have hP : va_P g.1 vwCl (MW g h a (nI (rwL SL)) (nI n) (nI ll) (nI np) tu la wi (nI (rwL F)) th fS fL fN fK fF fW fE fC fG fO) H := hP
  have hD : va_D A (MW g h a (nI (rwL SL)) (nI n) (nI ll) (nI np) tu la wi (nI (rwL F)) th fS fL fN fK fF fW fE fC fG fO) := hD
  refine lv_if_eq (tgt := 41) hx hb dX5_isWay_5 (by decide) (fun c_5_1 => ?_) (fun c_5_1 => ?_)
  · skip
    have n_5_1 := Bv.f h_2 c_5_1
    refine lv_iconst (v := nI 0) hx hb dX5_isWay_41 (by decide) ?_
    refine lv_istore_n (lv' := [(2, .int (nI (0))), (0, .ref (h)), (1, .int (nI (y0)))]) hx hb dX5_isWay_42 rfl hl (by decide) rfl (fun ls hl => ?_)
    refine lv_aload_n hx hb dX5_isWay_43 rfl (lv_at hl 1 rfl) ?_
    refine va_get (D := g.1) (ci := 3) (v := .int (nI (rwL F))) (C := RX5) (T := TX5) (N := 19) hx hb hts hi_3 hown hK hP 0 rfl rfl 12 (by decide) f_94 (fun _ h9 => h9) rfl dX5_isWay_44 ?_
    refine lv_iconst (v := nI 1) hx hb dX5_isWay_47 (by decide) ?_
    refine lv_iadd hx hb dX5_isWay_48 ?_
    refine tp_i (nI_add (rwL F) 1) ?_
    refine lv_istore_n (lv' := [(3, .int (nI ((rwL F) + 1))), (2, .int (nI (0))), (0, .ref (h)), (1, .int (nI (y0)))]) hx hb dX5_isWay_49 rfl hl (by decide) rfl (fun ls hl => ?_)
    have L_50 : ∀ (fu : Nat) (x : Int32) (i : Nat), 20 - i < fu → (rwL F < i) → (i ≤ rwL (D y0) ∨ i = rwL F + 1) → (Bv x (ldP ll F (D y0) ∧ ∀ j, rwL F < j → j < i → ¬ (ll ≤ j ∧ inS D n (rwB (D y0) j)))) → ∀ (H : Heap) (locs : List Loc) (ls : Array Slot), va_P g.1 vwCl (MW g h a (nI (rwL SL)) (nI n) (nI ll) (nI np) tu la wi (nI (rwL F)) th fS fL fN fK fF fW fE fC fG fO) H → va_D A (MW g h a (nI (rwL SL)) (nI n) (nI ll) (nI np) tu la wi (nI (rwL F)) th fS fL fN fK fF fW fE fC fG fO) → va_S A s.heap H locs → lv_has ls 4 [(0, .ref (h)), (1, .int (nI (y0))), (2, .int (x)), (3, .int (nI (i)))] → W p l e rm_X5_isWay s m args below meth c H locs 0 0 Z (F0 m 50 ls []) := by
      intro fu
      induction fu with
      | zero => intro _ _ h0; exact absurd h0 (Nat.not_lt_zero _)
      | succ fu ih_50 =>
        intro x i hfu hi1 hi2 hx0 H locs ls hP hD hS hl
        refine lv_iload_n hx hb dX5_isWay_50 rfl (lv_at hl 3 rfl) ?_
        refine lv_aload_n hx hb dX5_isWay_51 rfl (lv_at hl 0 rfl) ?_
        refine va_get (D := g.1) (ci := 3) (v := .ref (a 3)) (C := RX5) (T := TX5) (N := 19) hx hb hts hi_3 hown hK hP 0 rfl rfl 3 (by decide) f_16 (fun _ h9 => h9) rfl dX5_isWay_52 ?_
        refine lv_iload_n hx hb dX5_isWay_55 rfl (lv_at hl 1 rfl) ?_
        refine va_iald (n := 50) (f := fN) hx hb hK hP 3 0 rfl rfl (vp_in_nI (n := y0) (by omega) (by decide)) dX5_isWay_56 ?_
        refine tp_i (congrArg fN (nI_clamp (n := y0) (by omega))) ?_
        refine tp_i (b := (nI (rwL (D y0)))) ((hDm y0 (by omega)).2.1) ?_
        refine lv_icmp_ge (tgt := 85) hx hb dX5_isWay_57 (by decide) (fun c_57_2 => ?_) (fun c_57_2 => ?_)
        · skip
          have n_57_2 : rwL (D y0) ≤ i := (nI_leI (a := rwL (D y0)) (b := i) (by omega) (by omega)).mp c_57_2
          refine lv_iload_n hx hb dX5_isWay_85 rfl (lv_at hl 2 rfl) ?_
          exact hret (x) (MW g h a (nI (rwL SL)) (nI n) (nI ll) (nI np) tu la wi (nI (rwL F)) th fS fL fN fK fF fW fE fC fG fO) _ _ _ _ dX5_isWay_86 (Bv.z hx0) (⟨rfl, hx0.iff ⟨fun q9 => ⟨q9.1, fun j a b => q9.2 j a (by omega)⟩, fun q9 => ⟨q9.1, fun j a b => q9.2 j a (by have := q9.1.lt; omega)⟩⟩⟩) hP hD hS
        · skip
          have n_57_2 : ¬ rwL (D y0) ≤ i := fun q9 => c_57_2 ((nI_leI (a := rwL (D y0)) (b := i) (by omega) (by omega)).mpr q9)
          refine lv_iload_n hx hb dX5_isWay_60 rfl (lv_at hl 2 rfl) ?_
          refine lv_if_eq (tgt := 85) hx hb dX5_isWay_61 (by decide) (fun c_61_3 => ?_) (fun c_61_3 => ?_)
          · skip
            have n_61_3 := Bv.f hx0 c_61_3
            refine lv_iload_n hx hb dX5_isWay_85 rfl (lv_at hl 2 rfl) ?_
            exact hret (x) (MW g h a (nI (rwL SL)) (nI n) (nI ll) (nI np) tu la wi (nI (rwL F)) th fS fL fN fK fF fW fE fC fG fO) _ _ _ _ dX5_isWay_86 (Bv.z hx0) (⟨rfl, Or.inr ⟨c_61_3, fun q9 => n_61_3 ⟨q9.1, fun j a b => q9.2 j a (by omega)⟩⟩⟩) hP hD hS
          · skip
            have n_61_3 := Bv.t hx0 c_61_3
            refine lv_aload_n hx hb dX5_isWay_64 rfl (lv_at hl 0 rfl) ?_
            refine lv_iload_n hx hb dX5_isWay_65 rfl (lv_at hl 1 rfl) ?_
            refine lv_iload_n hx hb dX5_isWay_66 rfl (lv_at hl 3 rfl) ?_
            refine call_iVW (As := [.int (nI (y0)), .int (nI (i))]) (rest := []) ⟨hx, hb, hml, hown, hts⟩ (c_X5_isWhole l g h a SL n ll np tu la wi F th fS fL fN fK fF fW fE fC fG fO D hDm hn hSL hfS hFr hfF hll hp y0 i hy0 (by omega)) (cwV 2 hts gX5_isWay_X5_isWhole rfl rfl rfl (by decide +kernel) ⟨Nat.le_of_ble_eq_true rfl, Nat.le_of_ble_eq_true rfl⟩) hP hK hD hS hA 0 rfl rfl rfl rfl hl.1 rfl (Nat.le_of_ble_eq_true rfl) dX5_isWay_67 ⟨Nat.le_refl _, Nat.le_refl _⟩ (fun r_67 w H locs h_67 hP hD hS => ?_)
            obtain ⟨rfl, h_67⟩ := h_67
            have hP : va_P g.1 vwCl (MW g h a (nI (rwL SL)) (nI n) (nI ll) (nI np) tu la wi (nI (rwL F)) th fS fL fN fK fF fW fE fC fG fO) H := hP
            have hD : va_D A (MW g h a (nI (rwL SL)) (nI n) (nI ll) (nI np) tu la wi (nI (rwL F)) th fS fL fN fK fF fW fE fC fG fO) := hD
            refine lv_if_ne (tgt := 77) hx hb dX5_isWay_70 (by decide) (fun c_70_4 => ?_) (fun c_70_4 => ?_)
            · skip
              have n_70_4 := Bv.t h_67 c_70_4
              refine lv_iconst (v := nI 0) hx hb dX5_isWay_77 (by decide) ?_
              refine lv_istore_n (lv' := [(2, .int (nI (0))), (0, .ref (h)), (1, .int (nI (y0))), (3, .int (nI (i)))]) hx hb dX5_isWay_78 rfl hl (by decide) rfl (fun ls hl => ?_)
              refine lv_iinc (v := (nI (i + 1))) (lv' := [(3, .int (nI (i + 1))), (2, .int (nI (0))), (0, .ref (h)), (1, .int (nI (y0)))]) hx hb dX5_isWay_79 hl (k := 3) rfl (nI_add (i) 1) (by decide) rfl (fun ls hl => ?_)
              refine lv_goto (tgt := 50) hx hb dX5_isWay_82 (by decide) ?_
              exact ih_50 (nI (0)) (i + 1) (by omega) (by omega) (by omega) (Bv.no (fun q9 => q9.2 i (by omega) (by omega) n_70_4)) _ _ _ hP hD hS (lv_sub hl [2, 3, 1, 0] rfl)
            · skip
              have n_70_4 := Bv.f h_67 c_70_4
              refine lv_iconst (v := nI 1) hx hb dX5_isWay_73 (by decide) ?_
              refine lv_goto (tgt := 78) hx hb dX5_isWay_74 (by decide) ?_
              refine lv_istore_n (lv' := [(2, .int (nI (1))), (0, .ref (h)), (1, .int (nI (y0))), (3, .int (nI (i)))]) hx hb dX5_isWay_78 rfl hl (by decide) rfl (fun ls hl => ?_)
              refine lv_iinc (v := (nI (i + 1))) (lv' := [(3, .int (nI (i + 1))), (2, .int (nI (1))), (0, .ref (h)), (1, .int (nI (y0)))]) hx hb dX5_isWay_79 hl (k := 3) rfl (nI_add (i) 1) (by decide) rfl (fun ls hl => ?_)
              refine lv_goto (tgt := 50) hx hb dX5_isWay_82 (by decide) ?_
              exact ih_50 (nI (1)) (i + 1) (by omega) (by omega) (by omega) (Bv.yes ⟨n_61_3.1, fun j a b => if e9 : j = i then (by rw [e9]; exact n_70_4) else n_61_3.2 j a (by omega)⟩) _ _ _ hP hD hS (lv_sub hl [2, 3, 1, 0] rfl)
    exact L_50 (_ + 1) (nI (0)) ((rwL F) + 1) (Nat.lt_succ_self _) (by omega) (Or.inr rfl) (Bv.no (fun q9 => n_5_1 q9.1.1)) _ _ _ hP hD hS (lv_sub hl [2, 3, 1, 0] rfl)
  · skip
    have n_5_1 := Bv.t h_2 c_5_1
    refine lv_aload_n hx hb dX5_isWay_8 rfl (lv_at hl 0 rfl) ?_
    refine va_get (D := g.1) (ci := 3) (v := .ref (a 3)) (C := RX5) (T := TX5) (N := 19) hx hb hts hi_3 hown hK hP 0 rfl rfl 3 (by decide) f_16 (fun _ h9 => h9) rfl dX5_isWay_9 ?_
    refine lv_iload_n hx hb dX5_isWay_12 rfl (lv_at hl 1 rfl) ?_
    refine va_iald (n := 50) (f := fN) hx hb hK hP 3 0 rfl rfl (vp_in_nI (n := y0) (by omega) (by decide)) dX5_isWay_13 ?_
    refine tp_i (congrArg fN (nI_clamp (n := y0) (by omega))) ?_
    refine tp_i (b := (nI (rwL (D y0)))) ((hDm y0 (by omega)).2.1) ?_
    refine lv_aload_n hx hb dX5_isWay_14 rfl (lv_at hl 0 rfl) ?_
    refine va_get (D := g.1) (ci := 3) (v := .int (nI (rwL F))) (C := RX5) (T := TX5) (N := 19) hx hb hts hi_3 hown hK hP 0 rfl rfl 12 (by decide) f_94 (fun _ h9 => h9) rfl dX5_isWay_15 ?_
    refine lv_icmp_le (tgt := 41) hx hb dX5_isWay_18 (by decide) (fun c_18_5 => ?_) (fun c_18_5 => ?_)
    · skip
      have n_18_5 : rwL (D y0) ≤ rwL F := (nI_leI (a := rwL (D y0)) (b := rwL F) (by omega) (by omega)).mp c_18_5
      refine lv_iconst (v := nI 0) hx hb dX5_isWay_41 (by decide) ?_
      refine lv_istore_n (lv' := [(2, .int (nI (0))), (0, .ref (h)), (1, .int (nI (y0)))]) hx hb dX5_isWay_42 rfl hl (by decide) rfl (fun ls hl => ?_)
      refine lv_aload_n hx hb dX5_isWay_43 rfl (lv_at hl 1 rfl) ?_
      refine va_get (D := g.1) (ci := 3) (v := .int (nI (rwL F))) (C := RX5) (T := TX5) (N := 19) hx hb hts hi_3 hown hK hP 0 rfl rfl 12 (by decide) f_94 (fun _ h9 => h9) rfl dX5_isWay_44 ?_
      refine lv_iconst (v := nI 1) hx hb dX5_isWay_47 (by decide) ?_
      refine lv_iadd hx hb dX5_isWay_48 ?_
      refine tp_i (nI_add (rwL F) 1) ?_
      refine lv_istore_n (lv' := [(3, .int (nI ((rwL F) + 1))), (2, .int (nI (0))), (0, .ref (h)), (1, .int (nI (y0)))]) hx hb dX5_isWay_49 rfl hl (by decide) rfl (fun ls hl => ?_)
      have L_50 : ∀ (fu : Nat) (x : Int32) (i : Nat), 20 - i < fu → (rwL F < i) → (i ≤ rwL (D y0) ∨ i = rwL F + 1) → (Bv x (ldP ll F (D y0) ∧ ∀ j, rwL F < j → j < i → ¬ (ll ≤ j ∧ inS D n (rwB (D y0) j)))) → ∀ (H : Heap) (locs : List Loc) (ls : Array Slot), va_P g.1 vwCl (MW g h a (nI (rwL SL)) (nI n) (nI ll) (nI np) tu la wi (nI (rwL F)) th fS fL fN fK fF fW fE fC fG fO) H → va_D A (MW g h a (nI (rwL SL)) (nI n) (nI ll) (nI np) tu la wi (nI (rwL F)) th fS fL fN fK fF fW fE fC fG fO) → va_S A s.heap H locs → lv_has ls 4 [(0, .ref (h)), (1, .int (nI (y0))), (2, .int (x)), (3, .int (nI (i)))] → W p l e rm_X5_isWay s m args below meth c H locs 0 0 Z (F0 m 50 ls []) := by
        intro fu
        induction fu with
        | zero => intro _ _ h0; exact absurd h0 (Nat.not_lt_zero _)
        | succ fu ih_50 =>
          intro x i hfu hi1 hi2 hx0 H locs ls hP hD hS hl
          refine lv_iload_n hx hb dX5_isWay_50 rfl (lv_at hl 3 rfl) ?_
          refine lv_aload_n hx hb dX5_isWay_51 rfl (lv_at hl 0 rfl) ?_
          refine va_get (D := g.1) (ci := 3) (v := .ref (a 3)) (C := RX5) (T := TX5) (N := 19) hx hb hts hi_3 hown hK hP 0 rfl rfl 3 (by decide) f_16 (fun _ h9 => h9) rfl dX5_isWay_52 ?_
          refine lv_iload_n hx hb dX5_isWay_55 rfl (lv_at hl 1 rfl) ?_
          refine va_iald (n := 50) (f := fN) hx hb hK hP 3 0 rfl rfl (vp_in_nI (n := y0) (by omega) (by decide)) dX5_isWay_56 ?_
          refine tp_i (congrArg fN (nI_clamp (n := y0) (by omega))) ?_
          refine tp_i (b := (nI (rwL (D y0)))) ((hDm y0 (by omega)).2.1) ?_
          refine lv_icmp_ge (tgt := 85) hx hb dX5_isWay_57 (by decide) (fun c_57_6 => ?_) (fun c_57_6 => ?_)
          · skip
            have n_57_6 : rwL (D y0) ≤ i := (nI_leI (a := rwL (D y0)) (b := i) (by omega) (by omega)).mp c_57_6
            refine lv_iload_n hx hb dX5_isWay_85 rfl (lv_at hl 2 rfl) ?_
            exact hret (x) (MW g h a (nI (rwL SL)) (nI n) (nI ll) (nI np) tu la wi (nI (rwL F)) th fS fL fN fK fF fW fE fC fG fO) _ _ _ _ dX5_isWay_86 (Bv.z hx0) (⟨rfl, hx0.iff ⟨fun q9 => ⟨q9.1, fun j a b => q9.2 j a (by omega)⟩, fun q9 => ⟨q9.1, fun j a b => q9.2 j a (by have := q9.1.lt; omega)⟩⟩⟩) hP hD hS
          · skip
            have n_57_6 : ¬ rwL (D y0) ≤ i := fun q9 => c_57_6 ((nI_leI (a := rwL (D y0)) (b := i) (by omega) (by omega)).mpr q9)
            refine lv_iload_n hx hb dX5_isWay_60 rfl (lv_at hl 2 rfl) ?_
            refine lv_if_eq (tgt := 85) hx hb dX5_isWay_61 (by decide) (fun c_61_7 => ?_) (fun c_61_7 => ?_)
            · skip
              have n_61_7 := Bv.f hx0 c_61_7
              refine lv_iload_n hx hb dX5_isWay_85 rfl (lv_at hl 2 rfl) ?_
              exact hret (x) (MW g h a (nI (rwL SL)) (nI n) (nI ll) (nI np) tu la wi (nI (rwL F)) th fS fL fN fK fF fW fE fC fG fO) _ _ _ _ dX5_isWay_86 (Bv.z hx0) (⟨rfl, Or.inr ⟨c_61_7, fun q9 => n_61_7 ⟨q9.1, fun j a b => q9.2 j a (by omega)⟩⟩⟩) hP hD hS
            · skip
              have n_61_7 := Bv.t hx0 c_61_7
              refine lv_aload_n hx hb dX5_isWay_64 rfl (lv_at hl 0 rfl) ?_
              refine lv_iload_n hx hb dX5_isWay_65 rfl (lv_at hl 1 rfl) ?_
              refine lv_iload_n hx hb dX5_isWay_66 rfl (lv_at hl 3 rfl) ?_
              refine call_iVW (As := [.int (nI (y0)), .int (nI (i))]) (rest := []) ⟨hx, hb, hml, hown, hts⟩ (c_X5_isWhole l g h a SL n ll np tu la wi F th fS fL fN fK fF fW fE fC fG fO D hDm hn hSL hfS hFr hfF hll hp y0 i hy0 (by omega)) (cwV 2 hts gX5_isWay_X5_isWhole rfl rfl rfl (by decide +kernel) ⟨Nat.le_of_ble_eq_true rfl, Nat.le_of_ble_eq_true rfl⟩) hP hK hD hS hA 0 rfl rfl rfl rfl hl.1 rfl (Nat.le_of_ble_eq_true rfl) dX5_isWay_67 ⟨Nat.le_refl _, Nat.le_refl _⟩ (fun r_67 w H locs h_67 hP hD hS => ?_)
              obtain ⟨rfl, h_67⟩ := h_67
              have hP : va_P g.1 vwCl (MW g h a (nI (rwL SL)) (nI n) (nI ll) (nI np) tu la wi (nI (rwL F)) th fS fL fN fK fF fW fE fC fG fO) H := hP
              have hD : va_D A (MW g h a (nI (rwL SL)) (nI n) (nI ll) (nI np) tu la wi (nI (rwL F)) th fS fL fN fK fF fW fE fC fG fO) := hD
              refine lv_if_ne (tgt := 77) hx hb dX5_isWay_70 (by decide) (fun c_70_8 => ?_) (fun c_70_8 => ?_)
              · skip
                have n_70_8 := Bv.t h_67 c_70_8
                refine lv_iconst (v := nI 0) hx hb dX5_isWay_77 (by decide) ?_
                refine lv_istore_n (lv' := [(2, .int (nI (0))), (0, .ref (h)), (1, .int (nI (y0))), (3, .int (nI (i)))]) hx hb dX5_isWay_78 rfl hl (by decide) rfl (fun ls hl => ?_)
                refine lv_iinc (v := (nI (i + 1))) (lv' := [(3, .int (nI (i + 1))), (2, .int (nI (0))), (0, .ref (h)), (1, .int (nI (y0)))]) hx hb dX5_isWay_79 hl (k := 3) rfl (nI_add (i) 1) (by decide) rfl (fun ls hl => ?_)
                refine lv_goto (tgt := 50) hx hb dX5_isWay_82 (by decide) ?_
                exact ih_50 (nI (0)) (i + 1) (by omega) (by omega) (by omega) (Bv.no (fun q9 => q9.2 i (by omega) (by omega) n_70_8)) _ _ _ hP hD hS (lv_sub hl [2, 3, 1, 0] rfl)
              · skip
                have n_70_8 := Bv.f h_67 c_70_8
                refine lv_iconst (v := nI 1) hx hb dX5_isWay_73 (by decide) ?_
                refine lv_goto (tgt := 78) hx hb dX5_isWay_74 (by decide) ?_
                refine lv_istore_n (lv' := [(2, .int (nI (1))), (0, .ref (h)), (1, .int (nI (y0))), (3, .int (nI (i)))]) hx hb dX5_isWay_78 rfl hl (by decide) rfl (fun ls hl => ?_)
                refine lv_iinc (v := (nI (i + 1))) (lv' := [(3, .int (nI (i + 1))), (2, .int (nI (1))), (0, .ref (h)), (1, .int (nI (y0)))]) hx hb dX5_isWay_79 hl (k := 3) rfl (nI_add (i) 1) (by decide) rfl (fun ls hl => ?_)
                refine lv_goto (tgt := 50) hx hb dX5_isWay_82 (by decide) ?_
                exact ih_50 (nI (1)) (i + 1) (by omega) (by omega) (by omega) (Bv.yes ⟨n_61_7.1, fun j a b => if e9 : j = i then (by rw [e9]; exact n_70_8) else n_61_7.2 j a (by omega)⟩) _ _ _ hP hD hS (lv_sub hl [2, 3, 1, 0] rfl)
      exact L_50 (_ + 1) (nI (0)) ((rwL F) + 1) (Nat.lt_succ_self _) (by omega) (Or.inr rfl) (Bv.no (fun q9 => (by have := q9.1.lt; omega))) _ _ _ hP hD hS (lv_sub hl [2, 3, 1, 0] rfl)
    · skip
      have n_18_5 : ¬ rwL (D y0) ≤ rwL F := fun q9 => c_18_5 ((nI_leI (a := rwL (D y0)) (b := rwL F) (by omega) (by omega)).mpr q9)
      refine lv_aload_n hx hb dX5_isWay_21 rfl (lv_at hl 0 rfl) ?_
      refine lv_iload_n hx hb dX5_isWay_22 rfl (lv_at hl 1 rfl) ?_
      refine lv_aload_n hx hb dX5_isWay_23 rfl (lv_at hl 0 rfl) ?_
      refine va_get (D := g.1) (ci := 3) (v := .ref (a 11)) (C := RX5) (T := TX5) (N := 19) hx hb hts hi_3 hown hK hP 0 rfl rfl 11 (by decide) f_29 (fun _ h9 => h9) rfl dX5_isWay_24 ?_
      refine lv_aload_n hx hb dX5_isWay_27 rfl (lv_at hl 0 rfl) ?_
      refine va_get (D := g.1) (ci := 3) (v := .int (nI (rwL F))) (C := RX5) (T := TX5) (N := 19) hx hb hts hi_3 hown hK hP 0 rfl rfl 12 (by decide) f_94 (fun _ h9 => h9) rfl dX5_isWay_28 ?_
      refine call_iVW (As := [.int (nI (y0)), .ref (a 11), .int (nI (rwL F))]) (rest := []) ⟨hx, hb, hml, hown, hts⟩ (c_X5_begins_F l g h a SL n ll np tu la wi F th fS fL fN fK fF fW fE fC fG fO D hDm hn hSL hfS hFr hfF hll hp y0 hy0) (cwV 3 hts gX5_isWay_X5_begins rfl rfl rfl (by decide +kernel) ⟨Nat.le_of_ble_eq_true rfl, Nat.le_of_ble_eq_true rfl⟩) hP hK hD hS hA 0 rfl rfl rfl rfl hl.1 rfl (Nat.le_of_ble_eq_true rfl) dX5_isWay_31 ⟨Nat.le_refl _, Nat.le_refl _⟩ (fun r_31 w H locs h_31 hP hD hS => ?_)
      obtain ⟨rfl, h_31⟩ := h_31
      have hP : va_P g.1 vwCl (MW g h a (nI (rwL SL)) (nI n) (nI ll) (nI np) tu la wi (nI (rwL F)) th fS fL fN fK fF fW fE fC fG fO) H := hP
      have hD : va_D A (MW g h a (nI (rwL SL)) (nI n) (nI ll) (nI np) tu la wi (nI (rwL F)) th fS fL fN fK fF fW fE fC fG fO) := hD
      refine lv_if_eq (tgt := 41) hx hb dX5_isWay_34 (by decide) (fun c_34_9 => ?_) (fun c_34_9 => ?_)
      · skip
        have n_34_9 := Bv.f h_31 c_34_9
        refine lv_iconst (v := nI 0) hx hb dX5_isWay_41 (by decide) ?_
        refine lv_istore_n (lv' := [(2, .int (nI (0))), (0, .ref (h)), (1, .int (nI (y0)))]) hx hb dX5_isWay_42 rfl hl (by decide) rfl (fun ls hl => ?_)
        refine lv_aload_n hx hb dX5_isWay_43 rfl (lv_at hl 1 rfl) ?_
        refine va_get (D := g.1) (ci := 3) (v := .int (nI (rwL F))) (C := RX5) (T := TX5) (N := 19) hx hb hts hi_3 hown hK hP 0 rfl rfl 12 (by decide) f_94 (fun _ h9 => h9) rfl dX5_isWay_44 ?_
        refine lv_iconst (v := nI 1) hx hb dX5_isWay_47 (by decide) ?_
        refine lv_iadd hx hb dX5_isWay_48 ?_
        refine tp_i (nI_add (rwL F) 1) ?_
        refine lv_istore_n (lv' := [(3, .int (nI ((rwL F) + 1))), (2, .int (nI (0))), (0, .ref (h)), (1, .int (nI (y0)))]) hx hb dX5_isWay_49 rfl hl (by decide) rfl (fun ls hl => ?_)
        have L_50 : ∀ (fu : Nat) (x : Int32) (i : Nat), 20 - i < fu → (rwL F < i) → (i ≤ rwL (D y0) ∨ i = rwL F + 1) → (Bv x (ldP ll F (D y0) ∧ ∀ j, rwL F < j → j < i → ¬ (ll ≤ j ∧ inS D n (rwB (D y0) j)))) → ∀ (H : Heap) (locs : List Loc) (ls : Array Slot), va_P g.1 vwCl (MW g h a (nI (rwL SL)) (nI n) (nI ll) (nI np) tu la wi (nI (rwL F)) th fS fL fN fK fF fW fE fC fG fO) H → va_D A (MW g h a (nI (rwL SL)) (nI n) (nI ll) (nI np) tu la wi (nI (rwL F)) th fS fL fN fK fF fW fE fC fG fO) → va_S A s.heap H locs → lv_has ls 4 [(0, .ref (h)), (1, .int (nI (y0))), (2, .int (x)), (3, .int (nI (i)))] → W p l e rm_X5_isWay s m args below meth c H locs 0 0 Z (F0 m 50 ls []) := by
          intro fu
          induction fu with
          | zero => intro _ _ h0; exact absurd h0 (Nat.not_lt_zero _)
          | succ fu ih_50 =>
            intro x i hfu hi1 hi2 hx0 H locs ls hP hD hS hl
            refine lv_iload_n hx hb dX5_isWay_50 rfl (lv_at hl 3 rfl) ?_
            refine lv_aload_n hx hb dX5_isWay_51 rfl (lv_at hl 0 rfl) ?_
            refine va_get (D := g.1) (ci := 3) (v := .ref (a 3)) (C := RX5) (T := TX5) (N := 19) hx hb hts hi_3 hown hK hP 0 rfl rfl 3 (by decide) f_16 (fun _ h9 => h9) rfl dX5_isWay_52 ?_
            refine lv_iload_n hx hb dX5_isWay_55 rfl (lv_at hl 1 rfl) ?_
            refine va_iald (n := 50) (f := fN) hx hb hK hP 3 0 rfl rfl (vp_in_nI (n := y0) (by omega) (by decide)) dX5_isWay_56 ?_
            refine tp_i (congrArg fN (nI_clamp (n := y0) (by omega))) ?_
            refine tp_i (b := (nI (rwL (D y0)))) ((hDm y0 (by omega)).2.1) ?_
            refine lv_icmp_ge (tgt := 85) hx hb dX5_isWay_57 (by decide) (fun c_57_10 => ?_) (fun c_57_10 => ?_)
            · skip
              have n_57_10 : rwL (D y0) ≤ i := (nI_leI (a := rwL (D y0)) (b := i) (by omega) (by omega)).mp c_57_10
              refine lv_iload_n hx hb dX5_isWay_85 rfl (lv_at hl 2 rfl) ?_
              exact hret (x) (MW g h a (nI (rwL SL)) (nI n) (nI ll) (nI np) tu la wi (nI (rwL F)) th fS fL fN fK fF fW fE fC fG fO) _ _ _ _ dX5_isWay_86 (Bv.z hx0) (⟨rfl, hx0.iff ⟨fun q9 => ⟨q9.1, fun j a b => q9.2 j a (by omega)⟩, fun q9 => ⟨q9.1, fun j a b => q9.2 j a (by have := q9.1.lt; omega)⟩⟩⟩) hP hD hS
            · skip
              have n_57_10 : ¬ rwL (D y0) ≤ i := fun q9 => c_57_10 ((nI_leI (a := rwL (D y0)) (b := i) (by omega) (by omega)).mpr q9)
              refine lv_iload_n hx hb dX5_isWay_60 rfl (lv_at hl 2 rfl) ?_
              refine lv_if_eq (tgt := 85) hx hb dX5_isWay_61 (by decide) (fun c_61_11 => ?_) (fun c_61_11 => ?_)
              · skip
                have n_61_11 := Bv.f hx0 c_61_11
                refine lv_iload_n hx hb dX5_isWay_85 rfl (lv_at hl 2 rfl) ?_
                exact hret (x) (MW g h a (nI (rwL SL)) (nI n) (nI ll) (nI np) tu la wi (nI (rwL F)) th fS fL fN fK fF fW fE fC fG fO) _ _ _ _ dX5_isWay_86 (Bv.z hx0) (⟨rfl, Or.inr ⟨c_61_11, fun q9 => n_61_11 ⟨q9.1, fun j a b => q9.2 j a (by omega)⟩⟩⟩) hP hD hS
              · skip
                have n_61_11 := Bv.t hx0 c_61_11
                refine lv_aload_n hx hb dX5_isWay_64 rfl (lv_at hl 0 rfl) ?_
                refine lv_iload_n hx hb dX5_isWay_65 rfl (lv_at hl 1 rfl) ?_
                refine lv_iload_n hx hb dX5_isWay_66 rfl (lv_at hl 3 rfl) ?_
                refine call_iVW (As := [.int (nI (y0)), .int (nI (i))]) (rest := []) ⟨hx, hb, hml, hown, hts⟩ (c_X5_isWhole l g h a SL n ll np tu la wi F th fS fL fN fK fF fW fE fC fG fO D hDm hn hSL hfS hFr hfF hll hp y0 i hy0 (by omega)) (cwV 2 hts gX5_isWay_X5_isWhole rfl rfl rfl (by decide +kernel) ⟨Nat.le_of_ble_eq_true rfl, Nat.le_of_ble_eq_true rfl⟩) hP hK hD hS hA 0 rfl rfl rfl rfl hl.1 rfl (Nat.le_of_ble_eq_true rfl) dX5_isWay_67 ⟨Nat.le_refl _, Nat.le_refl _⟩ (fun r_67 w H locs h_67 hP hD hS => ?_)
                obtain ⟨rfl, h_67⟩ := h_67
                have hP : va_P g.1 vwCl (MW g h a (nI (rwL SL)) (nI n) (nI ll) (nI np) tu la wi (nI (rwL F)) th fS fL fN fK fF fW fE fC fG fO) H := hP
                have hD : va_D A (MW g h a (nI (rwL SL)) (nI n) (nI ll) (nI np) tu la wi (nI (rwL F)) th fS fL fN fK fF fW fE fC fG fO) := hD
                refine lv_if_ne (tgt := 77) hx hb dX5_isWay_70 (by decide) (fun c_70_12 => ?_) (fun c_70_12 => ?_)
                · skip
                  have n_70_12 := Bv.t h_67 c_70_12
                  refine lv_iconst (v := nI 0) hx hb dX5_isWay_77 (by decide) ?_
                  refine lv_istore_n (lv' := [(2, .int (nI (0))), (0, .ref (h)), (1, .int (nI (y0))), (3, .int (nI (i)))]) hx hb dX5_isWay_78 rfl hl (by decide) rfl (fun ls hl => ?_)
                  refine lv_iinc (v := (nI (i + 1))) (lv' := [(3, .int (nI (i + 1))), (2, .int (nI (0))), (0, .ref (h)), (1, .int (nI (y0)))]) hx hb dX5_isWay_79 hl (k := 3) rfl (nI_add (i) 1) (by decide) rfl (fun ls hl => ?_)
                  refine lv_goto (tgt := 50) hx hb dX5_isWay_82 (by decide) ?_
                  exact ih_50 (nI (0)) (i + 1) (by omega) (by omega) (by omega) (Bv.no (fun q9 => q9.2 i (by omega) (by omega) n_70_12)) _ _ _ hP hD hS (lv_sub hl [2, 3, 1, 0] rfl)
                · skip
                  have n_70_12 := Bv.f h_67 c_70_12
                  refine lv_iconst (v := nI 1) hx hb dX5_isWay_73 (by decide) ?_
                  refine lv_goto (tgt := 78) hx hb dX5_isWay_74 (by decide) ?_
                  refine lv_istore_n (lv' := [(2, .int (nI (1))), (0, .ref (h)), (1, .int (nI (y0))), (3, .int (nI (i)))]) hx hb dX5_isWay_78 rfl hl (by decide) rfl (fun ls hl => ?_)
                  refine lv_iinc (v := (nI (i + 1))) (lv' := [(3, .int (nI (i + 1))), (2, .int (nI (1))), (0, .ref (h)), (1, .int (nI (y0)))]) hx hb dX5_isWay_79 hl (k := 3) rfl (nI_add (i) 1) (by decide) rfl (fun ls hl => ?_)
                  refine lv_goto (tgt := 50) hx hb dX5_isWay_82 (by decide) ?_
                  exact ih_50 (nI (1)) (i + 1) (by omega) (by omega) (by omega) (Bv.yes ⟨n_61_11.1, fun j a b => if e9 : j = i then (by rw [e9]; exact n_70_12) else n_61_11.2 j a (by omega)⟩) _ _ _ hP hD hS (lv_sub hl [2, 3, 1, 0] rfl)
        exact L_50 (_ + 1) (nI (0)) ((rwL F) + 1) (Nat.lt_succ_self _) (by omega) (Or.inr rfl) (Bv.no (fun q9 => n_34_9 q9.1.2.2)) _ _ _ hP hD hS (lv_sub hl [2, 3, 1, 0] rfl)
      · skip
        have n_34_9 := Bv.t h_31 c_34_9
        refine lv_iconst (v := nI 1) hx hb dX5_isWay_37 (by decide) ?_
        refine lv_goto (tgt := 42) hx hb dX5_isWay_38 (by decide) ?_
        refine lv_istore_n (lv' := [(2, .int (nI (1))), (0, .ref (h)), (1, .int (nI (y0)))]) hx hb dX5_isWay_42 rfl hl (by decide) rfl (fun ls hl => ?_)
        refine lv_aload_n hx hb dX5_isWay_43 rfl (lv_at hl 1 rfl) ?_
        refine va_get (D := g.1) (ci := 3) (v := .int (nI (rwL F))) (C := RX5) (T := TX5) (N := 19) hx hb hts hi_3 hown hK hP 0 rfl rfl 12 (by decide) f_94 (fun _ h9 => h9) rfl dX5_isWay_44 ?_
        refine lv_iconst (v := nI 1) hx hb dX5_isWay_47 (by decide) ?_
        refine lv_iadd hx hb dX5_isWay_48 ?_
        refine tp_i (nI_add (rwL F) 1) ?_
        refine lv_istore_n (lv' := [(3, .int (nI ((rwL F) + 1))), (2, .int (nI (1))), (0, .ref (h)), (1, .int (nI (y0)))]) hx hb dX5_isWay_49 rfl hl (by decide) rfl (fun ls hl => ?_)
        have L_50 : ∀ (fu : Nat) (x : Int32) (i : Nat), 20 - i < fu → (rwL F < i) → (i ≤ rwL (D y0) ∨ i = rwL F + 1) → (Bv x (ldP ll F (D y0) ∧ ∀ j, rwL F < j → j < i → ¬ (ll ≤ j ∧ inS D n (rwB (D y0) j)))) → ∀ (H : Heap) (locs : List Loc) (ls : Array Slot), va_P g.1 vwCl (MW g h a (nI (rwL SL)) (nI n) (nI ll) (nI np) tu la wi (nI (rwL F)) th fS fL fN fK fF fW fE fC fG fO) H → va_D A (MW g h a (nI (rwL SL)) (nI n) (nI ll) (nI np) tu la wi (nI (rwL F)) th fS fL fN fK fF fW fE fC fG fO) → va_S A s.heap H locs → lv_has ls 4 [(0, .ref (h)), (1, .int (nI (y0))), (2, .int (x)), (3, .int (nI (i)))] → W p l e rm_X5_isWay s m args below meth c H locs 0 0 Z (F0 m 50 ls []) := by
          intro fu
          induction fu with
          | zero => intro _ _ h0; exact absurd h0 (Nat.not_lt_zero _)
          | succ fu ih_50 =>
            intro x i hfu hi1 hi2 hx0 H locs ls hP hD hS hl
            refine lv_iload_n hx hb dX5_isWay_50 rfl (lv_at hl 3 rfl) ?_
            refine lv_aload_n hx hb dX5_isWay_51 rfl (lv_at hl 0 rfl) ?_
            refine va_get (D := g.1) (ci := 3) (v := .ref (a 3)) (C := RX5) (T := TX5) (N := 19) hx hb hts hi_3 hown hK hP 0 rfl rfl 3 (by decide) f_16 (fun _ h9 => h9) rfl dX5_isWay_52 ?_
            refine lv_iload_n hx hb dX5_isWay_55 rfl (lv_at hl 1 rfl) ?_
            refine va_iald (n := 50) (f := fN) hx hb hK hP 3 0 rfl rfl (vp_in_nI (n := y0) (by omega) (by decide)) dX5_isWay_56 ?_
            refine tp_i (congrArg fN (nI_clamp (n := y0) (by omega))) ?_
            refine tp_i (b := (nI (rwL (D y0)))) ((hDm y0 (by omega)).2.1) ?_
            refine lv_icmp_ge (tgt := 85) hx hb dX5_isWay_57 (by decide) (fun c_57_13 => ?_) (fun c_57_13 => ?_)
            · skip
              have n_57_13 : rwL (D y0) ≤ i := (nI_leI (a := rwL (D y0)) (b := i) (by omega) (by omega)).mp c_57_13
              refine lv_iload_n hx hb dX5_isWay_85 rfl (lv_at hl 2 rfl) ?_
              exact hret (x) (MW g h a (nI (rwL SL)) (nI n) (nI ll) (nI np) tu la wi (nI (rwL F)) th fS fL fN fK fF fW fE fC fG fO) _ _ _ _ dX5_isWay_86 (Bv.z hx0) (⟨rfl, hx0.iff ⟨fun q9 => ⟨q9.1, fun j a b => q9.2 j a (by omega)⟩, fun q9 => ⟨q9.1, fun j a b => q9.2 j a (by have := q9.1.lt; omega)⟩⟩⟩) hP hD hS
            · skip
              have n_57_13 : ¬ rwL (D y0) ≤ i := fun q9 => c_57_13 ((nI_leI (a := rwL (D y0)) (b := i) (by omega) (by omega)).mpr q9)
              refine lv_iload_n hx hb dX5_isWay_60 rfl (lv_at hl 2 rfl) ?_
              refine lv_if_eq (tgt := 85) hx hb dX5_isWay_61 (by decide) (fun c_61_14 => ?_) (fun c_61_14 => ?_)
              · skip
                have n_61_14 := Bv.f hx0 c_61_14
                refine lv_iload_n hx hb dX5_isWay_85 rfl (lv_at hl 2 rfl) ?_
                exact hret (x) (MW g h a (nI (rwL SL)) (nI n) (nI ll) (nI np) tu la wi (nI (rwL F)) th fS fL fN fK fF fW fE fC fG fO) _ _ _ _ dX5_isWay_86 (Bv.z hx0) (⟨rfl, Or.inr ⟨c_61_14, fun q9 => n_61_14 ⟨q9.1, fun j a b => q9.2 j a (by omega)⟩⟩⟩) hP hD hS
              · skip
                have n_61_14 := Bv.t hx0 c_61_14
                refine lv_aload_n hx hb dX5_isWay_64 rfl (lv_at hl 0 rfl) ?_
                refine lv_iload_n hx hb dX5_isWay_65 rfl (lv_at hl 1 rfl) ?_
                refine lv_iload_n hx hb dX5_isWay_66 rfl (lv_at hl 3 rfl) ?_
                refine call_iVW (As := [.int (nI (y0)), .int (nI (i))]) (rest := []) ⟨hx, hb, hml, hown, hts⟩ (c_X5_isWhole l g h a SL n ll np tu la wi F th fS fL fN fK fF fW fE fC fG fO D hDm hn hSL hfS hFr hfF hll hp y0 i hy0 (by omega)) (cwV 2 hts gX5_isWay_X5_isWhole rfl rfl rfl (by decide +kernel) ⟨Nat.le_of_ble_eq_true rfl, Nat.le_of_ble_eq_true rfl⟩) hP hK hD hS hA 0 rfl rfl rfl rfl hl.1 rfl (Nat.le_of_ble_eq_true rfl) dX5_isWay_67 ⟨Nat.le_refl _, Nat.le_refl _⟩ (fun r_67 w H locs h_67 hP hD hS => ?_)
                obtain ⟨rfl, h_67⟩ := h_67
                have hP : va_P g.1 vwCl (MW g h a (nI (rwL SL)) (nI n) (nI ll) (nI np) tu la wi (nI (rwL F)) th fS fL fN fK fF fW fE fC fG fO) H := hP
                have hD : va_D A (MW g h a (nI (rwL SL)) (nI n) (nI ll) (nI np) tu la wi (nI (rwL F)) th fS fL fN fK fF fW fE fC fG fO) := hD
                refine lv_if_ne (tgt := 77) hx hb dX5_isWay_70 (by decide) (fun c_70_15 => ?_) (fun c_70_15 => ?_)
                · skip
                  have n_70_15 := Bv.t h_67 c_70_15
                  refine lv_iconst (v := nI 0) hx hb dX5_isWay_77 (by decide) ?_
                  refine lv_istore_n (lv' := [(2, .int (nI (0))), (0, .ref (h)), (1, .int (nI (y0))), (3, .int (nI (i)))]) hx hb dX5_isWay_78 rfl hl (by decide) rfl (fun ls hl => ?_)
                  refine lv_iinc (v := (nI (i + 1))) (lv' := [(3, .int (nI (i + 1))), (2, .int (nI (0))), (0, .ref (h)), (1, .int (nI (y0)))]) hx hb dX5_isWay_79 hl (k := 3) rfl (nI_add (i) 1) (by decide) rfl (fun ls hl => ?_)
                  refine lv_goto (tgt := 50) hx hb dX5_isWay_82 (by decide) ?_
                  exact ih_50 (nI (0)) (i + 1) (by omega) (by omega) (by omega) (Bv.no (fun q9 => q9.2 i (by omega) (by omega) n_70_15)) _ _ _ hP hD hS (lv_sub hl [2, 3, 1, 0] rfl)
                · skip
                  have n_70_15 := Bv.f h_67 c_70_15
                  refine lv_iconst (v := nI 1) hx hb dX5_isWay_73 (by decide) ?_
                  refine lv_goto (tgt := 78) hx hb dX5_isWay_74 (by decide) ?_
                  refine lv_istore_n (lv' := [(2, .int (nI (1))), (0, .ref (h)), (1, .int (nI (y0))), (3, .int (nI (i)))]) hx hb dX5_isWay_78 rfl hl (by decide) rfl (fun ls hl => ?_)
                  refine lv_iinc (v := (nI (i + 1))) (lv' := [(3, .int (nI (i + 1))), (2, .int (nI (1))), (0, .ref (h)), (1, .int (nI (y0)))]) hx hb dX5_isWay_79 hl (k := 3) rfl (nI_add (i) 1) (by decide) rfl (fun ls hl => ?_)
                  refine lv_goto (tgt := 50) hx hb dX5_isWay_82 (by decide) ?_
                  exact ih_50 (nI (1)) (i + 1) (by omega) (by omega) (by omega) (Bv.yes ⟨n_61_14.1, fun j a b => if e9 : j = i then (by rw [e9]; exact n_70_15) else n_61_14.2 j a (by omega)⟩) _ _ _ hP hD hS (lv_sub hl [2, 3, 1, 0] rfl)
        exact L_50 (_ + 1) (nI (1)) ((rwL F) + 1) (Nat.lt_succ_self _) (by omega) (Or.inr rfl) (Bv.yes ⟨⟨n_5_1, fun q9 => by (rw [q9] at n_18_5; omega), n_34_9⟩, fun j a b => by omega⟩) _ _ _ hP hD hS (lv_sub hl [2, 3, 1, 0] rfl)

abbrev rm_X5_waysToPlay : Room := { frames := 3, cells := 0, slots := 0, locals := 72 }
set_option maxHeartbeats 4000000 in
set_option maxRecDepth 100000 in
theorem c_X5_waysToPlay (l : Launch) (g : GG) (h : Nat) (a : Nat → Nat) (SL n ll np : Nat) (tu la wi : Int32) (F : Nat) (th : Int32) (fS fL fN fK fF fW fE fC fG fO : Nat → Int32) (D : Nat → Nat) (hDm : MD fL fN D n) (hn : n ≤ 50) (hSL : RV SL) (hfS : MRw fS SL) (hFr : RV F) (hfF : MRw fF F) (hll : ll ≤ 10) (hp : np ≤ 4) : Ci l yX5_waysToPlay wsX5_waysToPlay rm_X5_waysToPlay g [.ref (h)] (MW g h a (nI (rwL SL)) (nI n) (nI ll) (nI np) tu la wi (nI (rwL F)) th fS fL fN fK fF fW fE fC fG fO) (fun r w => r = nI (fb_ct (fun i => bB (wyP D n ll F (D i))) n) ∧ w = (MW g h a (nI (rwL SL)) (nI n) (nI ll) (nI np) tu la wi (nI (rwL F)) (nI 0) fS fL fN fK fF fW fE fC fG fO)) := by
  refine Ci.ofI (cc := cX5_waysToPlay) (maxL := 3) (by decide) rfl (Nat.le_of_ble_eq_true rfl) ?_
  intro p e s m args below meth c A Z hx hb hml hts hown hK hA hret H locs ls hP hD hS hl
  have f_51 := hts (.fieldLink RX5 51 "GhostGameModel" "words" "I") (by decide +kernel)
  have hi_3 : ∀ w ∈ wsX50, w ∈ wsX5_waysToPlay := by decide +kernel
  have hl : lv_has ls 3 [(0, .ref (h))] := hl
  refine lv_iconst (v := nI 0) hx hb dX5_waysToPlay_0 (by decide) ?_
  refine lv_istore_n (lv' := [(1, .int (nI (0))), (0, .ref (h))]) hx hb dX5_waysToPlay_1 rfl hl (by decide) rfl (fun ls hl => ?_)
  refine lv_iconst (v := nI 0) hx hb dX5_waysToPlay_2 (by decide) ?_
  refine lv_istore_n (lv' := [(2, .int (nI (0))), (1, .int (nI (0))), (0, .ref (h))]) hx hb dX5_waysToPlay_3 rfl hl (by decide) rfl (fun ls hl => ?_)
  have L_4 : ∀ (fu : Nat) (c0 k : Nat), n - k < fu → (k ≤ n) → (c0 = fb_ct (fun i => bB (wyP D n ll F (D i))) k) → ∀ (H : Heap) (locs : List Loc) (ls : Array Slot), va_P g.1 vwCl (MW g h a (nI (rwL SL)) (nI n) (nI ll) (nI np) tu la wi (nI (rwL F)) th fS fL fN fK fF fW fE fC fG fO) H → va_D A (MW g h a (nI (rwL SL)) (nI n) (nI ll) (nI np) tu la wi (nI (rwL F)) th fS fL fN fK fF fW fE fC fG fO) → va_S A s.heap H locs → lv_has ls 3 [(0, .ref (h)), (1, .int (nI (c0))), (2, .int (nI (k)))] → W p l e rm_X5_waysToPlay s m args below meth c H locs 0 0 Z (F0 m 4 ls []) := by
    intro fu
    induction fu with
    | zero => intro _ _ h0; exact absurd h0 (Nat.not_lt_zero _)
    | succ fu ih_4 =>
      intro c0 k hfu hk1 hc1 H locs ls hP hD hS hl
      refine lv_iload_n hx hb dX5_waysToPlay_4 rfl (lv_at hl 2 rfl) ?_
      refine lv_aload_n hx hb dX5_waysToPlay_5 rfl (lv_at hl 0 rfl) ?_
      refine va_get (D := g.1) (ci := 3) (v := .int (nI (n))) (C := RX5) (T := TX5) (N := 19) hx hb hts hi_3 hown hK hP 0 rfl rfl 4 (by decide) f_51 (fun _ h9 => h9) rfl dX5_waysToPlay_6 ?_
      refine lv_icmp_ge (tgt := 34) hx hb dX5_waysToPlay_9 (by decide) (fun c_9_1 => ?_) (fun c_9_1 => ?_)
      · skip
        have n_9_1 : n ≤ k := (nI_leI (a := n) (b := k) (by omega) (by omega)).mp c_9_1
        refine lv_aload_n hx hb dX5_waysToPlay_34 rfl (lv_at hl 0 rfl) ?_
        refine lv_iload_n hx hb dX5_waysToPlay_35 rfl (lv_at hl 1 rfl) ?_
        refine call_iVW (As := [.int (nI (c0))]) (rest := []) ⟨hx, hb, hml, hown, hts⟩ (c_X5_told l g h a (nI (rwL SL)) (nI n) (nI ll) (nI np) tu la wi (nI (rwL F)) th fS fL fN fK fF fW fE fC fG fO (nI (c0))) (cwV 1 hts gX5_waysToPlay_X5_told rfl rfl rfl (by decide +kernel) ⟨Nat.le_of_ble_eq_true rfl, Nat.le_of_ble_eq_true rfl⟩) hP hK hD hS hA 0 rfl rfl rfl rfl hl.1 rfl (Nat.le_of_ble_eq_true rfl) dX5_waysToPlay_36 ⟨Nat.le_refl _, Nat.le_refl _⟩ (fun r_36 w H locs h_36 hP hD hS => ?_)
        obtain ⟨h_36, rfl⟩ := h_36
        replace h_36 := h_36.symm
        subst h_36
        have hP : va_P g.1 vwCl (MW g h a (nI (rwL SL)) (nI n) (nI ll) (nI np) tu la wi (nI (rwL F)) (nI 0) fS fL fN fK fF fW fE fC fG fO) H := hP
        have hD : va_D A (MW g h a (nI (rwL SL)) (nI n) (nI ll) (nI np) tu la wi (nI (rwL F)) (nI 0) fS fL fN fK fF fW fE fC fG fO) := hD
        exact hret (nI (c0)) (MW g h a (nI (rwL SL)) (nI n) (nI ll) (nI np) tu la wi (nI (rwL F)) (nI 0) fS fL fN fK fF fW fE fC fG fO) _ _ _ _ dX5_waysToPlay_39 (⟨by rw [hc1, show k = n by omega], rfl⟩) hP hD hS
      · skip
        have n_9_1 : ¬ n ≤ k := fun q9 => c_9_1 ((nI_leI (a := n) (b := k) (by omega) (by omega)).mpr q9)
        refine lv_iload_n hx hb dX5_waysToPlay_12 rfl (lv_at hl 1 rfl) ?_
        refine lv_aload_n hx hb dX5_waysToPlay_13 rfl (lv_at hl 0 rfl) ?_
        refine lv_iload_n hx hb dX5_waysToPlay_14 rfl (lv_at hl 2 rfl) ?_
        refine call_iVW (As := [.int (nI (k))]) (rest := [.int (nI (c0))]) ⟨hx, hb, hml, hown, hts⟩ (c_X5_isWay l g h a SL n ll np tu la wi F th fS fL fN fK fF fW fE fC fG fO D hDm hn hSL hfS hFr hfF hll hp k (by omega)) (cwV 1 hts gX5_waysToPlay_X5_isWay rfl rfl rfl (by decide +kernel) ⟨Nat.le_of_ble_eq_true rfl, Nat.le_of_ble_eq_true rfl⟩) hP hK hD hS hA 0 rfl rfl rfl rfl hl.1 rfl (Nat.le_of_ble_eq_true rfl) dX5_waysToPlay_15 ⟨Nat.le_refl _, Nat.le_refl _⟩ (fun r_15 w H locs h_15 hP hD hS => ?_)
        obtain ⟨rfl, h_15⟩ := h_15
        have hP : va_P g.1 vwCl (MW g h a (nI (rwL SL)) (nI n) (nI ll) (nI np) tu la wi (nI (rwL F)) th fS fL fN fK fF fW fE fC fG fO) H := hP
        have hD : va_D A (MW g h a (nI (rwL SL)) (nI n) (nI ll) (nI np) tu la wi (nI (rwL F)) th fS fL fN fK fF fW fE fC fG fO) := hD
        refine lv_if_eq (tgt := 25) hx hb dX5_waysToPlay_18 (by decide) (fun c_18_2 => ?_) (fun c_18_2 => ?_)
        · skip
          have n_18_2 := Bv.f h_15 c_18_2
          refine lv_iconst (v := nI 0) hx hb dX5_waysToPlay_25 (by decide) ?_
          refine lv_iadd hx hb dX5_waysToPlay_26 ?_
          refine tp_i (nI_add c0 0) ?_
          refine lv_istore_n (lv' := [(1, .int (nI (c0 + 0))), (0, .ref (h)), (2, .int (nI (k)))]) hx hb dX5_waysToPlay_27 rfl hl (by decide) rfl (fun ls hl => ?_)
          refine lv_iinc (v := (nI (k + 1))) (lv' := [(2, .int (nI (k + 1))), (1, .int (nI (c0 + 0))), (0, .ref (h))]) hx hb dX5_waysToPlay_28 hl (k := 2) rfl (nI_add (k) 1) (by decide) rfl (fun ls hl => ?_)
          refine lv_goto (tgt := 4) hx hb dX5_waysToPlay_31 (by decide) ?_
          exact ih_4 (c0 + 0) (k + 1) (by omega) (by omega) (ct_f hc1 (bB_f n_18_2)) _ _ _ hP hD hS (lv_sub hl [2, 1, 0] rfl)
        · skip
          have n_18_2 := Bv.t h_15 c_18_2
          refine lv_iconst (v := nI 1) hx hb dX5_waysToPlay_21 (by decide) ?_
          refine lv_goto (tgt := 26) hx hb dX5_waysToPlay_22 (by decide) ?_
          refine lv_iadd hx hb dX5_waysToPlay_26 ?_
          refine tp_i (nI_add c0 1) ?_
          refine lv_istore_n (lv' := [(1, .int (nI (c0 + 1))), (0, .ref (h)), (2, .int (nI (k)))]) hx hb dX5_waysToPlay_27 rfl hl (by decide) rfl (fun ls hl => ?_)
          refine lv_iinc (v := (nI (k + 1))) (lv' := [(2, .int (nI (k + 1))), (1, .int (nI (c0 + 1))), (0, .ref (h))]) hx hb dX5_waysToPlay_28 hl (k := 2) rfl (nI_add (k) 1) (by decide) rfl (fun ls hl => ?_)
          refine lv_goto (tgt := 4) hx hb dX5_waysToPlay_31 (by decide) ?_
          exact ih_4 (c0 + 1) (k + 1) (by omega) (by omega) (ct_t hc1 (bB_t n_18_2)) _ _ _ hP hD hS (lv_sub hl [2, 1, 0] rfl)
  exact L_4 (_ + 1) 0 0 (Nat.lt_succ_self _) (Nat.zero_le _) (rfl) _ _ _ hP hD hS (lv_sub hl [2, 1, 0] rfl)

abbrev rm_X5_waysToWin : Room := { frames := 3, cells := 0, slots := 0, locals := 72 }
set_option maxHeartbeats 4000000 in
set_option maxRecDepth 100000 in
theorem c_X5_waysToWin (l : Launch) (g : GG) (h : Nat) (a : Nat → Nat) (SL n ll np : Nat) (tu la wi : Int32) (F : Nat) (th : Int32) (fS fL fN fK fF fW fE fC fG fO : Nat → Int32) (D : Nat → Nat) (hDm : MD fL fN D n) (hn : n ≤ 50) (hSL : RV SL) (hfS : MRw fS SL) (hFr : RV F) (hfF : MRw fF F) (hll : ll ≤ 10) (hp : np ≤ 4) : Ci l yX5_waysToWin wsX5_waysToWin rm_X5_waysToWin g [.ref (h)] (MW g h a (nI (rwL SL)) (nI n) (nI ll) (nI np) tu la wi (nI (rwL F)) th fS fL fN fK fF fW fE fC fG fO) (fun r w => r = nI (fb_ct (fun i => bB (wyP D n ll F (D i) ∧ (rwL (D i) - rwL F) % 2 = 0)) n) ∧ w = (MW g h a (nI (rwL SL)) (nI n) (nI ll) (nI np) tu la wi (nI (rwL F)) (nI 0) fS fL fN fK fF fW fE fC fG fO)) := by
  refine Ci.ofI (cc := cX5_waysToWin) (maxL := 3) (by decide) rfl (Nat.le_of_ble_eq_true rfl) ?_
  intro p e s m args below meth c A Z hx hb hml hts hown hK hA hret H locs ls hP hD hS hl
  have f_16 := hts (.fieldLink RX5 16 "GhostGameModel" "length" "[I") (by decide +kernel)
  have f_51 := hts (.fieldLink RX5 51 "GhostGameModel" "words" "I") (by decide +kernel)
  have f_94 := hts (.fieldLink RX5 94 "GhostGameModel" "fragmentLength" "I") (by decide +kernel)
  have hi_3 : ∀ w ∈ wsX50, w ∈ wsX5_waysToWin := by decide +kernel
  have hl : lv_has ls 3 [(0, .ref (h))] := hl
  have h10 : ∀ k9, k9 < n → rwL (D k9) ≤ 10 := fun k9 h9 => (hDm k9 h9).1.1
  refine lv_iconst (v := nI 0) hx hb dX5_waysToWin_0 (by decide) ?_
  refine lv_istore_n (lv' := [(1, .int (nI (0))), (0, .ref (h))]) hx hb dX5_waysToWin_1 rfl hl (by decide) rfl (fun ls hl => ?_)
  refine lv_iconst (v := nI 0) hx hb dX5_waysToWin_2 (by decide) ?_
  refine lv_istore_n (lv' := [(2, .int (nI (0))), (1, .int (nI (0))), (0, .ref (h))]) hx hb dX5_waysToWin_3 rfl hl (by decide) rfl (fun ls hl => ?_)
  have L_4 : ∀ (fu : Nat) (c0 k : Nat), n - k < fu → (k ≤ n) → (c0 = fb_ct (fun i => bB (wyP D n ll F (D i) ∧ (rwL (D i) - rwL F) % 2 = 0)) k) → ∀ (H : Heap) (locs : List Loc) (ls : Array Slot), va_P g.1 vwCl (MW g h a (nI (rwL SL)) (nI n) (nI ll) (nI np) tu la wi (nI (rwL F)) th fS fL fN fK fF fW fE fC fG fO) H → va_D A (MW g h a (nI (rwL SL)) (nI n) (nI ll) (nI np) tu la wi (nI (rwL F)) th fS fL fN fK fF fW fE fC fG fO) → va_S A s.heap H locs → lv_has ls 3 [(0, .ref (h)), (1, .int (nI (c0))), (2, .int (nI (k)))] → W p l e rm_X5_waysToWin s m args below meth c H locs 0 0 Z (F0 m 4 ls []) := by
    intro fu
    induction fu with
    | zero => intro _ _ h0; exact absurd h0 (Nat.not_lt_zero _)
    | succ fu ih_4 =>
      intro c0 k hfu hk1 hc1 H locs ls hP hD hS hl
      refine lv_iload_n hx hb dX5_waysToWin_4 rfl (lv_at hl 2 rfl) ?_
      refine lv_aload_n hx hb dX5_waysToWin_5 rfl (lv_at hl 0 rfl) ?_
      refine va_get (D := g.1) (ci := 3) (v := .int (nI (n))) (C := RX5) (T := TX5) (N := 19) hx hb hts hi_3 hown hK hP 0 rfl rfl 4 (by decide) f_51 (fun _ h9 => h9) rfl dX5_waysToWin_6 ?_
      refine lv_icmp_ge (tgt := 50) hx hb dX5_waysToWin_9 (by decide) (fun c_9_1 => ?_) (fun c_9_1 => ?_)
      · skip
        have n_9_1 : n ≤ k := (nI_leI (a := n) (b := k) (by omega) (by omega)).mp c_9_1
        refine lv_aload_n hx hb dX5_waysToWin_50 rfl (lv_at hl 0 rfl) ?_
        refine lv_iload_n hx hb dX5_waysToWin_51 rfl (lv_at hl 1 rfl) ?_
        refine call_iVW (As := [.int (nI (c0))]) (rest := []) ⟨hx, hb, hml, hown, hts⟩ (c_X5_told l g h a (nI (rwL SL)) (nI n) (nI ll) (nI np) tu la wi (nI (rwL F)) th fS fL fN fK fF fW fE fC fG fO (nI (c0))) (cwV 1 hts gX5_waysToWin_X5_told rfl rfl rfl (by decide +kernel) ⟨Nat.le_of_ble_eq_true rfl, Nat.le_of_ble_eq_true rfl⟩) hP hK hD hS hA 0 rfl rfl rfl rfl hl.1 rfl (Nat.le_of_ble_eq_true rfl) dX5_waysToWin_52 ⟨Nat.le_refl _, Nat.le_refl _⟩ (fun r_52 w H locs h_52 hP hD hS => ?_)
        obtain ⟨h_52, rfl⟩ := h_52
        replace h_52 := h_52.symm
        subst h_52
        have hP : va_P g.1 vwCl (MW g h a (nI (rwL SL)) (nI n) (nI ll) (nI np) tu la wi (nI (rwL F)) (nI 0) fS fL fN fK fF fW fE fC fG fO) H := hP
        have hD : va_D A (MW g h a (nI (rwL SL)) (nI n) (nI ll) (nI np) tu la wi (nI (rwL F)) (nI 0) fS fL fN fK fF fW fE fC fG fO) := hD
        exact hret (nI (c0)) (MW g h a (nI (rwL SL)) (nI n) (nI ll) (nI np) tu la wi (nI (rwL F)) (nI 0) fS fL fN fK fF fW fE fC fG fO) _ _ _ _ dX5_waysToWin_55 (⟨by rw [hc1, show k = n by omega], rfl⟩) hP hD hS
      · skip
        have n_9_1 : ¬ n ≤ k := fun q9 => c_9_1 ((nI_leI (a := n) (b := k) (by omega) (by omega)).mpr q9)
        refine lv_iload_n hx hb dX5_waysToWin_12 rfl (lv_at hl 1 rfl) ?_
        refine lv_aload_n hx hb dX5_waysToWin_13 rfl (lv_at hl 0 rfl) ?_
        refine lv_iload_n hx hb dX5_waysToWin_14 rfl (lv_at hl 2 rfl) ?_
        refine call_iVW (As := [.int (nI (k))]) (rest := [.int (nI (c0))]) ⟨hx, hb, hml, hown, hts⟩ (c_X5_isWay l g h a SL n ll np tu la wi F th fS fL fN fK fF fW fE fC fG fO D hDm hn hSL hfS hFr hfF hll hp k (by omega)) (cwV 1 hts gX5_waysToWin_X5_isWay rfl rfl rfl (by decide +kernel) ⟨Nat.le_of_ble_eq_true rfl, Nat.le_of_ble_eq_true rfl⟩) hP hK hD hS hA 0 rfl rfl rfl rfl hl.1 rfl (Nat.le_of_ble_eq_true rfl) dX5_waysToWin_15 ⟨Nat.le_refl _, Nat.le_refl _⟩ (fun r_15 w H locs h_15 hP hD hS => ?_)
        obtain ⟨rfl, h_15⟩ := h_15
        have hP : va_P g.1 vwCl (MW g h a (nI (rwL SL)) (nI n) (nI ll) (nI np) tu la wi (nI (rwL F)) th fS fL fN fK fF fW fE fC fG fO) H := hP
        have hD : va_D A (MW g h a (nI (rwL SL)) (nI n) (nI ll) (nI np) tu la wi (nI (rwL F)) th fS fL fN fK fF fW fE fC fG fO) := hD
        refine lv_if_eq (tgt := 41) hx hb dX5_waysToWin_18 (by decide) (fun c_18_2 => ?_) (fun c_18_2 => ?_)
        · skip
          have n_18_2 := Bv.f h_15 c_18_2
          refine lv_iconst (v := nI 0) hx hb dX5_waysToWin_41 (by decide) ?_
          refine lv_iadd hx hb dX5_waysToWin_42 ?_
          refine tp_i (nI_add c0 0) ?_
          refine lv_istore_n (lv' := [(1, .int (nI (c0 + 0))), (0, .ref (h)), (2, .int (nI (k)))]) hx hb dX5_waysToWin_43 rfl hl (by decide) rfl (fun ls hl => ?_)
          refine lv_iinc (v := (nI (k + 1))) (lv' := [(2, .int (nI (k + 1))), (1, .int (nI (c0 + 0))), (0, .ref (h))]) hx hb dX5_waysToWin_44 hl (k := 2) rfl (nI_add (k) 1) (by decide) rfl (fun ls hl => ?_)
          refine lv_goto (tgt := 4) hx hb dX5_waysToWin_47 (by decide) ?_
          exact ih_4 (c0 + 0) (k + 1) (by omega) (by omega) (ct_f hc1 (bB_f (fun q9 => n_18_2 q9.1))) _ _ _ hP hD hS (lv_sub hl [2, 1, 0] rfl)
        · skip
          have n_18_2 := Bv.t h_15 c_18_2
          have hwl := n_18_2.1.lt
          have hk3 := h10 k (by omega)
          refine lv_aload_n hx hb dX5_waysToWin_21 rfl (lv_at hl 0 rfl) ?_
          refine va_get (D := g.1) (ci := 3) (v := .ref (a 3)) (C := RX5) (T := TX5) (N := 19) hx hb hts hi_3 hown hK hP 0 rfl rfl 3 (by decide) f_16 (fun _ h9 => h9) rfl dX5_waysToWin_22 ?_
          refine lv_iload_n hx hb dX5_waysToWin_25 rfl (lv_at hl 2 rfl) ?_
          refine va_iald (n := 50) (f := fN) hx hb hK hP 3 0 rfl rfl (vp_in_nI (n := k) (by omega) (by decide)) dX5_waysToWin_26 ?_
          refine tp_i (congrArg fN (nI_clamp (n := k) (by omega))) ?_
          refine tp_i (b := (nI (rwL (D k)))) ((hDm k (by omega)).2.1) ?_
          refine lv_aload_n hx hb dX5_waysToWin_27 rfl (lv_at hl 0 rfl) ?_
          refine va_get (D := g.1) (ci := 3) (v := .int (nI (rwL F))) (C := RX5) (T := TX5) (N := 19) hx hb hts hi_3 hown hK hP 0 rfl rfl 12 (by decide) f_94 (fun _ h9 => h9) rfl dX5_waysToWin_28 ?_
          refine lv_isub hx hb dX5_waysToWin_31 ?_
          refine tp_i (pk_sub (a := rwL (D k)) (b := rwL F) (by omega)) ?_
          refine lv_iconst (v := nI 2) hx hb dX5_waysToWin_32 (by decide) ?_
          refine lv_irem hx hb dX5_waysToWin_33 (by decide) ?_
          refine tp_i (b := (nI ((rwL (D k) - rwL F) % 2))) (pk_rem (by omega) (by decide) (by decide)) ?_
          refine lv_if_ne (tgt := 41) hx hb dX5_waysToWin_34 (by decide) (fun c_34_3 => ?_) (fun c_34_3 => ?_)
          · skip
            have n_34_3 : ¬ (rwL (D k) - rwL F) % 2 = 0 := fun q9 => c_34_3 ((nI_eq (a := (rwL (D k) - rwL F) % 2) (b := 0) (by omega) (by omega)).mpr q9)
            refine lv_iconst (v := nI 0) hx hb dX5_waysToWin_41 (by decide) ?_
            refine lv_iadd hx hb dX5_waysToWin_42 ?_
            refine tp_i (nI_add c0 0) ?_
            refine lv_istore_n (lv' := [(1, .int (nI (c0 + 0))), (0, .ref (h)), (2, .int (nI (k)))]) hx hb dX5_waysToWin_43 rfl hl (by decide) rfl (fun ls hl => ?_)
            refine lv_iinc (v := (nI (k + 1))) (lv' := [(2, .int (nI (k + 1))), (1, .int (nI (c0 + 0))), (0, .ref (h))]) hx hb dX5_waysToWin_44 hl (k := 2) rfl (nI_add (k) 1) (by decide) rfl (fun ls hl => ?_)
            refine lv_goto (tgt := 4) hx hb dX5_waysToWin_47 (by decide) ?_
            exact ih_4 (c0 + 0) (k + 1) (by omega) (by omega) (ct_f hc1 (bB_f (fun q9 => n_34_3 q9.2))) _ _ _ hP hD hS (lv_sub hl [2, 1, 0] rfl)
          · skip
            have n_34_3 : (rwL (D k) - rwL F) % 2 = 0 := (nI_eq (a := (rwL (D k) - rwL F) % 2) (b := 0) (by omega) (by omega)).mp c_34_3
            refine lv_iconst (v := nI 1) hx hb dX5_waysToWin_37 (by decide) ?_
            refine lv_goto (tgt := 42) hx hb dX5_waysToWin_38 (by decide) ?_
            refine lv_iadd hx hb dX5_waysToWin_42 ?_
            refine tp_i (nI_add c0 1) ?_
            refine lv_istore_n (lv' := [(1, .int (nI (c0 + 1))), (0, .ref (h)), (2, .int (nI (k)))]) hx hb dX5_waysToWin_43 rfl hl (by decide) rfl (fun ls hl => ?_)
            refine lv_iinc (v := (nI (k + 1))) (lv' := [(2, .int (nI (k + 1))), (1, .int (nI (c0 + 1))), (0, .ref (h))]) hx hb dX5_waysToWin_44 hl (k := 2) rfl (nI_add (k) 1) (by decide) rfl (fun ls hl => ?_)
            refine lv_goto (tgt := 4) hx hb dX5_waysToWin_47 (by decide) ?_
            exact ih_4 (c0 + 1) (k + 1) (by omega) (by omega) (ct_t hc1 (bB_t ⟨n_18_2, n_34_3⟩)) _ _ _ hP hD hS (lv_sub hl [2, 1, 0] rfl)
  exact L_4 (_ + 1) 0 0 (Nat.lt_succ_self _) (Nat.zero_le _) (rfl) _ _ _ hP hD hS (lv_sub hl [2, 1, 0] rfl)

abbrev rm_X5_endBehind : Room := { frames := 2, cells := 0, slots := 0, locals := 49 }
set_option maxHeartbeats 4000000 in
set_option maxRecDepth 100000 in
theorem c_X5_endBehind (l : Launch) (g : GG) (h : Nat) (a : Nat → Nat) (SL n ll np : Nat) (tu la wi : Int32) (F : Nat) (th : Int32) (fS fL fN fK fF fW fE fC fG fO : Nat → Int32) (D : Nat → Nat) (hDm : MD fL fN D n) (hn : n ≤ 50) (hSL : RV SL) (hfS : MRw fS SL) (hFr : RV F) (hfF : MRw fF F) (hll : ll ≤ 10) (hp : np ≤ 4) (y0 m0 : Nat) (hy0 : y0 < n) (hl0 : ll ≤ rwL (D y0)) (hm0 : m0 ≤ rwL (D y0)) (hTA : TA D n ll fW fE fC fG fO (m0 + 1)) (lt : Nat) (hlt : lt < 26) (hbit : (opM D ll (rwB (D y0) m0) n).testBit lt = true) : Ci l yX5_endBehind wsX5_endBehind rm_X5_endBehind g [.ref (h), .int (nI (y0)), .int (nI (m0)), .int (nI (lt))] (MW g h a (nI (rwL SL)) (nI n) (nI ll) (nI np) tu la wi (nI (rwL F)) th fS fL fN fK fF fW fE fC fG fO) (fun r w => w = (MW g h a (nI (rwL SL)) (nI n) (nI ll) (nI np) tu la wi (nI (rwL F)) th fS fL fN fK fF fW fE fC fG fO) ∧ r = nI (ebP D n ll (rwB (D y0) m0) lt)) := by
  refine Ci.ofI (cc := cX5_endBehind) (maxL := 6) (by decide) rfl (Nat.le_of_ble_eq_true rfl) ?_
  intro p e s m args below meth c A Z hx hb hml hts hown hK hA hret H locs ls hP hD hS hl
  have f_13 := hts (.fieldLink RX5 13 "GhostGameModel" "letters" "[I") (by decide +kernel)
  have f_16 := hts (.fieldLink RX5 16 "GhostGameModel" "length" "[I") (by decide +kernel)
  have f_36 := hts (.fieldLink RX5 36 "GhostGameModel" "ends" "[I") (by decide +kernel)
  have f_51 := hts (.fieldLink RX5 51 "GhostGameModel" "words" "I") (by decide +kernel)
  have hi_3 : ∀ w ∈ wsX50, w ∈ wsX5_endBehind := by decide +kernel
  have hl : lv_has ls 6 [(0, .ref (h)), (1, .int (nI (y0))), (2, .int (nI (m0))), (3, .int (nI (lt)))] := hl
  have h10 : ∀ k9, k9 < n → rwL (D k9) ≤ 10 := fun k9 h9 => (hDm k9 h9).1.1
  have hy3 := h10 y0 hy0
  have hy4 := (hDm y0 hy0).1.rbl hm0
  have hpV := (hDm y0 hy0).1.rb hm0
  refine lv_iconst (v := nI 0) hx hb dX5_endBehind_0 (by decide) ?_
  refine lv_istore (lv' := [(4, .int (nI (0))), (0, .ref (h)), (1, .int (nI (y0))), (2, .int (nI (m0))), (3, .int (nI (lt)))]) hx hb dX5_endBehind_1 hl (by decide) rfl (fun ls hl => ?_)
  refine lv_iconst (v := nI 0) hx hb dX5_endBehind_3 (by decide) ?_
  refine lv_istore (lv' := [(5, .int (nI (0))), (4, .int (nI (0))), (0, .ref (h)), (1, .int (nI (y0))), (2, .int (nI (m0))), (3, .int (nI (lt)))]) hx hb dX5_endBehind_4 hl (by decide) rfl (fun ls hl => ?_)
  have L_6 : ∀ (fu : Nat) (e0 k : Nat), n - k < fu → (k ≤ n) → (ebI D n ll (rwB (D y0) m0) lt k e0) → ∀ (H : Heap) (locs : List Loc) (ls : Array Slot), va_P g.1 vwCl (MW g h a (nI (rwL SL)) (nI n) (nI ll) (nI np) tu la wi (nI (rwL F)) th fS fL fN fK fF fW fE fC fG fO) H → va_D A (MW g h a (nI (rwL SL)) (nI n) (nI ll) (nI np) tu la wi (nI (rwL F)) th fS fL fN fK fF fW fE fC fG fO) → va_S A s.heap H locs → lv_has ls 6 [(0, .ref (h)), (1, .int (nI (y0))), (2, .int (nI (m0))), (3, .int (nI (lt))), (4, .int (nI (e0))), (5, .int (nI (k)))] → W p l e rm_X5_endBehind s m args below meth c H locs 0 0 Z (F0 m 6 ls []) := by
    intro fu
    induction fu with
    | zero => intro _ _ h0; exact absurd h0 (Nat.not_lt_zero _)
    | succ fu ih_6 =>
      intro e0 k hfu hk1 he0 H locs ls hP hD hS hl
      refine lv_iload hx hb dX5_endBehind_6 (lv_at hl 5 rfl) ?_
      refine lv_aload_n hx hb dX5_endBehind_8 rfl (lv_at hl 0 rfl) ?_
      refine va_get (D := g.1) (ci := 3) (v := .int (nI (n))) (C := RX5) (T := TX5) (N := 19) hx hb hts hi_3 hown hK hP 0 rfl rfl 4 (by decide) f_51 (fun _ h9 => h9) rfl dX5_endBehind_9 ?_
      refine lv_icmp_ge (tgt := 102) hx hb dX5_endBehind_12 (by decide) (fun c_12_1 => ?_) (fun c_12_1 => ?_)
      · skip
        have n_12_1 : n ≤ k := (nI_leI (a := n) (b := k) (by omega) (by omega)).mp c_12_1
        refine lv_iload hx hb dX5_endBehind_102 (lv_at hl 4 rfl) ?_
        exact hret (nI (e0)) (MW g h a (nI (rwL SL)) (nI n) (nI ll) (nI np) tu la wi (nI (rwL F)) th fS fL fN fK fF fW fE fC fG fO) _ _ _ _ dX5_endBehind_104 (⟨rfl, by rw [show k = n by omega] at he0; rw [ebI_end he0 hbit]⟩) hP hD hS
      · skip
        have n_12_1 : ¬ n ≤ k := fun q9 => c_12_1 ((nI_leI (a := n) (b := k) (by omega) (by omega)).mpr q9)
        refine lv_aload_n hx hb dX5_endBehind_15 rfl (lv_at hl 0 rfl) ?_
        refine lv_iload hx hb dX5_endBehind_16 (lv_at hl 5 rfl) ?_
        refine call_iVW (As := [.int (nI (k))]) (rest := []) ⟨hx, hb, hml, hown, hts⟩ (c_X5_counts l g h a SL n ll np tu la wi F th fS fL fN fK fF fW fE fC fG fO D hDm hn hSL hfS hFr hfF hll hp k (by omega)) (cwV 1 hts gX5_endBehind_X5_counts rfl rfl rfl (by decide +kernel) ⟨Nat.le_of_ble_eq_true rfl, Nat.le_of_ble_eq_true rfl⟩) hP hK hD hS hA 0 rfl rfl rfl rfl hl.1 rfl (Nat.le_of_ble_eq_true rfl) dX5_endBehind_18 ⟨Nat.le_refl _, Nat.le_refl _⟩ (fun r_18 w H locs h_18 hP hD hS => ?_)
        obtain ⟨rfl, h_18⟩ := h_18
        have hP : va_P g.1 vwCl (MW g h a (nI (rwL SL)) (nI n) (nI ll) (nI np) tu la wi (nI (rwL F)) th fS fL fN fK fF fW fE fC fG fO) H := hP
        have hD : va_D A (MW g h a (nI (rwL SL)) (nI n) (nI ll) (nI np) tu la wi (nI (rwL F)) th fS fL fN fK fF fW fE fC fG fO) := hD
        refine lv_if_eq (tgt := 96) hx hb dX5_endBehind_21 (by decide) (fun c_21_2 => ?_) (fun c_21_2 => ?_)
        · skip
          have n_21_2 := Bv.f h_18 c_21_2
          refine lv_iinc (v := (nI (k + 1))) (lv' := [(5, .int (nI (k + 1))), (0, .ref (h)), (1, .int (nI (y0))), (2, .int (nI (m0))), (3, .int (nI (lt))), (4, .int (nI (e0)))]) hx hb dX5_endBehind_96 hl (k := 5) rfl (nI_add (k) 1) (by decide) rfl (fun ls hl => ?_)
          refine lv_goto (tgt := 6) hx hb dX5_endBehind_99 (by decide) ?_
          exact ih_6 e0 (k + 1) (by omega) (by omega) (ebI_f he0 (fun q9 => by have := ld_to (hDm y0 hy0).1 hm0 q9.1; exact n_21_2 this.1)) _ _ _ hP hD hS (lv_sub hl [1, 2, 3, 4, 5, 0] rfl)
        · skip
          have n_21_2 := Bv.t h_18 c_21_2
          refine lv_aload_n hx hb dX5_endBehind_24 rfl (lv_at hl 0 rfl) ?_
          refine va_get (D := g.1) (ci := 3) (v := .ref (a 3)) (C := RX5) (T := TX5) (N := 19) hx hb hts hi_3 hown hK hP 0 rfl rfl 3 (by decide) f_16 (fun _ h9 => h9) rfl dX5_endBehind_25 ?_
          refine lv_iload hx hb dX5_endBehind_28 (lv_at hl 5 rfl) ?_
          refine va_iald (n := 50) (f := fN) hx hb hK hP 3 0 rfl rfl (vp_in_nI (n := k) (by omega) (by decide)) dX5_endBehind_30 ?_
          refine tp_i (congrArg fN (nI_clamp (n := k) (by omega))) ?_
          refine tp_i (b := (nI (rwL (D k)))) ((hDm k (by omega)).2.1) ?_
          have hk3 := h10 k (by omega)
          refine lv_iload_n hx hb dX5_endBehind_31 rfl (lv_at hl 2 rfl) ?_
          refine lv_icmp_le (tgt := 96) hx hb dX5_endBehind_32 (by decide) (fun c_32_3 => ?_) (fun c_32_3 => ?_)
          · skip
            have n_32_3 : rwL (D k) ≤ m0 := (nI_leI (a := rwL (D k)) (b := m0) (by omega) (by omega)).mp c_32_3
            refine lv_iinc (v := (nI (k + 1))) (lv' := [(5, .int (nI (k + 1))), (0, .ref (h)), (1, .int (nI (y0))), (2, .int (nI (m0))), (3, .int (nI (lt))), (4, .int (nI (e0)))]) hx hb dX5_endBehind_96 hl (k := 5) rfl (nI_add (k) 1) (by decide) rfl (fun ls hl => ?_)
            refine lv_goto (tgt := 6) hx hb dX5_endBehind_99 (by decide) ?_
            exact ih_6 e0 (k + 1) (by omega) (by omega) (ebI_f he0 (fun q9 => by have := ld_to (hDm y0 hy0).1 hm0 q9.1; omega)) _ _ _ hP hD hS (lv_sub hl [1, 2, 3, 4, 5, 0] rfl)
          · skip
            have n_32_3 : ¬ rwL (D k) ≤ m0 := fun q9 => c_32_3 ((nI_leI (a := rwL (D k)) (b := m0) (by omega) (by omega)).mpr q9)
            refine lv_aload_n hx hb dX5_endBehind_35 rfl (lv_at hl 0 rfl) ?_
            refine lv_iload hx hb dX5_endBehind_36 (lv_at hl 5 rfl) ?_
            refine lv_iload_n hx hb dX5_endBehind_38 rfl (lv_at hl 1 rfl) ?_
            refine lv_iload_n hx hb dX5_endBehind_39 rfl (lv_at hl 2 rfl) ?_
            refine call_iVW (As := [.int (nI (k)), .int (nI (y0)), .int (nI (m0))]) (rest := []) ⟨hx, hb, hml, hown, hts⟩ (c_X5_areAlike l g h a SL n ll np tu la wi F th fS fL fN fK fF fW fE fC fG fO D hDm hn hSL hfS hFr hfF hll hp k y0 m0 (by omega) hy0 (by omega)) (cwV 3 hts gX5_endBehind_X5_areAlike rfl rfl rfl (by decide +kernel) ⟨Nat.le_of_ble_eq_true rfl, Nat.le_of_ble_eq_true rfl⟩) hP hK hD hS hA 0 rfl rfl rfl rfl hl.1 rfl (Nat.le_of_ble_eq_true rfl) dX5_endBehind_40 ⟨Nat.le_refl _, Nat.le_refl _⟩ (fun r_40 w H locs h_40 hP hD hS => ?_)
            obtain ⟨rfl, h_40⟩ := h_40
            have hP : va_P g.1 vwCl (MW g h a (nI (rwL SL)) (nI n) (nI ll) (nI np) tu la wi (nI (rwL F)) th fS fL fN fK fF fW fE fC fG fO) H := hP
            have hD : va_D A (MW g h a (nI (rwL SL)) (nI n) (nI ll) (nI np) tu la wi (nI (rwL F)) th fS fL fN fK fF fW fE fC fG fO) := hD
            refine lv_if_eq (tgt := 96) hx hb dX5_endBehind_43 (by decide) (fun c_43_4 => ?_) (fun c_43_4 => ?_)
            · skip
              have n_43_4 := Bv.f h_40 c_43_4
              refine lv_iinc (v := (nI (k + 1))) (lv' := [(5, .int (nI (k + 1))), (0, .ref (h)), (1, .int (nI (y0))), (2, .int (nI (m0))), (3, .int (nI (lt))), (4, .int (nI (e0)))]) hx hb dX5_endBehind_96 hl (k := 5) rfl (nI_add (k) 1) (by decide) rfl (fun ls hl => ?_)
              refine lv_goto (tgt := 6) hx hb dX5_endBehind_99 (by decide) ?_
              exact ih_6 e0 (k + 1) (by omega) (by omega) (ebI_f he0 (fun q9 => by have := ld_to (hDm y0 hy0).1 hm0 q9.1; exact n_43_4 this.2.2)) _ _ _ hP hD hS (lv_sub hl [1, 2, 3, 4, 5, 0] rfl)
            · skip
              have n_43_4 := Bv.t h_40 c_43_4
              have hld := ld_of (hDm k (by omega)).1 (hDm y0 hy0).1 n_21_2 (show m0 < rwL (D k) by omega) n_43_4
              have hnx := ld_next (hDm k (by omega)).1 (hDm y0 hy0).1 hm0 hld
              have hk3 := h10 k (by omega)
              have hlt9 := (hDm k (by omega)).1.2.2 m0 (by omega)
              refine lv_aload_n hx hb dX5_endBehind_46 rfl (lv_at hl 0 rfl) ?_
              refine va_get (D := g.1) (ci := 3) (v := .ref (a 2)) (C := RX5) (T := TX5) (N := 19) hx hb hts hi_3 hown hK hP 0 rfl rfl 2 (by decide) f_13 (fun _ h9 => h9) rfl dX5_endBehind_47 ?_
              refine lv_bipush (v := nI 10) hx hb dX5_endBehind_50 (by decide) ?_
              refine lv_iload hx hb dX5_endBehind_52 (lv_at hl 5 rfl) ?_
              refine lv_imul hx hb dX5_endBehind_54 ?_
              refine tp_i (pk_mul 10 k) ?_
              refine lv_iload_n hx hb dX5_endBehind_55 rfl (lv_at hl 2 rfl) ?_
              refine lv_iadd hx hb dX5_endBehind_56 ?_
              refine tp_i (nI_add (10 * k) m0) ?_
              refine va_iald (n := 500) (f := fL) hx hb hK hP 2 0 rfl rfl (vp_in_nI (n := (10 * k) + m0) (by omega) (by decide)) dX5_endBehind_57 ?_
              refine tp_i (congrArg fL (nI_clamp (n := (10 * k) + m0) (by omega))) ?_
              refine tp_i (b := (nI (rwA (D k) m0))) ((hDm k (by omega)).2.2 m0 (by omega)) ?_
              refine lv_iload_n hx hb dX5_endBehind_58 rfl (lv_at hl 3 rfl) ?_
              refine lv_icmp_ne (tgt := 96) hx hb dX5_endBehind_59 (by decide) (fun c_59_5 => ?_) (fun c_59_5 => ?_)
              · skip
                have n_59_5 : ¬ rwA (D k) m0 = lt := fun q9 => c_59_5 ((nI_eq (a := rwA (D k) m0) (b := lt) (by omega) (by omega)).mpr q9)
                refine lv_iinc (v := (nI (k + 1))) (lv' := [(5, .int (nI (k + 1))), (0, .ref (h)), (1, .int (nI (y0))), (2, .int (nI (m0))), (3, .int (nI (lt))), (4, .int (nI (e0)))]) hx hb dX5_endBehind_96 hl (k := 5) rfl (nI_add (k) 1) (by decide) rfl (fun ls hl => ?_)
                refine lv_goto (tgt := 6) hx hb dX5_endBehind_99 (by decide) ?_
                exact ih_6 e0 (k + 1) (by omega) (by omega) (ebI_f he0 (fun q9 => by have := ld_to (hDm y0 hy0).1 hm0 q9.1; exact n_59_5 (by rw [← q9.2, hy4]))) _ _ _ hP hD hS (lv_sub hl [1, 2, 3, 4, 5, 0] rfl)
              · skip
                have n_59_5 : rwA (D k) m0 = lt := (nI_eq (a := rwA (D k) m0) (b := lt) (by omega) (by omega)).mp c_59_5
                refine lv_aload_n hx hb dX5_endBehind_62 rfl (lv_at hl 0 rfl) ?_
                refine lv_iload hx hb dX5_endBehind_63 (lv_at hl 5 rfl) ?_
                refine lv_iload_n hx hb dX5_endBehind_65 rfl (lv_at hl 2 rfl) ?_
                refine lv_iconst (v := nI 1) hx hb dX5_endBehind_66 (by decide) ?_
                refine lv_iadd hx hb dX5_endBehind_67 ?_
                refine tp_i (nI_add m0 1) ?_
                refine call_iVW (As := [.int (nI (k)), .int (nI (m0 + 1))]) (rest := []) ⟨hx, hb, hml, hown, hts⟩ (c_X5_isWhole l g h a SL n ll np tu la wi F th fS fL fN fK fF fW fE fC fG fO D hDm hn hSL hfS hFr hfF hll hp k (m0 + 1) (by omega) (by omega)) (cwV 2 hts gX5_endBehind_X5_isWhole rfl rfl rfl (by decide +kernel) ⟨Nat.le_of_ble_eq_true rfl, Nat.le_of_ble_eq_true rfl⟩) hP hK hD hS hA 0 rfl rfl rfl rfl hl.1 rfl (Nat.le_of_ble_eq_true rfl) dX5_endBehind_68 ⟨Nat.le_refl _, Nat.le_refl _⟩ (fun r_68 w H locs h_68 hP hD hS => ?_)
                obtain ⟨rfl, h_68⟩ := h_68
                have hP : va_P g.1 vwCl (MW g h a (nI (rwL SL)) (nI n) (nI ll) (nI np) tu la wi (nI (rwL F)) th fS fL fN fK fF fW fE fC fG fO) H := hP
                have hD : va_D A (MW g h a (nI (rwL SL)) (nI n) (nI ll) (nI np) tu la wi (nI (rwL F)) th fS fL fN fK fF fW fE fC fG fO) := hD
                refine lv_if_eq (tgt := 78) hx hb dX5_endBehind_71 (by decide) (fun c_71_6 => ?_) (fun c_71_6 => ?_)
                · skip
                  have n_71_6 := Bv.f h_68 c_71_6
                  refine lv_iconst (v := nI 1) hx hb dX5_endBehind_78 (by decide) ?_
                  refine lv_aload_n hx hb dX5_endBehind_79 rfl (lv_at hl 0 rfl) ?_
                  refine va_get (D := g.1) (ci := 3) (v := .ref (a 14)) (C := RX5) (T := TX5) (N := 19) hx hb hts hi_3 hown hK hP 0 rfl rfl 14 (by decide) f_36 (fun _ h9 => h9) rfl dX5_endBehind_80 ?_
                  refine lv_bipush (v := nI 11) hx hb dX5_endBehind_83 (by decide) ?_
                  refine lv_iload hx hb dX5_endBehind_85 (lv_at hl 5 rfl) ?_
                  refine lv_imul hx hb dX5_endBehind_87 ?_
                  refine tp_i (pk_mul 11 k) ?_
                  refine lv_iload_n hx hb dX5_endBehind_88 rfl (lv_at hl 2 rfl) ?_
                  refine lv_iadd hx hb dX5_endBehind_89 ?_
                  refine tp_i (nI_add (11 * k) m0) ?_
                  refine lv_iconst (v := nI 1) hx hb dX5_endBehind_90 (by decide) ?_
                  refine lv_iadd hx hb dX5_endBehind_91 ?_
                  refine tp_i (nI_add ((11 * k) + m0) 1) ?_
                  refine va_iald (n := 550) (f := fE) hx hb hK hP 7 0 rfl rfl (vp_in_nI (n := ((11 * k) + m0) + 1) (by omega) (by decide)) dX5_endBehind_92 ?_
                  refine tp_i (congrArg fE (nI_clamp (n := ((11 * k) + m0) + 1) (by omega))) ?_
                  refine tp_i (b := (nI (100 - (scP D n ll (rwB (D k) (m0 + 1))).natAbs))) ((hTA k (m0 + 1) (by omega) (by omega) (by omega) (by omega)).2.2.2.1) ?_
                  refine lv_iadd hx hb dX5_endBehind_93 ?_
                  refine tp_i (nI_add 1 (100 - (scP D n ll (rwB (D k) (m0 + 1))).natAbs)) ?_
                  refine lv_istore (lv' := [(4, .int (nI (1 + (100 - (scP D n ll (rwB (D k) (m0 + 1))).natAbs)))), (0, .ref (h)), (1, .int (nI (y0))), (2, .int (nI (m0))), (3, .int (nI (lt))), (5, .int (nI (k)))]) hx hb dX5_endBehind_94 hl (by decide) rfl (fun ls hl => ?_)
                  refine lv_iinc (v := (nI (k + 1))) (lv' := [(5, .int (nI (k + 1))), (4, .int (nI (1 + (100 - (scP D n ll (rwB (D k) (m0 + 1))).natAbs)))), (0, .ref (h)), (1, .int (nI (y0))), (2, .int (nI (m0))), (3, .int (nI (lt)))]) hx hb dX5_endBehind_96 hl (k := 5) rfl (nI_add (k) 1) (by decide) rfl (fun ls hl => ?_)
                  refine lv_goto (tgt := 6) hx hb dX5_endBehind_99 (by decide) ?_
                  exact ih_6 (1 + (100 - (scP D n ll (rwB (D k) (m0 + 1))).natAbs)) (k + 1) (by omega) (by omega) (ebI_t ⟨hld, by rw [hy4]; exact n_59_5⟩ (by unfold ebP; rw [eb_no hDm.V hpV (by omega) (by rw [← n_59_5]; exact hlt9) (fun q9 => n_71_6 (by have := (hwB_iff (m := m0 + 1) (by rw [← n_59_5, ← hnx]; exact (hDm k (by omega)).1.rbl (by omega))).mp q9; rw [← n_59_5, ← hnx] at this; exact this)), ← n_59_5, ← hnx])) _ _ _ hP hD hS (lv_sub hl [2, 3, 4, 5, 1, 0] rfl)
                · skip
                  have n_71_6 := Bv.t h_68 c_71_6
                  refine lv_iconst (v := nI 1) hx hb dX5_endBehind_74 (by decide) ?_
                  refine lv_goto (tgt := 94) hx hb dX5_endBehind_75 (by decide) ?_
                  refine lv_istore (lv' := [(4, .int (nI (1))), (0, .ref (h)), (1, .int (nI (y0))), (2, .int (nI (m0))), (3, .int (nI (lt))), (5, .int (nI (k)))]) hx hb dX5_endBehind_94 hl (by decide) rfl (fun ls hl => ?_)
                  refine lv_iinc (v := (nI (k + 1))) (lv' := [(5, .int (nI (k + 1))), (4, .int (nI (1))), (0, .ref (h)), (1, .int (nI (y0))), (2, .int (nI (m0))), (3, .int (nI (lt)))]) hx hb dX5_endBehind_96 hl (k := 5) rfl (nI_add (k) 1) (by decide) rfl (fun ls hl => ?_)
                  refine lv_goto (tgt := 6) hx hb dX5_endBehind_99 (by decide) ?_
                  exact ih_6 1 (k + 1) (by omega) (by omega) (ebI_t ⟨hld, by rw [hy4]; exact n_59_5⟩ (by unfold ebP; rw [eb_hw hpV (by omega) (by rw [← n_59_5]; exact hlt9) ((hwB_iff (m := m0 + 1) (by rw [← n_59_5, ← hnx]; exact (hDm k (by omega)).1.rbl (by omega))).mpr (by rw [← n_59_5, ← hnx]; exact n_71_6))])) _ _ _ hP hD hS (lv_sub hl [2, 3, 4, 5, 1, 0] rfl)
  exact L_6 (_ + 1) 0 0 (Nat.lt_succ_self _) (Nat.zero_le _) (Or.inl ⟨fun i hi => absurd hi (Nat.not_lt_zero _), rfl⟩) _ _ _ hP hD hS (lv_sub hl [2, 3, 4, 5, 1, 0] rfl)
