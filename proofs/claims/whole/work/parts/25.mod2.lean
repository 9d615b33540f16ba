/-! the reference's face: what it makes of its rows -/
theorem MRw.put {fS : Nat → Int32} {Q a : Nat} (h : MRw fS Q) (hQ : RV Q) (hl : rwL Q < 10) (ha : a < 26) : MRw (upd fS (rwL Q) (nI a)) (rwX Q a) := by
  intro j hj
  rw [hQ.rxl hl (by omega)] at hj
  by_cases e : j = rwL Q
  · rw [e, pk_us, hQ.rxa hl (by omega)]
  · rw [pk_un e, hQ.rxi hl (by omega) (by omega)]
    exact h j (by omega)
theorem MRw.nil (fS : Nat → Int32) : MRw fS 0 := fun j hj => absurd hj (by unfold rwL; simp)
theorem MRw.take {fS fc : Nat → Int32} {Q : Nat} (h : ∀ j, j < rwL Q → fc j = nI (rwA Q j)) : MRw fc Q := h
/-- a word is added behind the others -/
def adD (D : Nat → Nat) (n Q : Nat) : Nat → Nat := fun k => if k = n then Q else D k
theorem MD.add {fL fN fc : Nat → Int32} {D : Nat → Nat} {n Q : Nat} (h : MD fL fN D n) (hQ : RV Q) (h1 : ∀ j, j < rwL Q → fc (10 * n + j) = nI (rwA Q j)) (h2 : ∀ z, z < 10 * n → fc z = fL z) : MD fc (upd fN n (nI (rwL Q))) (adD D n Q) (n + 1) := by
  intro k hk
  unfold adD
  by_cases e : k = n
  · subst e
    rw [if_pos rfl, pk_us]
    exact ⟨hQ, rfl, h1⟩
  · rw [if_neg e, pk_un e]
    obtain ⟨a, b, c⟩ := h k (by omega)
    have h10 := a.1
    exact ⟨a, b, fun j hj => by rw [h2 _ (by omega)]; exact c j hj⟩
/-- the last word comes to the place t -/
def rmD (D : Nat → Nat) (n t : Nat) : Nat → Nat := fun k => if k = t then D (n - 1) else D k
theorem MD.rem {fL fN fc : Nat → Int32} {D : Nat → Nat} {n t : Nat} (h : MD fL fN D n) (ht : t < n) (h1 : ∀ j, j < 10 → fc (10 * t + j) = fL (10 * (n - 1) + j)) (h2 : ∀ z, z < 10 * t ∨ 10 * t + 10 ≤ z → fc z = fL z) : MD fc (upd fN t (nI (rwL (D (n - 1))))) (rmD D n t) (n - 1) := by
  intro k hk
  unfold rmD
  by_cases e : k = t
  · subst e
    rw [if_pos rfl, pk_us]
    obtain ⟨a, b, c⟩ := h (n - 1) (by omega)
    have h10 := a.1
    exact ⟨a, rfl, fun j hj => by rw [h1 _ (by omega)]; exact c j hj⟩
  · rw [if_neg e, pk_un e]
    obtain ⟨a, b, c⟩ := h k (by omega)
    have h10 := a.1
    exact ⟨a, b, fun j hj => by rw [h2 _ (by omega)]; exact c j hj⟩
theorem cp_step {fc fL : Nat → Int32} {B i : Nat} {P : Nat → Int32} (h : ∀ j, j < i → fc (B + j) = P j) (v : Int32) (hv : v = P i) : ∀ j, j < i + 1 → upd fc (B + i) v (B + j) = P j := fun j hj => by
  by_cases e : j = i
  · subst e; rw [pk_us, hv]
  · rw [pk_un (by omega)]; exact h j (by omega)
noncomputable def rankD (D : Nat → Nat) (n k : Nat) : Nat := fb_ct (fun j => bB (D j < D k)) n
noncomputable def bgmD (D : Nat → Nat) (n : Nat) : Nat := fb_sm (fun k => fb_ct (fun i => bB (∀ j, j < k → ¬ alP (D k) (D j) i)) (rwL (D k) + 1)) n
def crP (D : Nat → Nat) (n num k : Nat) (x : Int32) : Prop := (∃ i, i < k ∧ rankD D n i = num ∧ x = nI i) ∨ ((∀ i, i < k → rankD D n i ≠ num) ∧ x = -1)
theorem cr_t {D : Nat → Nat} {n num k : Nat} (h : rankD D n k = num) : crP D n num (k + 1) (nI k) := Or.inl ⟨k, by omega, h, rfl⟩
theorem cr_f {D : Nat → Nat} {n num k : Nat} {x : Int32} (h : crP D n num k x) (hn : ¬ rankD D n k = num) : crP D n num (k + 1) x := by
  rcases h with ⟨j, h1, h2, h3⟩ | ⟨h1, h2⟩
  · exact Or.inl ⟨j, by omega, h2, h3⟩
  · exact Or.inr ⟨lt_s h1 hn, h2⟩
def lsT (K : Nat → Nat) (np j : Nat) : Int32 := if erK K j j < 5 then nI j else oI (nxF (erK K j) np np j)
def lsW (K : Nat → Nat) (np j : Nat) : Int32 := if leftN (erK K j) np = 1 then lsT K np j else -1
def hwM (D : Nat → Nat) (n ll F k : Nat) (b : Bool) : Prop := ll ≤ rwL (D k) ∧ bgP (D k) F ∧ (b = true → rwL (D k) = rwL F)
theorem nx1_e {np c : Nat} (h : c < np) (e : c = np - 1) : nx1 np c = 0 := if_neg (by omega)
theorem nx1_n {np c : Nat} (h : c < np) (e : ¬ c = np - 1) : nx1 np c = c + 1 := if_pos (by omega)
theorem nxF_pos {K : Nat → Nat} {np s c t : Nat} (h : nxF K np s c = some t) : 0 < s := by
  cases s with
  | zero => cases h
  | succ s => omega
theorem hw_yes {D : Nat → Nat} {n ll F k : Nat} {b : Bool} (h1 : ∃ j, j < k ∧ hwM D n ll F j b) : Bv (nI 1) (∃ j, j < k + 1 ∧ hwM D n ll F j b) := by
  obtain ⟨j, a, c⟩ := h1
  exact Bv.yes ⟨j, by omega, c⟩
theorem hw_none {D : Nat → Nat} {n ll F k : Nat} {b : Bool} (h1 : ¬ ∃ j, j < k ∧ hwM D n ll F j b) (h2 : ¬ hwM D n ll F k b) : Bv (nI 0) (∃ j, j < k + 1 ∧ hwM D n ll F j b) := by
  refine Bv.no ?_
  rintro ⟨j, a, c⟩
  by_cases e : j = k
  · subst e; exact h2 c
  · exact h1 ⟨j, by omega, c⟩
abbrev rm_X5_write : Room := { frames := 1, cells := 0, slots := 0, locals := 22 }
set_option maxHeartbeats 4000000 in
set_option maxRecDepth 100000 in
theorem c_X5_write (l : Launch) (g : GG) (h : Nat) (a : Nat → Nat) (SL n ll np : Nat) (tu la wi : Int32) (F : Nat) (th : Int32) (fS fL fN fK fF fW fE fC fG fO : Nat → Int32) (D : Nat → Nat) (hDm : MD fL fN D n) (hn : n ≤ 50) (hSL : RV SL) (hfS : MRw fS SL) (hFr : RV F) (hfF : MRw fF F) (hll : ll ≤ 10) (hp : np ≤ 4) (x0 : Int32) : Ci l yX5_write wsX5_write rm_X5_write g [.ref (h), .int (x0)] (MW g h a (nI (rwL SL)) (nI n) (nI ll) (nI np) tu la wi (nI (rwL F)) th fS fL fN fK fF fW fE fC fG fO) (fun r w => (∃ lt : Nat, lt < 26 ∧ nI lt = x0 ∧ rwL SL < 10 ∧ r = nI (rwL SL + 1) ∧ w = (MW g h a (nI (rwL SL + 1)) (nI n) (nI ll) (nI np) tu la wi (nI (rwL F)) (nI 0) (upd fS (rwL SL) (nI lt)) fL fN fK fF fW fE fC fG fO)) ∨ (¬ (∃ z : Nat, z < 26 ∧ nI z = x0) ∧ w = (MW g h a (nI (rwL SL)) (nI n) (nI ll) (nI np) tu la wi (nI (rwL F)) (nI 1) fS fL fN fK fF fW fE fC fG fO)) ∨ ((∃ z : Nat, z < 26 ∧ nI z = x0) ∧ 10 ≤ rwL SL ∧ w = (MW g h a (nI (rwL SL)) (nI n) (nI ll) (nI np) tu la wi (nI (rwL F)) (nI 2) fS fL fN fK fF fW fE fC fG fO))) := by
  refine Ci.ofI (cc := cX5_write) (maxL := 2) (by decide) rfl (Nat.le_of_ble_eq_true rfl) ?_
  intro p e s m args below meth c A Z hx hb hml hts hown hK hA hret H locs ls hP hD hS hl
  have f_7 := hts (.fieldLink RX5 7 "GhostGameModel" "slip" "[I") (by decide +kernel)
  have f_54 := hts (.fieldLink RX5 54 "GhostGameModel" "slipLength" "I") (by decide +kernel)
  have hi_3 : ∀ w ∈ wsX50, w ∈ wsX5_write := by decide +kernel
  have hl : lv_has ls 2 [(0, .ref (h)), (1, .int (x0))] := hl
  have hz1 := hSL.1
  have hz2 := hFr.1
  refine lv_aload_n hx hb dX5_write_0 rfl (lv_at hl 0 rfl) ?_
  refine lv_iload_n hx hb dX5_write_1 rfl (lv_at hl 1 rfl) ?_
  refine call_iP (As := [.int (x0)]) (rest := [.ref (h)]) ⟨hx, hb, hml, hown, hts⟩ (c_X5_isLetter l (x0)) (va_cwS 1 hts gX5_write_X5_isLetter rfl rfl rfl (by decide +kernel) ⟨Nat.le_of_ble_eq_true rfl, Nat.le_of_ble_eq_true rfl⟩) hP hK hD hS hA rfl hl.1 rfl (Nat.le_of_ble_eq_true rfl) dX5_write_2 ⟨Nat.le_refl _, Nat.le_refl _⟩ (fun r_2 H locs h_2 hP hD hS => ?_)
  rcases h_2 with ⟨rfl, lt, hlt, rfl⟩ | ⟨rfl, nlt⟩
  · skip
    have hP : va_P g.1 vwCl (MW g h a (nI (rwL SL)) (nI n) (nI ll) (nI np) tu la wi (nI (rwL F)) th fS fL fN fK fF fW fE fC fG fO) H := hP
    have hD : va_D A (MW g h a (nI (rwL SL)) (nI n) (nI ll) (nI np) tu la wi (nI (rwL F)) th fS fL fN fK fF fW fE fC fG fO) := hD
    refine lv_aload_n hx hb dX5_write_5 rfl (lv_at hl 0 rfl) ?_
    refine va_get (D := g.1) (ci := 3) (v := .int (nI (rwL SL))) (C := RX5) (T := TX5) (N := 19) hx hb hts hi_3 hown hK hP 0 rfl rfl 1 (by decide) f_54 (fun _ h9 => h9) rfl dX5_write_6 ?_
    refine lv_bipush (v := nI 10) hx hb dX5_write_9 (by decide) ?_
    refine lv_icmp_ge (tgt := 18) hx hb dX5_write_11 (by decide) (fun c_11_1 => ?_) (fun c_11_1 => ?_)
    · skip
      have n_11_1 : 10 ≤ rwL SL := (nI_leI (a := 10) (b := rwL SL) (by omega) (by omega)).mp c_11_1
      refine lv_iconst (v := nI 0) hx hb dX5_write_18 (by decide) ?_
      refine call_iVW (As := [.int (nI (1)), .int (nI (0))]) (rest := []) ⟨hx, hb, hml, hown, hts⟩ (c_X5_asked__10 l g h a (nI (rwL SL)) (nI n) (nI ll) (nI np) tu la wi (nI (rwL F)) th fS fL fN fK fF fW fE fC fG fO ) (cwV 2 hts gX5_write_X5_asked_ rfl rfl rfl (by decide +kernel) ⟨Nat.le_of_ble_eq_true rfl, Nat.le_of_ble_eq_true rfl⟩) hP hK hD hS hA 0 rfl rfl rfl rfl hl.1 rfl (Nat.le_of_ble_eq_true rfl) dX5_write_19 ⟨Nat.le_refl _, Nat.le_refl _⟩ (fun r_19 w H locs h_19 hP hD hS => ?_)
      obtain ⟨h_19, rfl⟩ := h_19
      replace h_19 := h_19.symm
      subst h_19
      have hP : va_P g.1 vwCl (MW g h a (nI (rwL SL)) (nI n) (nI ll) (nI np) tu la wi (nI (rwL F)) (nI 2) fS fL fN fK fF fW fE fC fG fO) H := hP
      have hD : va_D A (MW g h a (nI (rwL SL)) (nI n) (nI ll) (nI np) tu la wi (nI (rwL F)) (nI 2) fS fL fN fK fF fW fE fC fG fO) := hD
      refine lv_if_ne (tgt := 27) hx hb dX5_write_22 (by decide) (fun c_22_2 => absurd (by decide) c_22_2) (fun c_22_2 => ?_)
      refine lv_iconst (v := nI 0) hx hb dX5_write_25 (by decide) ?_
      exact hret (nI (0)) (MW g h a (nI (rwL SL)) (nI n) (nI ll) (nI np) tu la wi (nI (rwL F)) (nI 2) fS fL fN fK fF fW fE fC fG fO) _ _ _ _ dX5_write_26 (Or.inr (Or.inr ⟨⟨lt, hlt, rfl⟩, by omega, rfl⟩)) hP hD hS
    · skip
      have n_11_1 : ¬ 10 ≤ rwL SL := fun q9 => c_11_1 ((nI_leI (a := 10) (b := rwL SL) (by omega) (by omega)).mpr q9)
      refine lv_iconst (v := nI 1) hx hb dX5_write_14 (by decide) ?_
      refine lv_goto (tgt := 19) hx hb dX5_write_15 (by decide) ?_
      refine call_iVW (As := [.int (nI (1)), .int (nI (1))]) (rest := []) ⟨hx, hb, hml, hown, hts⟩ (c_X5_asked__11 l g h a (nI (rwL SL)) (nI n) (nI ll) (nI np) tu la wi (nI (rwL F)) th fS fL fN fK fF fW fE fC fG fO ) (cwV 2 hts gX5_write_X5_asked_ rfl rfl rfl (by decide +kernel) ⟨Nat.le_of_ble_eq_true rfl, Nat.le_of_ble_eq_true rfl⟩) hP hK hD hS hA 0 rfl rfl rfl rfl hl.1 rfl (Nat.le_of_ble_eq_true rfl) dX5_write_19 ⟨Nat.le_refl _, Nat.le_refl _⟩ (fun r_19 w H locs h_19 hP hD hS => ?_)
      obtain ⟨h_19, rfl⟩ := h_19
      replace h_19 := h_19.symm
      subst h_19
      have hP : va_P g.1 vwCl (MW g h a (nI (rwL SL)) (nI n) (nI ll) (nI np) tu la wi (nI (rwL F)) (nI 0) fS fL fN fK fF fW fE fC fG fO) H := hP
      have hD : va_D A (MW g h a (nI (rwL SL)) (nI n) (nI ll) (nI np) tu la wi (nI (rwL F)) (nI 0) fS fL fN fK fF fW fE fC fG fO) := hD
      refine lv_if_ne (tgt := 27) hx hb dX5_write_22 (by decide) (fun c_22_3 => ?_) (fun c_22_3 => absurd c_22_3 (by decide))
      refine lv_aload_n hx hb dX5_write_27 rfl (lv_at hl 0 rfl) ?_
      refine va_get (D := g.1) (ci := 3) (v := .ref (a 0)) (C := RX5) (T := TX5) (N := 19) hx hb hts hi_3 hown hK hP 0 rfl rfl 0 (by decide) f_7 (fun _ h9 => h9) rfl dX5_write_28 ?_
      refine lv_aload_n hx hb dX5_write_31 rfl (lv_at hl 0 rfl) ?_
      refine va_get (D := g.1) (ci := 3) (v := .int (nI (rwL SL))) (C := RX5) (T := TX5) (N := 19) hx hb hts hi_3 hown hK hP 0 rfl rfl 1 (by decide) f_54 (fun _ h9 => h9) rfl dX5_write_32 ?_
      refine lv_iload_n hx hb dX5_write_35 rfl (lv_at hl 1 rfl) ?_
      refine va_iast (n := 10) (f := fS) hx hb hK hP hD hS 1 0 rfl rfl (vp_in_nI (n := rwL SL) (by omega) (by decide)) dX5_write_36 (fun H locs hP hD hS => ?_)
      rw [nI_clamp (n := rwL SL) (by omega)] at hP hD
      have hP : va_P g.1 vwCl (MW g h a (nI (rwL SL)) (nI n) (nI ll) (nI np) tu la wi (nI (rwL F)) (nI 0) (upd fS (rwL SL) (nI (lt))) fL fN fK fF fW fE fC fG fO) H := hP
      have hD : va_D A (MW g h a (nI (rwL SL)) (nI n) (nI ll) (nI np) tu la wi (nI (rwL F)) (nI 0) (upd fS (rwL SL) (nI (lt))) fL fN fK fF fW fE fC fG fO) := hD
      refine lv_aload_n hx hb dX5_write_37 rfl (lv_at hl 0 rfl) ?_
      refine lv_dup hx hb dX5_write_38 rfl ?_
      refine va_get (D := g.1) (ci := 3) (v := .int (nI (rwL SL))) (C := RX5) (T := TX5) (N := 19) hx hb hts hi_3 hown hK hP 0 rfl rfl 1 (by decide) f_54 (fun _ h9 => h9) rfl dX5_write_39 ?_
      refine lv_iconst (v := nI 1) hx hb dX5_write_42 (by decide) ?_
      refine lv_iadd hx hb dX5_write_43 ?_
      refine tp_i (nI_add (rwL SL) 1) ?_
      refine va_put (D := g.1) (ci := 3) (v := .int (nI ((rwL SL) + 1))) (ty := .int) (C := RX5) (T := TX5) (N := 19) hx hb hts hi_3 tyX5 tyX5_ok nmX5 hown hK hP hD hS 0 rfl rfl 1 (by decide) f_54 (fun _ h9 => h9) rfl (by decide +kernel) rfl rfl (Nat.le_of_ble_eq_true rfl) dX5_write_44 (fun H locs hP hD hS => ?_)
      have hP : va_P g.1 vwCl (MW g h a (nI ((rwL SL) + 1)) (nI n) (nI ll) (nI np) tu la wi (nI (rwL F)) (nI 0) (upd fS (rwL SL) (nI (lt))) fL fN fK fF fW fE fC fG fO) H := hP
      have hD : va_D A (MW g h a (nI ((rwL SL) + 1)) (nI n) (nI ll) (nI np) tu la wi (nI (rwL F)) (nI 0) (upd fS (rwL SL) (nI (lt))) fL fN fK fF fW fE fC fG fO) := hD
      refine lv_aload_n hx hb dX5_write_47 rfl (lv_at hl 0 rfl) ?_
      refine va_get (D := g.1) (ci := 3) (v := .int (nI ((rwL SL) + 1))) (C := RX5) (T := TX5) (N := 19) hx hb hts hi_3 hown hK hP 0 rfl rfl 1 (by decide) f_54 (fun _ h9 => h9) rfl dX5_write_48 ?_
      exact hret (nI ((rwL SL) + 1)) (MW g h a (nI ((rwL SL) + 1)) (nI n) (nI ll) (nI np) tu la wi (nI (rwL F)) (nI 0) (upd fS (rwL SL) (nI (lt))) fL fN fK fF fW fE fC fG fO) _ _ _ _ dX5_write_51 (Or.inl ⟨lt, hlt, rfl, by omega, rfl, rfl⟩) hP hD hS
  · skip
    have hP : va_P g.1 vwCl (MW g h a (nI (rwL SL)) (nI n) (nI ll) (nI np) tu la wi (nI (rwL F)) th fS fL fN fK fF fW fE fC fG fO) H := hP
    have hD : va_D A (MW g h a (nI (rwL SL)) (nI n) (nI ll) (nI np) tu la wi (nI (rwL F)) th fS fL fN fK fF fW fE fC fG fO) := hD
    refine lv_aload_n hx hb dX5_write_5 rfl (lv_at hl 0 rfl) ?_
    refine va_get (D := g.1) (ci := 3) (v := .int (nI (rwL SL))) (C := RX5) (T := TX5) (N := 19) hx hb hts hi_3 hown hK hP 0 rfl rfl 1 (by decide) f_54 (fun _ h9 => h9) rfl dX5_write_6 ?_
    refine lv_bipush (v := nI 10) hx hb dX5_write_9 (by decide) ?_
    refine lv_icmp_ge (tgt := 18) hx hb dX5_write_11 (by decide) (fun c_11_4 => ?_) (fun c_11_4 => ?_)
    · skip
      have n_11_4 : 10 ≤ rwL SL := (nI_leI (a := 10) (b := rwL SL) (by omega) (by omega)).mp c_11_4
      refine lv_iconst (v := nI 0) hx hb dX5_write_18 (by decide) ?_
      refine call_iVW (As := [.int (nI (0)), .int (nI (0))]) (rest := []) ⟨hx, hb, hml, hown, hts⟩ (c_X5_asked__00 l g h a (nI (rwL SL)) (nI n) (nI ll) (nI np) tu la wi (nI (rwL F)) th fS fL fN fK fF fW fE fC fG fO ) (cwV 2 hts gX5_write_X5_asked_ rfl rfl rfl (by decide +kernel) ⟨Nat.le_of_ble_eq_true rfl, Nat.le_of_ble_eq_true rfl⟩) hP hK hD hS hA 0 rfl rfl rfl rfl hl.1 rfl (Nat.le_of_ble_eq_true rfl) dX5_write_19 ⟨Nat.le_refl _, Nat.le_refl _⟩ (fun r_19 w H locs h_19 hP hD hS => ?_)
      obtain ⟨h_19, rfl⟩ := h_19
      replace h_19 := h_19.symm
      subst h_19
      have hP : va_P g.1 vwCl (MW g h a (nI (rwL SL)) (nI n) (nI ll) (nI np) tu la wi (nI (rwL F)) (nI 1) fS fL fN fK fF fW fE fC fG fO) H := hP
      have hD : va_D A (MW g h a (nI (rwL SL)) (nI n) (nI ll) (nI np) tu la wi (nI (rwL F)) (nI 1) fS fL fN fK fF fW fE fC fG fO) := hD
      refine lv_if_ne (tgt := 27) hx hb dX5_write_22 (by decide) (fun c_22_5 => absurd (by decide) c_22_5) (fun c_22_5 => ?_)
      refine lv_iconst (v := nI 0) hx hb dX5_write_25 (by decide) ?_
      exact hret (nI (0)) (MW g h a (nI (rwL SL)) (nI n) (nI ll) (nI np) tu la wi (nI (rwL F)) (nI 1) fS fL fN fK fF fW fE fC fG fO) _ _ _ _ dX5_write_26 (Or.inr (Or.inl ⟨nlt, rfl⟩)) hP hD hS
    · skip
      have n_11_4 : ¬ 10 ≤ rwL SL := fun q9 => c_11_4 ((nI_leI (a := 10) (b := rwL SL) (by omega) (by omega)).mpr q9)
      refine lv_iconst (v := nI 1) hx hb dX5_write_14 (by decide) ?_
      refine lv_goto (tgt := 19) hx hb dX5_write_15 (by decide) ?_
      refine call_iVW (As := [.int (nI (0)), .int (nI (1))]) (rest := []) ⟨hx, hb, hml, hown, hts⟩ (c_X5_asked__01 l g h a (nI (rwL SL)) (nI n) (nI ll) (nI np) tu la wi (nI (rwL F)) th fS fL fN fK fF fW fE fC fG fO ) (cwV 2 hts gX5_write_X5_asked_ rfl rfl rfl (by decide +kernel) ⟨Nat.le_of_ble_eq_true rfl, Nat.le_of_ble_eq_true rfl⟩) hP hK hD hS hA 0 rfl rfl rfl rfl hl.1 rfl (Nat.le_of_ble_eq_true rfl) dX5_write_19 ⟨Nat.le_refl _, Nat.le_refl _⟩ (fun r_19 w H locs h_19 hP hD hS => ?_)
      obtain ⟨h_19, rfl⟩ := h_19
      replace h_19 := h_19.symm
      subst h_19
      have hP : va_P g.1 vwCl (MW g h a (nI (rwL SL)) (nI n) (nI ll) (nI np) tu la wi (nI (rwL F)) (nI 1) fS fL fN fK fF fW fE fC fG fO) H := hP
      have hD : va_D A (MW g h a (nI (rwL SL)) (nI n) (nI ll) (nI np) tu la wi (nI (rwL F)) (nI 1) fS fL fN fK fF fW fE fC fG fO) := hD
      refine lv_if_ne (tgt := 27) hx hb dX5_write_22 (by decide) (fun c_22_6 => absurd (by decide) c_22_6) (fun c_22_6 => ?_)
      refine lv_iconst (v := nI 0) hx hb dX5_write_25 (by decide) ?_
      exact hret (nI (0)) (MW g h a (nI (rwL SL)) (nI n) (nI ll) (nI np) tu la wi (nI (rwL F)) (nI 1) fS fL fN fK fF fW fE fC fG fO) _ _ _ _ dX5_write_26 (Or.inr (Or.inl ⟨nlt, rfl⟩)) hP hD hS

abbrev rm_X5_wipe : Room := { frames := 1, cells := 0, slots := 0, locals := 21 }
set_option maxHeartbeats 4000000 in
set_option maxRecDepth 100000 in
theorem c_X5_wipe (l : Launch) (g : GG) (h : Nat) (a : Nat → Nat) (SL n ll np : Nat) (tu la wi : Int32) (F : Nat) (th : Int32) (fS fL fN fK fF fW fE fC fG fO : Nat → Int32) (D : Nat → Nat) (hDm : MD fL fN D n) (hn : n ≤ 50) (hSL : RV SL) (hfS : MRw fS SL) (hFr : RV F) (hfF : MRw fF F) (hll : ll ≤ 10) (hp : np ≤ 4) : Ci l yX5_wipe wsX5_wipe rm_X5_wipe g [.ref (h)] (MW g h a (nI (rwL SL)) (nI n) (nI ll) (nI np) tu la wi (nI (rwL F)) th fS fL fN fK fF fW fE fC fG fO) (fun r w => r = nI (rwL SL) ∧ w = (MW g h a (nI 0) (nI n) (nI ll) (nI np) tu la wi (nI (rwL F)) (nI 0) fS fL fN fK fF fW fE fC fG fO)) := by
  refine Ci.ofI (cc := cX5_wipe) (maxL := 2) (by decide) rfl (Nat.le_of_ble_eq_true rfl) ?_
  intro p e s m args below meth c A Z hx hb hml hts hown hK hA hret H locs ls hP hD hS hl
  have f_54 := hts (.fieldLink RX5 54 "GhostGameModel" "slipLength" "I") (by decide +kernel)
  have hi_3 : ∀ w ∈ wsX50, w ∈ wsX5_wipe := by decide +kernel
  have hl : lv_has ls 2 [(0, .ref (h))] := hl
  refine lv_aload_n hx hb dX5_wipe_0 rfl (lv_at hl 0 rfl) ?_
  refine va_get (D := g.1) (ci := 3) (v := .int (nI (rwL SL))) (C := RX5) (T := TX5) (N := 19) hx hb hts hi_3 hown hK hP 0 rfl rfl 1 (by decide) f_54 (fun _ h9 => h9) rfl dX5_wipe_1 ?_
  refine lv_istore_n (lv' := [(1, .int (nI (rwL SL))), (0, .ref (h))]) hx hb dX5_wipe_4 rfl hl (by decide) rfl (fun ls hl => ?_)
  refine lv_aload_n hx hb dX5_wipe_5 rfl (lv_at hl 1 rfl) ?_
  refine lv_iconst (v := nI 0) hx hb dX5_wipe_6 (by decide) ?_
  refine va_put (D := g.1) (ci := 3) (v := .int (nI (0))) (ty := .int) (C := RX5) (T := TX5) (N := 19) hx hb hts hi_3 tyX5 tyX5_ok nmX5 hown hK hP hD hS 0 rfl rfl 1 (by decide) f_54 (fun _ h9 => h9) rfl (by decide +kernel) rfl rfl (Nat.le_of_ble_eq_true rfl) dX5_wipe_7 (fun H locs hP hD hS => ?_)
  have hP : va_P g.1 vwCl (MW g h a (nI 0) (nI n) (nI ll) (nI np) tu la wi (nI (rwL F)) th fS fL fN fK fF fW fE fC fG fO) H := hP
  have hD : va_D A (MW g h a (nI 0) (nI n) (nI ll) (nI np) tu la wi (nI (rwL F)) th fS fL fN fK fF fW fE fC fG fO) := hD
  refine lv_aload_n hx hb dX5_wipe_10 rfl (lv_at hl 1 rfl) ?_
  refine lv_iload_n hx hb dX5_wipe_11 rfl (lv_at hl 0 rfl) ?_
  refine call_iVW (As := [.int (nI (rwL SL))]) (rest := []) ⟨hx, hb, hml, hown, hts⟩ (c_X5_told l g h a (nI 0) (nI n) (nI ll) (nI np) tu la wi (nI (rwL F)) th fS fL fN fK fF fW fE fC fG fO (nI (rwL SL))) (cwV 1 hts gX5_wipe_X5_told rfl rfl rfl (by decide +kernel) ⟨Nat.le_of_ble_eq_true rfl, Nat.le_of_ble_eq_true rfl⟩) hP hK hD hS hA 0 rfl rfl rfl rfl hl.1 rfl (Nat.le_of_ble_eq_true rfl) dX5_wipe_12 ⟨Nat.le_refl _, Nat.le_refl _⟩ (fun r_12 w H locs h_12 hP hD hS => ?_)
  obtain ⟨h_12, rfl⟩ := h_12
  replace h_12 := h_12.symm
  subst h_12
  have hP : va_P g.1 vwCl (MW g h a (nI 0) (nI n) (nI ll) (nI np) tu la wi (nI (rwL F)) (nI 0) fS fL fN fK fF fW fE fC fG fO) H := hP
  have hD : va_D A (MW g h a (nI 0) (nI n) (nI ll) (nI np) tu la wi (nI (rwL F)) (nI 0) fS fL fN fK fF fW fE fC fG fO) := hD
  exact hret (nI (rwL SL)) (MW g h a (nI 0) (nI n) (nI ll) (nI np) tu la wi (nI (rwL F)) (nI 0) fS fL fN fK fF fW fE fC fG fO) _ _ _ _ dX5_wipe_15 (⟨rfl, rfl⟩) hP hD hS

abbrev rm_X5_slipLength : Room := { frames := 1, cells := 0, slots := 0, locals := 21 }
set_option maxHeartbeats 4000000 in
set_option maxRecDepth 100000 in
theorem c_X5_slipLength (l : Launch) (g : GG) (h : Nat) (a : Nat → Nat) (SL n ll np : Nat) (tu la wi : Int32) (F : Nat) (th : Int32) (fS fL fN fK fF fW fE fC fG fO : Nat → Int32) (D : Nat → Nat) (hDm : MD fL fN D n) (hn : n ≤ 50) (hSL : RV SL) (hfS : MRw fS SL) (hFr : RV F) (hfF : MRw fF F) (hll : ll ≤ 10) (hp : np ≤ 4) : Ci l yX5_slipLength wsX5_slipLength rm_X5_slipLength g [.ref (h)] (MW g h a (nI (rwL SL)) (nI n) (nI ll) (nI np) tu la wi (nI (rwL F)) th fS fL fN fK fF fW fE fC fG fO) (fun r w => r = nI (rwL SL) ∧ w = (MW g h a (nI (rwL SL)) (nI n) (nI ll) (nI np) tu la wi (nI (rwL F)) (nI 0) fS fL fN fK fF fW fE fC fG fO)) := by
  refine Ci.ofI (cc := cX5_slipLength) (maxL := 1) (by decide) rfl (Nat.le_of_ble_eq_true rfl) ?_
  intro p e s m args below meth c A Z hx hb hml hts hown hK hA hret H locs ls hP hD hS hl
  have f_54 := hts (.fieldLink RX5 54 "GhostGameModel" "slipLength" "I") (by decide +kernel)
  have hi_3 : ∀ w ∈ wsX50, w ∈ wsX5_slipLength := by decide +kernel
  have hl : lv_has ls 1 [(0, .ref (h))] := hl
  refine lv_aload_n hx hb dX5_slipLength_0 rfl (lv_at hl 0 rfl) ?_
  refine lv_aload_n hx hb dX5_slipLength_1 rfl (lv_at hl 0 rfl) ?_
  refine va_get (D := g.1) (ci := 3) (v := .int (nI (rwL SL))) (C := RX5) (T := TX5) (N := 19) hx hb hts hi_3 hown hK hP 0 rfl rfl 1 (by decide) f_54 (fun _ h9 => h9) rfl dX5_slipLength_2 ?_
  refine call_iVW (As := [.int (nI (rwL SL))]) (rest := []) ⟨hx, hb, hml, hown, hts⟩ (c_X5_told l g h a (nI (rwL SL)) (nI n) (nI ll) (nI np) tu la wi (nI (rwL F)) th fS fL fN fK fF fW fE fC fG fO (nI (rwL SL))) (cwV 1 hts gX5_slipLength_X5_told rfl rfl rfl (by decide +kernel) ⟨Nat.le_of_ble_eq_true rfl, Nat.le_of_ble_eq_true rfl⟩) hP hK hD hS hA 0 rfl rfl rfl rfl hl.1 rfl (Nat.le_of_ble_eq_true rfl) dX5_slipLength_5 ⟨Nat.le_refl _, Nat.le_refl _⟩ (fun r_5 w H locs h_5 hP hD hS => ?_)
  obtain ⟨h_5, rfl⟩ := h_5
  replace h_5 := h_5.symm
  subst h_5
  have hP : va_P g.1 vwCl (MW g h a (nI (rwL SL)) (nI n) (nI ll) (nI np) tu la wi (nI (rwL F)) (nI 0) fS fL fN fK fF fW fE fC fG fO) H := hP
  have hD : va_D A (MW g h a (nI (rwL SL)) (nI n) (nI ll) (nI np) tu la wi (nI (rwL F)) (nI 0) fS fL fN fK fF fW fE fC fG fO) := hD
  exact hret (nI (rwL SL)) (MW g h a (nI (rwL SL)) (nI n) (nI ll) (nI np) tu la wi (nI (rwL F)) (nI 0) fS fL fN fK fF fW fE fC fG fO) _ _ _ _ dX5_slipLength_8 (⟨rfl, rfl⟩) hP hD hS

abbrev rm_X5_words : Room := { frames := 1, cells := 0, slots := 0, locals := 21 }
set_option maxHeartbeats 4000000 in
set_option maxRecDepth 100000 in
theorem c_X5_words (l : Launch) (g : GG) (h : Nat) (a : Nat → Nat) (SL n ll np : Nat) (tu la wi : Int32) (F : Nat) (th : Int32) (fS fL fN fK fF fW fE fC fG fO : Nat → Int32) (D : Nat → Nat) (hDm : MD fL fN D n) (hn : n ≤ 50) (hSL : RV SL) (hfS : MRw fS SL) (hFr : RV F) (hfF : MRw fF F) (hll : ll ≤ 10) (hp : np ≤ 4) : Ci l yX5_words wsX5_words rm_X5_words g [.ref (h)] (MW g h a (nI (rwL SL)) (nI n) (nI ll) (nI np) tu la wi (nI (rwL F)) th fS fL fN fK fF fW fE fC fG fO) (fun r w => r = nI n ∧ w = (MW g h a (nI (rwL SL)) (nI n) (nI ll) (nI np) tu la wi (nI (rwL F)) (nI 0) fS fL fN fK fF fW fE fC fG fO)) := by
  refine Ci.ofI (cc := cX5_words) (maxL := 1) (by decide) rfl (Nat.le_of_ble_eq_true rfl) ?_
  intro p e s m args below meth c A Z hx hb hml hts hown hK hA hret H locs ls hP hD hS hl
  have f_51 := hts (.fieldLink RX5 51 "GhostGameModel" "words" "I") (by decide +kernel)
  have hi_3 : ∀ w ∈ wsX50, w ∈ wsX5_words := by decide +kernel
  have hl : lv_has ls 1 [(0, .ref (h))] := hl
  refine lv_aload_n hx hb dX5_words_0 rfl (lv_at hl 0 rfl) ?_
  refine lv_aload_n hx hb dX5_words_1 rfl (lv_at hl 0 rfl) ?_
  refine va_get (D := g.1) (ci := 3) (v := .int (nI (n))) (C := RX5) (T := TX5) (N := 19) hx hb hts hi_3 hown hK hP 0 rfl rfl 4 (by decide) f_51 (fun _ h9 => h9) rfl dX5_words_2 ?_
  refine call_iVW (As := [.int (nI (n))]) (rest := []) ⟨hx, hb, hml, hown, hts⟩ (c_X5_told l g h a (nI (rwL SL)) (nI n) (nI ll) (nI np) tu la wi (nI (rwL F)) th fS fL fN fK fF fW fE fC fG fO (nI (n))) (cwV 1 hts gX5_words_X5_told rfl rfl rfl (by decide +kernel) ⟨Nat.le_of_ble_eq_true rfl, Nat.le_of_ble_eq_true rfl⟩) hP hK hD hS hA 0 rfl rfl rfl rfl hl.1 rfl (Nat.le_of_ble_eq_true rfl) dX5_words_5 ⟨Nat.le_refl _, Nat.le_refl _⟩ (fun r_5 w H locs h_5 hP hD hS => ?_)
  obtain ⟨h_5, rfl⟩ := h_5
  replace h_5 := h_5.symm
  subst h_5
  have hP : va_P g.1 vwCl (MW g h a (nI (rwL SL)) (nI n) (nI ll) (nI np) tu la wi (nI (rwL F)) (nI 0) fS fL fN fK fF fW fE fC fG fO) H := hP
  have hD : va_D A (MW g h a (nI (rwL SL)) (nI n) (nI ll) (nI np) tu la wi (nI (rwL F)) (nI 0) fS fL fN fK fF fW fE fC fG fO) := hD
  exact hret (nI (n)) (MW g h a (nI (rwL SL)) (nI n) (nI ll) (nI np) tu la wi (nI (rwL F)) (nI 0) fS fL fN fK fF fW fE fC fG fO) _ _ _ _ dX5_words_8 (⟨rfl, rfl⟩) hP hD hS

abbrev rm_X5_winner : Room := { frames := 1, cells := 0, slots := 0, locals := 21 }
set_option maxHeartbeats 4000000 in
set_option maxRecDepth 100000 in
theorem c_X5_winner (l : Launch) (g : GG) (h : Nat) (a : Nat → Nat) (SL n ll np : Nat) (tu la wi : Int32) (F : Nat) (th : Int32) (fS fL fN fK fF fW fE fC fG fO : Nat → Int32) (D : Nat → Nat) (hDm : MD fL fN D n) (hn : n ≤ 50) (hSL : RV SL) (hfS : MRw fS SL) (hFr : RV F) (hfF : MRw fF F) (hll : ll ≤ 10) (hp : np ≤ 4) : Ci l yX5_winner wsX5_winner rm_X5_winner g [.ref (h)] (MW g h a (nI (rwL SL)) (nI n) (nI ll) (nI np) tu la wi (nI (rwL F)) th fS fL fN fK fF fW fE fC fG fO) (fun r w => r = wi ∧ w = (MW g h a (nI (rwL SL)) (nI n) (nI ll) (nI np) tu la wi (nI (rwL F)) (nI 0) fS fL fN fK fF fW fE fC fG fO)) := by
  refine Ci.ofI (cc := cX5_winner) (maxL := 1) (by decide) rfl (Nat.le_of_ble_eq_true rfl) ?_
  intro p e s m args below meth c A Z hx hb hml hts hown hK hA hret H locs ls hP hD hS hl
  have f_26 := hts (.fieldLink RX5 26 "GhostGameModel" "winner" "I") (by decide +kernel)
  have hi_3 : ∀ w ∈ wsX50, w ∈ wsX5_winner := by decide +kernel
  have hl : lv_has ls 1 [(0, .ref (h))] := hl
  refine lv_aload_n hx hb dX5_winner_0 rfl (lv_at hl 0 rfl) ?_
  refine lv_aload_n hx hb dX5_winner_1 rfl (lv_at hl 0 rfl) ?_
  refine va_get (D := g.1) (ci := 3) (v := .int (wi)) (C := RX5) (T := TX5) (N := 19) hx hb hts hi_3 hown hK hP 0 rfl rfl 10 (by decide) f_26 (fun _ h9 => h9) rfl dX5_winner_2 ?_
  refine call_iVW (As := [.int (wi)]) (rest := []) ⟨hx, hb, hml, hown, hts⟩ (c_X5_told l g h a (nI (rwL SL)) (nI n) (nI ll) (nI np) tu la wi (nI (rwL F)) th fS fL fN fK fF fW fE fC fG fO (wi)) (cwV 1 hts gX5_winner_X5_told rfl rfl rfl (by decide +kernel) ⟨Nat.le_of_ble_eq_true rfl, Nat.le_of_ble_eq_true rfl⟩) hP hK hD hS hA 0 rfl rfl rfl rfl hl.1 rfl (Nat.le_of_ble_eq_true rfl) dX5_winner_5 ⟨Nat.le_refl _, Nat.le_refl _⟩ (fun r_5 w H locs h_5 hP hD hS => ?_)
  obtain ⟨h_5, rfl⟩ := h_5
  replace h_5 := h_5.symm
  subst h_5
  have hP : va_P g.1 vwCl (MW g h a (nI (rwL SL)) (nI n) (nI ll) (nI np) tu la wi (nI (rwL F)) (nI 0) fS fL fN fK fF fW fE fC fG fO) H := hP
  have hD : va_D A (MW g h a (nI (rwL SL)) (nI n) (nI ll) (nI np) tu la wi (nI (rwL F)) (nI 0) fS fL fN fK fF fW fE fC fG fO) := hD
  exact hret (wi) (MW g h a (nI (rwL SL)) (nI n) (nI ll) (nI np) tu la wi (nI (rwL F)) (nI 0) fS fL fN fK fF fW fE fC fG fO) _ _ _ _ dX5_winner_8 (⟨rfl, rfl⟩) hP hD hS

abbrev rm_X5_players : Room := { frames := 1, cells := 0, slots := 0, locals := 21 }
set_option maxHeartbeats 4000000 in
set_option maxRecDepth 100000 in
theorem c_X5_players (l : Launch) (g : GG) (h : Nat) (a : Nat → Nat) (SL n ll np : Nat) (tu la wi : Int32) (F : Nat) (th : Int32) (fS fL fN fK fF fW fE fC fG fO : Nat → Int32) (D : Nat → Nat) (hDm : MD fL fN D n) (hn : n ≤ 50) (hSL : RV SL) (hfS : MRw fS SL) (hFr : RV F) (hfF : MRw fF F) (hll : ll ≤ 10) (hp : np ≤ 4) : Ci l yX5_players wsX5_players rm_X5_players g [.ref (h)] (MW g h a (nI (rwL SL)) (nI n) (nI ll) (nI np) tu la wi (nI (rwL F)) th fS fL fN fK fF fW fE fC fG fO) (fun r w => r = nI np ∧ w = (MW g h a (nI (rwL SL)) (nI n) (nI ll) (nI np) tu la wi (nI (rwL F)) (nI 0) fS fL fN fK fF fW fE fC fG fO)) := by
  refine Ci.ofI (cc := cX5_players) (maxL := 1) (by decide) rfl (Nat.le_of_ble_eq_true rfl) ?_
  intro p e s m args below meth c A Z hx hb hml hts hown hK hA hret H locs ls hP hD hS hl
  have f_88 := hts (.fieldLink RX5 88 "GhostGameModel" "players" "I") (by decide +kernel)
  have hi_3 : ∀ w ∈ wsX50, w ∈ wsX5_players := by decide +kernel
  have hl : lv_has ls 1 [(0, .ref (h))] := hl
  refine lv_aload_n hx hb dX5_players_0 rfl (lv_at hl 0 rfl) ?_
  refine lv_aload_n hx hb dX5_players_1 rfl (lv_at hl 0 rfl) ?_
  refine va_get (D := g.1) (ci := 3) (v := .int (nI (np))) (C := RX5) (T := TX5) (N := 19) hx hb hts hi_3 hown hK hP 0 rfl rfl 6 (by decide) f_88 (fun _ h9 => h9) rfl dX5_players_2 ?_
  refine call_iVW (As := [.int (nI (np))]) (rest := []) ⟨hx, hb, hml, hown, hts⟩ (c_X5_told l g h a (nI (rwL SL)) (nI n) (nI ll) (nI np) tu la wi (nI (rwL F)) th fS fL fN fK fF fW fE fC fG fO (nI (np))) (cwV 1 hts gX5_players_X5_told rfl rfl rfl (by decide +kernel) ⟨Nat.le_of_ble_eq_true rfl, Nat.le_of_ble_eq_true rfl⟩) hP hK hD hS hA 0 rfl rfl rfl rfl hl.1 rfl (Nat.le_of_ble_eq_true rfl) dX5_players_5 ⟨Nat.le_refl _, Nat.le_refl _⟩ (fun r_5 w H locs h_5 hP hD hS => ?_)
  obtain ⟨h_5, rfl⟩ := h_5
  replace h_5 := h_5.symm
  subst h_5
  have hP : va_P g.1 vwCl (MW g h a (nI (rwL SL)) (nI n) (nI ll) (nI np) tu la wi (nI (rwL F)) (nI 0) fS fL fN fK fF fW fE fC fG fO) H := hP
  have hD : va_D A (MW g h a (nI (rwL SL)) (nI n) (nI ll) (nI np) tu la wi (nI (rwL F)) (nI 0) fS fL fN fK fF fW fE fC fG fO) := hD
  exact hret (nI (np)) (MW g h a (nI (rwL SL)) (nI n) (nI ll) (nI np) tu la wi (nI (rwL F)) (nI 0) fS fL fN fK fF fW fE fC fG fO) _ _ _ _ dX5_players_8 (⟨rfl, rfl⟩) hP hD hS

abbrev rm_X5_fragmentLength : Room := { frames := 1, cells := 0, slots := 0, locals := 21 }
set_option maxHeartbeats 4000000 in
set_option maxRecDepth 100000 in
theorem c_X5_fragmentLength (l : Launch) (g : GG) (h : Nat) (a : Nat → Nat) (SL n ll np : Nat) (tu la wi : Int32) (F : Nat) (th : Int32) (fS fL fN fK fF fW fE fC fG fO : Nat → Int32) (D : Nat → Nat) (hDm : MD fL fN D n) (hn : n ≤ 50) (hSL : RV SL) (hfS : MRw fS SL) (hFr : RV F) (hfF : MRw fF F) (hll : ll ≤ 10) (hp : np ≤ 4) : Ci l yX5_fragmentLength wsX5_fragmentLength rm_X5_fragmentLength g [.ref (h)] (MW g h a (nI (rwL SL)) (nI n) (nI ll) (nI np) tu la wi (nI (rwL F)) th fS fL fN fK fF fW fE fC fG fO) (fun r w => r = nI (rwL F) ∧ w = (MW g h a (nI (rwL SL)) (nI n) (nI ll) (nI np) tu la wi (nI (rwL F)) (nI 0) fS fL fN fK fF fW fE fC fG fO)) := by
  refine Ci.ofI (cc := cX5_fragmentLength) (maxL := 1) (by decide) rfl (Nat.le_of_ble_eq_true rfl) ?_
  intro p e s m args below meth c A Z hx hb hml hts hown hK hA hret H locs ls hP hD hS hl
  have f_94 := hts (.fieldLink RX5 94 "GhostGameModel" "fragmentLength" "I") (by decide +kernel)
  have hi_3 : ∀ w ∈ wsX50, w ∈ wsX5_fragmentLength := by decide +kernel
  have hl : lv_has ls 1 [(0, .ref (h))] := hl
  refine lv_aload_n hx hb dX5_fragmentLength_0 rfl (lv_at hl 0 rfl) ?_
  refine lv_aload_n hx hb dX5_fragmentLength_1 rfl (lv_at hl 0 rfl) ?_
  refine va_get (D := g.1) (ci := 3) (v := .int (nI (rwL F))) (C := RX5) (T := TX5) (N := 19) hx hb hts hi_3 hown hK hP 0 rfl rfl 12 (by decide) f_94 (fun _ h9 => h9) rfl dX5_fragmentLength_2 ?_
  refine call_iVW (As := [.int (nI (rwL F))]) (rest := []) ⟨hx, hb, hml, hown, hts⟩ (c_X5_told l g h a (nI (rwL SL)) (nI n) (nI ll) (nI np) tu la wi (nI (rwL F)) th fS fL fN fK fF fW fE fC fG fO (nI (rwL F))) (cwV 1 hts gX5_fragmentLength_X5_told rfl rfl rfl (by decide +kernel) ⟨Nat.le_of_ble_eq_true rfl, Nat.le_of_ble_eq_true rfl⟩) hP hK hD hS hA 0 rfl rfl rfl rfl hl.1 rfl (Nat.le_of_ble_eq_true rfl) dX5_fragmentLength_5 ⟨Nat.le_refl _, Nat.le_refl _⟩ (fun r_5 w H locs h_5 hP hD hS => ?_)
  obtain ⟨h_5, rfl⟩ := h_5
  replace h_5 := h_5.symm
  subst h_5
  have hP : va_P g.1 vwCl (MW g h a (nI (rwL SL)) (nI n) (nI ll) (nI np) tu la wi (nI (rwL F)) (nI 0) fS fL fN fK fF fW fE fC fG fO) H := hP
  have hD : va_D A (MW g h a (nI (rwL SL)) (nI n) (nI ll) (nI np) tu la wi (nI (rwL F)) (nI 0) fS fL fN fK fF fW fE fC fG fO) := hD
  exact hret (nI (rwL F)) (MW g h a (nI (rwL SL)) (nI n) (nI ll) (nI np) tu la wi (nI (rwL F)) (nI 0) fS fL fN fK fF fW fE fC fG fO) _ _ _ _ dX5_fragmentLength_8 (⟨rfl, rfl⟩) hP hD hS

abbrev rm_X5_slipAt : Room := { frames := 1, cells := 0, slots := 0, locals := 21 }
set_option maxHeartbeats 4000000 in
set_option maxRecDepth 100000 in
theorem c_X5_slipAt (l : Launch) (g : GG) (h : Nat) (a : Nat → Nat) (SL n ll np : Nat) (tu la wi : Int32) (F : Nat) (th : Int32) (fS fL fN fK fF fW fE fC fG fO : Nat → Int32) (D : Nat → Nat) (hDm : MD fL fN D n) (hn : n ≤ 50) (hSL : RV SL) (hfS : MRw fS SL) (hFr : RV F) (hfF : MRw fF F) (hll : ll ≤ 10) (hp : np ≤ 4) (x0 : Int32) : Ci l yX5_slipAt wsX5_slipAt rm_X5_slipAt g [.ref (h), .int (x0)] (MW g h a (nI (rwL SL)) (nI n) (nI ll) (nI np) tu la wi (nI (rwL F)) th fS fL fN fK fF fW fE fC fG fO) (fun r w => (∃ j : Nat, j < rwL SL ∧ nI j = x0 ∧ r = nI (rwA SL j) ∧ w = (MW g h a (nI (rwL SL)) (nI n) (nI ll) (nI np) tu la wi (nI (rwL F)) (nI 0) fS fL fN fK fF fW fE fC fG fO)) ∨ ((¬ ∃ j : Nat, j < rwL SL ∧ nI j = x0) ∧ w = (MW g h a (nI (rwL SL)) (nI n) (nI ll) (nI np) tu la wi (nI (rwL F)) (nI 1) fS fL fN fK fF fW fE fC fG fO))) := by
  refine Ci.ofI (cc := cX5_slipAt) (maxL := 2) (by decide) rfl (Nat.le_of_ble_eq_true rfl) ?_
  intro p e s m args below meth c A Z hx hb hml hts hown hK hA hret H locs ls hP hD hS hl
  have f_7 := hts (.fieldLink RX5 7 "GhostGameModel" "slip" "[I") (by decide +kernel)
  have f_54 := hts (.fieldLink RX5 54 "GhostGameModel" "slipLength" "I") (by decide +kernel)
  have hi_3 : ∀ w ∈ wsX50, w ∈ wsX5_slipAt := by decide +kernel
  have hl : lv_has ls 2 [(0, .ref (h)), (1, .int (x0))] := hl
  have hz1 := hSL.1
  have hz2 := hFr.1
  refine lv_aload_n hx hb dX5_slipAt_0 rfl (lv_at hl 0 rfl) ?_
  refine lv_iload_n hx hb dX5_slipAt_1 rfl (lv_at hl 1 rfl) ?_
  refine lv_if_lt (tgt := 17) hx hb dX5_slipAt_2 (by decide) (fun c_2_1 => ?_) (fun c_2_1 => ?_)
  · skip
    have nj : ¬ ∃ j : Nat, j < rwL SL ∧ nI j = x0 := by
      rintro ⟨j, hj, rfl⟩
      exact nI_pos (by omega) c_2_1
    refine lv_iconst (v := nI 0) hx hb dX5_slipAt_17 (by decide) ?_
    refine call_iVW (As := [.int (nI (0))]) (rest := []) ⟨hx, hb, hml, hown, hts⟩ (c_X5_asked_0 l g h a (nI (rwL SL)) (nI n) (nI ll) (nI np) tu la wi (nI (rwL F)) th fS fL fN fK fF fW fE fC fG fO ) (cwV 1 hts gX5_slipAt_X5_asked rfl rfl rfl (by decide +kernel) ⟨Nat.le_of_ble_eq_true rfl, Nat.le_of_ble_eq_true rfl⟩) hP hK hD hS hA 0 rfl rfl rfl rfl hl.1 rfl (Nat.le_of_ble_eq_true rfl) dX5_slipAt_18 ⟨Nat.le_refl _, Nat.le_refl _⟩ (fun r_18 w H locs h_18 hP hD hS => ?_)
    obtain ⟨h_18, rfl⟩ := h_18
    replace h_18 := h_18.symm
    subst h_18
    have hP : va_P g.1 vwCl (MW g h a (nI (rwL SL)) (nI n) (nI ll) (nI np) tu la wi (nI (rwL F)) (nI 1) fS fL fN fK fF fW fE fC fG fO) H := hP
    have hD : va_D A (MW g h a (nI (rwL SL)) (nI n) (nI ll) (nI np) tu la wi (nI (rwL F)) (nI 1) fS fL fN fK fF fW fE fC fG fO) := hD
    refine lv_if_eq (tgt := 33) hx hb dX5_slipAt_21 (by decide) (fun c_21_2 => ?_) (fun c_21_2 => absurd (by decide) c_21_2)
    refine lv_iconst (v := nI 0) hx hb dX5_slipAt_33 (by decide) ?_
    exact hret (nI (0)) (MW g h a (nI (rwL SL)) (nI n) (nI ll) (nI np) tu la wi (nI (rwL F)) (nI 1) fS fL fN fK fF fW fE fC fG fO) _ _ _ _ dX5_slipAt_34 (Or.inr ⟨nj, rfl⟩) hP hD hS
  · skip
    refine lv_iload_n hx hb dX5_slipAt_5 rfl (lv_at hl 1 rfl) ?_
    refine lv_aload_n hx hb dX5_slipAt_6 rfl (lv_at hl 0 rfl) ?_
    refine va_get (D := g.1) (ci := 3) (v := .int (nI (rwL SL))) (C := RX5) (T := TX5) (N := 19) hx hb hts hi_3 hown hK hP 0 rfl rfl 1 (by decide) f_54 (fun _ h9 => h9) rfl dX5_slipAt_7 ?_
    refine lv_icmp_ge (tgt := 17) hx hb dX5_slipAt_10 (by decide) (fun c_10_3 => ?_) (fun c_10_3 => ?_)
    · skip
      have nj : ¬ ∃ j : Nat, j < rwL SL ∧ nI j = x0 := by
        rintro ⟨j, hj, rfl⟩
        have := (nI_leI (by omega) (by omega)).mp c_10_3
        omega
      refine lv_iconst (v := nI 0) hx hb dX5_slipAt_17 (by decide) ?_
      refine call_iVW (As := [.int (nI (0))]) (rest := []) ⟨hx, hb, hml, hown, hts⟩ (c_X5_asked_0 l g h a (nI (rwL SL)) (nI n) (nI ll) (nI np) tu la wi (nI (rwL F)) th fS fL fN fK fF fW fE fC fG fO ) (cwV 1 hts gX5_slipAt_X5_asked rfl rfl rfl (by decide +kernel) ⟨Nat.le_of_ble_eq_true rfl, Nat.le_of_ble_eq_true rfl⟩) hP hK hD hS hA 0 rfl rfl rfl rfl hl.1 rfl (Nat.le_of_ble_eq_true rfl) dX5_slipAt_18 ⟨Nat.le_refl _, Nat.le_refl _⟩ (fun r_18 w H locs h_18 hP hD hS => ?_)
      obtain ⟨h_18, rfl⟩ := h_18
      replace h_18 := h_18.symm
      subst h_18
      have hP : va_P g.1 vwCl (MW g h a (nI (rwL SL)) (nI n) (nI ll) (nI np) tu la wi (nI (rwL F)) (nI 1) fS fL fN fK fF fW fE fC fG fO) H := hP
      have hD : va_D A (MW g h a (nI (rwL SL)) (nI n) (nI ll) (nI np) tu la wi (nI (rwL F)) (nI 1) fS fL fN fK fF fW fE fC fG fO) := hD
      refine lv_if_eq (tgt := 33) hx hb dX5_slipAt_21 (by decide) (fun c_21_4 => ?_) (fun c_21_4 => absurd (by decide) c_21_4)
      refine lv_iconst (v := nI 0) hx hb dX5_slipAt_33 (by decide) ?_
      exact hret (nI (0)) (MW g h a (nI (rwL SL)) (nI n) (nI ll) (nI np) tu la wi (nI (rwL F)) (nI 1) fS fL fN fK fF fW fE fC fG fO) _ _ _ _ dX5_slipAt_34 (Or.inr ⟨nj, rfl⟩) hP hD hS
    · skip
      obtain ⟨j, hj, rfl⟩ : ∃ j : Nat, j < rwL SL ∧ x0 = nI j := by
        rcases pk_ix x0 (n := rwL SL) (by omega) with h | h | h
        · exact absurd h c_2_1
        · exact absurd h c_10_3
        · exact h
      refine lv_iconst (v := nI 1) hx hb dX5_slipAt_13 (by decide) ?_
      refine lv_goto (tgt := 18) hx hb dX5_slipAt_14 (by decide) ?_
      refine call_iVW (As := [.int (nI (1))]) (rest := []) ⟨hx, hb, hml, hown, hts⟩ (c_X5_asked_1 l g h a (nI (rwL SL)) (nI n) (nI ll) (nI np) tu la wi (nI (rwL F)) th fS fL fN fK fF fW fE fC fG fO ) (cwV 1 hts gX5_slipAt_X5_asked rfl rfl rfl (by decide +kernel) ⟨Nat.le_of_ble_eq_true rfl, Nat.le_of_ble_eq_true rfl⟩) hP hK hD hS hA 0 rfl rfl rfl rfl hl.1 rfl (Nat.le_of_ble_eq_true rfl) dX5_slipAt_18 ⟨Nat.le_refl _, Nat.le_refl _⟩ (fun r_18 w H locs h_18 hP hD hS => ?_)
      obtain ⟨h_18, rfl⟩ := h_18
      replace h_18 := h_18.symm
      subst h_18
      have hP : va_P g.1 vwCl (MW g h a (nI (rwL SL)) (nI n) (nI ll) (nI np) tu la wi (nI (rwL F)) (nI 0) fS fL fN fK fF fW fE fC fG fO) H := hP
      have hD : va_D A (MW g h a (nI (rwL SL)) (nI n) (nI ll) (nI np) tu la wi (nI (rwL F)) (nI 0) fS fL fN fK fF fW fE fC fG fO) := hD
      refine lv_if_eq (tgt := 33) hx hb dX5_slipAt_21 (by decide) (fun c_21_5 => absurd c_21_5 (by decide)) (fun c_21_5 => ?_)
      refine lv_aload_n hx hb dX5_slipAt_24 rfl (lv_at hl 0 rfl) ?_
      refine va_get (D := g.1) (ci := 3) (v := .ref (a 0)) (C := RX5) (T := TX5) (N := 19) hx hb hts hi_3 hown hK hP 0 rfl rfl 0 (by decide) f_7 (fun _ h9 => h9) rfl dX5_slipAt_25 ?_
      refine lv_iload_n hx hb dX5_slipAt_28 rfl (lv_at hl 1 rfl) ?_
      refine va_iald (n := 10) (f := fS) hx hb hK hP 1 0 rfl rfl (vp_in_nI (n := j) (by omega) (by decide)) dX5_slipAt_29 ?_
      refine tp_i (congrArg fS (nI_clamp (n := j) (by omega))) ?_
      refine tp_i (b := (nI (rwA SL j))) (hfS j (by omega)) ?_
      refine lv_goto (tgt := 34) hx hb dX5_slipAt_30 (by decide) ?_
      exact hret (nI (rwA SL j)) (MW g h a (nI (rwL SL)) (nI n) (nI ll) (nI np) tu la wi (nI (rwL F)) (nI 0) fS fL fN fK fF fW fE fC fG fO) _ _ _ _ dX5_slipAt_34 (Or.inl ⟨j, hj, rfl, rfl, rfl⟩) hP hD hS

abbrev rm_X5_fragmentAt : Room := { frames := 1, cells := 0, slots := 0, locals := 21 }
set_option maxHeartbeats 4000000 in
set_option maxRecDepth 100000 in
theorem c_X5_fragmentAt (l : Launch) (g : GG) (h : Nat) (a : Nat → Nat) (SL n ll np : Nat) (tu la wi : Int32) (F : Nat) (th : Int32) (fS fL fN fK fF fW fE fC fG fO : Nat → Int32) (D : Nat → Nat) (hDm : MD fL fN D n) (hn : n ≤ 50) (hSL : RV SL) (hfS : MRw fS SL) (hFr : RV F) (hfF : MRw fF F) (hll : ll ≤ 10) (hp : np ≤ 4) (x0 : Int32) : Ci l yX5_fragmentAt wsX5_fragmentAt rm_X5_fragmentAt g [.ref (h), .int (x0)] (MW g h a (nI (rwL SL)) (nI n) (nI ll) (nI np) tu la wi (nI (rwL F)) th fS fL fN fK fF fW fE fC fG fO) (fun r w => (∃ j : Nat, j < rwL F ∧ nI j = x0 ∧ r = nI (rwA F j) ∧ w = (MW g h a (nI (rwL SL)) (nI n) (nI ll) (nI np) tu la wi (nI (rwL F)) (nI 0) fS fL fN fK fF fW fE fC fG fO)) ∨ ((¬ ∃ j : Nat, j < rwL F ∧ nI j = x0) ∧ w = (MW g h a (nI (rwL SL)) (nI n) (nI ll) (nI np) tu la wi (nI (rwL F)) (nI 1) fS fL fN fK fF fW fE fC fG fO))) := by
  refine Ci.ofI (cc := cX5_fragmentAt) (maxL := 2) (by decide) rfl (Nat.le_of_ble_eq_true rfl) ?_
  intro p e s m args below meth c A Z hx hb hml hts hown hK hA hret H locs ls hP hD hS hl
  have f_29 := hts (.fieldLink RX5 29 "GhostGameModel" "fragment" "[I") (by decide +kernel)
  have f_94 := hts (.fieldLink RX5 94 "GhostGameModel" "fragmentLength" "I") (by decide +kernel)
  have hi_3 : ∀ w ∈ wsX50, w ∈ wsX5_fragmentAt := by decide +kernel
  have hl : lv_has ls 2 [(0, .ref (h)), (1, .int (x0))] := hl
  have hz1 := hSL.1
  have hz2 := hFr.1
  refine lv_aload_n hx hb dX5_fragmentAt_0 rfl (lv_at hl 0 rfl) ?_
  refine lv_iload_n hx hb dX5_fragmentAt_1 rfl (lv_at hl 1 rfl) ?_
  refine lv_if_lt (tgt := 17) hx hb dX5_fragmentAt_2 (by decide) (fun c_2_1 => ?_) (fun c_2_1 => ?_)
  · skip
    have nj : ¬ ∃ j : Nat, j < rwL F ∧ nI j = x0 := by
      rintro ⟨j, hj, rfl⟩
      exact nI_pos (by omega) c_2_1
    refine lv_iconst (v := nI 0) hx hb dX5_fragmentAt_17 (by decide) ?_
    refine call_iVW (As := [.int (nI (0))]) (rest := []) ⟨hx, hb, hml, hown, hts⟩ (c_X5_asked_0 l g h a (nI (rwL SL)) (nI n) (nI ll) (nI np) tu la wi (nI (rwL F)) th fS fL fN fK fF fW fE fC fG fO ) (cwV 1 hts gX5_fragmentAt_X5_asked rfl rfl rfl (by decide +kernel) ⟨Nat.le_of_ble_eq_true rfl, Nat.le_of_ble_eq_true rfl⟩) hP hK hD hS hA 0 rfl rfl rfl rfl hl.1 rfl (Nat.le_of_ble_eq_true rfl) dX5_fragmentAt_18 ⟨Nat.le_refl _, Nat.le_refl _⟩ (fun r_18 w H locs h_18 hP hD hS => ?_)
    obtain ⟨h_18, rfl⟩ := h_18
    replace h_18 := h_18.symm
    subst h_18
    have hP : va_P g.1 vwCl (MW g h a (nI (rwL SL)) (nI n) (nI ll) (nI np) tu la wi (nI (rwL F)) (nI 1) fS fL fN fK fF fW fE fC fG fO) H := hP
    have hD : va_D A (MW g h a (nI (rwL SL)) (nI n) (nI ll) (nI np) tu la wi (nI (rwL F)) (nI 1) fS fL fN fK fF fW fE fC fG fO) := hD
    refine lv_if_eq (tgt := 33) hx hb dX5_fragmentAt_21 (by decide) (fun c_21_2 => ?_) (fun c_21_2 => absurd (by decide) c_21_2)
    refine lv_iconst (v := nI 0) hx hb dX5_fragmentAt_33 (by decide) ?_
    exact hret (nI (0)) (MW g h a (nI (rwL SL)) (nI n) (nI ll) (nI np) tu la wi (nI (rwL F)) (nI 1) fS fL fN fK fF fW fE fC fG fO) _ _ _ _ dX5_fragmentAt_34 (Or.inr ⟨nj, rfl⟩) hP hD hS
  · skip
    refine lv_iload_n hx hb dX5_fragmentAt_5 rfl (lv_at hl 1 rfl) ?_
    refine lv_aload_n hx hb dX5_fragmentAt_6 rfl (lv_at hl 0 rfl) ?_
    refine va_get (D := g.1) (ci := 3) (v := .int (nI (rwL F))) (C := RX5) (T := TX5) (N := 19) hx hb hts hi_3 hown hK hP 0 rfl rfl 12 (by decide) f_94 (fun _ h9 => h9) rfl dX5_fragmentAt_7 ?_
    refine lv_icmp_ge (tgt := 17) hx hb dX5_fragmentAt_10 (by decide) (fun c_10_3 => ?_) (fun c_10_3 => ?_)
    · skip
      have nj : ¬ ∃ j : Nat, j < rwL F ∧ nI j = x0 := by
        rintro ⟨j, hj, rfl⟩
        have := (nI_leI (by omega) (by omega)).mp c_10_3
        omega
      refine lv_iconst (v := nI 0) hx hb dX5_fragmentAt_17 (by decide) ?_
      refine call_iVW (As := [.int (nI (0))]) (rest := []) ⟨hx, hb, hml, hown, hts⟩ (c_X5_asked_0 l g h a (nI (rwL SL)) (nI n) (nI ll) (nI np) tu la wi (nI (rwL F)) th fS fL fN fK fF fW fE fC fG fO ) (cwV 1 hts gX5_fragmentAt_X5_asked rfl rfl rfl (by decide +kernel) ⟨Nat.le_of_ble_eq_true rfl, Nat.le_of_ble_eq_true rfl⟩) hP hK hD hS hA 0 rfl rfl rfl rfl hl.1 rfl (Nat.le_of_ble_eq_true rfl) dX5_fragmentAt_18 ⟨Nat.le_refl _, Nat.le_refl _⟩ (fun r_18 w H locs h_18 hP hD hS => ?_)
      obtain ⟨h_18, rfl⟩ := h_18
      replace h_18 := h_18.symm
      subst h_18
      have hP : va_P g.1 vwCl (MW g h a (nI (rwL SL)) (nI n) (nI ll) (nI np) tu la wi (nI (rwL F)) (nI 1) fS fL fN fK fF fW fE fC fG fO) H := hP
      have hD : va_D A (MW g h a (nI (rwL SL)) (nI n) (nI ll) (nI np) tu la wi (nI (rwL F)) (nI 1) fS fL fN fK fF fW fE fC fG fO) := hD
      refine lv_if_eq (tgt := 33) hx hb dX5_fragmentAt_21 (by decide) (fun c_21_4 => ?_) (fun c_21_4 => absurd (by decide) c_21_4)
      refine lv_iconst (v := nI 0) hx hb dX5_fragmentAt_33 (by decide) ?_
      exact hret (nI (0)) (MW g h a (nI (rwL SL)) (nI n) (nI ll) (nI np) tu la wi (nI (rwL F)) (nI 1) fS fL fN fK fF fW fE fC fG fO) _ _ _ _ dX5_fragmentAt_34 (Or.inr ⟨nj, rfl⟩) hP hD hS
    · skip
      obtain ⟨j, hj, rfl⟩ : ∃ j : Nat, j < rwL F ∧ x0 = nI j := by
        rcases pk_ix x0 (n := rwL F) (by omega) with h | h | h
        · exact absurd h c_2_1
        · exact absurd h c_10_3
        · exact h
      refine lv_iconst (v := nI 1) hx hb dX5_fragmentAt_13 (by decide) ?_
      refine lv_goto (tgt := 18) hx hb dX5_fragmentAt_14 (by decide) ?_
      refine call_iVW (As := [.int (nI (1))]) (rest := []) ⟨hx, hb, hml, hown, hts⟩ (c_X5_asked_1 l g h a (nI (rwL SL)) (nI n) (nI ll) (nI np) tu la wi (nI (rwL F)) th fS fL fN fK fF fW fE fC fG fO ) (cwV 1 hts gX5_fragmentAt_X5_asked rfl rfl rfl (by decide +kernel) ⟨Nat.le_of_ble_eq_true rfl, Nat.le_of_ble_eq_true rfl⟩) hP hK hD hS hA 0 rfl rfl rfl rfl hl.1 rfl (Nat.le_of_ble_eq_true rfl) dX5_fragmentAt_18 ⟨Nat.le_refl _, Nat.le_refl _⟩ (fun r_18 w H locs h_18 hP hD hS => ?_)
      obtain ⟨h_18, rfl⟩ := h_18
      replace h_18 := h_18.symm
      subst h_18
      have hP : va_P g.1 vwCl (MW g h a (nI (rwL SL)) (nI n) (nI ll) (nI np) tu la wi (nI (rwL F)) (nI 0) fS fL fN fK fF fW fE fC fG fO) H := hP
      have hD : va_D A (MW g h a (nI (rwL SL)) (nI n) (nI ll) (nI np) tu la wi (nI (rwL F)) (nI 0) fS fL fN fK fF fW fE fC fG fO) := hD
      refine lv_if_eq (tgt := 33) hx hb dX5_fragmentAt_21 (by decide) (fun c_21_5 => absurd c_21_5 (by decide)) (fun c_21_5 => ?_)
      refine lv_aload_n hx hb dX5_fragmentAt_24 rfl (lv_at hl 0 rfl) ?_
      refine va_get (D := g.1) (ci := 3) (v := .ref (a 11)) (C := RX5) (T := TX5) (N := 19) hx hb hts hi_3 hown hK hP 0 rfl rfl 11 (by decide) f_29 (fun _ h9 => h9) rfl dX5_fragmentAt_25 ?_
      refine lv_iload_n hx hb dX5_fragmentAt_28 rfl (lv_at hl 1 rfl) ?_
      refine va_iald (n := 10) (f := fF) hx hb hK hP 5 0 rfl rfl (vp_in_nI (n := j) (by omega) (by decide)) dX5_fragmentAt_29 ?_
      refine tp_i (congrArg fF (nI_clamp (n := j) (by omega))) ?_
      refine tp_i (b := (nI (rwA F j))) (hfF j (by omega)) ?_
      refine lv_goto (tgt := 34) hx hb dX5_fragmentAt_30 (by decide) ?_
      exact hret (nI (rwA F j)) (MW g h a (nI (rwL SL)) (nI n) (nI ll) (nI np) tu la wi (nI (rwL F)) (nI 0) fS fL fN fK fF fW fE fC fG fO) _ _ _ _ dX5_fragmentAt_34 (Or.inl ⟨j, hj, rfl, rfl, rfl⟩) hP hD hS

abbrev rm_X5_strikes : Room := { frames := 1, cells := 0, slots := 0, locals := 21 }
set_option maxHeartbeats 4000000 in
set_option maxRecDepth 100000 in
theorem c_X5_strikes (l : Launch) (g : GG) (h : Nat) (a : Nat → Nat) (SL n ll np : Nat) (tu la wi : Int32) (F : Nat) (th : Int32) (fS fL fN fK fF fW fE fC fG fO : Nat → Int32) (D : Nat → Nat) (hDm : MD fL fN D n) (hn : n ≤ 50) (hSL : RV SL) (hfS : MRw fS SL) (hFr : RV F) (hfF : MRw fF F) (hll : ll ≤ 10) (hp : np ≤ 4) (K : Nat → Nat) (hk : GK fK K) (x0 : Int32) : Ci l yX5_strikes wsX5_strikes rm_X5_strikes g [.ref (h), .int (x0)] (MW g h a (nI (rwL SL)) (nI n) (nI ll) (nI np) tu la wi (nI (rwL F)) th fS fL fN fK fF fW fE fC fG fO) (fun r w => (∃ j : Nat, j < np ∧ nI j = x0 ∧ r = nI (K j) ∧ w = (MW g h a (nI (rwL SL)) (nI n) (nI ll) (nI np) tu la wi (nI (rwL F)) (nI 0) fS fL fN fK fF fW fE fC fG fO)) ∨ ((¬ ∃ j : Nat, j < np ∧ nI j = x0) ∧ w = (MW g h a (nI (rwL SL)) (nI n) (nI ll) (nI np) tu la wi (nI (rwL F)) (nI 1) fS fL fN fK fF fW fE fC fG fO))) := by
  refine Ci.ofI (cc := cX5_strikes) (maxL := 2) (by decide) rfl (Nat.le_of_ble_eq_true rfl) ?_
  intro p e s m args below meth c A Z hx hb hml hts hown hK hA hret H locs ls hP hD hS hl
  have f_23 := hts (.fieldLink RX5 23 "GhostGameModel" "strikes" "[I") (by decide +kernel)
  have f_88 := hts (.fieldLink RX5 88 "GhostGameModel" "players" "I") (by decide +kernel)
  have hi_3 : ∀ w ∈ wsX50, w ∈ wsX5_strikes := by decide +kernel
  have hl : lv_has ls 2 [(0, .ref (h)), (1, .int (x0))] := hl
  have hz1 := hSL.1
  have hz2 := hFr.1
  refine lv_aload_n hx hb dX5_strikes_0 rfl (lv_at hl 0 rfl) ?_
  refine lv_iload_n hx hb dX5_strikes_1 rfl (lv_at hl 1 rfl) ?_
  refine lv_if_lt (tgt := 17) hx hb dX5_strikes_2 (by decide) (fun c_2_1 => ?_) (fun c_2_1 => ?_)
  · skip
    have nj : ¬ ∃ j : Nat, j < np ∧ nI j = x0 := by
      rintro ⟨j, hj, rfl⟩
      exact nI_pos (by omega) c_2_1
    refine lv_iconst (v := nI 0) hx hb dX5_strikes_17 (by decide) ?_
    refine call_iVW (As := [.int (nI (0))]) (rest := []) ⟨hx, hb, hml, hown, hts⟩ (c_X5_asked_0 l g h a (nI (rwL SL)) (nI n) (nI ll) (nI np) tu la wi (nI (rwL F)) th fS fL fN fK fF fW fE fC fG fO ) (cwV 1 hts gX5_strikes_X5_asked rfl rfl rfl (by decide +kernel) ⟨Nat.le_of_ble_eq_true rfl, Nat.le_of_ble_eq_true rfl⟩) hP hK hD hS hA 0 rfl rfl rfl rfl hl.1 rfl (Nat.le_of_ble_eq_true rfl) dX5_strikes_18 ⟨Nat.le_refl _, Nat.le_refl _⟩ (fun r_18 w H locs h_18 hP hD hS => ?_)
    obtain ⟨h_18, rfl⟩ := h_18
    replace h_18 := h_18.symm
    subst h_18
    have hP : va_P g.1 vwCl (MW g h a (nI (rwL SL)) (nI n) (nI ll) (nI np) tu la wi (nI (rwL F)) (nI 1) fS fL fN fK fF fW fE fC fG fO) H := hP
    have hD : va_D A (MW g h a (nI (rwL SL)) (nI n) (nI ll) (nI np) tu la wi (nI (rwL F)) (nI 1) fS fL fN fK fF fW fE fC fG fO) := hD
    refine lv_if_eq (tgt := 33) hx hb dX5_strikes_21 (by decide) (fun c_21_2 => ?_) (fun c_21_2 => absurd (by decide) c_21_2)
    refine lv_iconst (v := nI 0) hx hb dX5_strikes_33 (by decide) ?_
    exact hret (nI (0)) (MW g h a (nI (rwL SL)) (nI n) (nI ll) (nI np) tu la wi (nI (rwL F)) (nI 1) fS fL fN fK fF fW fE fC fG fO) _ _ _ _ dX5_strikes_34 (Or.inr ⟨nj, rfl⟩) hP hD hS
  · skip
    refine lv_iload_n hx hb dX5_strikes_5 rfl (lv_at hl 1 rfl) ?_
    refine lv_aload_n hx hb dX5_strikes_6 rfl (lv_at hl 0 rfl) ?_
    refine va_get (D := g.1) (ci := 3) (v := .int (nI (np))) (C := RX5) (T := TX5) (N := 19) hx hb hts hi_3 hown hK hP 0 rfl rfl 6 (by decide) f_88 (fun _ h9 => h9) rfl dX5_strikes_7 ?_
    refine lv_icmp_ge (tgt := 17) hx hb dX5_strikes_10 (by decide) (fun c_10_3 => ?_) (fun c_10_3 => ?_)
    · skip
      have nj : ¬ ∃ j : Nat, j < np ∧ nI j = x0 := by
        rintro ⟨j, hj, rfl⟩
        have := (nI_leI (by omega) (by omega)).mp c_10_3
        omega
      refine lv_iconst (v := nI 0) hx hb dX5_strikes_17 (by decide) ?_
      refine call_iVW (As := [.int (nI (0))]) (rest := []) ⟨hx, hb, hml, hown, hts⟩ (c_X5_asked_0 l g h a (nI (rwL SL)) (nI n) (nI ll) (nI np) tu la wi (nI (rwL F)) th fS fL fN fK fF fW fE fC fG fO ) (cwV 1 hts gX5_strikes_X5_asked rfl rfl rfl (by decide +kernel) ⟨Nat.le_of_ble_eq_true rfl, Nat.le_of_ble_eq_true rfl⟩) hP hK hD hS hA 0 rfl rfl rfl rfl hl.1 rfl (Nat.le_of_ble_eq_true rfl) dX5_strikes_18 ⟨Nat.le_refl _, Nat.le_refl _⟩ (fun r_18 w H locs h_18 hP hD hS => ?_)
      obtain ⟨h_18, rfl⟩ := h_18
      replace h_18 := h_18.symm
      subst h_18
      have hP : va_P g.1 vwCl (MW g h a (nI (rwL SL)) (nI n) (nI ll) (nI np) tu la wi (nI (rwL F)) (nI 1) fS fL fN fK fF fW fE fC fG fO) H := hP
      have hD : va_D A (MW g h a (nI (rwL SL)) (nI n) (nI ll) (nI np) tu la wi (nI (rwL F)) (nI 1) fS fL fN fK fF fW fE fC fG fO) := hD
      refine lv_if_eq (tgt := 33) hx hb dX5_strikes_21 (by decide) (fun c_21_4 => ?_) (fun c_21_4 => absurd (by decide) c_21_4)
      refine lv_iconst (v := nI 0) hx hb dX5_strikes_33 (by decide) ?_
      exact hret (nI (0)) (MW g h a (nI (rwL SL)) (nI n) (nI ll) (nI np) tu la wi (nI (rwL F)) (nI 1) fS fL fN fK fF fW fE fC fG fO) _ _ _ _ dX5_strikes_34 (Or.inr ⟨nj, rfl⟩) hP hD hS
    · skip
      obtain ⟨j, hj, rfl⟩ : ∃ j : Nat, j < np ∧ x0 = nI j := by
        rcases pk_ix x0 (n := np) (by omega) with h | h | h
        · exact absurd h c_2_1
        · exact absurd h c_10_3
        · exact h
      refine lv_iconst (v := nI 1) hx hb dX5_strikes_13 (by decide) ?_
      refine lv_goto (tgt := 18) hx hb dX5_strikes_14 (by decide) ?_
      refine call_iVW (As := [.int (nI (1))]) (rest := []) ⟨hx, hb, hml, hown, hts⟩ (c_X5_asked_1 l g h a (nI (rwL SL)) (nI n) (nI ll) (nI np) tu la wi (nI (rwL F)) th fS fL fN fK fF fW fE fC fG fO ) (cwV 1 hts gX5_strikes_X5_asked rfl rfl rfl (by decide +kernel) ⟨Nat.le_of_ble_eq_true rfl, Nat.le_of_ble_eq_true rfl⟩) hP hK hD hS hA 0 rfl rfl rfl rfl hl.1 rfl (Nat.le_of_ble_eq_true rfl) dX5_strikes_18 ⟨Nat.le_refl _, Nat.le_refl _⟩ (fun r_18 w H locs h_18 hP hD hS => ?_)
      obtain ⟨h_18, rfl⟩ := h_18
      replace h_18 := h_18.symm
      subst h_18
      have hP : va_P g.1 vwCl (MW g h a (nI (rwL SL)) (nI n) (nI ll) (nI np) tu la wi (nI (rwL F)) (nI 0) fS fL fN fK fF fW fE fC fG fO) H := hP
      have hD : va_D A (MW g h a (nI (rwL SL)) (nI n) (nI ll) (nI np) tu la wi (nI (rwL F)) (nI 0) fS fL fN fK fF fW fE fC fG fO) := hD
      refine lv_if_eq (tgt := 33) hx hb dX5_strikes_21 (by decide) (fun c_21_5 => absurd c_21_5 (by decide)) (fun c_21_5 => ?_)
      refine lv_aload_n hx hb dX5_strikes_24 rfl (lv_at hl 0 rfl) ?_
      refine va_get (D := g.1) (ci := 3) (v := .ref (a 7)) (C := RX5) (T := TX5) (N := 19) hx hb hts hi_3 hown hK hP 0 rfl rfl 7 (by decide) f_23 (fun _ h9 => h9) rfl dX5_strikes_25 ?_
      refine lv_iload_n hx hb dX5_strikes_28 rfl (lv_at hl 1 rfl) ?_
      refine va_iald (n := 4) (f := fK) hx hb hK hP 4 0 rfl rfl (vp_in_nI (n := j) (by omega) (by decide)) dX5_strikes_29 ?_
      refine tp_i (congrArg fK (nI_clamp (n := j) (by omega))) ?_
      refine tp_i (b := (nI (K j))) ((hk j (by omega)).1) ?_
      refine lv_goto (tgt := 34) hx hb dX5_strikes_30 (by decide) ?_
      exact hret (nI (K j)) (MW g h a (nI (rwL SL)) (nI n) (nI ll) (nI np) tu la wi (nI (rwL F)) (nI 0) fS fL fN fK fF fW fE fC fG fO) _ _ _ _ dX5_strikes_34 (Or.inl ⟨j, hj, rfl, rfl, rfl⟩) hP hD hS

abbrev rm_X5_addWord : Room := { frames := 2, cells := 0, slots := 0, locals := 47 }
set_option maxHeartbeats 4000000 in
set_option maxRecDepth 100000 in
theorem c_X5_addWord (l : Launch) (g : GG) (h : Nat) (a : Nat → Nat) (SL n ll np : Nat) (tu la wi : Int32) (F : Nat) (th : Int32) (fS fL fN fK fF fW fE fC fG fO : Nat → Int32) (D : Nat → Nat) (hDm : MD fL fN D n) (hn : n ≤ 50) (hSL : RV SL) (hfS : MRw fS SL) (hFr : RV F) (hfF : MRw fF F) (hll : ll ≤ 10) (hp : np ≤ 4) : Ci l yX5_addWord wsX5_addWord rm_X5_addWord g [.ref (h)] (MW g h a (nI (rwL SL)) (nI n) (nI ll) (nI np) tu la wi (nI (rwL F)) th fS fL fN fK fF fW fE fC fG fO) (fun r w => (2 ≤ rwL SL ∧ n < 50 ∧ (∀ j, j < n → D j ≠ SL) ∧ r = nI (n + 1) ∧ ∃ f9, w = (MW g h a (nI (rwL SL)) (nI (n + 1)) (nI ll) (nI np) tu la wi (nI (rwL F)) (nI 0) fS f9 (upd fN n (nI (rwL SL))) fK fF fW fE fC fG fO) ∧ MD f9 (upd fN n (nI (rwL SL))) (adD D n SL) (n + 1)) ∨ (¬ 2 ≤ rwL SL ∧ w = (MW g h a (nI (rwL SL)) (nI n) (nI ll) (nI np) tu la wi (nI (rwL F)) (nI 1) fS fL fN fK fF fW fE fC fG fO)) ∨ (2 ≤ rwL SL ∧ (50 ≤ n ∨ ∃ j, j < n ∧ D j = SL) ∧ w = (MW g h a (nI (rwL SL)) (nI n) (nI ll) (nI np) tu la wi (nI (rwL F)) (nI 2) fS fL fN fK fF fW fE fC fG fO))) := by
  refine Ci.ofI (cc := cX5_addWord) (maxL := 2) (by decide) rfl (Nat.le_of_ble_eq_true rfl) ?_
  intro p e s m args below meth c A Z hx hb hml hts hown hK hA hret H locs ls hP hD hS hl
  have f_7 := hts (.fieldLink RX5 7 "GhostGameModel" "slip" "[I") (by decide +kernel)
  have f_13 := hts (.fieldLink RX5 13 "GhostGameModel" "letters" "[I") (by decide +kernel)
  have f_16 := hts (.fieldLink RX5 16 "GhostGameModel" "length" "[I") (by decide +kernel)
  have f_51 := hts (.fieldLink RX5 51 "GhostGameModel" "words" "I") (by decide +kernel)
  have f_54 := hts (.fieldLink RX5 54 "GhostGameModel" "slipLength" "I") (by decide +kernel)
  have hi_3 : ∀ w ∈ wsX50, w ∈ wsX5_addWord := by decide +kernel
  have hl : lv_has ls 2 [(0, .ref (h))] := hl
  have hz1 := hSL.1
  have hz2 := hFr.1
  refine lv_aload_n hx hb dX5_addWord_0 rfl (lv_at hl 0 rfl) ?_
  refine lv_aload_n hx hb dX5_addWord_1 rfl (lv_at hl 0 rfl) ?_
  refine va_get (D := g.1) (ci := 3) (v := .int (nI (rwL SL))) (C := RX5) (T := TX5) (N := 19) hx hb hts hi_3 hown hK hP 0 rfl rfl 1 (by decide) f_54 (fun _ h9 => h9) rfl dX5_addWord_2 ?_
  refine lv_iconst (v := nI 2) hx hb dX5_addWord_5 (by decide) ?_
  refine lv_icmp_lt (tgt := 13) hx hb dX5_addWord_6 (by decide) (fun c_6_1 => ?_) (fun c_6_1 => ?_)
  · skip
    have n_6_1 : rwL SL < 2 := (nI_ltI (a := rwL SL) (b := 2) (by omega) (by omega)).mp c_6_1
    refine lv_iconst (v := nI 0) hx hb dX5_addWord_13 (by decide) ?_
    refine lv_aload_n hx hb dX5_addWord_14 rfl (lv_at hl 0 rfl) ?_
    refine va_get (D := g.1) (ci := 3) (v := .int (nI (n))) (C := RX5) (T := TX5) (N := 19) hx hb hts hi_3 hown hK hP 0 rfl rfl 4 (by decide) f_51 (fun _ h9 => h9) rfl dX5_addWord_15 ?_
    refine lv_bipush (v := nI 50) hx hb dX5_addWord_18 (by decide) ?_
    refine lv_icmp_ge (tgt := 35) hx hb dX5_addWord_20 (by decide) (fun c_20_2 => ?_) (fun c_20_2 => ?_)
    · skip
      have n_20_2 : 50 ≤ n := (nI_leI (a := 50) (b := n) (by omega) (by omega)).mp c_20_2
      refine lv_iconst (v := nI 0) hx hb dX5_addWord_35 (by decide) ?_
      refine call_iVW (As := [.int (nI (0)), .int (nI (0))]) (rest := []) ⟨hx, hb, hml, hown, hts⟩ (c_X5_asked__00 l g h a (nI (rwL SL)) (nI n) (nI ll) (nI np) tu la wi (nI (rwL F)) th fS fL fN fK fF fW fE fC fG fO ) (cwV 2 hts gX5_addWord_X5_asked_ rfl rfl rfl (by decide +kernel) ⟨Nat.le_of_ble_eq_true rfl, Nat.le_of_ble_eq_true rfl⟩) hP hK hD hS hA 0 rfl rfl rfl rfl hl.1 rfl (Nat.le_of_ble_eq_true rfl) dX5_addWord_36 ⟨Nat.le_refl _, Nat.le_refl _⟩ (fun r_36 w H locs h_36 hP hD hS => ?_)
      obtain ⟨h_36, rfl⟩ := h_36
      replace h_36 := h_36.symm
      subst h_36
      have hP : va_P g.1 vwCl (MW g h a (nI (rwL SL)) (nI n) (nI ll) (nI np) tu la wi (nI (rwL F)) (nI 1) fS fL fN fK fF fW fE fC fG fO) H := hP
      have hD : va_D A (MW g h a (nI (rwL SL)) (nI n) (nI ll) (nI np) tu la wi (nI (rwL F)) (nI 1) fS fL fN fK fF fW fE fC fG fO) := hD
      refine lv_if_ne (tgt := 44) hx hb dX5_addWord_39 (by decide) (fun c_39_3 => absurd (by decide) c_39_3) (fun c_39_3 => ?_)
      refine lv_iconst (v := nI 0) hx hb dX5_addWord_42 (by decide) ?_
      exact hret (nI (0)) (MW g h a (nI (rwL SL)) (nI n) (nI ll) (nI np) tu la wi (nI (rwL F)) (nI 1) fS fL fN fK fF fW fE fC fG fO) _ _ _ _ dX5_addWord_43 (Or.inr (Or.inl ⟨by omega, rfl⟩)) hP hD hS
    · skip
      have n_20_2 : ¬ 50 ≤ n := fun q9 => c_20_2 ((nI_leI (a := 50) (b := n) (by omega) (by omega)).mpr q9)
      refine lv_aload_n hx hb dX5_addWord_23 rfl (lv_at hl 0 rfl) ?_
      refine call_iVW (As := []) (rest := [.int (nI (0)), .ref (h)]) ⟨hx, hb, hml, hown, hts⟩ (c_X5_found l g h a SL n ll np tu la wi F th fS fL fN fK fF fW fE fC fG fO D hDm hn hSL hfS hFr hfF hll hp) (cwV 0 hts gX5_addWord_X5_found rfl rfl rfl (by decide +kernel) ⟨Nat.le_of_ble_eq_true rfl, Nat.le_of_ble_eq_true rfl⟩) hP hK hD hS hA 0 rfl rfl rfl rfl hl.1 rfl (Nat.le_of_ble_eq_true rfl) dX5_addWord_24 ⟨Nat.le_refl _, Nat.le_refl _⟩ (fun r_24 w H locs h_24 hP hD hS => ?_)
      rcases h_24 with ⟨rfl, ⟨t, ht, hDt, rfl⟩ | ⟨nD, rfl⟩⟩
      · skip
        have hP : va_P g.1 vwCl (MW g h a (nI (rwL SL)) (nI n) (nI ll) (nI np) tu la wi (nI (rwL F)) th fS fL fN fK fF fW fE fC fG fO) H := hP
        have hD : va_D A (MW g h a (nI (rwL SL)) (nI n) (nI ll) (nI np) tu la wi (nI (rwL F)) th fS fL fN fK fF fW fE fC fG fO) := hD
        refine lv_iconst (v := -1) hx hb dX5_addWord_27 (by decide) ?_
        refine lv_icmp_ne (tgt := 35) hx hb dX5_addWord_28 (by decide) (fun c_28_4 => ?_) (fun c_28_4 => ?_)
        · skip
          refine lv_iconst (v := nI 0) hx hb dX5_addWord_35 (by decide) ?_
          refine call_iVW (As := [.int (nI (0)), .int (nI (0))]) (rest := []) ⟨hx, hb, hml, hown, hts⟩ (c_X5_asked__00 l g h a (nI (rwL SL)) (nI n) (nI ll) (nI np) tu la wi (nI (rwL F)) th fS fL fN fK fF fW fE fC fG fO ) (cwV 2 hts gX5_addWord_X5_asked_ rfl rfl rfl (by decide +kernel) ⟨Nat.le_of_ble_eq_true rfl, Nat.le_of_ble_eq_true rfl⟩) hP hK hD hS hA 0 rfl rfl rfl rfl hl.1 rfl (Nat.le_of_ble_eq_true rfl) dX5_addWord_36 ⟨Nat.le_refl _, Nat.le_refl _⟩ (fun r_36 w H locs h_36 hP hD hS => ?_)
          obtain ⟨h_36, rfl⟩ := h_36
          replace h_36 := h_36.symm
          subst h_36
          have hP : va_P g.1 vwCl (MW g h a (nI (rwL SL)) (nI n) (nI ll) (nI np) tu la wi (nI (rwL F)) (nI 1) fS fL fN fK fF fW fE fC fG fO) H := hP
          have hD : va_D A (MW g h a (nI (rwL SL)) (nI n) (nI ll) (nI np) tu la wi (nI (rwL F)) (nI 1) fS fL fN fK fF fW fE fC fG fO) := hD
          refine lv_if_ne (tgt := 44) hx hb dX5_addWord_39 (by decide) (fun c_39_5 => absurd (by decide) c_39_5) (fun c_39_5 => ?_)
          refine lv_iconst (v := nI 0) hx hb dX5_addWord_42 (by decide) ?_
          exact hret (nI (0)) (MW g h a (nI (rwL SL)) (nI n) (nI ll) (nI np) tu la wi (nI (rwL F)) (nI 1) fS fL fN fK fF fW fE fC fG fO) _ _ _ _ dX5_addWord_43 (Or.inr (Or.inl ⟨by omega, rfl⟩)) hP hD hS
        · skip
          exact absurd c_28_4 (nI_nem1 (by omega))
      · skip
        have hP : va_P g.1 vwCl (MW g h a (nI (rwL SL)) (nI n) (nI ll) (nI np) tu la wi (nI (rwL F)) th fS fL fN fK fF fW fE fC fG fO) H := hP
        have hD : va_D A (MW g h a (nI (rwL SL)) (nI n) (nI ll) (nI np) tu la wi (nI (rwL F)) th fS fL fN fK fF fW fE fC fG fO) := hD
        refine lv_iconst (v := -1) hx hb dX5_addWord_27 (by decide) ?_
        refine lv_icmp_ne (tgt := 35) hx hb dX5_addWord_28 (by decide) (fun c_28_6 => ?_) (fun c_28_6 => ?_)
        · skip
          exact absurd rfl c_28_6
        · skip
          refine lv_iconst (v := nI 1) hx hb dX5_addWord_31 (by decide) ?_
          refine lv_goto (tgt := 36) hx hb dX5_addWord_32 (by decide) ?_
          refine call_iVW (As := [.int (nI (0)), .int (nI (1))]) (rest := []) ⟨hx, hb, hml, hown, hts⟩ (c_X5_asked__01 l g h a (nI (rwL SL)) (nI n) (nI ll) (nI np) tu la wi (nI (rwL F)) th fS fL fN fK fF fW fE fC fG fO ) (cwV 2 hts gX5_addWord_X5_asked_ rfl rfl rfl (by decide +kernel) ⟨Nat.le_of_ble_eq_true rfl, Nat.le_of_ble_eq_true rfl⟩) hP hK hD hS hA 0 rfl rfl rfl rfl hl.1 rfl (Nat.le_of_ble_eq_true rfl) dX5_addWord_36 ⟨Nat.le_refl _, Nat.le_refl _⟩ (fun r_36 w H locs h_36 hP hD hS => ?_)
          obtain ⟨h_36, rfl⟩ := h_36
          replace h_36 := h_36.symm
          subst h_36
          have hP : va_P g.1 vwCl (MW g h a (nI (rwL SL)) (nI n) (nI ll) (nI np) tu la wi (nI (rwL F)) (nI 1) fS fL fN fK fF fW fE fC fG fO) H := hP
          have hD : va_D A (MW g h a (nI (rwL SL)) (nI n) (nI ll) (nI np) tu la wi (nI (rwL F)) (nI 1) fS fL fN fK fF fW fE fC fG fO) := hD
          refine lv_if_ne (tgt := 44) hx hb dX5_addWord_39 (by decide) (fun c_39_7 => absurd (by decide) c_39_7) (fun c_39_7 => ?_)
          refine lv_iconst (v := nI 0) hx hb dX5_addWord_42 (by decide) ?_
          exact hret (nI (0)) (MW g h a (nI (rwL SL)) (nI n) (nI ll) (nI np) tu la wi (nI (rwL F)) (nI 1) fS fL fN fK fF fW fE fC fG fO) _ _ _ _ dX5_addWord_43 (Or.inr (Or.inl ⟨by omega, rfl⟩)) hP hD hS
  · skip
    have n_6_1 : ¬ rwL SL < 2 := fun q9 => c_6_1 ((nI_ltI (a := rwL SL) (b := 2) (by omega) (by omega)).mpr q9)
    refine lv_iconst (v := nI 1) hx hb dX5_addWord_9 (by decide) ?_
    refine lv_goto (tgt := 14) hx hb dX5_addWord_10 (by decide) ?_
    refine lv_aload_n hx hb dX5_addWord_14 rfl (lv_at hl 0 rfl) ?_
    refine va_get (D := g.1) (ci := 3) (v := .int (nI (n))) (C := RX5) (T := TX5) (N := 19) hx hb hts hi_3 hown hK hP 0 rfl rfl 4 (by decide) f_51 (fun _ h9 => h9) rfl dX5_addWord_15 ?_
    refine lv_bipush (v := nI 50) hx hb dX5_addWord_18 (by decide) ?_
    refine lv_icmp_ge (tgt := 35) hx hb dX5_addWord_20 (by decide) (fun c_20_8 => ?_) (fun c_20_8 => ?_)
    · skip
      have n_20_8 : 50 ≤ n := (nI_leI (a := 50) (b := n) (by omega) (by omega)).mp c_20_8
      refine lv_iconst (v := nI 0) hx hb dX5_addWord_35 (by decide) ?_
      refine call_iVW (As := [.int (nI (1)), .int (nI (0))]) (rest := []) ⟨hx, hb, hml, hown, hts⟩ (c_X5_asked__10 l g h a (nI (rwL SL)) (nI n) (nI ll) (nI np) tu la wi (nI (rwL F)) th fS fL fN fK fF fW fE fC fG fO ) (cwV 2 hts gX5_addWord_X5_asked_ rfl rfl rfl (by decide +kernel) ⟨Nat.le_of_ble_eq_true rfl, Nat.le_of_ble_eq_true rfl⟩) hP hK hD hS hA 0 rfl rfl rfl rfl hl.1 rfl (Nat.le_of_ble_eq_true rfl) dX5_addWord_36 ⟨Nat.le_refl _, Nat.le_refl _⟩ (fun r_36 w H locs h_36 hP hD hS => ?_)
      obtain ⟨h_36, rfl⟩ := h_36
      replace h_36 := h_36.symm
      subst h_36
      have hP : va_P g.1 vwCl (MW g h a (nI (rwL SL)) (nI n) (nI ll) (nI np) tu la wi (nI (rwL F)) (nI 2) fS fL fN fK fF fW fE fC fG fO) H := hP
      have hD : va_D A (MW g h a (nI (rwL SL)) (nI n) (nI ll) (nI np) tu la wi (nI (rwL F)) (nI 2) fS fL fN fK fF fW fE fC fG fO) := hD
      refine lv_if_ne (tgt := 44) hx hb dX5_addWord_39 (by decide) (fun c_39_9 => absurd (by decide) c_39_9) (fun c_39_9 => ?_)
      refine lv_iconst (v := nI 0) hx hb dX5_addWord_42 (by decide) ?_
      exact hret (nI (0)) (MW g h a (nI (rwL SL)) (nI n) (nI ll) (nI np) tu la wi (nI (rwL F)) (nI 2) fS fL fN fK fF fW fE fC fG fO) _ _ _ _ dX5_addWord_43 (Or.inr (Or.inr ⟨by omega, Or.inl (by omega), rfl⟩)) hP hD hS
    · skip
      have n_20_8 : ¬ 50 ≤ n := fun q9 => c_20_8 ((nI_leI (a := 50) (b := n) (by omega) (by omega)).mpr q9)
      refine lv_aload_n hx hb dX5_addWord_23 rfl (lv_at hl 0 rfl) ?_
      refine call_iVW (As := []) (rest := [.int (nI (1)), .ref (h)]) ⟨hx, hb, hml, hown, hts⟩ (c_X5_found l g h a SL n ll np tu la wi F th fS fL fN fK fF fW fE fC fG fO D hDm hn hSL hfS hFr hfF hll hp) (cwV 0 hts gX5_addWord_X5_found rfl rfl rfl (by decide +kernel) ⟨Nat.le_of_ble_eq_true rfl, Nat.le_of_ble_eq_true rfl⟩) hP hK hD hS hA 0 rfl rfl rfl rfl hl.1 rfl (Nat.le_of_ble_eq_true rfl) dX5_addWord_24 ⟨Nat.le_refl _, Nat.le_refl _⟩ (fun r_24 w H locs h_24 hP hD hS => ?_)
      rcases h_24 with ⟨rfl, ⟨t, ht, hDt, rfl⟩ | ⟨nD, rfl⟩⟩
      · skip
        have hP : va_P g.1 vwCl (MW g h a (nI (rwL SL)) (nI n) (nI ll) (nI np) tu la wi (nI (rwL F)) th fS fL fN fK fF fW fE fC fG fO) H := hP
        have hD : va_D A (MW g h a (nI (rwL SL)) (nI n) (nI ll) (nI np) tu la wi (nI (rwL F)) th fS fL fN fK fF fW fE fC fG fO) := hD
        refine lv_iconst (v := -1) hx hb dX5_addWord_27 (by decide) ?_
        refine lv_icmp_ne (tgt := 35) hx hb dX5_addWord_28 (by decide) (fun c_28_10 => ?_) (fun c_28_10 => ?_)
        · skip
          refine lv_iconst (v := nI 0) hx hb dX5_addWord_35 (by decide) ?_
          refine call_iVW (As := [.int (nI (1)), .int (nI (0))]) (rest := []) ⟨hx, hb, hml, hown, hts⟩ (c_X5_asked__10 l g h a (nI (rwL SL)) (nI n) (nI ll) (nI np) tu la wi (nI (rwL F)) th fS fL fN fK fF fW fE fC fG fO ) (cwV 2 hts gX5_addWord_X5_asked_ rfl rfl rfl (by decide +kernel) ⟨Nat.le_of_ble_eq_true rfl, Nat.le_of_ble_eq_true rfl⟩) hP hK hD hS hA 0 rfl rfl rfl rfl hl.1 rfl (Nat.le_of_ble_eq_true rfl) dX5_addWord_36 ⟨Nat.le_refl _, Nat.le_refl _⟩ (fun r_36 w H locs h_36 hP hD hS => ?_)
          obtain ⟨h_36, rfl⟩ := h_36
          replace h_36 := h_36.symm
          subst h_36
          have hP : va_P g.1 vwCl (MW g h a (nI (rwL SL)) (nI n) (nI ll) (nI np) tu la wi (nI (rwL F)) (nI 2) fS fL fN fK fF fW fE fC fG fO) H := hP
          have hD : va_D A (MW g h a (nI (rwL SL)) (nI n) (nI ll) (nI np) tu la wi (nI (rwL F)) (nI 2) fS fL fN fK fF fW fE fC fG fO) := hD
          refine lv_if_ne (tgt := 44) hx hb dX5_addWord_39 (by decide) (fun c_39_11 => absurd (by decide) c_39_11) (fun c_39_11 => ?_)
          refine lv_iconst (v := nI 0) hx hb dX5_addWord_42 (by decide) ?_
          exact hret (nI (0)) (MW g h a (nI (rwL SL)) (nI n) (nI ll) (nI np) tu la wi (nI (rwL F)) (nI 2) fS fL fN fK fF fW fE fC fG fO) _ _ _ _ dX5_addWord_43 (Or.inr (Or.inr ⟨by omega, Or.inr ⟨t, ht, hDt⟩, rfl⟩)) hP hD hS
        · skip
          exact absurd c_28_10 (nI_nem1 (by omega))
      · skip
        have hP : va_P g.1 vwCl (MW g h a (nI (rwL SL)) (nI n) (nI ll) (nI np) tu la wi (nI (rwL F)) th fS fL fN fK fF fW fE fC fG fO) H := hP
        have hD : va_D A (MW g h a (nI (rwL SL)) (nI n) (nI ll) (nI np) tu la wi (nI (rwL F)) th fS fL fN fK fF fW fE fC fG fO) := hD
        refine lv_iconst (v := -1) hx hb dX5_addWord_27 (by decide) ?_
        refine lv_icmp_ne (tgt := 35) hx hb dX5_addWord_28 (by decide) (fun c_28_12 => ?_) (fun c_28_12 => ?_)
        · skip
          exact absurd rfl c_28_12
        · skip
          refine lv_iconst (v := nI 1) hx hb dX5_addWord_31 (by decide) ?_
          refine lv_goto (tgt := 36) hx hb dX5_addWord_32 (by decide) ?_
          refine call_iVW (As := [.int (nI (1)), .int (nI (1))]) (rest := []) ⟨hx, hb, hml, hown, hts⟩ (c_X5_asked__11 l g h a (nI (rwL SL)) (nI n) (nI ll) (nI np) tu la wi (nI (rwL F)) th fS fL fN fK fF fW fE fC fG fO ) (cwV 2 hts gX5_addWord_X5_asked_ rfl rfl rfl (by decide +kernel) ⟨Nat.le_of_ble_eq_true rfl, Nat.le_of_ble_eq_true rfl⟩) hP hK hD hS hA 0 rfl rfl rfl rfl hl.1 rfl (Nat.le_of_ble_eq_true rfl) dX5_addWord_36 ⟨Nat.le_refl _, Nat.le_refl _⟩ (fun r_36 w H locs h_36 hP hD hS => ?_)
          obtain ⟨h_36, rfl⟩ := h_36
          replace h_36 := h_36.symm
          subst h_36
          have hP : va_P g.1 vwCl (MW g h a (nI (rwL SL)) (nI n) (nI ll) (nI np) tu la wi (nI (rwL F)) (nI 0) fS fL fN fK fF fW fE fC fG fO) H := hP
          have hD : va_D A (MW g h a (nI (rwL SL)) (nI n) (nI ll) (nI np) tu la wi (nI (rwL F)) (nI 0) fS fL fN fK fF fW fE fC fG fO) := hD
          refine lv_if_ne (tgt := 44) hx hb dX5_addWord_39 (by decide) (fun c_39_13 => ?_) (fun c_39_13 => absurd c_39_13 (by decide))
          refine lv_aload_n hx hb dX5_addWord_44 rfl (lv_at hl 0 rfl) ?_
          refine va_get (D := g.1) (ci := 3) (v := .ref (a 3)) (C := RX5) (T := TX5) (N := 19) hx hb hts hi_3 hown hK hP 0 rfl rfl 3 (by decide) f_16 (fun _ h9 => h9) rfl dX5_addWord_45 ?_
          refine lv_aload_n hx hb dX5_addWord_48 rfl (lv_at hl 0 rfl) ?_
          refine va_get (D := g.1) (ci := 3) (v := .int (nI (n))) (C := RX5) (T := TX5) (N := 19) hx hb hts hi_3 hown hK hP 0 rfl rfl 4 (by decide) f_51 (fun _ h9 => h9) rfl dX5_addWord_49 ?_
          refine lv_aload_n hx hb dX5_addWord_52 rfl (lv_at hl 0 rfl) ?_
          refine va_get (D := g.1) (ci := 3) (v := .int (nI (rwL SL))) (C := RX5) (T := TX5) (N := 19) hx hb hts hi_3 hown hK hP 0 rfl rfl 1 (by decide) f_54 (fun _ h9 => h9) rfl dX5_addWord_53 ?_
          refine va_iast (n := 50) (f := fN) hx hb hK hP hD hS 3 0 rfl rfl (vp_in_nI (n := n) (by omega) (by decide)) dX5_addWord_56 (fun H locs hP hD hS => ?_)
          rw [nI_clamp (n := n) (by omega)] at hP hD
          have hP : va_P g.1 vwCl (MW g h a (nI (rwL SL)) (nI n) (nI ll) (nI np) tu la wi (nI (rwL F)) (nI 0) fS fL (upd fN n (nI (rwL SL))) fK fF fW fE fC fG fO) H := hP
          have hD : va_D A (MW g h a (nI (rwL SL)) (nI n) (nI ll) (nI np) tu la wi (nI (rwL F)) (nI 0) fS fL (upd fN n (nI (rwL SL))) fK fF fW fE fC fG fO) := hD
          refine lv_iconst (v := nI 0) hx hb dX5_addWord_57 (by decide) ?_
          refine lv_istore_n (lv' := [(1, .int (nI (0))), (0, .ref (h))]) hx hb dX5_addWord_58 rfl hl (by decide) rfl (fun ls hl => ?_)
          have L_59 : ∀ (fu : Nat) (i : Nat) (fc : Nat → Int32), rwL SL - i < fu → (i ≤ rwL SL) → (∀ j, j < i → fc (10 * n + j) = nI (rwA SL j)) → (∀ z, z < 10 * n → fc z = fL z) → ∀ (H : Heap) (locs : List Loc) (ls : Array Slot), va_P g.1 vwCl (MW g h a (nI (rwL SL)) (nI n) (nI ll) (nI np) tu la wi (nI (rwL F)) (nI 0) fS fc (upd fN n (nI (rwL SL))) fK fF fW fE fC fG fO) H → va_D A (MW g h a (nI (rwL SL)) (nI n) (nI ll) (nI np) tu la wi (nI (rwL F)) (nI 0) fS fc (upd fN n (nI (rwL SL))) fK fF fW fE fC fG fO) → va_S A s.heap H locs → lv_has ls 2 [(0, .ref (h)), (1, .int (nI (i)))] → W p l e rm_X5_addWord s m args below meth c H locs 0 0 Z (F0 m 59 ls []) := by
            intro fu
            induction fu with
            | zero => intro _ _ h0; exact absurd h0 (Nat.not_lt_zero _)
            | succ fu ih_59 =>
              intro i fc hfu hi1 h1 h2 H locs ls hP hD hS hl
              refine lv_iload_n hx hb dX5_addWord_59 rfl (lv_at hl 1 rfl) ?_
              refine lv_aload_n hx hb dX5_addWord_60 rfl (lv_at hl 0 rfl) ?_
              refine va_get (D := g.1) (ci := 3) (v := .int (nI (rwL SL))) (C := RX5) (T := TX5) (N := 19) hx hb hts hi_3 hown hK hP 0 rfl rfl 1 (by decide) f_54 (fun _ h9 => h9) rfl dX5_addWord_61 ?_
              refine lv_icmp_ge (tgt := 93) hx hb dX5_addWord_64 (by decide) (fun c_64_14 => ?_) (fun c_64_14 => ?_)
              · skip
                have n_64_14 : rwL SL ≤ i := (nI_leI (a := rwL SL) (b := i) (by omega) (by omega)).mp c_64_14
                refine lv_aload_n hx hb dX5_addWord_93 rfl (lv_at hl 0 rfl) ?_
                refine lv_dup hx hb dX5_addWord_94 rfl ?_
                refine va_get (D := g.1) (ci := 3) (v := .int (nI (n))) (C := RX5) (T := TX5) (N := 19) hx hb hts hi_3 hown hK hP 0 rfl rfl 4 (by decide) f_51 (fun _ h9 => h9) rfl dX5_addWord_95 ?_
                refine lv_iconst (v := nI 1) hx hb dX5_addWord_98 (by decide) ?_
                refine lv_iadd hx hb dX5_addWord_99 ?_
                refine tp_i (nI_add n 1) ?_
                refine va_put (D := g.1) (ci := 3) (v := .int (nI (n + 1))) (ty := .int) (C := RX5) (T := TX5) (N := 19) hx hb hts hi_3 tyX5 tyX5_ok nmX5 hown hK hP hD hS 0 rfl rfl 4 (by decide) f_51 (fun _ h9 => h9) rfl (by decide +kernel) rfl rfl (Nat.le_of_ble_eq_true rfl) dX5_addWord_100 (fun H locs hP hD hS => ?_)
                have hP : va_P g.1 vwCl (MW g h a (nI (rwL SL)) (nI (n + 1)) (nI ll) (nI np) tu la wi (nI (rwL F)) (nI 0) fS fc (upd fN n (nI (rwL SL))) fK fF fW fE fC fG fO) H := hP
                have hD : va_D A (MW g h a (nI (rwL SL)) (nI (n + 1)) (nI ll) (nI np) tu la wi (nI (rwL F)) (nI 0) fS fc (upd fN n (nI (rwL SL))) fK fF fW fE fC fG fO) := hD
                refine lv_aload_n hx hb dX5_addWord_103 rfl (lv_at hl 0 rfl) ?_
                refine va_get (D := g.1) (ci := 3) (v := .int (nI (n + 1))) (C := RX5) (T := TX5) (N := 19) hx hb hts hi_3 hown hK hP 0 rfl rfl 4 (by decide) f_51 (fun _ h9 => h9) rfl dX5_addWord_104 ?_
                exact hret (nI (n + 1)) (MW g h a (nI (rwL SL)) (nI (n + 1)) (nI ll) (nI np) tu la wi (nI (rwL F)) (nI 0) fS fc (upd fN n (nI (rwL SL))) fK fF fW fE fC fG fO) _ _ _ _ dX5_addWord_107 (Or.inl ⟨by omega, by omega, nD, rfl, fc, rfl, hDm.add hSL (fun j hj => h1 j (by omega)) h2⟩) hP hD hS
              · skip
                have n_64_14 : ¬ rwL SL ≤ i := fun q9 => c_64_14 ((nI_leI (a := rwL SL) (b := i) (by omega) (by omega)).mpr q9)
                refine lv_aload_n hx hb dX5_addWord_67 rfl (lv_at hl 0 rfl) ?_
                refine va_get (D := g.1) (ci := 3) (v := .ref (a 2)) (C := RX5) (T := TX5) (N := 19) hx hb hts hi_3 hown hK hP 0 rfl rfl 2 (by decide) f_13 (fun _ h9 => h9) rfl dX5_addWord_68 ?_
                refine lv_bipush (v := nI 10) hx hb dX5_addWord_71 (by decide) ?_
                refine lv_aload_n hx hb dX5_addWord_73 rfl (lv_at hl 0 rfl) ?_
                refine va_get (D := g.1) (ci := 3) (v := .int (nI (n))) (C := RX5) (T := TX5) (N := 19) hx hb hts hi_3 hown hK hP 0 rfl rfl 4 (by decide) f_51 (fun _ h9 => h9) rfl dX5_addWord_74 ?_
                refine lv_imul hx hb dX5_addWord_77 ?_
                refine tp_i (pk_mul 10 n) ?_
                refine lv_iload_n hx hb dX5_addWord_78 rfl (lv_at hl 1 rfl) ?_
                refine lv_iadd hx hb dX5_addWord_79 ?_
                refine tp_i (nI_add (10 * n) i) ?_
                refine lv_aload_n hx hb dX5_addWord_80 rfl (lv_at hl 0 rfl) ?_
                refine va_get (D := g.1) (ci := 3) (v := .ref (a 0)) (C := RX5) (T := TX5) (N := 19) hx hb hts hi_3 hown hK hP 0 rfl rfl 0 (by decide) f_7 (fun _ h9 => h9) rfl dX5_addWord_81 ?_
                refine lv_iload_n hx hb dX5_addWord_84 rfl (lv_at hl 1 rfl) ?_
                refine va_iald (n := 10) (f := fS) hx hb hK hP 1 0 rfl rfl (vp_in_nI (n := i) (by omega) (by decide)) dX5_addWord_85 ?_
                refine tp_i (congrArg fS (nI_clamp (n := i) (by omega))) ?_
                refine tp_i (b := (nI (rwA SL i))) (hfS i (by omega)) ?_
                refine va_iast (n := 500) (f := fc) hx hb hK hP hD hS 2 0 rfl rfl (vp_in_nI (n := (10 * n) + i) (by omega) (by decide)) dX5_addWord_86 (fun H locs hP hD hS => ?_)
                rw [nI_clamp (n := (10 * n) + i) (by omega)] at hP hD
                have hP : va_P g.1 vwCl (MW g h a (nI (rwL SL)) (nI n) (nI ll) (nI np) tu la wi (nI (rwL F)) (nI 0) fS (upd fc ((10 * n) + i) (nI (rwA SL i))) (upd fN n (nI (rwL SL))) fK fF fW fE fC fG fO) H := hP
                have hD : va_D A (MW g h a (nI (rwL SL)) (nI n) (nI ll) (nI np) tu la wi (nI (rwL F)) (nI 0) fS (upd fc ((10 * n) + i) (nI (rwA SL i))) (upd fN n (nI (rwL SL))) fK fF fW fE fC fG fO) := hD
                refine lv_iinc (v := (nI (i + 1))) (lv' := [(1, .int (nI (i + 1))), (0, .ref (h))]) hx hb dX5_addWord_87 hl (k := 1) rfl (nI_add (i) 1) (by decide) rfl (fun ls hl => ?_)
                refine lv_goto (tgt := 59) hx hb dX5_addWord_90 (by decide) ?_
                exact ih_59 (i + 1) (upd fc ((10 * n) + i) (nI (rwA SL i))) (by omega) (by omega) (cp_step (fL := fL) h1 _ rfl) (fun z hz => by rw [pk_un (by omega)]; exact h2 z hz) _ _ _ hP hD hS (lv_sub hl [1, 0] rfl)
          exact L_59 (_ + 1) 0 fL (Nat.lt_succ_self _) (Nat.zero_le _) (fun j hj => absurd hj (Nat.not_lt_zero _)) (fun _ _ => rfl) _ _ _ hP hD hS (lv_sub hl [1, 0] rfl)

abbrev rm_X5_removeWord : Room := { frames := 2, cells := 0, slots := 0, locals := 47 }
set_option maxHeartbeats 4000000 in
set_option maxRecDepth 100000 in
theorem c_X5_removeWord (l : Launch) (g : GG) (h : Nat) (a : Nat → Nat) (SL n ll np : Nat) (tu la wi : Int32) (F : Nat) (th : Int32) (fS fL fN fK fF fW fE fC fG fO : Nat → Int32) (D : Nat → Nat) (hDm : MD fL fN D n) (hn : n ≤ 50) (hSL : RV SL) (hfS : MRw fS SL) (hFr : RV F) (hfF : MRw fF F) (hll : ll ≤ 10) (hp : np ≤ 4) : Ci l yX5_removeWord wsX5_removeWord rm_X5_removeWord g [.ref (h)] (MW g h a (nI (rwL SL)) (nI n) (nI ll) (nI np) tu la wi (nI (rwL F)) th fS fL fN fK fF fW fE fC fG fO) (fun r w => (∃ t, t < n ∧ D t = SL ∧ r = nI (n - 1) ∧ ∃ f9, w = (MW g h a (nI (rwL SL)) (nI (n - 1)) (nI ll) (nI np) tu la wi (nI (rwL F)) (nI 0) fS f9 (upd fN t (nI (rwL (D (n - 1))))) fK fF fW fE fC fG fO) ∧ MD f9 (upd fN t (nI (rwL (D (n - 1))))) (rmD D n t) (n - 1)) ∨ ((∀ j, j < n → D j ≠ SL) ∧ w = (MW g h a (nI (rwL SL)) (nI n) (nI ll) (nI np) tu la wi (nI (rwL F)) (nI 1) fS fL fN fK fF fW fE fC fG fO))) := by
  refine Ci.ofI (cc := cX5_removeWord) (maxL := 3) (by decide) rfl (Nat.le_of_ble_eq_true rfl) ?_
  intro p e s m args below meth c A Z hx hb hml hts hown hK hA hret H locs ls hP hD hS hl
  have f_13 := hts (.fieldLink RX5 13 "GhostGameModel" "letters" "[I") (by decide +kernel)
  have f_16 := hts (.fieldLink RX5 16 "GhostGameModel" "length" "[I") (by decide +kernel)
  have f_51 := hts (.fieldLink RX5 51 "GhostGameModel" "words" "I") (by decide +kernel)
  have hi_3 : ∀ w ∈ wsX50, w ∈ wsX5_removeWord := by decide +kernel
  have hl : lv_has ls 3 [(0, .ref (h))] := hl
  have hz1 := hSL.1
  have hz2 := hFr.1
  refine lv_aload_n hx hb dX5_removeWord_0 rfl (lv_at hl 0 rfl) ?_
  refine call_iVW (As := []) (rest := []) ⟨hx, hb, hml, hown, hts⟩ (c_X5_found l g h a SL n ll np tu la wi F th fS fL fN fK fF fW fE fC fG fO D hDm hn hSL hfS hFr hfF hll hp) (cwV 0 hts gX5_removeWord_X5_found rfl rfl rfl (by decide +kernel) ⟨Nat.le_of_ble_eq_true rfl, Nat.le_of_ble_eq_true rfl⟩) hP hK hD hS hA 0 rfl rfl rfl rfl hl.1 rfl (Nat.le_of_ble_eq_true rfl) dX5_removeWord_1 ⟨Nat.le_refl _, Nat.le_refl _⟩ (fun r_1 w H locs h_1 hP hD hS => ?_)
  rcases h_1 with ⟨rfl, ⟨t, ht, hDt, rfl⟩ | ⟨nD, rfl⟩⟩
  · skip
    have hP : va_P g.1 vwCl (MW g h a (nI (rwL SL)) (nI n) (nI ll) (nI np) tu la wi (nI (rwL F)) th fS fL fN fK fF fW fE fC fG fO) H := hP
    have hD : va_D A (MW g h a (nI (rwL SL)) (nI n) (nI ll) (nI np) tu la wi (nI (rwL F)) th fS fL fN fK fF fW fE fC fG fO) := hD
    refine lv_istore_n (lv' := [(1, .int (nI (t))), (0, .ref (h))]) hx hb dX5_removeWord_4 rfl hl (by decide) rfl (fun ls hl => ?_)
    refine lv_aload_n hx hb dX5_removeWord_5 rfl (lv_at hl 1 rfl) ?_
    refine lv_iload_n hx hb dX5_removeWord_6 rfl (lv_at hl 0 rfl) ?_
    refine lv_iconst (v := -1) hx hb dX5_removeWord_7 (by decide) ?_
    refine lv_icmp_eq (tgt := 15) hx hb dX5_removeWord_8 (by decide) (fun c_8_1 => ?_) (fun c_8_1 => ?_)
    · skip
      exact absurd c_8_1 (nI_nem1 (by omega))
    · skip
      refine lv_iconst (v := nI 1) hx hb dX5_removeWord_11 (by decide) ?_
      refine lv_goto (tgt := 16) hx hb dX5_removeWord_12 (by decide) ?_
      refine call_iVW (As := [.int (nI (1))]) (rest := []) ⟨hx, hb, hml, hown, hts⟩ (c_X5_asked_1 l g h a (nI (rwL SL)) (nI n) (nI ll) (nI np) tu la wi (nI (rwL F)) th fS fL fN fK fF fW fE fC fG fO ) (cwV 1 hts gX5_removeWord_X5_asked rfl rfl rfl (by decide +kernel) ⟨Nat.le_of_ble_eq_true rfl, Nat.le_of_ble_eq_true rfl⟩) hP hK hD hS hA 0 rfl rfl rfl rfl hl.1 rfl (Nat.le_of_ble_eq_true rfl) dX5_removeWord_16 ⟨Nat.le_refl _, Nat.le_refl _⟩ (fun r_16 w H locs h_16 hP hD hS => ?_)
      obtain ⟨h_16, rfl⟩ := h_16
      replace h_16 := h_16.symm
      subst h_16
      have hP : va_P g.1 vwCl (MW g h a (nI (rwL SL)) (nI n) (nI ll) (nI np) tu la wi (nI (rwL F)) (nI 0) fS fL fN fK fF fW fE fC fG fO) H := hP
      have hD : va_D A (MW g h a (nI (rwL SL)) (nI n) (nI ll) (nI np) tu la wi (nI (rwL F)) (nI 0) fS fL fN fK fF fW fE fC fG fO) := hD
      refine lv_if_ne (tgt := 24) hx hb dX5_removeWord_19 (by decide) (fun c_19_2 => ?_) (fun c_19_2 => absurd c_19_2 (by decide))
      refine lv_aload_n hx hb dX5_removeWord_24 rfl (lv_at hl 1 rfl) ?_
      refine lv_dup hx hb dX5_removeWord_25 rfl ?_
      refine va_get (D := g.1) (ci := 3) (v := .int (nI (n))) (C := RX5) (T := TX5) (N := 19) hx hb hts hi_3 hown hK hP 0 rfl rfl 4 (by decide) f_51 (fun _ h9 => h9) rfl dX5_removeWord_26 ?_
      refine lv_iconst (v := nI 1) hx hb dX5_removeWord_29 (by decide) ?_
      refine lv_isub hx hb dX5_removeWord_30 ?_
      refine tp_i (pk_sub (a := n) (b := 1) (by omega)) ?_
      refine va_put (D := g.1) (ci := 3) (v := .int (nI (n - 1))) (ty := .int) (C := RX5) (T := TX5) (N := 19) hx hb hts hi_3 tyX5 tyX5_ok nmX5 hown hK hP hD hS 0 rfl rfl 4 (by decide) f_51 (fun _ h9 => h9) rfl (by decide +kernel) rfl rfl (Nat.le_of_ble_eq_true rfl) dX5_removeWord_31 (fun H locs hP hD hS => ?_)
      have hP : va_P g.1 vwCl (MW g h a (nI (rwL SL)) (nI (n - 1)) (nI ll) (nI np) tu la wi (nI (rwL F)) (nI 0) fS fL fN fK fF fW fE fC fG fO) H := hP
      have hD : va_D A (MW g h a (nI (rwL SL)) (nI (n - 1)) (nI ll) (nI np) tu la wi (nI (rwL F)) (nI 0) fS fL fN fK fF fW fE fC fG fO) := hD
      refine lv_aload_n hx hb dX5_removeWord_34 rfl (lv_at hl 1 rfl) ?_
      refine va_get (D := g.1) (ci := 3) (v := .ref (a 3)) (C := RX5) (T := TX5) (N := 19) hx hb hts hi_3 hown hK hP 0 rfl rfl 3 (by decide) f_16 (fun _ h9 => h9) rfl dX5_removeWord_35 ?_
      refine lv_iload_n hx hb dX5_removeWord_38 rfl (lv_at hl 0 rfl) ?_
      refine lv_aload_n hx hb dX5_removeWord_39 rfl (lv_at hl 1 rfl) ?_
      refine va_get (D := g.1) (ci := 3) (v := .ref (a 3)) (C := RX5) (T := TX5) (N := 19) hx hb hts hi_3 hown hK hP 0 rfl rfl 3 (by decide) f_16 (fun _ h9 => h9) rfl dX5_removeWord_40 ?_
      refine lv_aload_n hx hb dX5_removeWord_43 rfl (lv_at hl 1 rfl) ?_
      refine va_get (D := g.1) (ci := 3) (v := .int (nI (n - 1))) (C := RX5) (T := TX5) (N := 19) hx hb hts hi_3 hown hK hP 0 rfl rfl 4 (by decide) f_51 (fun _ h9 => h9) rfl dX5_removeWord_44 ?_
      refine va_iald (n := 50) (f := fN) hx hb hK hP 3 0 rfl rfl (vp_in_nI (n := n - 1) (by omega) (by decide)) dX5_removeWord_47 ?_
      refine tp_i (congrArg fN (nI_clamp (n := n - 1) (by omega))) ?_
      refine tp_i (b := (nI (rwL (D (n - 1))))) ((hDm (n - 1) (by omega)).2.1) ?_
      refine va_iast (n := 50) (f := fN) hx hb hK hP hD hS 3 0 rfl rfl (vp_in_nI (n := t) (by omega) (by decide)) dX5_removeWord_48 (fun H locs hP hD hS => ?_)
      rw [nI_clamp (n := t) (by omega)] at hP hD
      have hP : va_P g.1 vwCl (MW g h a (nI (rwL SL)) (nI (n - 1)) (nI ll) (nI np) tu la wi (nI (rwL F)) (nI 0) fS fL (upd fN t (nI (rwL (D (n - 1))))) fK fF fW fE fC fG fO) H := hP
      have hD : va_D A (MW g h a (nI (rwL SL)) (nI (n - 1)) (nI ll) (nI np) tu la wi (nI (rwL F)) (nI 0) fS fL (upd fN t (nI (rwL (D (n - 1))))) fK fF fW fE fC fG fO) := hD
      refine lv_iconst (v := nI 0) hx hb dX5_removeWord_49 (by decide) ?_
      refine lv_istore_n (lv' := [(2, .int (nI (0))), (1, .int (nI (t))), (0, .ref (h))]) hx hb dX5_removeWord_50 rfl hl (by decide) rfl (fun ls hl => ?_)
      have L_51 : ∀ (fu : Nat) (i : Nat) (fc : Nat → Int32), 10 - i < fu → (i ≤ 10) → (∀ j, j < i → fc (10 * t + j) = fL (10 * (n - 1) + j)) → (∀ z, (z < 10 * t ∨ 10 * t + i ≤ z) → fc z = fL z) → ∀ (H : Heap) (locs : List Loc) (ls : Array Slot), va_P g.1 vwCl (MW g h a (nI (rwL SL)) (nI (n - 1)) (nI ll) (nI np) tu la wi (nI (rwL F)) (nI 0) fS fc (upd fN t (nI (rwL (D (n - 1))))) fK fF fW fE fC fG fO) H → va_D A (MW g h a (nI (rwL SL)) (nI (n - 1)) (nI ll) (nI np) tu la wi (nI (rwL F)) (nI 0) fS fc (upd fN t (nI (rwL (D (n - 1))))) fK fF fW fE fC fG fO) → va_S A s.heap H locs → lv_has ls 3 [(0, .ref (h)), (1, .int (nI (t))), (2, .int (nI (i)))] → W p l e rm_X5_removeWord s m args below meth c H locs 0 0 Z (F0 m 51 ls []) := by
        intro fu
        induction fu with
        | zero => intro _ _ h0; exact absurd h0 (Nat.not_lt_zero _)
        | succ fu ih_51 =>
          intro i fc hfu hi1 h1 h2 H locs ls hP hD hS hl
          refine lv_iload_n hx hb dX5_removeWord_51 rfl (lv_at hl 2 rfl) ?_
          refine lv_bipush (v := nI 10) hx hb dX5_removeWord_52 (by decide) ?_
          refine lv_icmp_ge (tgt := 88) hx hb dX5_removeWord_54 (by decide) (fun c_54_3 => ?_) (fun c_54_3 => ?_)
          · skip
            have n_54_3 : 10 ≤ i := (nI_leI (a := 10) (b := i) (by omega) (by omega)).mp c_54_3
            refine lv_aload_n hx hb dX5_removeWord_88 rfl (lv_at hl 0 rfl) ?_
            refine va_get (D := g.1) (ci := 3) (v := .int (nI (n - 1))) (C := RX5) (T := TX5) (N := 19) hx hb hts hi_3 hown hK hP 0 rfl rfl 4 (by decide) f_51 (fun _ h9 => h9) rfl dX5_removeWord_89 ?_
            exact hret (nI (n - 1)) (MW g h a (nI (rwL SL)) (nI (n - 1)) (nI ll) (nI np) tu la wi (nI (rwL F)) (nI 0) fS fc (upd fN t (nI (rwL (D (n - 1))))) fK fF fW fE fC fG fO) _ _ _ _ dX5_removeWord_92 (Or.inl ⟨t, ht, hDt, rfl, fc, rfl, hDm.rem ht (fun j hj => h1 j (by omega)) (fun z hz => h2 z (by omega))⟩) hP hD hS
          · skip
            have n_54_3 : ¬ 10 ≤ i := fun q9 => c_54_3 ((nI_leI (a := 10) (b := i) (by omega) (by omega)).mpr q9)
            refine lv_aload_n hx hb dX5_removeWord_57 rfl (lv_at hl 0 rfl) ?_
            refine va_get (D := g.1) (ci := 3) (v := .ref (a 2)) (C := RX5) (T := TX5) (N := 19) hx hb hts hi_3 hown hK hP 0 rfl rfl 2 (by decide) f_13 (fun _ h9 => h9) rfl dX5_removeWord_58 ?_
            refine lv_bipush (v := nI 10) hx hb dX5_removeWord_61 (by decide) ?_
            refine lv_iload_n hx hb dX5_removeWord_63 rfl (lv_at hl 1 rfl) ?_
            refine lv_imul hx hb dX5_removeWord_64 ?_
            refine tp_i (pk_mul 10 t) ?_
            refine lv_iload_n hx hb dX5_removeWord_65 rfl (lv_at hl 2 rfl) ?_
            refine lv_iadd hx hb dX5_removeWord_66 ?_
            refine tp_i (nI_add (10 * t) i) ?_
            refine lv_aload_n hx hb dX5_removeWord_67 rfl (lv_at hl 0 rfl) ?_
            refine va_get (D := g.1) (ci := 3) (v := .ref (a 2)) (C := RX5) (T := TX5) (N := 19) hx hb hts hi_3 hown hK hP 0 rfl rfl 2 (by decide) f_13 (fun _ h9 => h9) rfl dX5_removeWord_68 ?_
            refine lv_bipush (v := nI 10) hx hb dX5_removeWord_71 (by decide) ?_
            refine lv_aload_n hx hb dX5_removeWord_73 rfl (lv_at hl 0 rfl) ?_
            refine va_get (D := g.1) (ci := 3) (v := .int (nI (n - 1))) (C := RX5) (T := TX5) (N := 19) hx hb hts hi_3 hown hK hP 0 rfl rfl 4 (by decide) f_51 (fun _ h9 => h9) rfl dX5_removeWord_74 ?_
            refine lv_imul hx hb dX5_removeWord_77 ?_
            refine tp_i (pk_mul 10 (n - 1)) ?_
            refine lv_iload_n hx hb dX5_removeWord_78 rfl (lv_at hl 2 rfl) ?_
            refine lv_iadd hx hb dX5_removeWord_79 ?_
            refine tp_i (nI_add (10 * (n - 1)) i) ?_
            refine va_iald (n := 500) (f := fc) hx hb hK hP 2 0 rfl rfl (vp_in_nI (n := (10 * (n - 1)) + i) (by omega) (by decide)) dX5_removeWord_80 ?_
            refine tp_i (congrArg fc (nI_clamp (n := (10 * (n - 1)) + i) (by omega))) ?_
            refine tp_i (b := (fL (10 * (n - 1) + i))) (h2 _ (by omega)) ?_
            refine va_iast (n := 500) (f := fc) hx hb hK hP hD hS 2 0 rfl rfl (vp_in_nI (n := (10 * t) + i) (by omega) (by decide)) dX5_removeWord_81 (fun H locs hP hD hS => ?_)
            rw [nI_clamp (n := (10 * t) + i) (by omega)] at hP hD
            have hP : va_P g.1 vwCl (MW g h a (nI (rwL SL)) (nI (n - 1)) (nI ll) (nI np) tu la wi (nI (rwL F)) (nI 0) fS (upd fc ((10 * t) + i) (fL (10 * (n - 1) + i))) (upd fN t (nI (rwL (D (n - 1))))) fK fF fW fE fC fG fO) H := hP
            have hD : va_D A (MW g h a (nI (rwL SL)) (nI (n - 1)) (nI ll) (nI np) tu la wi (nI (rwL F)) (nI 0) fS (upd fc ((10 * t) + i) (fL (10 * (n - 1) + i))) (upd fN t (nI (rwL (D (n - 1))))) fK fF fW fE fC fG fO) := hD
            refine lv_iinc (v := (nI (i + 1))) (lv' := [(2, .int (nI (i + 1))), (0, .ref (h)), (1, .int (nI (t)))]) hx hb dX5_removeWord_82 hl (k := 2) rfl (nI_add (i) 1) (by decide) rfl (fun ls hl => ?_)
            refine lv_goto (tgt := 51) hx hb dX5_removeWord_85 (by decide) ?_
            exact ih_51 (i + 1) (upd fc ((10 * t) + i) (fL (10 * (n - 1) + i))) (by omega) (by omega) (cp_step (fL := fL) (P := fun j => fL (10 * (n - 1) + j)) h1 _ rfl) (fun z hz => by rw [pk_un (by omega)]; exact h2 z (by omega)) _ _ _ hP hD hS (lv_sub hl [1, 2, 0] rfl)
      exact L_51 (_ + 1) 0 fL (Nat.lt_succ_self _) (by omega) (fun j hj => absurd hj (Nat.not_lt_zero _)) (fun _ _ => rfl) _ _ _ hP hD hS (lv_sub hl [2, 1, 0] rfl)
  · skip
    have hP : va_P g.1 vwCl (MW g h a (nI (rwL SL)) (nI n) (nI ll) (nI np) tu la wi (nI (rwL F)) th fS fL fN fK fF fW fE fC fG fO) H := hP
    have hD : va_D A (MW g h a (nI (rwL SL)) (nI n) (nI ll) (nI np) tu la wi (nI (rwL F)) th fS fL fN fK fF fW fE fC fG fO) := hD
    refine lv_istore_n (lv' := [(1, .int (-1)), (0, .ref (h))]) hx hb dX5_removeWord_4 rfl hl (by decide) rfl (fun ls hl => ?_)
    refine lv_aload_n hx hb dX5_removeWord_5 rfl (lv_at hl 1 rfl) ?_
    refine lv_iload_n hx hb dX5_removeWord_6 rfl (lv_at hl 0 rfl) ?_
    refine lv_iconst (v := -1) hx hb dX5_removeWord_7 (by decide) ?_
    refine lv_icmp_eq (tgt := 15) hx hb dX5_removeWord_8 (by decide) (fun c_8_4 => ?_) (fun c_8_4 => ?_)
    · skip
      refine lv_iconst (v := nI 0) hx hb dX5_removeWord_15 (by decide) ?_
      refine call_iVW (As := [.int (nI (0))]) (rest := []) ⟨hx, hb, hml, hown, hts⟩ (c_X5_asked_0 l g h a (nI (rwL SL)) (nI n) (nI ll) (nI np) tu la wi (nI (rwL F)) th fS fL fN fK fF fW fE fC fG fO ) (cwV 1 hts gX5_removeWord_X5_asked rfl rfl rfl (by decide +kernel) ⟨Nat.le_of_ble_eq_true rfl, Nat.le_of_ble_eq_true rfl⟩) hP hK hD hS hA 0 rfl rfl rfl rfl hl.1 rfl (Nat.le_of_ble_eq_true rfl) dX5_removeWord_16 ⟨Nat.le_refl _, Nat.le_refl _⟩ (fun r_16 w H locs h_16 hP hD hS => ?_)
      obtain ⟨h_16, rfl⟩ := h_16
      replace h_16 := h_16.symm
      subst h_16
      have hP : va_P g.1 vwCl (MW g h a (nI (rwL SL)) (nI n) (nI ll) (nI np) tu la wi (nI (rwL F)) (nI 1) fS fL fN fK fF fW fE fC fG fO) H := hP
      have hD : va_D A (MW g h a (nI (rwL SL)) (nI n) (nI ll) (nI np) tu la wi (nI (rwL F)) (nI 1) fS fL fN fK fF fW fE fC fG fO) := hD
      refine lv_if_ne (tgt := 24) hx hb dX5_removeWord_19 (by decide) (fun c_19_5 => absurd (by decide) c_19_5) (fun c_19_5 => ?_)
      refine lv_iconst (v := nI 0) hx hb dX5_removeWord_22 (by decide) ?_
      exact hret (nI (0)) (MW g h a (nI (rwL SL)) (nI n) (nI ll) (nI np) tu la wi (nI (rwL F)) (nI 1) fS fL fN fK fF fW fE fC fG fO) _ _ _ _ dX5_removeWord_23 (Or.inr ⟨nD, rfl⟩) hP hD hS
    · skip
      exact absurd rfl c_8_4

abbrev rm_X5_isWord : Room := { frames := 2, cells := 0, slots := 0, locals := 47 }
set_option maxHeartbeats 4000000 in
set_option maxRecDepth 100000 in
theorem c_X5_isWord (l : Launch) (g : GG) (h : Nat) (a : Nat → Nat) (SL n ll np : Nat) (tu la wi : Int32) (F : Nat) (th : Int32) (fS fL fN fK fF fW fE fC fG fO : Nat → Int32) (D : Nat → Nat) (hDm : MD fL fN D n) (hn : n ≤ 50) (hSL : RV SL) (hfS : MRw fS SL) (hFr : RV F) (hfF : MRw fF F) (hll : ll ≤ 10) (hp : np ≤ 4) : Ci l yX5_isWord wsX5_isWord rm_X5_isWord g [.ref (h)] (MW g h a (nI (rwL SL)) (nI n) (nI ll) (nI np) tu la wi (nI (rwL F)) th fS fL fN fK fF fW fE fC fG fO) (fun r w => w = (MW g h a (nI (rwL SL)) (nI n) (nI ll) (nI np) tu la wi (nI (rwL F)) (nI 0) fS fL fN fK fF fW fE fC fG fO) ∧ Bv r (∃ j, j < n ∧ D j = SL)) := by
  refine Ci.ofZ (cc := cX5_isWord) (maxL := 1) (by decide) rfl (Nat.le_of_ble_eq_true rfl) ?_
  intro p e s m args below meth c A Z hx hb hml hts hown hK hA hret H locs ls hP hD hS hl
  have f_48 := hts (.fieldLink RX5 48 "GhostGameModel" "thrown" "I") (by decide +kernel)
  have hi_3 : ∀ w ∈ wsX50, w ∈ wsX5_isWord := by decide +kernel
  have hl : lv_has ls 1 [(0, .ref (h))] := hl
  refine lv_aload_n hx hb dX5_isWord_0 rfl (lv_at hl 0 rfl) ?_
  refine lv_iconst (v := nI 0) hx hb dX5_isWord_1 (by decide) ?_
  refine va_put (D := g.1) (ci := 3) (v := .int (nI (0))) (ty := .int) (C := RX5) (T := TX5) (N := 19) hx hb hts hi_3 tyX5 tyX5_ok nmX5 hown hK hP hD hS 0 rfl rfl 18 (by decide) f_48 (fun _ h9 => h9) rfl (by decide +kernel) rfl rfl (Nat.le_of_ble_eq_true rfl) dX5_isWord_2 (fun H locs hP hD hS => ?_)
  have hP : va_P g.1 vwCl (MW g h a (nI (rwL SL)) (nI n) (nI ll) (nI np) tu la wi (nI (rwL F)) (nI 0) fS fL fN fK fF fW fE fC fG fO) H := hP
  have hD : va_D A (MW g h a (nI (rwL SL)) (nI n) (nI ll) (nI np) tu la wi (nI (rwL F)) (nI 0) fS fL fN fK fF fW fE fC fG fO) := hD
  refine lv_aload_n hx hb dX5_isWord_5 rfl (lv_at hl 0 rfl) ?_
  refine call_iVW (As := []) (rest := []) ⟨hx, hb, hml, hown, hts⟩ (c_X5_found l g h a SL n ll np tu la wi F (nI 0) fS fL fN fK fF fW fE fC fG fO D hDm hn hSL hfS hFr hfF hll hp) (cwV 0 hts gX5_isWord_X5_found rfl rfl rfl (by decide +kernel) ⟨Nat.le_of_ble_eq_true rfl, Nat.le_of_ble_eq_true rfl⟩) hP hK hD hS hA 0 rfl rfl rfl rfl hl.1 rfl (Nat.le_of_ble_eq_true rfl) dX5_isWord_6 ⟨Nat.le_refl _, Nat.le_refl _⟩ (fun r_6 w H locs h_6 hP hD hS => ?_)
  rcases h_6 with ⟨rfl, ⟨t, ht, hDt, rfl⟩ | ⟨nD, rfl⟩⟩
  · skip
    have hP : va_P g.1 vwCl (MW g h a (nI (rwL SL)) (nI n) (nI ll) (nI np) tu la wi (nI (rwL F)) (nI 0) fS fL fN fK fF fW fE fC fG fO) H := hP
    have hD : va_D A (MW g h a (nI (rwL SL)) (nI n) (nI ll) (nI np) tu la wi (nI (rwL F)) (nI 0) fS fL fN fK fF fW fE fC fG fO) := hD
    refine lv_iconst (v := -1) hx hb dX5_isWord_9 (by decide) ?_
    refine lv_icmp_eq (tgt := 17) hx hb dX5_isWord_10 (by decide) (fun c_10_1 => ?_) (fun c_10_1 => ?_)
    · skip
      exact absurd c_10_1 (nI_nem1 (by omega))
    · skip
      refine lv_iconst (v := nI 1) hx hb dX5_isWord_13 (by decide) ?_
      refine lv_goto (tgt := 18) hx hb dX5_isWord_14 (by decide) ?_
      exact hret (nI (1)) (MW g h a (nI (rwL SL)) (nI n) (nI ll) (nI np) tu la wi (nI (rwL F)) (nI 0) fS fL fN fK fF fW fE fC fG fO) _ _ _ _ dX5_isWord_18 (Or.inr rfl) (⟨rfl, Bv.yes ⟨t, ht, hDt⟩⟩) hP hD hS
  · skip
    have hP : va_P g.1 vwCl (MW g h a (nI (rwL SL)) (nI n) (nI ll) (nI np) tu la wi (nI (rwL F)) (nI 0) fS fL fN fK fF fW fE fC fG fO) H := hP
    have hD : va_D A (MW g h a (nI (rwL SL)) (nI n) (nI ll) (nI np) tu la wi (nI (rwL F)) (nI 0) fS fL fN fK fF fW fE fC fG fO) := hD
    refine lv_iconst (v := -1) hx hb dX5_isWord_9 (by decide) ?_
    refine lv_icmp_eq (tgt := 17) hx hb dX5_isWord_10 (by decide) (fun c_10_2 => ?_) (fun c_10_2 => ?_)
    · skip
      refine lv_iconst (v := nI 0) hx hb dX5_isWord_17 (by decide) ?_
      exact hret (nI (0)) (MW g h a (nI (rwL SL)) (nI n) (nI ll) (nI np) tu la wi (nI (rwL F)) (nI 0) fS fL fN fK fF fW fE fC fG fO) _ _ _ _ dX5_isWord_18 (Or.inl rfl) (⟨rfl, Bv.no (fun ⟨j, a, b⟩ => nD j a b)⟩) hP hD hS
    · skip
      exact absurd rfl c_10_2

abbrev rm_X5_wordsFromSlip : Room := { frames := 1, cells := 0, slots := 0, locals := 25 }
set_option maxHeartbeats 4000000 in
set_option maxRecDepth 100000 in
theorem c_X5_wordsFromSlip (l : Launch) (g : GG) (h : Nat) (a : Nat → Nat) (SL n ll np : Nat) (tu la wi : Int32) (F : Nat) (th : Int32) (fS fL fN fK fF fW fE fC fG fO : Nat → Int32) (D : Nat → Nat) (hDm : MD fL fN D n) (hn : n ≤ 50) (hSL : RV SL) (hfS : MRw fS SL) (hFr : RV F) (hfF : MRw fF F) (hll : ll ≤ 10) (hp : np ≤ 4) : Ci l yX5_wordsFromSlip wsX5_wordsFromSlip rm_X5_wordsFromSlip g [.ref (h)] (MW g h a (nI (rwL SL)) (nI n) (nI ll) (nI np) tu la wi (nI (rwL F)) th fS fL fN fK fF fW fE fC fG fO) (fun r w => r = nI (fb_ct (fun i => bgB (D i) SL) n) ∧ w = (MW g h a (nI (rwL SL)) (nI n) (nI ll) (nI np) tu la wi (nI (rwL F)) (nI 0) fS fL fN fK fF fW fE fC fG fO)) := by
  refine Ci.ofI (cc := cX5_wordsFromSlip) (maxL := 3) (by decide) rfl (Nat.le_of_ble_eq_true rfl) ?_
  intro p e s m args below meth c A Z hx hb hml hts hown hK hA hret H locs ls hP hD hS hl
  have f_7 := hts (.fieldLink RX5 7 "GhostGameModel" "slip" "[I") (by decide +kernel)
  have f_51 := hts (.fieldLink RX5 51 "GhostGameModel" "words" "I") (by decide +kernel)
  have f_54 := hts (.fieldLink RX5 54 "GhostGameModel" "slipLength" "I") (by decide +kernel)
  have hi_3 : ∀ w ∈ wsX50, w ∈ wsX5_wordsFromSlip := by decide +kernel
  have hl : lv_has ls 3 [(0, .ref (h))] := hl
  refine lv_iconst (v := nI 0) hx hb dX5_wordsFromSlip_0 (by decide) ?_
  refine lv_istore_n (lv' := [(1, .int (nI (0))), (0, .ref (h))]) hx hb dX5_wordsFromSlip_1 rfl hl (by decide) rfl (fun ls hl => ?_)
  refine lv_iconst (v := nI 0) hx hb dX5_wordsFromSlip_2 (by decide) ?_
  refine lv_istore_n (lv' := [(2, .int (nI (0))), (1, .int (nI (0))), (0, .ref (h))]) hx hb dX5_wordsFromSlip_3 rfl hl (by decide) rfl (fun ls hl => ?_)
  have L_4 : ∀ (fu : Nat) (c0 k : Nat), n - k < fu → (k ≤ n) → (c0 = fb_ct (fun i => bgB (D i) SL) k) → ∀ (H : Heap) (locs : List Loc) (ls : Array Slot), va_P g.1 vwCl (MW g h a (nI (rwL SL)) (nI n) (nI ll) (nI np) tu la wi (nI (rwL F)) th fS fL fN fK fF fW fE fC fG fO) H → va_D A (MW g h a (nI (rwL SL)) (nI n) (nI ll) (nI np) tu la wi (nI (rwL F)) th fS fL fN fK fF fW fE fC fG fO) → va_S A s.heap H locs → lv_has ls 3 [(0, .ref (h)), (1, .int (nI (c0))), (2, .int (nI (k)))] → W p l e rm_X5_wordsFromSlip s m args below meth c H locs 0 0 Z (F0 m 4 ls []) := by
    intro fu
    induction fu with
    | zero => intro _ _ h0; exact absurd h0 (Nat.not_lt_zero _)
    | succ fu ih_4 =>
      intro c0 k hfu hk1 hc1 H locs ls hP hD hS hl
      refine lv_iload_n hx hb dX5_wordsFromSlip_4 rfl (lv_at hl 2 rfl) ?_
      refine lv_aload_n hx hb dX5_wordsFromSlip_5 rfl (lv_at hl 0 rfl) ?_
      refine va_get (D := g.1) (ci := 3) (v := .int (nI (n))) (C := RX5) (T := TX5) (N := 19) hx hb hts hi_3 hown hK hP 0 rfl rfl 4 (by decide) f_51 (fun _ h9 => h9) rfl dX5_wordsFromSlip_6 ?_
      refine lv_icmp_ge (tgt := 42) hx hb dX5_wordsFromSlip_9 (by decide) (fun c_9_1 => ?_) (fun c_9_1 => ?_)
      · skip
        have n_9_1 : n ≤ k := (nI_leI (a := n) (b := k) (by omega) (by omega)).mp c_9_1
        refine lv_aload_n hx hb dX5_wordsFromSlip_42 rfl (lv_at hl 0 rfl) ?_
        refine lv_iload_n hx hb dX5_wordsFromSlip_43 rfl (lv_at hl 1 rfl) ?_
        refine call_iVW (As := [.int (nI (c0))]) (rest := []) ⟨hx, hb, hml, hown, hts⟩ (c_X5_told l g h a (nI (rwL SL)) (nI n) (nI ll) (nI np) tu la wi (nI (rwL F)) th fS fL fN fK fF fW fE fC fG fO (nI (c0))) (cwV 1 hts gX5_wordsFromSlip_X5_told rfl rfl rfl (by decide +kernel) ⟨Nat.le_of_ble_eq_true rfl, Nat.le_of_ble_eq_true rfl⟩) hP hK hD hS hA 0 rfl rfl rfl rfl hl.1 rfl (Nat.le_of_ble_eq_true rfl) dX5_wordsFromSlip_44 ⟨Nat.le_refl _, Nat.le_refl _⟩ (fun r_44 w H locs h_44 hP hD hS => ?_)
        obtain ⟨h_44, rfl⟩ := h_44
        replace h_44 := h_44.symm
        subst h_44
        have hP : va_P g.1 vwCl (MW g h a (nI (rwL SL)) (nI n) (nI ll) (nI np) tu la wi (nI (rwL F)) (nI 0) fS fL fN fK fF fW fE fC fG fO) H := hP
        have hD : va_D A (MW g h a (nI (rwL SL)) (nI n) (nI ll) (nI np) tu la wi (nI (rwL F)) (nI 0) fS fL fN fK fF fW fE fC fG fO) := hD
        exact hret (nI (c0)) (MW g h a (nI (rwL SL)) (nI n) (nI ll) (nI np) tu la wi (nI (rwL F)) (nI 0) fS fL fN fK fF fW fE fC fG fO) _ _ _ _ dX5_wordsFromSlip_47 (⟨by rw [hc1, show k = n by omega], rfl⟩) hP hD hS
      · skip
        have n_9_1 : ¬ n ≤ k := fun q9 => c_9_1 ((nI_leI (a := n) (b := k) (by omega) (by omega)).mpr q9)
        refine lv_iload_n hx hb dX5_wordsFromSlip_12 rfl (lv_at hl 1 rfl) ?_
        refine lv_aload_n hx hb dX5_wordsFromSlip_13 rfl (lv_at hl 0 rfl) ?_
        refine lv_iload_n hx hb dX5_wordsFromSlip_14 rfl (lv_at hl 2 rfl) ?_
        refine lv_aload_n hx hb dX5_wordsFromSlip_15 rfl (lv_at hl 0 rfl) ?_
        refine va_get (D := g.1) (ci := 3) (v := .ref (a 0)) (C := RX5) (T := TX5) (N := 19) hx hb hts hi_3 hown hK hP 0 rfl rfl 0 (by decide) f_7 (fun _ h9 => h9) rfl dX5_wordsFromSlip_16 ?_
        refine lv_aload_n hx hb dX5_wordsFromSlip_19 rfl (lv_at hl 0 rfl) ?_
        refine va_get (D := g.1) (ci := 3) (v := .int (nI (rwL SL))) (C := RX5) (T := TX5) (N := 19) hx hb hts hi_3 hown hK hP 0 rfl rfl 1 (by decide) f_54 (fun _ h9 => h9) rfl dX5_wordsFromSlip_20 ?_
        refine call_iVW (As := [.int (nI (k)), .ref (a 0), .int (nI (rwL SL))]) (rest := [.int (nI (c0))]) ⟨hx, hb, hml, hown, hts⟩ (c_X5_begins_S l g h a SL n ll np tu la wi F th fS fL fN fK fF fW fE fC fG fO D hDm hn hSL hfS hFr hfF hll hp k (by omega)) (cwV 3 hts gX5_wordsFromSlip_X5_begins rfl rfl rfl (by decide +kernel) ⟨Nat.le_of_ble_eq_true rfl, Nat.le_of_ble_eq_true rfl⟩) hP hK hD hS hA 0 rfl rfl rfl rfl hl.1 rfl (Nat.le_of_ble_eq_true rfl) dX5_wordsFromSlip_23 ⟨Nat.le_refl _, Nat.le_refl _⟩ (fun r_23 w H locs h_23 hP hD hS => ?_)
        obtain ⟨rfl, h_23⟩ := h_23
        have hP : va_P g.1 vwCl (MW g h a (nI (rwL SL)) (nI n) (nI ll) (nI np) tu la wi (nI (rwL F)) th fS fL fN fK fF fW fE fC fG fO) H := hP
        have hD : va_D A (MW g h a (nI (rwL SL)) (nI n) (nI ll) (nI np) tu la wi (nI (rwL F)) th fS fL fN fK fF fW fE fC fG fO) := hD
        refine lv_if_eq (tgt := 33) hx hb dX5_wordsFromSlip_26 (by decide) (fun c_26_2 => ?_) (fun c_26_2 => ?_)
        · skip
          have n_26_2 := Bv.f h_23 c_26_2
          refine lv_iconst (v := nI 0) hx hb dX5_wordsFromSlip_33 (by decide) ?_
          refine lv_iadd hx hb dX5_wordsFromSlip_34 ?_
          refine tp_i (nI_add c0 0) ?_
          refine lv_istore_n (lv' := [(1, .int (nI (c0 + 0))), (0, .ref (h)), (2, .int (nI (k)))]) hx hb dX5_wordsFromSlip_35 rfl hl (by decide) rfl (fun ls hl => ?_)
          refine lv_iinc (v := (nI (k + 1))) (lv' := [(2, .int (nI (k + 1))), (1, .int (nI (c0 + 0))), (0, .ref (h))]) hx hb dX5_wordsFromSlip_36 hl (k := 2) rfl (nI_add (k) 1) (by decide) rfl (fun ls hl => ?_)
          refine lv_goto (tgt := 4) hx hb dX5_wordsFromSlip_39 (by decide) ?_
          exact ih_4 (c0 + 0) (k + 1) (by omega) (by omega) (ct_f hc1 (bgB_f n_26_2)) _ _ _ hP hD hS (lv_sub hl [2, 1, 0] rfl)
        · skip
          have n_26_2 := Bv.t h_23 c_26_2
          refine lv_iconst (v := nI 1) hx hb dX5_wordsFromSlip_29 (by decide) ?_
          refine lv_goto (tgt := 34) hx hb dX5_wordsFromSlip_30 (by decide) ?_
          refine lv_iadd hx hb dX5_wordsFromSlip_34 ?_
          refine tp_i (nI_add c0 1) ?_
          refine lv_istore_n (lv' := [(1, .int (nI (c0 + 1))), (0, .ref (h)), (2, .int (nI (k)))]) hx hb dX5_wordsFromSlip_35 rfl hl (by decide) rfl (fun ls hl => ?_)
          refine lv_iinc (v := (nI (k + 1))) (lv' := [(2, .int (nI (k + 1))), (1, .int (nI (c0 + 1))), (0, .ref (h))]) hx hb dX5_wordsFromSlip_36 hl (k := 2) rfl (nI_add (k) 1) (by decide) rfl (fun ls hl => ?_)
          refine lv_goto (tgt := 4) hx hb dX5_wordsFromSlip_39 (by decide) ?_
          exact ih_4 (c0 + 1) (k + 1) (by omega) (by omega) (ct_t hc1 (bgB_t.mpr n_26_2)) _ _ _ hP hD hS (lv_sub hl [2, 1, 0] rfl)
  exact L_4 (_ + 1) 0 0 (Nat.lt_succ_self _) (Nat.zero_le _) (rfl) _ _ _ hP hD hS (lv_sub hl [2, 1, 0] rfl)

abbrev rm_X5_beginnings : Room := { frames := 1, cells := 0, slots := 0, locals := 25 }
set_option maxHeartbeats 4000000 in
set_option maxRecDepth 100000 in
theorem c_X5_beginnings (l : Launch) (g : GG) (h : Nat) (a : Nat → Nat) (SL n ll np : Nat) (tu la wi : Int32) (F : Nat) (th : Int32) (fS fL fN fK fF fW fE fC fG fO : Nat → Int32) (D : Nat → Nat) (hDm : MD fL fN D n) (hn : n ≤ 50) (hSL : RV SL) (hfS : MRw fS SL) (hFr : RV F) (hfF : MRw fF F) (hll : ll ≤ 10) (hp : np ≤ 4) : Ci l yX5_beginnings wsX5_beginnings rm_X5_beginnings g [.ref (h)] (MW g h a (nI (rwL SL)) (nI n) (nI ll) (nI np) tu la wi (nI (rwL F)) th fS fL fN fK fF fW fE fC fG fO) (fun r w => r = nI (if n = 0 then 1 else bgmD D n) ∧ w = (MW g h a (nI (rwL SL)) (nI n) (nI ll) (nI np) tu la wi (nI (rwL F)) (nI 0) fS fL fN fK fF fW fE fC fG fO)) := by
  refine Ci.ofI (cc := cX5_beginnings) (maxL := 6) (by decide) rfl (Nat.le_of_ble_eq_true rfl) ?_
  intro p e s m args below meth c A Z hx hb hml hts hown hK hA hret H locs ls hP hD hS hl
  have f_16 := hts (.fieldLink RX5 16 "GhostGameModel" "length" "[I") (by decide +kernel)
  have f_51 := hts (.fieldLink RX5 51 "GhostGameModel" "words" "I") (by decide +kernel)
  have hi_3 : ∀ w ∈ wsX50, w ∈ wsX5_beginnings := by decide +kernel
  have hl : lv_has ls 6 [(0, .ref (h))] := hl
  have h10 : ∀ k9, k9 < n → rwL (D k9) ≤ 10 := fun k9 h9 => (hDm k9 h9).1.1
  refine lv_iconst (v := nI 0) hx hb dX5_beginnings_0 (by decide) ?_
  refine lv_istore_n (lv' := [(1, .int (nI (0))), (0, .ref (h))]) hx hb dX5_beginnings_1 rfl hl (by decide) rfl (fun ls hl => ?_)
  refine lv_iconst (v := nI 0) hx hb dX5_beginnings_2 (by decide) ?_
  refine lv_istore_n (lv' := [(2, .int (nI (0))), (1, .int (nI (0))), (0, .ref (h))]) hx hb dX5_beginnings_3 rfl hl (by decide) rfl (fun ls hl => ?_)
  have L_4 : ∀ (fu : Nat) (c0 k : Nat), n - k < fu → (k ≤ n) → (c0 = bgmD D k) → ∀ (H : Heap) (locs : List Loc) (ls : Array Slot), va_P g.1 vwCl (MW g h a (nI (rwL SL)) (nI n) (nI ll) (nI np) tu la wi (nI (rwL F)) th fS fL fN fK fF fW fE fC fG fO) H → va_D A (MW g h a (nI (rwL SL)) (nI n) (nI ll) (nI np) tu la wi (nI (rwL F)) th fS fL fN fK fF fW fE fC fG fO) → va_S A s.heap H locs → lv_has ls 6 [(0, .ref (h)), (1, .int (nI (c0))), (2, .int (nI (k)))] → W p l e rm_X5_beginnings s m args below meth c H locs 0 0 Z (F0 m 4 ls []) := by
    intro fu
    induction fu with
    | zero => intro _ _ h0; exact absurd h0 (Nat.not_lt_zero _)
    | succ fu ih_4 =>
      intro c0 k hfu hk1 hc1 H locs ls hP hD hS hl
      refine lv_iload_n hx hb dX5_beginnings_4 rfl (lv_at hl 2 rfl) ?_
      refine lv_aload_n hx hb dX5_beginnings_5 rfl (lv_at hl 0 rfl) ?_
      refine va_get (D := g.1) (ci := 3) (v := .int (nI (n))) (C := RX5) (T := TX5) (N := 19) hx hb hts hi_3 hown hK hP 0 rfl rfl 4 (by decide) f_51 (fun _ h9 => h9) rfl dX5_beginnings_6 ?_
      refine lv_icmp_ge (tgt := 90) hx hb dX5_beginnings_9 (by decide) (fun c_9_1 => ?_) (fun c_9_1 => ?_)
      · skip
        have n_9_1 : n ≤ k := (nI_leI (a := n) (b := k) (by omega) (by omega)).mp c_9_1
        refine lv_aload_n hx hb dX5_beginnings_90 rfl (lv_at hl 0 rfl) ?_
        refine lv_aload_n hx hb dX5_beginnings_91 rfl (lv_at hl 0 rfl) ?_
        refine va_get (D := g.1) (ci := 3) (v := .int (nI (n))) (C := RX5) (T := TX5) (N := 19) hx hb hts hi_3 hown hK hP 0 rfl rfl 4 (by decide) f_51 (fun _ h9 => h9) rfl dX5_beginnings_92 ?_
        refine lv_if_ne (tgt := 102) hx hb dX5_beginnings_95 (by decide) (fun c_95_2 => ?_) (fun c_95_2 => ?_)
        · skip
          have n_95_2 : ¬ n = 0 := fun q9 => c_95_2 ((nI_eq (a := n) (b := 0) (by omega) (by omega)).mpr q9)
          refine lv_iload_n hx hb dX5_beginnings_102 rfl (lv_at hl 1 rfl) ?_
          refine call_iVW (As := [.int (nI (c0))]) (rest := []) ⟨hx, hb, hml, hown, hts⟩ (c_X5_told l g h a (nI (rwL SL)) (nI n) (nI ll) (nI np) tu la wi (nI (rwL F)) th fS fL fN fK fF fW fE fC fG fO (nI (c0))) (cwV 1 hts gX5_beginnings_X5_told rfl rfl rfl (by decide +kernel) ⟨Nat.le_of_ble_eq_true rfl, Nat.le_of_ble_eq_true rfl⟩) hP hK hD hS hA 0 rfl rfl rfl rfl hl.1 rfl (Nat.le_of_ble_eq_true rfl) dX5_beginnings_103 ⟨Nat.le_refl _, Nat.le_refl _⟩ (fun r_103 w H locs h_103 hP hD hS => ?_)
          obtain ⟨h_103, rfl⟩ := h_103
          replace h_103 := h_103.symm
          subst h_103
          have hP : va_P g.1 vwCl (MW g h a (nI (rwL SL)) (nI n) (nI ll) (nI np) tu la wi (nI (rwL F)) (nI 0) fS fL fN fK fF fW fE fC fG fO) H := hP
          have hD : va_D A (MW g h a (nI (rwL SL)) (nI n) (nI ll) (nI np) tu la wi (nI (rwL F)) (nI 0) fS fL fN fK fF fW fE fC fG fO) := hD
          exact hret (nI (c0)) (MW g h a (nI (rwL SL)) (nI n) (nI ll) (nI np) tu la wi (nI (rwL F)) (nI 0) fS fL fN fK fF fW fE fC fG fO) _ _ _ _ dX5_beginnings_106 (⟨by rw [if_neg n_95_2, hc1, show k = n by omega], rfl⟩) hP hD hS
        · skip
          have n_95_2 : n = 0 := (nI_eq (a := n) (b := 0) (by omega) (by omega)).mp c_95_2
          refine lv_iconst (v := nI 1) hx hb dX5_beginnings_98 (by decide) ?_
          refine lv_goto (tgt := 103) hx hb dX5_beginnings_99 (by decide) ?_
          refine call_iVW (As := [.int (nI (1))]) (rest := []) ⟨hx, hb, hml, hown, hts⟩ (c_X5_told l g h a (nI (rwL SL)) (nI n) (nI ll) (nI np) tu la wi (nI (rwL F)) th fS fL fN fK fF fW fE fC fG fO (nI (1))) (cwV 1 hts gX5_beginnings_X5_told rfl rfl rfl (by decide +kernel) ⟨Nat.le_of_ble_eq_true rfl, Nat.le_of_ble_eq_true rfl⟩) hP hK hD hS hA 0 rfl rfl rfl rfl hl.1 rfl (Nat.le_of_ble_eq_true rfl) dX5_beginnings_103 ⟨Nat.le_refl _, Nat.le_refl _⟩ (fun r_103 w H locs h_103 hP hD hS => ?_)
          obtain ⟨h_103, rfl⟩ := h_103
          replace h_103 := h_103.symm
          subst h_103
          have hP : va_P g.1 vwCl (MW g h a (nI (rwL SL)) (nI n) (nI ll) (nI np) tu la wi (nI (rwL F)) (nI 0) fS fL fN fK fF fW fE fC fG fO) H := hP
          have hD : va_D A (MW g h a (nI (rwL SL)) (nI n) (nI ll) (nI np) tu la wi (nI (rwL F)) (nI 0) fS fL fN fK fF fW fE fC fG fO) := hD
          exact hret (nI (1)) (MW g h a (nI (rwL SL)) (nI n) (nI ll) (nI np) tu la wi (nI (rwL F)) (nI 0) fS fL fN fK fF fW fE fC fG fO) _ _ _ _ dX5_beginnings_106 (⟨by rw [if_pos n_95_2], rfl⟩) hP hD hS
      · skip
        have n_9_1 : ¬ n ≤ k := fun q9 => c_9_1 ((nI_leI (a := n) (b := k) (by omega) (by omega)).mpr q9)
        refine lv_iconst (v := nI 0) hx hb dX5_beginnings_12 (by decide) ?_
        refine lv_istore_n (lv' := [(3, .int (nI (0))), (0, .ref (h)), (1, .int (nI (c0))), (2, .int (nI (k)))]) hx hb dX5_beginnings_13 rfl hl (by decide) rfl (fun ls hl => ?_)
        have L_14 : ∀ (fu : Nat) (c1 i : Nat), rwL (D k) + 1 - i < fu → (i ≤ rwL (D k) + 1) → (c1 = bgmD D k + fb_ct (fun i => bB (∀ j, j < k → ¬ alP (D k) (D j) i)) i) → ∀ (H : Heap) (locs : List Loc) (ls : Array Slot), va_P g.1 vwCl (MW g h a (nI (rwL SL)) (nI n) (nI ll) (nI np) tu la wi (nI (rwL F)) th fS fL fN fK fF fW fE fC fG fO) H → va_D A (MW g h a (nI (rwL SL)) (nI n) (nI ll) (nI np) tu la wi (nI (rwL F)) th fS fL fN fK fF fW fE fC fG fO) → va_S A s.heap H locs → lv_has ls 6 [(0, .ref (h)), (1, .int (nI (c1))), (2, .int (nI (k))), (3, .int (nI (i)))] → W p l e rm_X5_beginnings s m args below meth c H locs 0 0 Z (F0 m 14 ls []) := by
          intro fu
          induction fu with
          | zero => intro _ _ h0; exact absurd h0 (Nat.not_lt_zero _)
          | succ fu ih_14 =>
            intro c1 i hfu hi1 hc2 H locs ls hP hD hS hl
            have hk3 := h10 k (by omega)
            refine lv_iload_n hx hb dX5_beginnings_14 rfl (lv_at hl 3 rfl) ?_
            refine lv_aload_n hx hb dX5_beginnings_15 rfl (lv_at hl 0 rfl) ?_
            refine va_get (D := g.1) (ci := 3) (v := .ref (a 3)) (C := RX5) (T := TX5) (N := 19) hx hb hts hi_3 hown hK hP 0 rfl rfl 3 (by decide) f_16 (fun _ h9 => h9) rfl dX5_beginnings_16 ?_
            refine lv_iload_n hx hb dX5_beginnings_19 rfl (lv_at hl 2 rfl) ?_
            refine va_iald (n := 50) (f := fN) hx hb hK hP 3 0 rfl rfl (vp_in_nI (n := k) (by omega) (by decide)) dX5_beginnings_20 ?_
            refine tp_i (congrArg fN (nI_clamp (n := k) (by omega))) ?_
            refine tp_i (b := (nI (rwL (D k)))) ((hDm k (by omega)).2.1) ?_
            refine lv_icmp_gt (tgt := 84) hx hb dX5_beginnings_21 (by decide) (fun c_21_3 => ?_) (fun c_21_3 => ?_)
            · skip
              have n_21_3 : rwL (D k) < i := (nI_ltI (a := rwL (D k)) (b := i) (by omega) (by omega)).mp c_21_3
              refine lv_iinc (v := (nI (k + 1))) (lv' := [(2, .int (nI (k + 1))), (0, .ref (h)), (1, .int (nI (c1))), (3, .int (nI (i)))]) hx hb dX5_beginnings_84 hl (k := 2) rfl (nI_add (k) 1) (by decide) rfl (fun ls hl => ?_)
              refine lv_goto (tgt := 4) hx hb dX5_beginnings_87 (by decide) ?_
              exact ih_4 c1 (k + 1) (by omega) (by omega) (by rw [hc2, show i = rwL (D k) + 1 by omega]; unfold bgmD; rw [fb_sm_succ]) _ _ _ hP hD hS (lv_sub hl [1, 2, 0] rfl)
            · skip
              have n_21_3 : ¬ rwL (D k) < i := fun q9 => c_21_3 ((nI_ltI (a := rwL (D k)) (b := i) (by omega) (by omega)).mpr q9)
              refine lv_iconst (v := nI 1) hx hb dX5_beginnings_24 (by decide) ?_
              refine lv_istore (lv' := [(4, .int (nI (1))), (0, .ref (h)), (1, .int (nI (c1))), (2, .int (nI (k))), (3, .int (nI (i)))]) hx hb dX5_beginnings_25 hl (by decide) rfl (fun ls hl => ?_)
              refine lv_iconst (v := nI 0) hx hb dX5_beginnings_27 (by decide) ?_
              refine lv_istore (lv' := [(5, .int (nI (0))), (4, .int (nI (1))), (0, .ref (h)), (1, .int (nI (c1))), (2, .int (nI (k))), (3, .int (nI (i)))]) hx hb dX5_beginnings_28 hl (by decide) rfl (fun ls hl => ?_)
              have L_30 : ∀ (fu : Nat) (x : Int32) (jj : Nat), k - jj < fu → (jj ≤ k) → (Bv x (∀ j, j < jj → ¬ alP (D k) (D j) i)) → ∀ (H : Heap) (locs : List Loc) (ls : Array Slot), va_P g.1 vwCl (MW g h a (nI (rwL SL)) (nI n) (nI ll) (nI np) tu la wi (nI (rwL F)) th fS fL fN fK fF fW fE fC fG fO) H → va_D A (MW g h a (nI (rwL SL)) (nI n) (nI ll) (nI np) tu la wi (nI (rwL F)) th fS fL fN fK fF fW fE fC fG fO) → va_S A s.heap H locs → lv_has ls 6 [(0, .ref (h)), (1, .int (nI (c1))), (2, .int (nI (k))), (3, .int (nI (i))), (4, .int (x)), (5, .int (nI (jj)))] → W p l e rm_X5_beginnings s m args below meth c H locs 0 0 Z (F0 m 30 ls []) := by
                intro fu
                induction fu with
                | zero => intro _ _ h0; exact absurd h0 (Nat.not_lt_zero _)
                | succ fu ih_30 =>
                  intro x jj hfu hj1 hx0 H locs ls hP hD hS hl
                  refine lv_iload hx hb dX5_beginnings_30 (lv_at hl 5 rfl) ?_
                  refine lv_iload_n hx hb dX5_beginnings_32 rfl (lv_at hl 2 rfl) ?_
                  refine lv_icmp_ge (tgt := 65) hx hb dX5_beginnings_33 (by decide) (fun c_33_4 => ?_) (fun c_33_4 => ?_)
                  · skip
                    have n_33_4 : k ≤ jj := (nI_leI (a := k) (b := jj) (by omega) (by omega)).mp c_33_4
                    have ej : jj = k := by omega
                    rw [ej] at hx0
                    refine lv_iload_n hx hb dX5_beginnings_65 rfl (lv_at hl 1 rfl) ?_
                    refine lv_iload hx hb dX5_beginnings_66 (lv_at hl 4 rfl) ?_
                    refine lv_if_eq (tgt := 75) hx hb dX5_beginnings_68 (by decide) (fun c_68_5 => ?_) (fun c_68_5 => ?_)
                    · skip
                      have n_68_5 := Bv.f hx0 c_68_5
                      refine lv_iconst (v := nI 0) hx hb dX5_beginnings_75 (by decide) ?_
                      refine lv_iadd hx hb dX5_beginnings_76 ?_
                      refine tp_i (nI_add c1 0) ?_
                      refine lv_istore_n (lv' := [(1, .int (nI (c1 + 0))), (0, .ref (h)), (2, .int (nI (k))), (3, .int (nI (i))), (4, .int (x)), (5, .int (nI (jj)))]) hx hb dX5_beginnings_77 rfl hl (by decide) rfl (fun ls hl => ?_)
                      refine lv_iinc (v := (nI (i + 1))) (lv' := [(3, .int (nI (i + 1))), (1, .int (nI (c1 + 0))), (0, .ref (h)), (2, .int (nI (k))), (4, .int (x)), (5, .int (nI (jj)))]) hx hb dX5_beginnings_78 hl (k := 3) rfl (nI_add (i) 1) (by decide) rfl (fun ls hl => ?_)
                      refine lv_goto (tgt := 14) hx hb dX5_beginnings_81 (by decide) ?_
                      exact ih_14 (c1 + 0) (i + 1) (by omega) (by omega) (by rw [hc2, fb_ct_succ, bB_f n_68_5]; rfl) _ _ _ hP hD hS (lv_sub hl [2, 1, 3, 0] rfl)
                    · skip
                      have n_68_5 := Bv.t hx0 c_68_5
                      refine lv_iconst (v := nI 1) hx hb dX5_beginnings_71 (by decide) ?_
                      refine lv_goto (tgt := 76) hx hb dX5_beginnings_72 (by decide) ?_
                      refine lv_iadd hx hb dX5_beginnings_76 ?_
                      refine tp_i (nI_add c1 1) ?_
                      refine lv_istore_n (lv' := [(1, .int (nI (c1 + 1))), (0, .ref (h)), (2, .int (nI (k))), (3, .int (nI (i))), (4, .int (x)), (5, .int (nI (jj)))]) hx hb dX5_beginnings_77 rfl hl (by decide) rfl (fun ls hl => ?_)
                      refine lv_iinc (v := (nI (i + 1))) (lv' := [(3, .int (nI (i + 1))), (1, .int (nI (c1 + 1))), (0, .ref (h)), (2, .int (nI (k))), (4, .int (x)), (5, .int (nI (jj)))]) hx hb dX5_beginnings_78 hl (k := 3) rfl (nI_add (i) 1) (by decide) rfl (fun ls hl => ?_)
                      refine lv_goto (tgt := 14) hx hb dX5_beginnings_81 (by decide) ?_
                      exact ih_14 (c1 + 1) (i + 1) (by omega) (by omega) (by rw [hc2, fb_ct_succ, bB_t n_68_5]; rfl) _ _ _ hP hD hS (lv_sub hl [2, 1, 3, 0] rfl)
                  · skip
                    have n_33_4 : ¬ k ≤ jj := fun q9 => c_33_4 ((nI_leI (a := k) (b := jj) (by omega) (by omega)).mpr q9)
                    refine lv_iload hx hb dX5_beginnings_36 (lv_at hl 4 rfl) ?_
                    refine lv_if_eq (tgt := 56) hx hb dX5_beginnings_38 (by decide) (fun c_38_6 => ?_) (fun c_38_6 => ?_)
                    · skip
                      have n_38_6 := Bv.f hx0 c_38_6
                      refine lv_iconst (v := nI 0) hx hb dX5_beginnings_56 (by decide) ?_
                      refine lv_istore (lv' := [(4, .int (nI (0))), (0, .ref (h)), (1, .int (nI (c1))), (2, .int (nI (k))), (3, .int (nI (i))), (5, .int (nI (jj)))]) hx hb dX5_beginnings_57 hl (by decide) rfl (fun ls hl => ?_)
                      refine lv_iinc (v := (nI (jj + 1))) (lv' := [(5, .int (nI (jj + 1))), (4, .int (nI (0))), (0, .ref (h)), (1, .int (nI (c1))), (2, .int (nI (k))), (3, .int (nI (i)))]) hx hb dX5_beginnings_59 hl (k := 5) rfl (nI_add (jj) 1) (by decide) rfl (fun ls hl => ?_)
                      refine lv_goto (tgt := 30) hx hb dX5_beginnings_62 (by decide) ?_
                      exact ih_30 (nI (0)) (jj + 1) (by omega) (by omega) (Bv.no (fun q9 => n_38_6 (fun j hj => q9 j (by omega)))) _ _ _ hP hD hS (lv_sub hl [2, 3, 4, 5, 1, 0] rfl)
                    · skip
                      have n_38_6 := Bv.t hx0 c_38_6
                      refine lv_aload_n hx hb dX5_beginnings_41 rfl (lv_at hl 0 rfl) ?_
                      refine lv_iload_n hx hb dX5_beginnings_42 rfl (lv_at hl 2 rfl) ?_
                      refine lv_iload hx hb dX5_beginnings_43 (lv_at hl 5 rfl) ?_
                      refine lv_iload_n hx hb dX5_beginnings_45 rfl (lv_at hl 3 rfl) ?_
                      refine call_iVW (As := [.int (nI (k)), .int (nI (jj)), .int (nI (i))]) (rest := []) ⟨hx, hb, hml, hown, hts⟩ (c_X5_areAlike l g h a SL n ll np tu la wi F th fS fL fN fK fF fW fE fC fG fO D hDm hn hSL hfS hFr hfF hll hp k jj i (by omega) (by omega) (by omega)) (cwV 3 hts gX5_beginnings_X5_areAlike rfl rfl rfl (by decide +kernel) ⟨Nat.le_of_ble_eq_true rfl, Nat.le_of_ble_eq_true rfl⟩) hP hK hD hS hA 0 rfl rfl rfl rfl hl.1 rfl (Nat.le_of_ble_eq_true rfl) dX5_beginnings_46 ⟨Nat.le_refl _, Nat.le_refl _⟩ (fun r_46 w H locs h_46 hP hD hS => ?_)
                      obtain ⟨rfl, h_46⟩ := h_46
                      have hP : va_P g.1 vwCl (MW g h a (nI (rwL SL)) (nI n) (nI ll) (nI np) tu la wi (nI (rwL F)) th fS fL fN fK fF fW fE fC fG fO) H := hP
                      have hD : va_D A (MW g h a (nI (rwL SL)) (nI n) (nI ll) (nI np) tu la wi (nI (rwL F)) th fS fL fN fK fF fW fE fC fG fO) := hD
                      refine lv_if_ne (tgt := 56) hx hb dX5_beginnings_49 (by decide) (fun c_49_7 => ?_) (fun c_49_7 => ?_)
                      · skip
                        have n_49_7 := Bv.t h_46 c_49_7
                        refine lv_iconst (v := nI 0) hx hb dX5_beginnings_56 (by decide) ?_
                        refine lv_istore (lv' := [(4, .int (nI (0))), (0, .ref (h)), (1, .int (nI (c1))), (2, .int (nI (k))), (3, .int (nI (i))), (5, .int (nI (jj)))]) hx hb dX5_beginnings_57 hl (by decide) rfl (fun ls hl => ?_)
                        refine lv_iinc (v := (nI (jj + 1))) (lv' := [(5, .int (nI (jj + 1))), (4, .int (nI (0))), (0, .ref (h)), (1, .int (nI (c1))), (2, .int (nI (k))), (3, .int (nI (i)))]) hx hb dX5_beginnings_59 hl (k := 5) rfl (nI_add (jj) 1) (by decide) rfl (fun ls hl => ?_)
                        refine lv_goto (tgt := 30) hx hb dX5_beginnings_62 (by decide) ?_
                        exact ih_30 (nI (0)) (jj + 1) (by omega) (by omega) (Bv.no (fun q9 => q9 jj (Nat.lt_succ_self jj) n_49_7)) _ _ _ hP hD hS (lv_sub hl [2, 3, 4, 5, 1, 0] rfl)
                      · skip
                        have n_49_7 := Bv.f h_46 c_49_7
                        refine lv_iconst (v := nI 1) hx hb dX5_beginnings_52 (by decide) ?_
                        refine lv_goto (tgt := 57) hx hb dX5_beginnings_53 (by decide) ?_
                        refine lv_istore (lv' := [(4, .int (nI (1))), (0, .ref (h)), (1, .int (nI (c1))), (2, .int (nI (k))), (3, .int (nI (i))), (5, .int (nI (jj)))]) hx hb dX5_beginnings_57 hl (by decide) rfl (fun ls hl => ?_)
                        refine lv_iinc (v := (nI (jj + 1))) (lv' := [(5, .int (nI (jj + 1))), (4, .int (nI (1))), (0, .ref (h)), (1, .int (nI (c1))), (2, .int (nI (k))), (3, .int (nI (i)))]) hx hb dX5_beginnings_59 hl (k := 5) rfl (nI_add (jj) 1) (by decide) rfl (fun ls hl => ?_)
                        refine lv_goto (tgt := 30) hx hb dX5_beginnings_62 (by decide) ?_
                        exact ih_30 (nI (1)) (jj + 1) (by omega) (by omega) (Bv.yes (lt_s n_38_6 n_49_7)) _ _ _ hP hD hS (lv_sub hl [2, 3, 4, 5, 1, 0] rfl)
              exact L_30 (_ + 1) (nI (1)) 0 (Nat.lt_succ_self _) (Nat.zero_le _) (Bv.yes (fun j hj => absurd hj (Nat.not_lt_zero _))) _ _ _ hP hD hS (lv_sub hl [2, 3, 4, 5, 1, 0] rfl)
        exact L_14 (_ + 1) c0 0 (Nat.lt_succ_self _) (Nat.zero_le _) (by rw [hc1]; rfl) _ _ _ hP hD hS (lv_sub hl [1, 2, 3, 0] rfl)
  exact L_4 (_ + 1) 0 0 (Nat.lt_succ_self _) (Nat.zero_le _) (rfl) _ _ _ hP hD hS (lv_sub hl [2, 1, 0] rfl)

abbrev rm_X5_copyWord : Room := { frames := 1, cells := 0, slots := 0, locals := 25 }
set_option maxHeartbeats 4000000 in
set_option maxRecDepth 100000 in
theorem c_X5_copyWord (l : Launch) (g : GG) (h : Nat) (a : Nat → Nat) (SL n ll np : Nat) (tu la wi : Int32) (F : Nat) (th : Int32) (fS fL fN fK fF fW fE fC fG fO : Nat → Int32) (D : Nat → Nat) (hDm : MD fL fN D n) (hn : n ≤ 50) (hSL : RV SL) (hfS : MRw fS SL) (hFr : RV F) (hfF : MRw fF F) (hll : ll ≤ 10) (hp : np ≤ 4) (hex : ∀ j, j < n → ∃ k, k < n ∧ rankD D n k = j) (x0 : Int32) : Ci l yX5_copyWord wsX5_copyWord rm_X5_copyWord g [.ref (h), .int (x0)] (MW g h a (nI (rwL SL)) (nI n) (nI ll) (nI np) tu la wi (nI (rwL F)) th fS fL fN fK fF fW fE fC fG fO) (fun r w => (∃ j t : Nat, j < n ∧ nI j = x0 ∧ t < n ∧ rankD D n t = j ∧ r = nI (rwL (D t)) ∧ ∃ f9, w = (MW g h a (nI (rwL (D t))) (nI n) (nI ll) (nI np) tu la wi (nI (rwL F)) (nI 0) f9 fL fN fK fF fW fE fC fG fO) ∧ MRw f9 (D t)) ∨ ((¬ ∃ j : Nat, j < n ∧ nI j = x0) ∧ w = (MW g h a (nI (rwL SL)) (nI n) (nI ll) (nI np) tu la wi (nI (rwL F)) (nI 1) fS fL fN fK fF fW fE fC fG fO))) := by
  refine Ci.ofI (cc := cX5_copyWord) (maxL := 6) (by decide) rfl (Nat.le_of_ble_eq_true rfl) ?_
  intro p e s m args below meth c A Z hx hb hml hts hown hK hA hret H locs ls hP hD hS hl
  have f_7 := hts (.fieldLink RX5 7 "GhostGameModel" "slip" "[I") (by decide +kernel)
  have f_13 := hts (.fieldLink RX5 13 "GhostGameModel" "letters" "[I") (by decide +kernel)
  have f_16 := hts (.fieldLink RX5 16 "GhostGameModel" "length" "[I") (by decide +kernel)
  have f_51 := hts (.fieldLink RX5 51 "GhostGameModel" "words" "I") (by decide +kernel)
  have f_54 := hts (.fieldLink RX5 54 "GhostGameModel" "slipLength" "I") (by decide +kernel)
  have hi_3 : ∀ w ∈ wsX50, w ∈ wsX5_copyWord := by decide +kernel
  have hl : lv_has ls 6 [(0, .ref (h)), (1, .int (x0))] := hl
  have hz1 := hSL.1
  have hz2 := hFr.1
  have h10 : ∀ k9, k9 < n → rwL (D k9) ≤ 10 := fun k9 h9 => (hDm k9 h9).1.1
  refine lv_aload_n hx hb dX5_copyWord_0 rfl (lv_at hl 0 rfl) ?_
  refine lv_iload_n hx hb dX5_copyWord_1 rfl (lv_at hl 1 rfl) ?_
  refine lv_if_lt (tgt := 17) hx hb dX5_copyWord_2 (by decide) (fun c_2_1 => ?_) (fun c_2_1 => ?_)
  · skip
    have nj : ¬ ∃ j : Nat, j < n ∧ nI j = x0 := by
      rintro ⟨j, hj, rfl⟩
      exact nI_pos (by omega) c_2_1
    refine lv_iconst (v := nI 0) hx hb dX5_copyWord_17 (by decide) ?_
    refine call_iVW (As := [.int (nI (0))]) (rest := []) ⟨hx, hb, hml, hown, hts⟩ (c_X5_asked_0 l g h a (nI (rwL SL)) (nI n) (nI ll) (nI np) tu la wi (nI (rwL F)) th fS fL fN fK fF fW fE fC fG fO ) (cwV 1 hts gX5_copyWord_X5_asked rfl rfl rfl (by decide +kernel) ⟨Nat.le_of_ble_eq_true rfl, Nat.le_of_ble_eq_true rfl⟩) hP hK hD hS hA 0 rfl rfl rfl rfl hl.1 rfl (Nat.le_of_ble_eq_true rfl) dX5_copyWord_18 ⟨Nat.le_refl _, Nat.le_refl _⟩ (fun r_18 w H locs h_18 hP hD hS => ?_)
    obtain ⟨h_18, rfl⟩ := h_18
    replace h_18 := h_18.symm
    subst h_18
    have hP : va_P g.1 vwCl (MW g h a (nI (rwL SL)) (nI n) (nI ll) (nI np) tu la wi (nI (rwL F)) (nI 1) fS fL fN fK fF fW fE fC fG fO) H := hP
    have hD : va_D A (MW g h a (nI (rwL SL)) (nI n) (nI ll) (nI np) tu la wi (nI (rwL F)) (nI 1) fS fL fN fK fF fW fE fC fG fO) := hD
    refine lv_if_ne (tgt := 26) hx hb dX5_copyWord_21 (by decide) (fun c_21_2 => absurd (by decide) c_21_2) (fun c_21_2 => ?_)
    refine lv_iconst (v := nI 0) hx hb dX5_copyWord_24 (by decide) ?_
    exact hret (nI (0)) (MW g h a (nI (rwL SL)) (nI n) (nI ll) (nI np) tu la wi (nI (rwL F)) (nI 1) fS fL fN fK fF fW fE fC fG fO) _ _ _ _ dX5_copyWord_25 (Or.inr ⟨nj, rfl⟩) hP hD hS
  · skip
    refine lv_iload_n hx hb dX5_copyWord_5 rfl (lv_at hl 1 rfl) ?_
    refine lv_aload_n hx hb dX5_copyWord_6 rfl (lv_at hl 0 rfl) ?_
    refine va_get (D := g.1) (ci := 3) (v := .int (nI (n))) (C := RX5) (T := TX5) (N := 19) hx hb hts hi_3 hown hK hP 0 rfl rfl 4 (by decide) f_51 (fun _ h9 => h9) rfl dX5_copyWord_7 ?_
    refine lv_icmp_ge (tgt := 17) hx hb dX5_copyWord_10 (by decide) (fun c_10_3 => ?_) (fun c_10_3 => ?_)
    · skip
      have nj : ¬ ∃ j : Nat, j < n ∧ nI j = x0 := by
        rintro ⟨j, hj, rfl⟩
        have := (nI_leI (by omega) (by omega)).mp c_10_3
        omega
      refine lv_iconst (v := nI 0) hx hb dX5_copyWord_17 (by decide) ?_
      refine call_iVW (As := [.int (nI (0))]) (rest := []) ⟨hx, hb, hml, hown, hts⟩ (c_X5_asked_0 l g h a (nI (rwL SL)) (nI n) (nI ll) (nI np) tu la wi (nI (rwL F)) th fS fL fN fK fF fW fE fC fG fO ) (cwV 1 hts gX5_copyWord_X5_asked rfl rfl rfl (by decide +kernel) ⟨Nat.le_of_ble_eq_true rfl, Nat.le_of_ble_eq_true rfl⟩) hP hK hD hS hA 0 rfl rfl rfl rfl hl.1 rfl (Nat.le_of_ble_eq_true rfl) dX5_copyWord_18 ⟨Nat.le_refl _, Nat.le_refl _⟩ (fun r_18 w H locs h_18 hP hD hS => ?_)
      obtain ⟨h_18, rfl⟩ := h_18
      replace h_18 := h_18.symm
      subst h_18
      have hP : va_P g.1 vwCl (MW g h a (nI (rwL SL)) (nI n) (nI ll) (nI np) tu la wi (nI (rwL F)) (nI 1) fS fL fN fK fF fW fE fC fG fO) H := hP
      have hD : va_D A (MW g h a (nI (rwL SL)) (nI n) (nI ll) (nI np) tu la wi (nI (rwL F)) (nI 1) fS fL fN fK fF fW fE fC fG fO) := hD
      refine lv_if_ne (tgt := 26) hx hb dX5_copyWord_21 (by decide) (fun c_21_4 => absurd (by decide) c_21_4) (fun c_21_4 => ?_)
      refine lv_iconst (v := nI 0) hx hb dX5_copyWord_24 (by decide) ?_
      exact hret (nI (0)) (MW g h a (nI (rwL SL)) (nI n) (nI ll) (nI np) tu la wi (nI (rwL F)) (nI 1) fS fL fN fK fF fW fE fC fG fO) _ _ _ _ dX5_copyWord_25 (Or.inr ⟨nj, rfl⟩) hP hD hS
    · skip
      obtain ⟨j, hj, rfl⟩ : ∃ j : Nat, j < n ∧ x0 = nI j := by
        rcases pk_ix x0 (n := n) (by omega) with h | h | h
        · exact absurd h c_2_1
        · exact absurd h c_10_3
        · exact h
      refine lv_iconst (v := nI 1) hx hb dX5_copyWord_13 (by decide) ?_
      refine lv_goto (tgt := 18) hx hb dX5_copyWord_14 (by decide) ?_
      refine call_iVW (As := [.int (nI (1))]) (rest := []) ⟨hx, hb, hml, hown, hts⟩ (c_X5_asked_1 l g h a (nI (rwL SL)) (nI n) (nI ll) (nI np) tu la wi (nI (rwL F)) th fS fL fN fK fF fW fE fC fG fO ) (cwV 1 hts gX5_copyWord_X5_asked rfl rfl rfl (by decide +kernel) ⟨Nat.le_of_ble_eq_true rfl, Nat.le_of_ble_eq_true rfl⟩) hP hK hD hS hA 0 rfl rfl rfl rfl hl.1 rfl (Nat.le_of_ble_eq_true rfl) dX5_copyWord_18 ⟨Nat.le_refl _, Nat.le_refl _⟩ (fun r_18 w H locs h_18 hP hD hS => ?_)
      obtain ⟨h_18, rfl⟩ := h_18
      replace h_18 := h_18.symm
      subst h_18
      have hP : va_P g.1 vwCl (MW g h a (nI (rwL SL)) (nI n) (nI ll) (nI np) tu la wi (nI (rwL F)) (nI 0) fS fL fN fK fF fW fE fC fG fO) H := hP
      have hD : va_D A (MW g h a (nI (rwL SL)) (nI n) (nI ll) (nI np) tu la wi (nI (rwL F)) (nI 0) fS fL fN fK fF fW fE fC fG fO) := hD
      refine lv_if_ne (tgt := 26) hx hb dX5_copyWord_21 (by decide) (fun c_21_5 => ?_) (fun c_21_5 => absurd c_21_5 (by decide))
      refine lv_iconst (v := -1) hx hb dX5_copyWord_26 (by decide) ?_
      refine lv_istore_n (lv' := [(2, .int (-1)), (0, .ref (h)), (1, .int (nI (j)))]) hx hb dX5_copyWord_27 rfl hl (by decide) rfl (fun ls hl => ?_)
      refine lv_iconst (v := nI 0) hx hb dX5_copyWord_28 (by decide) ?_
      refine lv_istore_n (lv' := [(3, .int (nI (0))), (2, .int (-1)), (0, .ref (h)), (1, .int (nI (j)))]) hx hb dX5_copyWord_29 rfl hl (by decide) rfl (fun ls hl => ?_)
      have L_30 : ∀ (fu : Nat) (x : Int32) (k : Nat), n - k < fu → (k ≤ n) → (crP D n j k x) → ∀ (H : Heap) (locs : List Loc) (ls : Array Slot), va_P g.1 vwCl (MW g h a (nI (rwL SL)) (nI n) (nI ll) (nI np) tu la wi (nI (rwL F)) (nI 0) fS fL fN fK fF fW fE fC fG fO) H → va_D A (MW g h a (nI (rwL SL)) (nI n) (nI ll) (nI np) tu la wi (nI (rwL F)) (nI 0) fS fL fN fK fF fW fE fC fG fO) → va_S A s.heap H locs → lv_has ls 6 [(0, .ref (h)), (1, .int (nI (j))), (2, .int (x)), (3, .int (nI (k)))] → W p l e rm_X5_copyWord s m args below meth c H locs 0 0 Z (F0 m 30 ls []) := by
        intro fu
        induction fu with
        | zero => intro _ _ h0; exact absurd h0 (Nat.not_lt_zero _)
        | succ fu ih_30 =>
          intro x k hfu hk1 hx0 H locs ls hP hD hS hl
          refine lv_iload_n hx hb dX5_copyWord_30 rfl (lv_at hl 3 rfl) ?_
          refine lv_aload_n hx hb dX5_copyWord_31 rfl (lv_at hl 0 rfl) ?_
          refine va_get (D := g.1) (ci := 3) (v := .int (nI (n))) (C := RX5) (T := TX5) (N := 19) hx hb hts hi_3 hown hK hP 0 rfl rfl 4 (by decide) f_51 (fun _ h9 => h9) rfl dX5_copyWord_32 ?_
          refine lv_icmp_ge (tgt := 97) hx hb dX5_copyWord_35 (by decide) (fun c_35_6 => ?_) (fun c_35_6 => ?_)
          · skip
            have n_35_6 : n ≤ k := (nI_leI (a := n) (b := k) (by omega) (by omega)).mp c_35_6
            obtain ⟨t, ht, hrt, rfl⟩ : ∃ t, t < n ∧ rankD D n t = j ∧ x = nI t := by
              rcases hx0 with ⟨i, h1, h2, h3⟩ | ⟨h1, -⟩
              · exact ⟨i, by omega, h2, h3⟩
              · obtain ⟨k9, h4, h5⟩ := hex j hj
                exact absurd h5 (h1 k9 (by omega))
            have ht3 := h10 t ht
            refine lv_aload_n hx hb dX5_copyWord_97 rfl (lv_at hl 0 rfl) ?_
            refine lv_aload_n hx hb dX5_copyWord_98 rfl (lv_at hl 0 rfl) ?_
            refine va_get (D := g.1) (ci := 3) (v := .ref (a 3)) (C := RX5) (T := TX5) (N := 19) hx hb hts hi_3 hown hK hP 0 rfl rfl 3 (by decide) f_16 (fun _ h9 => h9) rfl dX5_copyWord_99 ?_
            refine lv_iload_n hx hb dX5_copyWord_102 rfl (lv_at hl 2 rfl) ?_
            refine va_iald (n := 50) (f := fN) hx hb hK hP 3 0 rfl rfl (vp_in_nI (n := t) (by omega) (by decide)) dX5_copyWord_103 ?_
            refine tp_i (congrArg fN (nI_clamp (n := t) (by omega))) ?_
            refine tp_i (b := (nI (rwL (D t)))) ((hDm t (by omega)).2.1) ?_
            refine va_put (D := g.1) (ci := 3) (v := .int (nI (rwL (D t)))) (ty := .int) (C := RX5) (T := TX5) (N := 19) hx hb hts hi_3 tyX5 tyX5_ok nmX5 hown hK hP hD hS 0 rfl rfl 1 (by decide) f_54 (fun _ h9 => h9) rfl (by decide +kernel) rfl rfl (Nat.le_of_ble_eq_true rfl) dX5_copyWord_104 (fun H locs hP hD hS => ?_)
            have hP : va_P g.1 vwCl (MW g h a (nI (rwL (D t))) (nI n) (nI ll) (nI np) tu la wi (nI (rwL F)) (nI 0) fS fL fN fK fF fW fE fC fG fO) H := hP
            have hD : va_D A (MW g h a (nI (rwL (D t))) (nI n) (nI ll) (nI np) tu la wi (nI (rwL F)) (nI 0) fS fL fN fK fF fW fE fC fG fO) := hD
            refine lv_iconst (v := nI 0) hx hb dX5_copyWord_107 (by decide) ?_
            refine lv_istore_n (lv' := [(3, .int (nI (0))), (0, .ref (h)), (1, .int (nI (j))), (2, .int (nI (t)))]) hx hb dX5_copyWord_108 rfl hl (by decide) rfl (fun ls hl => ?_)
            have L_109 : ∀ (fu : Nat) (i : Nat) (fc : Nat → Int32), rwL (D t) - i < fu → (i ≤ rwL (D t)) → (∀ z, z < i → fc z = nI (rwA (D t) z)) → ∀ (H : Heap) (locs : List Loc) (ls : Array Slot), va_P g.1 vwCl (MW g h a (nI (rwL (D t))) (nI n) (nI ll) (nI np) tu la wi (nI (rwL F)) (nI 0) fc fL fN fK fF fW fE fC fG fO) H → va_D A (MW g h a (nI (rwL (D t))) (nI n) (nI ll) (nI np) tu la wi (nI (rwL F)) (nI 0) fc fL fN fK fF fW fE fC fG fO) → va_S A s.heap H locs → lv_has ls 6 [(0, .ref (h)), (2, .int (nI (t))), (3, .int (nI (i)))] → W p l e rm_X5_copyWord s m args below meth c H locs 0 0 Z (F0 m 109 ls []) := by
              intro fu
              induction fu with
              | zero => intro _ _ h0; exact absurd h0 (Nat.not_lt_zero _)
              | succ fu ih_109 =>
                intro i fc hfu hi1 h1 H locs ls hP hD hS hl
                refine lv_iload_n hx hb dX5_copyWord_109 rfl (lv_at hl 2 rfl) ?_
                refine lv_aload_n hx hb dX5_copyWord_110 rfl (lv_at hl 0 rfl) ?_
                refine va_get (D := g.1) (ci := 3) (v := .int (nI (rwL (D t)))) (C := RX5) (T := TX5) (N := 19) hx hb hts hi_3 hown hK hP 0 rfl rfl 1 (by decide) f_54 (fun _ h9 => h9) rfl dX5_copyWord_111 ?_
                refine lv_icmp_ge (tgt := 140) hx hb dX5_copyWord_114 (by decide) (fun c_114_7 => ?_) (fun c_114_7 => ?_)
                · skip
                  have n_114_7 : rwL (D t) ≤ i := (nI_leI (a := rwL (D t)) (b := i) (by omega) (by omega)).mp c_114_7
                  refine lv_aload_n hx hb dX5_copyWord_140 rfl (lv_at hl 0 rfl) ?_
                  refine va_get (D := g.1) (ci := 3) (v := .int (nI (rwL (D t)))) (C := RX5) (T := TX5) (N := 19) hx hb hts hi_3 hown hK hP 0 rfl rfl 1 (by decide) f_54 (fun _ h9 => h9) rfl dX5_copyWord_141 ?_
                  exact hret (nI (rwL (D t))) (MW g h a (nI (rwL (D t))) (nI n) (nI ll) (nI np) tu la wi (nI (rwL F)) (nI 0) fc fL fN fK fF fW fE fC fG fO) _ _ _ _ dX5_copyWord_144 (Or.inl ⟨j, t, hj, rfl, ht, hrt, rfl, fc, rfl, fun z hz => h1 z (by omega)⟩) hP hD hS
                · skip
                  have n_114_7 : ¬ rwL (D t) ≤ i := fun q9 => c_114_7 ((nI_leI (a := rwL (D t)) (b := i) (by omega) (by omega)).mpr q9)
                  refine lv_aload_n hx hb dX5_copyWord_117 rfl (lv_at hl 0 rfl) ?_
                  refine va_get (D := g.1) (ci := 3) (v := .ref (a 0)) (C := RX5) (T := TX5) (N := 19) hx hb hts hi_3 hown hK hP 0 rfl rfl 0 (by decide) f_7 (fun _ h9 => h9) rfl dX5_copyWord_118 ?_
                  refine lv_iload_n hx hb dX5_copyWord_121 rfl (lv_at hl 2 rfl) ?_
                  refine lv_aload_n hx hb dX5_copyWord_122 rfl (lv_at hl 0 rfl) ?_
                  refine va_get (D := g.1) (ci := 3) (v := .ref (a 2)) (C := RX5) (T := TX5) (N := 19) hx hb hts hi_3 hown hK hP 0 rfl rfl 2 (by decide) f_13 (fun _ h9 => h9) rfl dX5_copyWord_123 ?_
                  refine lv_bipush (v := nI 10) hx hb dX5_copyWord_126 (by decide) ?_
                  refine lv_iload_n hx hb dX5_copyWord_128 rfl (lv_at hl 1 rfl) ?_
                  refine lv_imul hx hb dX5_copyWord_129 ?_
                  refine tp_i (pk_mul 10 t) ?_
                  refine lv_iload_n hx hb dX5_copyWord_130 rfl (lv_at hl 2 rfl) ?_
                  refine lv_iadd hx hb dX5_copyWord_131 ?_
                  refine tp_i (nI_add (10 * t) i) ?_
                  refine va_iald (n := 500) (f := fL) hx hb hK hP 2 0 rfl rfl (vp_in_nI (n := (10 * t) + i) (by omega) (by decide)) dX5_copyWord_132 ?_
                  refine tp_i (congrArg fL (nI_clamp (n := (10 * t) + i) (by omega))) ?_
                  refine tp_i (b := (nI (rwA (D t) i))) ((hDm t (by omega)).2.2 i (by omega)) ?_
                  refine va_iast (n := 10) (f := fc) hx hb hK hP hD hS 1 0 rfl rfl (vp_in_nI (n := i) (by omega) (by decide)) dX5_copyWord_133 (fun H locs hP hD hS => ?_)
                  rw [nI_clamp (n := i) (by omega)] at hP hD
                  have hP : va_P g.1 vwCl (MW g h a (nI (rwL (D t))) (nI n) (nI ll) (nI np) tu la wi (nI (rwL F)) (nI 0) (upd fc i (nI (rwA (D t) i))) fL fN fK fF fW fE fC fG fO) H := hP
                  have hD : va_D A (MW g h a (nI (rwL (D t))) (nI n) (nI ll) (nI np) tu la wi (nI (rwL F)) (nI 0) (upd fc i (nI (rwA (D t) i))) fL fN fK fF fW fE fC fG fO) := hD
                  refine lv_iinc (v := (nI (i + 1))) (lv' := [(3, .int (nI (i + 1))), (0, .ref (h)), (2, .int (nI (t)))]) hx hb dX5_copyWord_134 hl (k := 2) rfl (nI_add (i) 1) (by decide) rfl (fun ls hl => ?_)
                  refine lv_goto (tgt := 109) hx hb dX5_copyWord_137 (by decide) ?_
                  exact ih_109 (i + 1) (upd fc i (nI (rwA (D t) i))) (by omega) (by omega) (fun z hz => by (by_cases e : z = i; (subst e; rw [pk_us]); (rw [pk_un e]; exact h1 z (by omega)))) _ _ _ hP hD hS (lv_sub hl [1, 2, 0] rfl)
            exact L_109 (_ + 1) 0 fS (Nat.lt_succ_self _) (Nat.zero_le _) (fun z hz => absurd hz (Nat.not_lt_zero _)) _ _ _ hP hD hS (lv_sub hl [1, 3, 0] rfl)
          · skip
            have n_35_6 : ¬ n ≤ k := fun q9 => c_35_6 ((nI_leI (a := n) (b := k) (by omega) (by omega)).mpr q9)
            refine lv_iconst (v := nI 0) hx hb dX5_copyWord_38 (by decide) ?_
            refine lv_istore (lv' := [(4, .int (nI (0))), (0, .ref (h)), (1, .int (nI (j))), (2, .int (x)), (3, .int (nI (k)))]) hx hb dX5_copyWord_39 hl (by decide) rfl (fun ls hl => ?_)
            refine lv_iconst (v := nI 0) hx hb dX5_copyWord_41 (by decide) ?_
            refine lv_istore (lv' := [(5, .int (nI (0))), (4, .int (nI (0))), (0, .ref (h)), (1, .int (nI (j))), (2, .int (x)), (3, .int (nI (k)))]) hx hb dX5_copyWord_42 hl (by decide) rfl (fun ls hl => ?_)
            have L_44 : ∀ (fu : Nat) (c0 i : Nat), n - i < fu → (i ≤ n) → (c0 = fb_ct (fun z => bB (D z < D k)) i) → ∀ (H : Heap) (locs : List Loc) (ls : Array Slot), va_P g.1 vwCl (MW g h a (nI (rwL SL)) (nI n) (nI ll) (nI np) tu la wi (nI (rwL F)) (nI 0) fS fL fN fK fF fW fE fC fG fO) H → va_D A (MW g h a (nI (rwL SL)) (nI n) (nI ll) (nI np) tu la wi (nI (rwL F)) (nI 0) fS fL fN fK fF fW fE fC fG fO) → va_S A s.heap H locs → lv_has ls 6 [(0, .ref (h)), (1, .int (nI (j))), (2, .int (x)), (3, .int (nI (k))), (4, .int (nI (c0))), (5, .int (nI (i)))] → W p l e rm_X5_copyWord s m args below meth c H locs 0 0 Z (F0 m 44 ls []) := by
              intro fu
              induction fu with
              | zero => intro _ _ h0; exact absurd h0 (Nat.not_lt_zero _)
              | succ fu ih_44 =>
                intro c0 i hfu hi1 hc1 H locs ls hP hD hS hl
                have hcb : fb_ct (fun z => bB (D z < D k)) i ≤ i := fb_ct_le _ _
                refine lv_iload hx hb dX5_copyWord_44 (lv_at hl 5 rfl) ?_
                refine lv_aload_n hx hb dX5_copyWord_46 rfl (lv_at hl 0 rfl) ?_
                refine va_get (D := g.1) (ci := 3) (v := .int (nI (n))) (C := RX5) (T := TX5) (N := 19) hx hb hts hi_3 hown hK hP 0 rfl rfl 4 (by decide) f_51 (fun _ h9 => h9) rfl dX5_copyWord_47 ?_
                refine lv_icmp_ge (tgt := 79) hx hb dX5_copyWord_50 (by decide) (fun c_50_8 => ?_) (fun c_50_8 => ?_)
                · skip
                  have n_50_8 : n ≤ i := (nI_leI (a := n) (b := i) (by omega) (by omega)).mp c_50_8
                  refine lv_iload hx hb dX5_copyWord_79 (lv_at hl 4 rfl) ?_
                  refine lv_iload_n hx hb dX5_copyWord_81 rfl (lv_at hl 1 rfl) ?_
                  refine lv_icmp_ne (tgt := 89) hx hb dX5_copyWord_82 (by decide) (fun c_82_9 => ?_) (fun c_82_9 => ?_)
                  · skip
                    have n_82_9 : ¬ c0 = j := fun q9 => c_82_9 ((nI_eq (a := c0) (b := j) (by omega) (by omega)).mpr q9)
                    refine lv_iload_n hx hb dX5_copyWord_89 rfl (lv_at hl 2 rfl) ?_
                    refine lv_istore_n (lv' := [(2, .int (x)), (0, .ref (h)), (1, .int (nI (j))), (3, .int (nI (k))), (4, .int (nI (c0))), (5, .int (nI (i)))]) hx hb dX5_copyWord_90 rfl hl (by decide) rfl (fun ls hl => ?_)
                    refine lv_iinc (v := (nI (k + 1))) (lv' := [(3, .int (nI (k + 1))), (2, .int (x)), (0, .ref (h)), (1, .int (nI (j))), (4, .int (nI (c0))), (5, .int (nI (i)))]) hx hb dX5_copyWord_91 hl (k := 3) rfl (nI_add (k) 1) (by decide) rfl (fun ls hl => ?_)
                    refine lv_goto (tgt := 30) hx hb dX5_copyWord_94 (by decide) ?_
                    exact ih_30 x (k + 1) (by omega) (by omega) (cr_f hx0 (fun q9 => n_82_9 (by rw [hc1, show i = n by omega]; exact q9))) _ _ _ hP hD hS (lv_sub hl [2, 3, 1, 0] rfl)
                  · skip
                    have n_82_9 : c0 = j := (nI_eq (a := c0) (b := j) (by omega) (by omega)).mp c_82_9
                    refine lv_iload_n hx hb dX5_copyWord_85 rfl (lv_at hl 3 rfl) ?_
                    refine lv_goto (tgt := 90) hx hb dX5_copyWord_86 (by decide) ?_
                    refine lv_istore_n (lv' := [(2, .int (nI (k))), (0, .ref (h)), (1, .int (nI (j))), (3, .int (nI (k))), (4, .int (nI (c0))), (5, .int (nI (i)))]) hx hb dX5_copyWord_90 rfl hl (by decide) rfl (fun ls hl => ?_)
                    refine lv_iinc (v := (nI (k + 1))) (lv' := [(3, .int (nI (k + 1))), (2, .int (nI (k))), (0, .ref (h)), (1, .int (nI (j))), (4, .int (nI (c0))), (5, .int (nI (i)))]) hx hb dX5_copyWord_91 hl (k := 3) rfl (nI_add (k) 1) (by decide) rfl (fun ls hl => ?_)
                    refine lv_goto (tgt := 30) hx hb dX5_copyWord_94 (by decide) ?_
                    exact ih_30 (nI (k)) (k + 1) (by omega) (by omega) (cr_t (by rw [← n_82_9, hc1, show i = n by omega]; rfl)) _ _ _ hP hD hS (lv_sub hl [2, 3, 1, 0] rfl)
                · skip
                  have n_50_8 : ¬ n ≤ i := fun q9 => c_50_8 ((nI_leI (a := n) (b := i) (by omega) (by omega)).mpr q9)
                  refine lv_iload hx hb dX5_copyWord_53 (lv_at hl 4 rfl) ?_
                  refine lv_aload_n hx hb dX5_copyWord_55 rfl (lv_at hl 0 rfl) ?_
                  refine lv_iload hx hb dX5_copyWord_56 (lv_at hl 5 rfl) ?_
                  refine lv_iload_n hx hb dX5_copyWord_58 rfl (lv_at hl 3 rfl) ?_
                  refine call_iVW (As := [.int (nI (i)), .int (nI (k))]) (rest := [.int (nI (c0))]) ⟨hx, hb, hml, hown, hts⟩ (c_X5_isBefore l g h a SL n ll np tu la wi F (nI 0) fS fL fN fK fF fW fE fC fG fO D hDm hn hSL hfS hFr hfF hll hp i k (by omega) (by omega)) (cwV 2 hts gX5_copyWord_X5_isBefore rfl rfl rfl (by decide +kernel) ⟨Nat.le_of_ble_eq_true rfl, Nat.le_of_ble_eq_true rfl⟩) hP hK hD hS hA 0 rfl rfl rfl rfl hl.1 rfl (Nat.le_of_ble_eq_true rfl) dX5_copyWord_59 ⟨Nat.le_refl _, Nat.le_refl _⟩ (fun r_59 w H locs h_59 hP hD hS => ?_)
                  obtain ⟨rfl, h_59⟩ := h_59
                  have hP : va_P g.1 vwCl (MW g h a (nI (rwL SL)) (nI n) (nI ll) (nI np) tu la wi (nI (rwL F)) (nI 0) fS fL fN fK fF fW fE fC fG fO) H := hP
                  have hD : va_D A (MW g h a (nI (rwL SL)) (nI n) (nI ll) (nI np) tu la wi (nI (rwL F)) (nI 0) fS fL fN fK fF fW fE fC fG fO) := hD
                  refine lv_if_eq (tgt := 69) hx hb dX5_copyWord_62 (by decide) (fun c_62_10 => ?_) (fun c_62_10 => ?_)
                  · skip
                    have n_62_10 := Bv.f h_59 c_62_10
                    refine lv_iconst (v := nI 0) hx hb dX5_copyWord_69 (by decide) ?_
                    refine lv_iadd hx hb dX5_copyWord_70 ?_
                    refine tp_i (nI_add c0 0) ?_
                    refine lv_istore (lv' := [(4, .int (nI (c0 + 0))), (0, .ref (h)), (1, .int (nI (j))), (2, .int (x)), (3, .int (nI (k))), (5, .int (nI (i)))]) hx hb dX5_copyWord_71 hl (by decide) rfl (fun ls hl => ?_)
                    refine lv_iinc (v := (nI (i + 1))) (lv' := [(5, .int (nI (i + 1))), (4, .int (nI (c0 + 0))), (0, .ref (h)), (1, .int (nI (j))), (2, .int (x)), (3, .int (nI (k)))]) hx hb dX5_copyWord_73 hl (k := 5) rfl (nI_add (i) 1) (by decide) rfl (fun ls hl => ?_)
                    refine lv_goto (tgt := 44) hx hb dX5_copyWord_76 (by decide) ?_
                    exact ih_44 (c0 + 0) (i + 1) (by omega) (by omega) (ct_f hc1 (bB_f n_62_10)) _ _ _ hP hD hS (lv_sub hl [2, 3, 4, 5, 1, 0] rfl)
                  · skip
                    have n_62_10 := Bv.t h_59 c_62_10
                    refine lv_iconst (v := nI 1) hx hb dX5_copyWord_65 (by decide) ?_
                    refine lv_goto (tgt := 70) hx hb dX5_copyWord_66 (by decide) ?_
                    refine lv_iadd hx hb dX5_copyWord_70 ?_
                    refine tp_i (nI_add c0 1) ?_
                    refine lv_istore (lv' := [(4, .int (nI (c0 + 1))), (0, .ref (h)), (1, .int (nI (j))), (2, .int (x)), (3, .int (nI (k))), (5, .int (nI (i)))]) hx hb dX5_copyWord_71 hl (by decide) rfl (fun ls hl => ?_)
                    refine lv_iinc (v := (nI (i + 1))) (lv' := [(5, .int (nI (i + 1))), (4, .int (nI (c0 + 1))), (0, .ref (h)), (1, .int (nI (j))), (2, .int (x)), (3, .int (nI (k)))]) hx hb dX5_copyWord_73 hl (k := 5) rfl (nI_add (i) 1) (by decide) rfl (fun ls hl => ?_)
                    refine lv_goto (tgt := 44) hx hb dX5_copyWord_76 (by decide) ?_
                    exact ih_44 (c0 + 1) (i + 1) (by omega) (by omega) (ct_t hc1 (bB_t n_62_10)) _ _ _ hP hD hS (lv_sub hl [2, 3, 4, 5, 1, 0] rfl)
            exact L_44 (_ + 1) 0 0 (Nat.lt_succ_self _) (Nat.zero_le _) (rfl) _ _ _ hP hD hS (lv_sub hl [2, 3, 4, 5, 1, 0] rfl)
      exact L_30 (_ + 1) (-1) 0 (Nat.lt_succ_self _) (Nat.zero_le _) (Or.inr ⟨fun i hi => absurd hi (Nat.not_lt_zero _), rfl⟩) _ _ _ hP hD hS (lv_sub hl [2, 3, 1, 0] rfl)

abbrev rm_X5_setLeastLength : Room := { frames := 1, cells := 0, slots := 0, locals := 21 }
set_option maxHeartbeats 4000000 in
set_option maxRecDepth 100000 in
theorem c_X5_setLeastLength (l : Launch) (g : GG) (h : Nat) (a : Nat → Nat) (SL n ll np : Nat) (tu la wi : Int32) (F : Nat) (th : Int32) (fS fL fN fK fF fW fE fC fG fO : Nat → Int32) (D : Nat → Nat) (hDm : MD fL fN D n) (hn : n ≤ 50) (hSL : RV SL) (hfS : MRw fS SL) (hFr : RV F) (hfF : MRw fF F) (hll : ll ≤ 10) (hp : np ≤ 4) (x0 : Int32) : Ci l yX5_setLeastLength wsX5_setLeastLength rm_X5_setLeastLength g [.ref (h), .int (x0)] (MW g h a (nI (rwL SL)) (nI n) (nI ll) (nI np) tu la wi (nI (rwL F)) th fS fL fN fK fF fW fE fC fG fO) (fun r w => (∃ n0 : Nat, 2 ≤ n0 ∧ n0 ≤ 10 ∧ nI n0 = x0 ∧ r = nI ll ∧ w = (MW g h a (nI (rwL SL)) (nI n) (nI n0) (nI np) tu la wi (nI (rwL F)) (nI 0) fS fL fN fK fF fW fE fC fG fO)) ∨ (¬ (∃ n0 : Nat, 2 ≤ n0 ∧ n0 ≤ 10 ∧ nI n0 = x0) ∧ w = (MW g h a (nI (rwL SL)) (nI n) (nI ll) (nI np) tu la wi (nI (rwL F)) (nI 1) fS fL fN fK fF fW fE fC fG fO))) := by
  refine Ci.ofI (cc := cX5_setLeastLength) (maxL := 3) (by decide) rfl (Nat.le_of_ble_eq_true rfl) ?_
  intro p e s m args below meth c A Z hx hb hml hts hown hK hA hret H locs ls hP hD hS hl
  have f_19 := hts (.fieldLink RX5 19 "GhostGameModel" "least" "I") (by decide +kernel)
  have hi_3 : ∀ w ∈ wsX50, w ∈ wsX5_setLeastLength := by decide +kernel
  have hl : lv_has ls 3 [(0, .ref (h)), (1, .int (x0))] := hl
  refine lv_aload_n hx hb dX5_setLeastLength_0 rfl (lv_at hl 0 rfl) ?_
  refine lv_iload_n hx hb dX5_setLeastLength_1 rfl (lv_at hl 1 rfl) ?_
  refine lv_iconst (v := nI 2) hx hb dX5_setLeastLength_2 (by decide) ?_
  refine lv_icmp_lt (tgt := 16) hx hb dX5_setLeastLength_3 (by decide) (fun c_3_1 => ?_) (fun c_3_1 => ?_)
  · skip
    have n9 : ¬ (∃ n0 : Nat, 2 ≤ n0 ∧ n0 ≤ 10 ∧ nI n0 = x0) := by
      rintro ⟨n0, h1, h2, rfl⟩
      have := (nI_ltI (by omega) (by omega)).mp c_3_1
      omega
    refine lv_iconst (v := nI 0) hx hb dX5_setLeastLength_16 (by decide) ?_
    refine call_iVW (As := [.int (nI (0))]) (rest := []) ⟨hx, hb, hml, hown, hts⟩ (c_X5_asked_0 l g h a (nI (rwL SL)) (nI n) (nI ll) (nI np) tu la wi (nI (rwL F)) th fS fL fN fK fF fW fE fC fG fO ) (cwV 1 hts gX5_setLeastLength_X5_asked rfl rfl rfl (by decide +kernel) ⟨Nat.le_of_ble_eq_true rfl, Nat.le_of_ble_eq_true rfl⟩) hP hK hD hS hA 0 rfl rfl rfl rfl hl.1 rfl (Nat.le_of_ble_eq_true rfl) dX5_setLeastLength_17 ⟨Nat.le_refl _, Nat.le_refl _⟩ (fun r_17 w H locs h_17 hP hD hS => ?_)
    obtain ⟨h_17, rfl⟩ := h_17
    replace h_17 := h_17.symm
    subst h_17
    have hP : va_P g.1 vwCl (MW g h a (nI (rwL SL)) (nI n) (nI ll) (nI np) tu la wi (nI (rwL F)) (nI 1) fS fL fN fK fF fW fE fC fG fO) H := hP
    have hD : va_D A (MW g h a (nI (rwL SL)) (nI n) (nI ll) (nI np) tu la wi (nI (rwL F)) (nI 1) fS fL fN fK fF fW fE fC fG fO) := hD
    refine lv_if_ne (tgt := 25) hx hb dX5_setLeastLength_20 (by decide) (fun c_20_2 => absurd (by decide) c_20_2) (fun c_20_2 => ?_)
    refine lv_iconst (v := nI 0) hx hb dX5_setLeastLength_23 (by decide) ?_
    exact hret (nI (0)) (MW g h a (nI (rwL SL)) (nI n) (nI ll) (nI np) tu la wi (nI (rwL F)) (nI 1) fS fL fN fK fF fW fE fC fG fO) _ _ _ _ dX5_setLeastLength_24 (Or.inr ⟨n9, rfl⟩) hP hD hS
  · skip
    refine lv_iload_n hx hb dX5_setLeastLength_6 rfl (lv_at hl 1 rfl) ?_
    refine lv_bipush (v := nI 10) hx hb dX5_setLeastLength_7 (by decide) ?_
    refine lv_icmp_gt (tgt := 16) hx hb dX5_setLeastLength_9 (by decide) (fun c_9_3 => ?_) (fun c_9_3 => ?_)
    · skip
      have n9 : ¬ (∃ n0 : Nat, 2 ≤ n0 ∧ n0 ≤ 10 ∧ nI n0 = x0) := by
        rintro ⟨n0, h1, h2, rfl⟩
        have := (nI_ltI (by omega) (by omega)).mp c_9_3
        omega
      refine lv_iconst (v := nI 0) hx hb dX5_setLeastLength_16 (by decide) ?_
      refine call_iVW (As := [.int (nI (0))]) (rest := []) ⟨hx, hb, hml, hown, hts⟩ (c_X5_asked_0 l g h a (nI (rwL SL)) (nI n) (nI ll) (nI np) tu la wi (nI (rwL F)) th fS fL fN fK fF fW fE fC fG fO ) (cwV 1 hts gX5_setLeastLength_X5_asked rfl rfl rfl (by decide +kernel) ⟨Nat.le_of_ble_eq_true rfl, Nat.le_of_ble_eq_true rfl⟩) hP hK hD hS hA 0 rfl rfl rfl rfl hl.1 rfl (Nat.le_of_ble_eq_true rfl) dX5_setLeastLength_17 ⟨Nat.le_refl _, Nat.le_refl _⟩ (fun r_17 w H locs h_17 hP hD hS => ?_)
      obtain ⟨h_17, rfl⟩ := h_17
      replace h_17 := h_17.symm
      subst h_17
      have hP : va_P g.1 vwCl (MW g h a (nI (rwL SL)) (nI n) (nI ll) (nI np) tu la wi (nI (rwL F)) (nI 1) fS fL fN fK fF fW fE fC fG fO) H := hP
      have hD : va_D A (MW g h a (nI (rwL SL)) (nI n) (nI ll) (nI np) tu la wi (nI (rwL F)) (nI 1) fS fL fN fK fF fW fE fC fG fO) := hD
      refine lv_if_ne (tgt := 25) hx hb dX5_setLeastLength_20 (by decide) (fun c_20_4 => absurd (by decide) c_20_4) (fun c_20_4 => ?_)
      refine lv_iconst (v := nI 0) hx hb dX5_setLeastLength_23 (by decide) ?_
      exact hret (nI (0)) (MW g h a (nI (rwL SL)) (nI n) (nI ll) (nI np) tu la wi (nI (rwL F)) (nI 1) fS fL fN fK fF fW fE fC fG fO) _ _ _ _ dX5_setLeastLength_24 (Or.inr ⟨n9, rfl⟩) hP hD hS
    · skip
      obtain ⟨n0, hn1, hn2, rfl⟩ : (∃ n0 : Nat, 2 ≤ n0 ∧ n0 ≤ 10 ∧ nI n0 = x0) := by
        rcases pk_ix x0 (n := 11) (by omega) with h | h | ⟨j, h1, h2⟩
        · exact absurd (fa_trans h (by decide : (0 : Int32) ≤ nI 2)) c_3_1
        · exact absurd (fa_trans (by decide : nI 10 < nI 11) h) c_9_3
        · refine ⟨j, ?_, by omega, h2.symm⟩
          rcases Nat.lt_or_ge j 2 with q | q
          · exact absurd (by rw [h2]; exact (nI_ltI (by omega) (by omega)).mpr q) c_3_1
          · exact q
      refine lv_iconst (v := nI 1) hx hb dX5_setLeastLength_12 (by decide) ?_
      refine lv_goto (tgt := 17) hx hb dX5_setLeastLength_13 (by decide) ?_
      refine call_iVW (As := [.int (nI (1))]) (rest := []) ⟨hx, hb, hml, hown, hts⟩ (c_X5_asked_1 l g h a (nI (rwL SL)) (nI n) (nI ll) (nI np) tu la wi (nI (rwL F)) th fS fL fN fK fF fW fE fC fG fO ) (cwV 1 hts gX5_setLeastLength_X5_asked rfl rfl rfl (by decide +kernel) ⟨Nat.le_of_ble_eq_true rfl, Nat.le_of_ble_eq_true rfl⟩) hP hK hD hS hA 0 rfl rfl rfl rfl hl.1 rfl (Nat.le_of_ble_eq_true rfl) dX5_setLeastLength_17 ⟨Nat.le_refl _, Nat.le_refl _⟩ (fun r_17 w H locs h_17 hP hD hS => ?_)
      obtain ⟨h_17, rfl⟩ := h_17
      replace h_17 := h_17.symm
      subst h_17
      have hP : va_P g.1 vwCl (MW g h a (nI (rwL SL)) (nI n) (nI ll) (nI np) tu la wi (nI (rwL F)) (nI 0) fS fL fN fK fF fW fE fC fG fO) H := hP
      have hD : va_D A (MW g h a (nI (rwL SL)) (nI n) (nI ll) (nI np) tu la wi (nI (rwL F)) (nI 0) fS fL fN fK fF fW fE fC fG fO) := hD
      refine lv_if_ne (tgt := 25) hx hb dX5_setLeastLength_20 (by decide) (fun c_20_5 => ?_) (fun c_20_5 => absurd c_20_5 (by decide))
      refine lv_aload_n hx hb dX5_setLeastLength_25 rfl (lv_at hl 0 rfl) ?_
      refine va_get (D := g.1) (ci := 3) (v := .int (nI (ll))) (C := RX5) (T := TX5) (N := 19) hx hb hts hi_3 hown hK hP 0 rfl rfl 5 (by decide) f_19 (fun _ h9 => h9) rfl dX5_setLeastLength_26 ?_
      refine lv_istore_n (lv' := [(2, .int (nI (ll))), (0, .ref (h)), (1, .int (nI (n0)))]) hx hb dX5_setLeastLength_29 rfl hl (by decide) rfl (fun ls hl => ?_)
      refine lv_aload_n hx hb dX5_setLeastLength_30 rfl (lv_at hl 1 rfl) ?_
      refine lv_iload_n hx hb dX5_setLeastLength_31 rfl (lv_at hl 2 rfl) ?_
      refine va_put (D := g.1) (ci := 3) (v := .int (nI (n0))) (ty := .int) (C := RX5) (T := TX5) (N := 19) hx hb hts hi_3 tyX5 tyX5_ok nmX5 hown hK hP hD hS 0 rfl rfl 5 (by decide) f_19 (fun _ h9 => h9) rfl (by decide +kernel) rfl rfl (Nat.le_of_ble_eq_true rfl) dX5_setLeastLength_32 (fun H locs hP hD hS => ?_)
      have hP : va_P g.1 vwCl (MW g h a (nI (rwL SL)) (nI n) (nI n0) (nI np) tu la wi (nI (rwL F)) (nI 0) fS fL fN fK fF fW fE fC fG fO) H := hP
      have hD : va_D A (MW g h a (nI (rwL SL)) (nI n) (nI n0) (nI np) tu la wi (nI (rwL F)) (nI 0) fS fL fN fK fF fW fE fC fG fO) := hD
      refine lv_iload_n hx hb dX5_setLeastLength_35 rfl (lv_at hl 0 rfl) ?_
      exact hret (nI (ll)) (MW g h a (nI (rwL SL)) (nI n) (nI n0) (nI np) tu la wi (nI (rwL F)) (nI 0) fS fL fN fK fF fW fE fC fG fO) _ _ _ _ dX5_setLeastLength_36 (Or.inl ⟨n0, hn1, hn2, rfl, rfl, rfl⟩) hP hD hS

abbrev rm_X5_start : Room := { frames := 1, cells := 0, slots := 0, locals := 21 }
set_option maxHeartbeats 4000000 in
set_option maxRecDepth 100000 in
theorem c_X5_start (l : Launch) (g : GG) (h : Nat) (a : Nat → Nat) (SL n ll np : Nat) (tu la wi : Int32) (F : Nat) (th : Int32) (fS fL fN fK fF fW fE fC fG fO : Nat → Int32) (D : Nat → Nat) (hDm : MD fL fN D n) (hn : n ≤ 50) (hSL : RV SL) (hfS : MRw fS SL) (hFr : RV F) (hfF : MRw fF F) (hll : ll ≤ 10) (hp : np ≤ 4) (x0 : Int32) : Cv l yX5_start wsX5_start rm_X5_start g [.ref (h), .int (x0)] (MW g h a (nI (rwL SL)) (nI n) (nI ll) (nI np) tu la wi (nI (rwL F)) th fS fL fN fK fF fW fE fC fG fO) (fun w => (∃ (n0 : Nat) (k9 : Nat → Int32), 2 ≤ n0 ∧ n0 ≤ 4 ∧ nI n0 = x0 ∧ GK k9 (fun _ => 0) ∧ w = (MW g h a (nI (rwL SL)) (nI n) (nI ll) (nI n0) (nI 0) la (-1) (nI 0) (nI 0) fS fL fN k9 fF fW fE fC fG fO)) ∨ (¬ (∃ n0 : Nat, 2 ≤ n0 ∧ n0 ≤ 4 ∧ nI n0 = x0) ∧ w = (MW g h a (nI (rwL SL)) (nI n) (nI ll) (nI np) tu la wi (nI (rwL F)) (nI 1) fS fL fN fK fF fW fE fC fG fO))) := by
  refine Cv.ofV (cc := cX5_start) (maxL := 3) (by decide) rfl (Nat.le_of_ble_eq_true rfl) ?_
  intro p e s m args below meth c A Z hx hb hml hts hown hK hA hret H locs ls hP hD hS hl
  have f_23 := hts (.fieldLink RX5 23 "GhostGameModel" "strikes" "[I") (by decide +kernel)
  have f_26 := hts (.fieldLink RX5 26 "GhostGameModel" "winner" "I") (by decide +kernel)
  have f_88 := hts (.fieldLink RX5 88 "GhostGameModel" "players" "I") (by decide +kernel)
  have f_91 := hts (.fieldLink RX5 91 "GhostGameModel" "turn" "I") (by decide +kernel)
  have f_94 := hts (.fieldLink RX5 94 "GhostGameModel" "fragmentLength" "I") (by decide +kernel)
  have hi_3 : ∀ w ∈ wsX50, w ∈ wsX5_start := by decide +kernel
  have hl : lv_has ls 3 [(0, .ref (h)), (1, .int (x0))] := hl
  refine lv_aload_n hx hb dX5_start_0 rfl (lv_at hl 0 rfl) ?_
  refine lv_iload_n hx hb dX5_start_1 rfl (lv_at hl 1 rfl) ?_
  refine lv_iconst (v := nI 2) hx hb dX5_start_2 (by decide) ?_
  refine lv_icmp_lt (tgt := 15) hx hb dX5_start_3 (by decide) (fun c_3_1 => ?_) (fun c_3_1 => ?_)
  · skip
    have n9 : ¬ (∃ n0 : Nat, 2 ≤ n0 ∧ n0 ≤ 4 ∧ nI n0 = x0) := by
      rintro ⟨n0, h1, h2, rfl⟩
      have := (nI_ltI (by omega) (by omega)).mp c_3_1
      omega
    refine lv_iconst (v := nI 0) hx hb dX5_start_15 (by decide) ?_
    refine call_iVW (As := [.int (nI (0))]) (rest := []) ⟨hx, hb, hml, hown, hts⟩ (c_X5_asked_0 l g h a (nI (rwL SL)) (nI n) (nI ll) (nI np) tu la wi (nI (rwL F)) th fS fL fN fK fF fW fE fC fG fO ) (cwV 1 hts gX5_start_X5_asked rfl rfl rfl (by decide +kernel) ⟨Nat.le_of_ble_eq_true rfl, Nat.le_of_ble_eq_true rfl⟩) hP hK hD hS hA 0 rfl rfl rfl rfl hl.1 rfl (Nat.le_of_ble_eq_true rfl) dX5_start_16 ⟨Nat.le_refl _, Nat.le_refl _⟩ (fun r_16 w H locs h_16 hP hD hS => ?_)
    obtain ⟨h_16, rfl⟩ := h_16
    replace h_16 := h_16.symm
    subst h_16
    have hP : va_P g.1 vwCl (MW g h a (nI (rwL SL)) (nI n) (nI ll) (nI np) tu la wi (nI (rwL F)) (nI 1) fS fL fN fK fF fW fE fC fG fO) H := hP
    have hD : va_D A (MW g h a (nI (rwL SL)) (nI n) (nI ll) (nI np) tu la wi (nI (rwL F)) (nI 1) fS fL fN fK fF fW fE fC fG fO) := hD
    refine lv_if_ne (tgt := 23) hx hb dX5_start_19 (by decide) (fun c_19_2 => absurd (by decide) c_19_2) (fun c_19_2 => ?_)
    exact hret (MW g h a (nI (rwL SL)) (nI n) (nI ll) (nI np) tu la wi (nI (rwL F)) (nI 1) fS fL fN fK fF fW fE fC fG fO) _ _ _ _ dX5_start_22 (Or.inr ⟨n9, rfl⟩) hP hD hS
  · skip
    refine lv_iload_n hx hb dX5_start_6 rfl (lv_at hl 1 rfl) ?_
    refine lv_iconst (v := nI 4) hx hb dX5_start_7 (by decide) ?_
    refine lv_icmp_gt (tgt := 15) hx hb dX5_start_8 (by decide) (fun c_8_3 => ?_) (fun c_8_3 => ?_)
    · skip
      have n9 : ¬ (∃ n0 : Nat, 2 ≤ n0 ∧ n0 ≤ 4 ∧ nI n0 = x0) := by
        rintro ⟨n0, h1, h2, rfl⟩
        have := (nI_ltI (by omega) (by omega)).mp c_8_3
        omega
      refine lv_iconst (v := nI 0) hx hb dX5_start_15 (by decide) ?_
      refine call_iVW (As := [.int (nI (0))]) (rest := []) ⟨hx, hb, hml, hown, hts⟩ (c_X5_asked_0 l g h a (nI (rwL SL)) (nI n) (nI ll) (nI np) tu la wi (nI (rwL F)) th fS fL fN fK fF fW fE fC fG fO ) (cwV 1 hts gX5_start_X5_asked rfl rfl rfl (by decide +kernel) ⟨Nat.le_of_ble_eq_true rfl, Nat.le_of_ble_eq_true rfl⟩) hP hK hD hS hA 0 rfl rfl rfl rfl hl.1 rfl (Nat.le_of_ble_eq_true rfl) dX5_start_16 ⟨Nat.le_refl _, Nat.le_refl _⟩ (fun r_16 w H locs h_16 hP hD hS => ?_)
      obtain ⟨h_16, rfl⟩ := h_16
      replace h_16 := h_16.symm
      subst h_16
      have hP : va_P g.1 vwCl (MW g h a (nI (rwL SL)) (nI n) (nI ll) (nI np) tu la wi (nI (rwL F)) (nI 1) fS fL fN fK fF fW fE fC fG fO) H := hP
      have hD : va_D A (MW g h a (nI (rwL SL)) (nI n) (nI ll) (nI np) tu la wi (nI (rwL F)) (nI 1) fS fL fN fK fF fW fE fC fG fO) := hD
      refine lv_if_ne (tgt := 23) hx hb dX5_start_19 (by decide) (fun c_19_4 => absurd (by decide) c_19_4) (fun c_19_4 => ?_)
      exact hret (MW g h a (nI (rwL SL)) (nI n) (nI ll) (nI np) tu la wi (nI (rwL F)) (nI 1) fS fL fN fK fF fW fE fC fG fO) _ _ _ _ dX5_start_22 (Or.inr ⟨n9, rfl⟩) hP hD hS
    · skip
      obtain ⟨n0, hn1, hn2, rfl⟩ : (∃ n0 : Nat, 2 ≤ n0 ∧ n0 ≤ 4 ∧ nI n0 = x0) := by
        rcases pk_ix x0 (n := 5) (by omega) with h | h | ⟨j, h1, h2⟩
        · exact absurd (fa_trans h (by decide : (0 : Int32) ≤ nI 2)) c_3_1
        · exact absurd (fa_trans (by decide : nI 4 < nI 5) h) c_8_3
        · refine ⟨j, ?_, by omega, h2.symm⟩
          rcases Nat.lt_or_ge j 2 with q | q
          · exact absurd (by rw [h2]; exact (nI_ltI (by omega) (by omega)).mpr q) c_3_1
          · exact q
      refine lv_iconst (v := nI 1) hx hb dX5_start_11 (by decide) ?_
      refine lv_goto (tgt := 16) hx hb dX5_start_12 (by decide) ?_
      refine call_iVW (As := [.int (nI (1))]) (rest := []) ⟨hx, hb, hml, hown, hts⟩ (c_X5_asked_1 l g h a (nI (rwL SL)) (nI n) (nI ll) (nI np) tu la wi (nI (rwL F)) th fS fL fN fK fF fW fE fC fG fO ) (cwV 1 hts gX5_start_X5_asked rfl rfl rfl (by decide +kernel) ⟨Nat.le_of_ble_eq_true rfl, Nat.le_of_ble_eq_true rfl⟩) hP hK hD hS hA 0 rfl rfl rfl rfl hl.1 rfl (Nat.le_of_ble_eq_true rfl) dX5_start_16 ⟨Nat.le_refl _, Nat.le_refl _⟩ (fun r_16 w H locs h_16 hP hD hS => ?_)
      obtain ⟨h_16, rfl⟩ := h_16
      replace h_16 := h_16.symm
      subst h_16
      have hP : va_P g.1 vwCl (MW g h a (nI (rwL SL)) (nI n) (nI ll) (nI np) tu la wi (nI (rwL F)) (nI 0) fS fL fN fK fF fW fE fC fG fO) H := hP
      have hD : va_D A (MW g h a (nI (rwL SL)) (nI n) (nI ll) (nI np) tu la wi (nI (rwL F)) (nI 0) fS fL fN fK fF fW fE fC fG fO) := hD
      refine lv_if_ne (tgt := 23) hx hb dX5_start_19 (by decide) (fun c_19_5 => ?_) (fun c_19_5 => absurd c_19_5 (by decide))
      refine lv_aload_n hx hb dX5_start_23 rfl (lv_at hl 0 rfl) ?_
      refine lv_iload_n hx hb dX5_start_24 rfl (lv_at hl 1 rfl) ?_
      refine va_put (D := g.1) (ci := 3) (v := .int (nI (n0))) (ty := .int) (C := RX5) (T := TX5) (N := 19) hx hb hts hi_3 tyX5 tyX5_ok nmX5 hown hK hP hD hS 0 rfl rfl 6 (by decide) f_88 (fun _ h9 => h9) rfl (by decide +kernel) rfl rfl (Nat.le_of_ble_eq_true rfl) dX5_start_25 (fun H locs hP hD hS => ?_)
      have hP : va_P g.1 vwCl (MW g h a (nI (rwL SL)) (nI n) (nI ll) (nI n0) tu la wi (nI (rwL F)) (nI 0) fS fL fN fK fF fW fE fC fG fO) H := hP
      have hD : va_D A (MW g h a (nI (rwL SL)) (nI n) (nI ll) (nI n0) tu la wi (nI (rwL F)) (nI 0) fS fL fN fK fF fW fE fC fG fO) := hD
      refine lv_iconst (v := nI 0) hx hb dX5_start_28 (by decide) ?_
      refine lv_istore_n (lv' := [(2, .int (nI (0))), (0, .ref (h)), (1, .int (nI (n0)))]) hx hb dX5_start_29 rfl hl (by decide) rfl (fun ls hl => ?_)
      have L_30 : ∀ (fu : Nat) (i : Nat) (kc : Nat → Int32), 4 - i < fu → (i ≤ 4) → (∀ j, j < i → kc j = nI 0) → ∀ (H : Heap) (locs : List Loc) (ls : Array Slot), va_P g.1 vwCl (MW g h a (nI (rwL SL)) (nI n) (nI ll) (nI n0) tu la wi (nI (rwL F)) (nI 0) fS fL fN kc fF fW fE fC fG fO) H → va_D A (MW g h a (nI (rwL SL)) (nI n) (nI ll) (nI n0) tu la wi (nI (rwL F)) (nI 0) fS fL fN kc fF fW fE fC fG fO) → va_S A s.heap H locs → lv_has ls 3 [(0, .ref (h)), (2, .int (nI (i)))] → W p l e rm_X5_start s m args below meth c H locs 0 0 Z (F0 m 30 ls []) := by
        intro fu
        induction fu with
        | zero => intro _ _ h0; exact absurd h0 (Nat.not_lt_zero _)
        | succ fu ih_30 =>
          intro i kc hfu hi1 hz H locs ls hP hD hS hl
          refine lv_iload_n hx hb dX5_start_30 rfl (lv_at hl 1 rfl) ?_
          refine lv_iconst (v := nI 4) hx hb dX5_start_31 (by decide) ?_
          refine lv_icmp_ge (tgt := 48) hx hb dX5_start_32 (by decide) (fun c_32_6 => ?_) (fun c_32_6 => ?_)
          · skip
            have n_32_6 : 4 ≤ i := (nI_leI (a := 4) (b := i) (by omega) (by omega)).mp c_32_6
            refine lv_aload_n hx hb dX5_start_48 rfl (lv_at hl 0 rfl) ?_
            refine lv_iconst (v := nI 0) hx hb dX5_start_49 (by decide) ?_
            refine va_put (D := g.1) (ci := 3) (v := .int (nI (0))) (ty := .int) (C := RX5) (T := TX5) (N := 19) hx hb hts hi_3 tyX5 tyX5_ok nmX5 hown hK hP hD hS 0 rfl rfl 8 (by decide) f_91 (fun _ h9 => h9) rfl (by decide +kernel) rfl rfl (Nat.le_of_ble_eq_true rfl) dX5_start_50 (fun H locs hP hD hS => ?_)
            have hP : va_P g.1 vwCl (MW g h a (nI (rwL SL)) (nI n) (nI ll) (nI n0) (nI 0) la wi (nI (rwL F)) (nI 0) fS fL fN kc fF fW fE fC fG fO) H := hP
            have hD : va_D A (MW g h a (nI (rwL SL)) (nI n) (nI ll) (nI n0) (nI 0) la wi (nI (rwL F)) (nI 0) fS fL fN kc fF fW fE fC fG fO) := hD
            refine lv_aload_n hx hb dX5_start_53 rfl (lv_at hl 0 rfl) ?_
            refine lv_iconst (v := -1) hx hb dX5_start_54 (by decide) ?_
            refine va_put (D := g.1) (ci := 3) (v := .int (-1)) (ty := .int) (C := RX5) (T := TX5) (N := 19) hx hb hts hi_3 tyX5 tyX5_ok nmX5 hown hK hP hD hS 0 rfl rfl 10 (by decide) f_26 (fun _ h9 => h9) rfl (by decide +kernel) rfl rfl (Nat.le_of_ble_eq_true rfl) dX5_start_55 (fun H locs hP hD hS => ?_)
            have hP : va_P g.1 vwCl (MW g h a (nI (rwL SL)) (nI n) (nI ll) (nI n0) (nI 0) la (-1) (nI (rwL F)) (nI 0) fS fL fN kc fF fW fE fC fG fO) H := hP
            have hD : va_D A (MW g h a (nI (rwL SL)) (nI n) (nI ll) (nI n0) (nI 0) la (-1) (nI (rwL F)) (nI 0) fS fL fN kc fF fW fE fC fG fO) := hD
            refine lv_aload_n hx hb dX5_start_58 rfl (lv_at hl 0 rfl) ?_
            refine lv_iconst (v := nI 0) hx hb dX5_start_59 (by decide) ?_
            refine va_put (D := g.1) (ci := 3) (v := .int (nI (0))) (ty := .int) (C := RX5) (T := TX5) (N := 19) hx hb hts hi_3 tyX5 tyX5_ok nmX5 hown hK hP hD hS 0 rfl rfl 12 (by decide) f_94 (fun _ h9 => h9) rfl (by decide +kernel) rfl rfl (Nat.le_of_ble_eq_true rfl) dX5_start_60 (fun H locs hP hD hS => ?_)
            have hP : va_P g.1 vwCl (MW g h a (nI (rwL SL)) (nI n) (nI ll) (nI n0) (nI 0) la (-1) (nI 0) (nI 0) fS fL fN kc fF fW fE fC fG fO) H := hP
            have hD : va_D A (MW g h a (nI (rwL SL)) (nI n) (nI ll) (nI n0) (nI 0) la (-1) (nI 0) (nI 0) fS fL fN kc fF fW fE fC fG fO) := hD
            exact hret (MW g h a (nI (rwL SL)) (nI n) (nI ll) (nI n0) (nI 0) la (-1) (nI 0) (nI 0) fS fL fN kc fF fW fE fC fG fO) _ _ _ _ dX5_start_63 (Or.inl ⟨n0, kc, hn1, hn2, rfl, fun j hj => ⟨hz j (by omega), Nat.zero_le _⟩, rfl⟩) hP hD hS
          · skip
            have n_32_6 : ¬ 4 ≤ i := fun q9 => c_32_6 ((nI_leI (a := 4) (b := i) (by omega) (by omega)).mpr q9)
            refine lv_aload_n hx hb dX5_start_35 rfl (lv_at hl 0 rfl) ?_
            refine va_get (D := g.1) (ci := 3) (v := .ref (a 7)) (C := RX5) (T := TX5) (N := 19) hx hb hts hi_3 hown hK hP 0 rfl rfl 7 (by decide) f_23 (fun _ h9 => h9) rfl dX5_start_36 ?_
            refine lv_iload_n hx hb dX5_start_39 rfl (lv_at hl 1 rfl) ?_
            refine lv_iconst (v := nI 0) hx hb dX5_start_40 (by decide) ?_
            refine va_iast (n := 4) (f := kc) hx hb hK hP hD hS 4 0 rfl rfl (vp_in_nI (n := i) (by omega) (by decide)) dX5_start_41 (fun H locs hP hD hS => ?_)
            rw [nI_clamp (n := i) (by omega)] at hP hD
            have hP : va_P g.1 vwCl (MW g h a (nI (rwL SL)) (nI n) (nI ll) (nI n0) tu la wi (nI (rwL F)) (nI 0) fS fL fN (upd kc i (nI (0))) fF fW fE fC fG fO) H := hP
            have hD : va_D A (MW g h a (nI (rwL SL)) (nI n) (nI ll) (nI n0) tu la wi (nI (rwL F)) (nI 0) fS fL fN (upd kc i (nI (0))) fF fW fE fC fG fO) := hD
            refine lv_iinc (v := (nI (i + 1))) (lv' := [(2, .int (nI (i + 1))), (0, .ref (h))]) hx hb dX5_start_42 hl (k := 1) rfl (nI_add (i) 1) (by decide) rfl (fun ls hl => ?_)
            refine lv_goto (tgt := 30) hx hb dX5_start_45 (by decide) ?_
            exact ih_30 (i + 1) (upd kc i (nI (0))) (by omega) (by omega) (bg_step hz) _ _ _ hP hD hS (lv_sub hl [1, 0] rfl)
      exact L_30 (_ + 1) 0 fK (Nat.lt_succ_self _) (by omega) (fun j h => absurd h (Nat.not_lt_zero _)) _ _ _ hP hD hS (lv_sub hl [1, 0] rfl)

abbrev rm_X5_goesOn : Room := { frames := 0, cells := 0, slots := 0, locals := 0 }
set_option maxHeartbeats 4000000 in
set_option maxRecDepth 100000 in
theorem c_X5_goesOn (l : Launch) (g : GG) (h : Nat) (a : Nat → Nat) (SL n ll np : Nat) (tu la wi : Int32) (F : Nat) (th : Int32) (fS fL fN fK fF fW fE fC fG fO : Nat → Int32) (D : Nat → Nat) (hDm : MD fL fN D n) (hn : n ≤ 50) (hSL : RV SL) (hfS : MRw fS SL) (hFr : RV F) (hfF : MRw fF F) (hll : ll ≤ 10) (hp : np ≤ 4) : Ci l yX5_goesOn wsX5_goesOn rm_X5_goesOn g [.ref (h)] (MW g h a (nI (rwL SL)) (nI n) (nI ll) (nI np) tu la wi (nI (rwL F)) th fS fL fN fK fF fW fE fC fG fO) (fun r w => w = (MW g h a (nI (rwL SL)) (nI n) (nI ll) (nI np) tu la wi (nI (rwL F)) th fS fL fN fK fF fW fE fC fG fO) ∧ Bv r (0 < np ∧ wi = -1)) := by
  refine Ci.ofZ (cc := cX5_goesOn) (maxL := 1) (by decide) rfl (Nat.le_of_ble_eq_true rfl) ?_
  intro p e s m args below meth c A Z hx hb hml hts hown hK hA hret H locs ls hP hD hS hl
  have f_26 := hts (.fieldLink RX5 26 "GhostGameModel" "winner" "I") (by decide +kernel)
  have f_88 := hts (.fieldLink RX5 88 "GhostGameModel" "players" "I") (by decide +kernel)
  have hi_3 : ∀ w ∈ wsX50, w ∈ wsX5_goesOn := by decide +kernel
  have hl : lv_has ls 1 [(0, .ref (h))] := hl
  refine lv_aload_n hx hb dX5_goesOn_0 rfl (lv_at hl 0 rfl) ?_
  refine va_get (D := g.1) (ci := 3) (v := .int (nI (np))) (C := RX5) (T := TX5) (N := 19) hx hb hts hi_3 hown hK hP 0 rfl rfl 6 (by decide) f_88 (fun _ h9 => h9) rfl dX5_goesOn_1 ?_
  refine lv_if_le (tgt := 19) hx hb dX5_goesOn_4 (by decide) (fun c_4_1 => ?_) (fun c_4_1 => ?_)
  · skip
    have n_4_1 : np ≤ 0 := (nI_leI (a := np) (b := 0) (by omega) (by omega)).mp c_4_1
    refine lv_iconst (v := nI 0) hx hb dX5_goesOn_19 (by decide) ?_
    exact hret (nI (0)) (MW g h a (nI (rwL SL)) (nI n) (nI ll) (nI np) tu la wi (nI (rwL F)) th fS fL fN fK fF fW fE fC fG fO) _ _ _ _ dX5_goesOn_20 (Or.inl rfl) (⟨rfl, Bv.no (fun q9 => by have := q9.1; omega)⟩) hP hD hS
  · skip
    have n_4_1 : ¬ np ≤ 0 := fun q9 => c_4_1 ((nI_leI (a := np) (b := 0) (by omega) (by omega)).mpr q9)
    refine lv_aload_n hx hb dX5_goesOn_7 rfl (lv_at hl 0 rfl) ?_
    refine va_get (D := g.1) (ci := 3) (v := .int (wi)) (C := RX5) (T := TX5) (N := 19) hx hb hts hi_3 hown hK hP 0 rfl rfl 10 (by decide) f_26 (fun _ h9 => h9) rfl dX5_goesOn_8 ?_
    refine lv_iconst (v := -1) hx hb dX5_goesOn_11 (by decide) ?_
    refine lv_icmp_ne (tgt := 19) hx hb dX5_goesOn_12 (by decide) (fun c_12_2 => ?_) (fun c_12_2 => ?_)
    · skip
      refine lv_iconst (v := nI 0) hx hb dX5_goesOn_19 (by decide) ?_
      exact hret (nI (0)) (MW g h a (nI (rwL SL)) (nI n) (nI ll) (nI np) tu la wi (nI (rwL F)) th fS fL fN fK fF fW fE fC fG fO) _ _ _ _ dX5_goesOn_20 (Or.inl rfl) (⟨rfl, Bv.no (fun q9 => c_12_2 q9.2)⟩) hP hD hS
    · skip
      refine lv_iconst (v := nI 1) hx hb dX5_goesOn_15 (by decide) ?_
      refine lv_goto (tgt := 20) hx hb dX5_goesOn_16 (by decide) ?_
      exact hret (nI (1)) (MW g h a (nI (rwL SL)) (nI n) (nI ll) (nI np) tu la wi (nI (rwL F)) th fS fL fN fK fF fW fE fC fG fO) _ _ _ _ dX5_goesOn_20 (Or.inr rfl) (⟨rfl, Bv.yes ⟨by omega, c_12_2⟩⟩) hP hD hS

abbrev rm_X5_behind : Room := { frames := 0, cells := 0, slots := 0, locals := 0 }
set_option maxHeartbeats 4000000 in
set_option maxRecDepth 100000 in
theorem c_X5_behind (l : Launch) (g : GG) (h : Nat) (a : Nat → Nat) (SL n ll np : Nat) (tu la wi : Int32) (F : Nat) (th : Int32) (fS fL fN fK fF fW fE fC fG fO : Nat → Int32) (D : Nat → Nat) (hDm : MD fL fN D n) (hn : n ≤ 50) (hSL : RV SL) (hfS : MRw fS SL) (hFr : RV F) (hfF : MRw fF F) (hll : ll ≤ 10) (hp : np ≤ 4) (K : Nat → Nat) (hk : GK fK K) (j t : Nat) (hj : j < np) (hnx : nxF K np np j = some t) : Ci l yX5_behind wsX5_behind rm_X5_behind g [.ref (h), .int (nI (j))] (MW g h a (nI (rwL SL)) (nI n) (nI ll) (nI np) tu la wi (nI (rwL F)) th fS fL fN fK fF fW fE fC fG fO) (fun r w => w = (MW g h a (nI (rwL SL)) (nI n) (nI ll) (nI np) tu la wi (nI (rwL F)) th fS fL fN fK fF fW fE fC fG fO) ∧ r = nI t) := by
  refine Ci.ofI (cc := cX5_behind) (maxL := 3) (by decide) rfl (Nat.le_of_ble_eq_true rfl) ?_
  intro p e s m args below meth c A Z hx hb hml hts hown hK hA hret H locs ls hP hD hS hl
  have f_23 := hts (.fieldLink RX5 23 "GhostGameModel" "strikes" "[I") (by decide +kernel)
  have f_88 := hts (.fieldLink RX5 88 "GhostGameModel" "players" "I") (by decide +kernel)
  have hi_3 : ∀ w ∈ wsX50, w ∈ wsX5_behind := by decide +kernel
  have hl : lv_has ls 3 [(0, .ref (h)), (1, .int (nI (j)))] := hl
  refine lv_iload_n hx hb dX5_behind_0 rfl (lv_at hl 1 rfl) ?_
  refine lv_istore_n (lv' := [(2, .int (nI (j))), (0, .ref (h)), (1, .int (nI (j)))]) hx hb dX5_behind_1 rfl hl (by decide) rfl (fun ls hl => ?_)
  have L_2 : ∀ (fu : Nat) (c0 s0 : Nat), s0 < fu → (c0 < np) → (nxF K np s0 c0 = some t) → ∀ (H : Heap) (locs : List Loc) (ls : Array Slot), va_P g.1 vwCl (MW g h a (nI (rwL SL)) (nI n) (nI ll) (nI np) tu la wi (nI (rwL F)) th fS fL fN fK fF fW fE fC fG fO) H → va_D A (MW g h a (nI (rwL SL)) (nI n) (nI ll) (nI np) tu la wi (nI (rwL F)) th fS fL fN fK fF fW fE fC fG fO) → va_S A s.heap H locs → lv_has ls 3 [(0, .ref (h)), (2, .int (nI (c0)))] → W p l e rm_X5_behind s m args below meth c H locs 0 0 Z (F0 m 2 ls []) := by
    intro fu
    induction fu with
    | zero => intro _ _ h0; exact absurd h0 (Nat.not_lt_zero _)
    | succ fu ih_2 =>
      intro c0 s0 hfu hc1 hs H locs ls hP hD hS hl
      have hs0 := nxF_pos hs
      refine lv_iload_n hx hb dX5_behind_2 rfl (lv_at hl 1 rfl) ?_
      refine lv_aload_n hx hb dX5_behind_3 rfl (lv_at hl 0 rfl) ?_
      refine va_get (D := g.1) (ci := 3) (v := .int (nI (np))) (C := RX5) (T := TX5) (N := 19) hx hb hts hi_3 hown hK hP 0 rfl rfl 6 (by decide) f_88 (fun _ h9 => h9) rfl dX5_behind_4 ?_
      refine lv_iconst (v := nI 1) hx hb dX5_behind_7 (by decide) ?_
      refine lv_isub hx hb dX5_behind_8 ?_
      refine tp_i (pk_sub (a := np) (b := 1) (by omega)) ?_
      refine lv_icmp_ne (tgt := 16) hx hb dX5_behind_9 (by decide) (fun c_9_1 => ?_) (fun c_9_1 => ?_)
      · skip
        have n_9_1 : ¬ c0 = np - 1 := fun q9 => c_9_1 ((nI_eq (a := c0) (b := np - 1) (by omega) (by omega)).mpr q9)
        refine lv_iload_n hx hb dX5_behind_16 rfl (lv_at hl 1 rfl) ?_
        refine lv_iconst (v := nI 1) hx hb dX5_behind_17 (by decide) ?_
        refine lv_iadd hx hb dX5_behind_18 ?_
        refine tp_i (nI_add c0 1) ?_
        refine lv_istore_n (lv' := [(2, .int (nI (c0 + 1))), (0, .ref (h))]) hx hb dX5_behind_19 rfl hl (by decide) rfl (fun ls hl => ?_)
        refine lv_aload_n hx hb dX5_behind_20 rfl (lv_at hl 1 rfl) ?_
        refine va_get (D := g.1) (ci := 3) (v := .ref (a 7)) (C := RX5) (T := TX5) (N := 19) hx hb hts hi_3 hown hK hP 0 rfl rfl 7 (by decide) f_23 (fun _ h9 => h9) rfl dX5_behind_21 ?_
        refine lv_iload_n hx hb dX5_behind_24 rfl (lv_at hl 0 rfl) ?_
        refine va_iald (n := 4) (f := fK) hx hb hK hP 4 0 rfl rfl (vp_in_nI (n := c0 + 1) (by omega) (by decide)) dX5_behind_25 ?_
        refine tp_i (congrArg fK (nI_clamp (n := c0 + 1) (by omega))) ?_
        refine tp_i (b := (nI (K (c0 + 1)))) ((hk (c0 + 1) (by omega)).1) ?_
        have hK5 := (hk (c0 + 1) (by omega)).2
        refine lv_iconst (v := nI 5) hx hb dX5_behind_26 (by decide) ?_
        refine lv_icmp_eq (tgt := 2) hx hb dX5_behind_27 (by decide) (fun c_27_2 => ?_) (fun c_27_2 => ?_)
        · skip
          have n_27_2 : K (c0 + 1) = 5 := (nI_eq (a := K (c0 + 1)) (b := 5) (by omega) (by omega)).mp c_27_2
          exact ih_2 (c0 + 1) (s0 - 1) (by omega) (by omega) ((nxF_go (s' := s0 - 1) (by omega) (nx1_n hc1 n_9_1) (by omega)).symm.trans hs) _ _ _ hP hD hS (lv_sub hl [1, 0] rfl)
        · skip
          have n_27_2 : ¬ K (c0 + 1) = 5 := fun q9 => c_27_2 ((nI_eq (a := K (c0 + 1)) (b := 5) (by omega) (by omega)).mpr q9)
          refine lv_iload_n hx hb dX5_behind_30 rfl (lv_at hl 0 rfl) ?_
          exact hret (nI (c0 + 1)) (MW g h a (nI (rwL SL)) (nI n) (nI ll) (nI np) tu la wi (nI (rwL F)) th fS fL fN fK fF fW fE fC fG fO) _ _ _ _ dX5_behind_31 (⟨rfl, by rw [Option.some.inj ((nxF_hit (by omega) (nx1_n hc1 n_9_1) (by omega)).symm.trans hs)]⟩) hP hD hS
      · skip
        have n_9_1 : c0 = np - 1 := (nI_eq (a := c0) (b := np - 1) (by omega) (by omega)).mp c_9_1
        refine lv_iconst (v := nI 0) hx hb dX5_behind_12 (by decide) ?_
        refine lv_goto (tgt := 19) hx hb dX5_behind_13 (by decide) ?_
        refine lv_istore_n (lv' := [(2, .int (nI (0))), (0, .ref (h))]) hx hb dX5_behind_19 rfl hl (by decide) rfl (fun ls hl => ?_)
        refine lv_aload_n hx hb dX5_behind_20 rfl (lv_at hl 1 rfl) ?_
        refine va_get (D := g.1) (ci := 3) (v := .ref (a 7)) (C := RX5) (T := TX5) (N := 19) hx hb hts hi_3 hown hK hP 0 rfl rfl 7 (by decide) f_23 (fun _ h9 => h9) rfl dX5_behind_21 ?_
        refine lv_iload_n hx hb dX5_behind_24 rfl (lv_at hl 0 rfl) ?_
        refine va_iald (n := 4) (f := fK) hx hb hK hP 4 0 rfl rfl (vp_in_nI (n := 0) (by omega) (by decide)) dX5_behind_25 ?_
        refine tp_i (congrArg fK (nI_clamp (n := 0) (by omega))) ?_
        refine tp_i (b := (nI (K 0))) ((hk 0 (by omega)).1) ?_
        have hK5 := (hk 0 (by omega)).2
        refine lv_iconst (v := nI 5) hx hb dX5_behind_26 (by decide) ?_
        refine lv_icmp_eq (tgt := 2) hx hb dX5_behind_27 (by decide) (fun c_27_3 => ?_) (fun c_27_3 => ?_)
        · skip
          have n_27_3 : K 0 = 5 := (nI_eq (a := K 0) (b := 5) (by omega) (by omega)).mp c_27_3
          exact ih_2 0 (s0 - 1) (by omega) (by omega) ((nxF_go (s' := s0 - 1) (by omega) (nx1_e hc1 n_9_1) (by omega)).symm.trans hs) _ _ _ hP hD hS (lv_sub hl [1, 0] rfl)
        · skip
          have n_27_3 : ¬ K 0 = 5 := fun q9 => c_27_3 ((nI_eq (a := K 0) (b := 5) (by omega) (by omega)).mpr q9)
          refine lv_iload_n hx hb dX5_behind_30 rfl (lv_at hl 0 rfl) ?_
          exact hret (nI (0)) (MW g h a (nI (rwL SL)) (nI n) (nI ll) (nI np) tu la wi (nI (rwL F)) th fS fL fN fK fF fW fE fC fG fO) _ _ _ _ dX5_behind_31 (⟨rfl, by rw [Option.some.inj ((nxF_hit (by omega) (nx1_e hc1 n_9_1) (by omega)).symm.trans hs)]⟩) hP hD hS
  exact L_2 (_ + 1) j np (Nat.lt_succ_self _) (hj) (hnx) _ _ _ hP hD hS (lv_sub hl [1, 0] rfl)

abbrev rm_X5_loses : Room := { frames := 1, cells := 0, slots := 0, locals := 22 }
set_option maxHeartbeats 4000000 in
set_option maxRecDepth 100000 in
theorem c_X5_loses (l : Launch) (g : GG) (h : Nat) (a : Nat → Nat) (SL n ll np : Nat) (tu la wi : Int32) (F : Nat) (th : Int32) (fS fL fN fK fF fW fE fC fG fO : Nat → Int32) (D : Nat → Nat) (hDm : MD fL fN D n) (hn : n ≤ 50) (hSL : RV SL) (hfS : MRw fS SL) (hFr : RV F) (hfF : MRw fF F) (hll : ll ≤ 10) (hp : np ≤ 4) (K : Nat → Nat) (hk : GK fK K) (j : Nat) (hj : j < np) (hKj : K j < 5) (hnx : 5 ≤ erK K j j → ∃ t, nxF (erK K j) np np j = some t) : Ci l yX5_loses wsX5_loses rm_X5_loses g [.ref (h), .int (nI (j))] (MW g h a (nI (rwL SL)) (nI n) (nI ll) (nI np) tu la wi (nI (rwL F)) th fS fL fN fK fF fW fE fC fG fO) (fun r w => r = nI j ∧ w = (MW g h a (nI (rwL SL)) (nI n) (nI ll) (nI np) (lsT K np j) la (lsW K np j) (nI 0) th fS fL fN (upd fK j (nI ((K j) + 1))) fF fW fE fC fG fO)) := by
  refine Ci.ofI (cc := cX5_loses) (maxL := 4) (by decide) rfl (Nat.le_of_ble_eq_true rfl) ?_
  intro p e s m args below meth c A Z hx hb hml hts hown hK hA hret H locs ls hP hD hS hl
  have f_23 := hts (.fieldLink RX5 23 "GhostGameModel" "strikes" "[I") (by decide +kernel)
  have f_26 := hts (.fieldLink RX5 26 "GhostGameModel" "winner" "I") (by decide +kernel)
  have f_88 := hts (.fieldLink RX5 88 "GhostGameModel" "players" "I") (by decide +kernel)
  have f_91 := hts (.fieldLink RX5 91 "GhostGameModel" "turn" "I") (by decide +kernel)
  have f_94 := hts (.fieldLink RX5 94 "GhostGameModel" "fragmentLength" "I") (by decide +kernel)
  have hi_3 : ∀ w ∈ wsX50, w ∈ wsX5_loses := by decide +kernel
  have hl : lv_has ls 4 [(0, .ref (h)), (1, .int (nI (j)))] := hl
  have hk2 := hk.up hKj
  have hKb : leftN (erK K j) np ≤ np := fb_ct_le _ _
  refine lv_aload_n hx hb dX5_loses_0 rfl (lv_at hl 0 rfl) ?_
  refine va_get (D := g.1) (ci := 3) (v := .ref (a 7)) (C := RX5) (T := TX5) (N := 19) hx hb hts hi_3 hown hK hP 0 rfl rfl 7 (by decide) f_23 (fun _ h9 => h9) rfl dX5_loses_1 ?_
  refine lv_iload_n hx hb dX5_loses_4 rfl (lv_at hl 1 rfl) ?_
  refine lv_dup2_11 hx hb dX5_loses_5 rfl rfl ?_
  refine va_iald (n := 4) (f := fK) hx hb hK hP 4 0 rfl rfl (vp_in_nI (n := j) (by omega) (by decide)) dX5_loses_6 ?_
  refine tp_i (congrArg fK (nI_clamp (n := j) (by omega))) ?_
  refine tp_i (b := (nI (K j))) ((hk j (by omega)).1) ?_
  refine lv_iconst (v := nI 1) hx hb dX5_loses_7 (by decide) ?_
  refine lv_iadd hx hb dX5_loses_8 ?_
  refine tp_i (nI_add (K j) 1) ?_
  refine va_iast (n := 4) (f := fK) hx hb hK hP hD hS 4 0 rfl rfl (vp_in_nI (n := j) (by omega) (by decide)) dX5_loses_9 (fun H locs hP hD hS => ?_)
  rw [nI_clamp (n := j) (by omega)] at hP hD
  have hP : va_P g.1 vwCl (MW g h a (nI (rwL SL)) (nI n) (nI ll) (nI np) tu la wi (nI (rwL F)) th fS fL fN (upd fK j (nI ((K j) + 1))) fF fW fE fC fG fO) H := hP
  have hD : va_D A (MW g h a (nI (rwL SL)) (nI n) (nI ll) (nI np) tu la wi (nI (rwL F)) th fS fL fN (upd fK j (nI ((K j) + 1))) fF fW fE fC fG fO) := hD
  refine lv_aload_n hx hb dX5_loses_10 rfl (lv_at hl 0 rfl) ?_
  refine lv_iconst (v := nI 0) hx hb dX5_loses_11 (by decide) ?_
  refine va_put (D := g.1) (ci := 3) (v := .int (nI (0))) (ty := .int) (C := RX5) (T := TX5) (N := 19) hx hb hts hi_3 tyX5 tyX5_ok nmX5 hown hK hP hD hS 0 rfl rfl 12 (by decide) f_94 (fun _ h9 => h9) rfl (by decide +kernel) rfl rfl (Nat.le_of_ble_eq_true rfl) dX5_loses_12 (fun H locs hP hD hS => ?_)
  have hP : va_P g.1 vwCl (MW g h a (nI (rwL SL)) (nI n) (nI ll) (nI np) tu la wi (nI 0) th fS fL fN (upd fK j (nI ((K j) + 1))) fF fW fE fC fG fO) H := hP
  have hD : va_D A (MW g h a (nI (rwL SL)) (nI n) (nI ll) (nI np) tu la wi (nI 0) th fS fL fN (upd fK j (nI ((K j) + 1))) fF fW fE fC fG fO) := hD
  refine lv_iconst (v := nI 0) hx hb dX5_loses_15 (by decide) ?_
  refine lv_istore_n (lv' := [(2, .int (nI (0))), (0, .ref (h)), (1, .int (nI (j)))]) hx hb dX5_loses_16 rfl hl (by decide) rfl (fun ls hl => ?_)
  refine lv_iconst (v := nI 0) hx hb dX5_loses_17 (by decide) ?_
  refine lv_istore_n (lv' := [(3, .int (nI (0))), (2, .int (nI (0))), (0, .ref (h)), (1, .int (nI (j)))]) hx hb dX5_loses_18 rfl hl (by decide) rfl (fun ls hl => ?_)
  have L_19 : ∀ (fu : Nat) (c0 i : Nat), np - i < fu → (i ≤ np) → (c0 = leftN (erK K j) i) → ∀ (H : Heap) (locs : List Loc) (ls : Array Slot), va_P g.1 vwCl (MW g h a (nI (rwL SL)) (nI n) (nI ll) (nI np) tu la wi (nI 0) th fS fL fN (upd fK j (nI ((K j) + 1))) fF fW fE fC fG fO) H → va_D A (MW g h a (nI (rwL SL)) (nI n) (nI ll) (nI np) tu la wi (nI 0) th fS fL fN (upd fK j (nI ((K j) + 1))) fF fW fE fC fG fO) → va_S A s.heap H locs → lv_has ls 4 [(0, .ref (h)), (1, .int (nI (j))), (2, .int (nI (c0))), (3, .int (nI (i)))] → W p l e rm_X5_loses s m args below meth c H locs 0 0 Z (F0 m 19 ls []) := by
    intro fu
    induction fu with
    | zero => intro _ _ h0; exact absurd h0 (Nat.not_lt_zero _)
    | succ fu ih_19 =>
      intro c0 i hfu hi1 hc1 H locs ls hP hD hS hl
      refine lv_iload_n hx hb dX5_loses_19 rfl (lv_at hl 3 rfl) ?_
      refine lv_aload_n hx hb dX5_loses_20 rfl (lv_at hl 0 rfl) ?_
      refine va_get (D := g.1) (ci := 3) (v := .int (nI (np))) (C := RX5) (T := TX5) (N := 19) hx hb hts hi_3 hown hK hP 0 rfl rfl 6 (by decide) f_88 (fun _ h9 => h9) rfl dX5_loses_21 ?_
      refine lv_icmp_ge (tgt := 51) hx hb dX5_loses_24 (by decide) (fun c_24_1 => ?_) (fun c_24_1 => ?_)
      · skip
        have n_24_1 : np ≤ i := (nI_leI (a := np) (b := i) (by omega) (by omega)).mp c_24_1
        have ei : i = np := by omega
        rw [ei] at hc1
        refine lv_aload_n hx hb dX5_loses_51 rfl (lv_at hl 0 rfl) ?_
        refine lv_aload_n hx hb dX5_loses_52 rfl (lv_at hl 0 rfl) ?_
        refine va_get (D := g.1) (ci := 3) (v := .ref (a 7)) (C := RX5) (T := TX5) (N := 19) hx hb hts hi_3 hown hK hP 0 rfl rfl 7 (by decide) f_23 (fun _ h9 => h9) rfl dX5_loses_53 ?_
        refine lv_iload_n hx hb dX5_loses_56 rfl (lv_at hl 1 rfl) ?_
        refine va_iald (n := 4) (f := upd fK j (nI ((K j) + 1))) hx hb hK hP 4 0 rfl rfl (vp_in_nI (n := j) (by omega) (by decide)) dX5_loses_57 ?_
        refine tp_i (congrArg (upd fK j (nI ((K j) + 1))) (nI_clamp (n := j) (by omega))) ?_
        refine tp_i (b := (nI (erK K j j))) ((hk2 j (by omega)).1) ?_
        have hK5 := (hk2 j (by omega)).2
        refine lv_iconst (v := nI 5) hx hb dX5_loses_58 (by decide) ?_
        refine lv_icmp_ge (tgt := 66) hx hb dX5_loses_59 (by decide) (fun c_59_2 => ?_) (fun c_59_2 => ?_)
        · skip
          have n_59_2 : 5 ≤ erK K j j := (nI_leI (a := 5) (b := erK K j j) (by omega) (by omega)).mp c_59_2
          obtain ⟨t, hnt⟩ := hnx (by omega)
          refine lv_aload_n hx hb dX5_loses_66 rfl (lv_at hl 0 rfl) ?_
          refine lv_iload_n hx hb dX5_loses_67 rfl (lv_at hl 1 rfl) ?_
          refine call_iVW (As := [.int (nI (j))]) (rest := [.ref (h)]) ⟨hx, hb, hml, hown, hts⟩ (c_X5_behind l g h a SL n ll np tu la wi 0 th fS fL fN (upd fK j (nI ((K j) + 1))) fF fW fE fC fG fO D hDm hn hSL hfS RV.zero (MRw.nil _) hll hp (erK K j) hk2 j t hj hnt) (cwV 1 hts gX5_loses_X5_behind rfl rfl rfl (by decide +kernel) ⟨Nat.le_of_ble_eq_true rfl, Nat.le_of_ble_eq_true rfl⟩) hP hK hD hS hA 0 rfl rfl rfl rfl hl.1 rfl (Nat.le_of_ble_eq_true rfl) dX5_loses_68 ⟨Nat.le_refl _, Nat.le_refl _⟩ (fun r_68 w H locs h_68 hP hD hS => ?_)
          obtain ⟨rfl, h_68⟩ := h_68
          subst h_68
          have hP : va_P g.1 vwCl (MW g h a (nI (rwL SL)) (nI n) (nI ll) (nI np) tu la wi (nI 0) th fS fL fN (upd fK j (nI ((K j) + 1))) fF fW fE fC fG fO) H := hP
          have hD : va_D A (MW g h a (nI (rwL SL)) (nI n) (nI ll) (nI np) tu la wi (nI 0) th fS fL fN (upd fK j (nI ((K j) + 1))) fF fW fE fC fG fO) := hD
          refine va_put (D := g.1) (ci := 3) (v := .int (nI (t))) (ty := .int) (C := RX5) (T := TX5) (N := 19) hx hb hts hi_3 tyX5 tyX5_ok nmX5 hown hK hP hD hS 0 rfl rfl 8 (by decide) f_91 (fun _ h9 => h9) rfl (by decide +kernel) rfl rfl (Nat.le_of_ble_eq_true rfl) dX5_loses_71 (fun H locs hP hD hS => ?_)
          have hP : va_P g.1 vwCl (MW g h a (nI (rwL SL)) (nI n) (nI ll) (nI np) (nI t) la wi (nI 0) th fS fL fN (upd fK j (nI ((K j) + 1))) fF fW fE fC fG fO) H := hP
          have hD : va_D A (MW g h a (nI (rwL SL)) (nI n) (nI ll) (nI np) (nI t) la wi (nI 0) th fS fL fN (upd fK j (nI ((K j) + 1))) fF fW fE fC fG fO) := hD
          refine lv_aload_n hx hb dX5_loses_74 rfl (lv_at hl 0 rfl) ?_
          refine lv_iload_n hx hb dX5_loses_75 rfl (lv_at hl 2 rfl) ?_
          refine lv_iconst (v := nI 1) hx hb dX5_loses_76 (by decide) ?_
          refine lv_icmp_ne (tgt := 87) hx hb dX5_loses_77 (by decide) (fun c_77_3 => ?_) (fun c_77_3 => ?_)
          · skip
            have n_77_3 : ¬ c0 = 1 := fun q9 => c_77_3 ((nI_eq (a := c0) (b := 1) (by omega) (by omega)).mpr q9)
            refine lv_iconst (v := -1) hx hb dX5_loses_87 (by decide) ?_
            refine va_put (D := g.1) (ci := 3) (v := .int (-1)) (ty := .int) (C := RX5) (T := TX5) (N := 19) hx hb hts hi_3 tyX5 tyX5_ok nmX5 hown hK hP hD hS 0 rfl rfl 10 (by decide) f_26 (fun _ h9 => h9) rfl (by decide +kernel) rfl rfl (Nat.le_of_ble_eq_true rfl) dX5_loses_88 (fun H locs hP hD hS => ?_)
            have hP : va_P g.1 vwCl (MW g h a (nI (rwL SL)) (nI n) (nI ll) (nI np) (nI t) la (-1) (nI 0) th fS fL fN (upd fK j (nI ((K j) + 1))) fF fW fE fC fG fO) H := hP
            have hD : va_D A (MW g h a (nI (rwL SL)) (nI n) (nI ll) (nI np) (nI t) la (-1) (nI 0) th fS fL fN (upd fK j (nI ((K j) + 1))) fF fW fE fC fG fO) := hD
            refine lv_iload_n hx hb dX5_loses_91 rfl (lv_at hl 1 rfl) ?_
            exact hret (nI (j)) (MW g h a (nI (rwL SL)) (nI n) (nI ll) (nI np) (nI t) la (-1) (nI 0) th fS fL fN (upd fK j (nI ((K j) + 1))) fF fW fE fC fG fO) _ _ _ _ dX5_loses_92 (⟨rfl, by rw [show lsW K np j = -1 from by unfold lsW; rw [if_neg (show ¬ leftN (erK K j) np = 1 by omega)], show lsT K np j = nI t from by unfold lsT; rw [if_neg (by omega), hnt]; rfl]⟩) hP hD hS
          · skip
            have n_77_3 : c0 = 1 := (nI_eq (a := c0) (b := 1) (by omega) (by omega)).mp c_77_3
            refine lv_aload_n hx hb dX5_loses_80 rfl (lv_at hl 0 rfl) ?_
            refine va_get (D := g.1) (ci := 3) (v := .int (nI (t))) (C := RX5) (T := TX5) (N := 19) hx hb hts hi_3 hown hK hP 0 rfl rfl 8 (by decide) f_91 (fun _ h9 => h9) rfl dX5_loses_81 ?_
            refine lv_goto (tgt := 88) hx hb dX5_loses_84 (by decide) ?_
            refine va_put (D := g.1) (ci := 3) (v := .int (nI (t))) (ty := .int) (C := RX5) (T := TX5) (N := 19) hx hb hts hi_3 tyX5 tyX5_ok nmX5 hown hK hP hD hS 0 rfl rfl 10 (by decide) f_26 (fun _ h9 => h9) rfl (by decide +kernel) rfl rfl (Nat.le_of_ble_eq_true rfl) dX5_loses_88 (fun H locs hP hD hS => ?_)
            have hP : va_P g.1 vwCl (MW g h a (nI (rwL SL)) (nI n) (nI ll) (nI np) (nI t) la (nI t) (nI 0) th fS fL fN (upd fK j (nI ((K j) + 1))) fF fW fE fC fG fO) H := hP
            have hD : va_D A (MW g h a (nI (rwL SL)) (nI n) (nI ll) (nI np) (nI t) la (nI t) (nI 0) th fS fL fN (upd fK j (nI ((K j) + 1))) fF fW fE fC fG fO) := hD
            refine lv_iload_n hx hb dX5_loses_91 rfl (lv_at hl 1 rfl) ?_
            exact hret (nI (j)) (MW g h a (nI (rwL SL)) (nI n) (nI ll) (nI np) (nI t) la (nI t) (nI 0) th fS fL fN (upd fK j (nI ((K j) + 1))) fF fW fE fC fG fO) _ _ _ _ dX5_loses_92 (⟨rfl, by rw [show lsW K np j = nI t from by unfold lsW; rw [if_pos (show leftN (erK K j) np = 1 by omega)]; unfold lsT; rw [if_neg (by omega), hnt]; rfl, show lsT K np j = nI t from by unfold lsT; rw [if_neg (by omega), hnt]; rfl]⟩) hP hD hS
        · skip
          have n_59_2 : ¬ 5 ≤ erK K j j := fun q9 => c_59_2 ((nI_leI (a := 5) (b := erK K j j) (by omega) (by omega)).mpr q9)
          refine lv_iload_n hx hb dX5_loses_62 rfl (lv_at hl 1 rfl) ?_
          refine lv_goto (tgt := 71) hx hb dX5_loses_63 (by decide) ?_
          refine va_put (D := g.1) (ci := 3) (v := .int (nI (j))) (ty := .int) (C := RX5) (T := TX5) (N := 19) hx hb hts hi_3 tyX5 tyX5_ok nmX5 hown hK hP hD hS 0 rfl rfl 8 (by decide) f_91 (fun _ h9 => h9) rfl (by decide +kernel) rfl rfl (Nat.le_of_ble_eq_true rfl) dX5_loses_71 (fun H locs hP hD hS => ?_)
          have hP : va_P g.1 vwCl (MW g h a (nI (rwL SL)) (nI n) (nI ll) (nI np) (nI j) la wi (nI 0) th fS fL fN (upd fK j (nI ((K j) + 1))) fF fW fE fC fG fO) H := hP
          have hD : va_D A (MW g h a (nI (rwL SL)) (nI n) (nI ll) (nI np) (nI j) la wi (nI 0) th fS fL fN (upd fK j (nI ((K j) + 1))) fF fW fE fC fG fO) := hD
          refine lv_aload_n hx hb dX5_loses_74 rfl (lv_at hl 0 rfl) ?_
          refine lv_iload_n hx hb dX5_loses_75 rfl (lv_at hl 2 rfl) ?_
          refine lv_iconst (v := nI 1) hx hb dX5_loses_76 (by decide) ?_
          refine lv_icmp_ne (tgt := 87) hx hb dX5_loses_77 (by decide) (fun c_77_4 => ?_) (fun c_77_4 => ?_)
          · skip
            have n_77_4 : ¬ c0 = 1 := fun q9 => c_77_4 ((nI_eq (a := c0) (b := 1) (by omega) (by omega)).mpr q9)
            refine lv_iconst (v := -1) hx hb dX5_loses_87 (by decide) ?_
            refine va_put (D := g.1) (ci := 3) (v := .int (-1)) (ty := .int) (C := RX5) (T := TX5) (N := 19) hx hb hts hi_3 tyX5 tyX5_ok nmX5 hown hK hP hD hS 0 rfl rfl 10 (by decide) f_26 (fun _ h9 => h9) rfl (by decide +kernel) rfl rfl (Nat.le_of_ble_eq_true rfl) dX5_loses_88 (fun H locs hP hD hS => ?_)
            have hP : va_P g.1 vwCl (MW g h a (nI (rwL SL)) (nI n) (nI ll) (nI np) (nI j) la (-1) (nI 0) th fS fL fN (upd fK j (nI ((K j) + 1))) fF fW fE fC fG fO) H := hP
            have hD : va_D A (MW g h a (nI (rwL SL)) (nI n) (nI ll) (nI np) (nI j) la (-1) (nI 0) th fS fL fN (upd fK j (nI ((K j) + 1))) fF fW fE fC fG fO) := hD
            refine lv_iload_n hx hb dX5_loses_91 rfl (lv_at hl 1 rfl) ?_
            exact hret (nI (j)) (MW g h a (nI (rwL SL)) (nI n) (nI ll) (nI np) (nI j) la (-1) (nI 0) th fS fL fN (upd fK j (nI ((K j) + 1))) fF fW fE fC fG fO) _ _ _ _ dX5_loses_92 (⟨rfl, by rw [show lsW K np j = -1 from by unfold lsW; rw [if_neg (show ¬ leftN (erK K j) np = 1 by omega)], show lsT K np j = nI j from by unfold lsT; rw [if_pos (by omega)]]⟩) hP hD hS
          · skip
            have n_77_4 : c0 = 1 := (nI_eq (a := c0) (b := 1) (by omega) (by omega)).mp c_77_4
            refine lv_aload_n hx hb dX5_loses_80 rfl (lv_at hl 0 rfl) ?_
            refine va_get (D := g.1) (ci := 3) (v := .int (nI (j))) (C := RX5) (T := TX5) (N := 19) hx hb hts hi_3 hown hK hP 0 rfl rfl 8 (by decide) f_91 (fun _ h9 => h9) rfl dX5_loses_81 ?_
            refine lv_goto (tgt := 88) hx hb dX5_loses_84 (by decide) ?_
            refine va_put (D := g.1) (ci := 3) (v := .int (nI (j))) (ty := .int) (C := RX5) (T := TX5) (N := 19) hx hb hts hi_3 tyX5 tyX5_ok nmX5 hown hK hP hD hS 0 rfl rfl 10 (by decide) f_26 (fun _ h9 => h9) rfl (by decide +kernel) rfl rfl (Nat.le_of_ble_eq_true rfl) dX5_loses_88 (fun H locs hP hD hS => ?_)
            have hP : va_P g.1 vwCl (MW g h a (nI (rwL SL)) (nI n) (nI ll) (nI np) (nI j) la (nI j) (nI 0) th fS fL fN (upd fK j (nI ((K j) + 1))) fF fW fE fC fG fO) H := hP
            have hD : va_D A (MW g h a (nI (rwL SL)) (nI n) (nI ll) (nI np) (nI j) la (nI j) (nI 0) th fS fL fN (upd fK j (nI ((K j) + 1))) fF fW fE fC fG fO) := hD
            refine lv_iload_n hx hb dX5_loses_91 rfl (lv_at hl 1 rfl) ?_
            exact hret (nI (j)) (MW g h a (nI (rwL SL)) (nI n) (nI ll) (nI np) (nI j) la (nI j) (nI 0) th fS fL fN (upd fK j (nI ((K j) + 1))) fF fW fE fC fG fO) _ _ _ _ dX5_loses_92 (⟨rfl, by rw [show lsW K np j = nI j from by unfold lsW; rw [if_pos (show leftN (erK K j) np = 1 by omega)]; unfold lsT; rw [if_pos (by omega)], show lsT K np j = nI j from by unfold lsT; rw [if_pos (by omega)]]⟩) hP hD hS
      · skip
        have n_24_1 : ¬ np ≤ i := fun q9 => c_24_1 ((nI_leI (a := np) (b := i) (by omega) (by omega)).mpr q9)
        refine lv_iload_n hx hb dX5_loses_27 rfl (lv_at hl 2 rfl) ?_
        refine lv_aload_n hx hb dX5_loses_28 rfl (lv_at hl 0 rfl) ?_
        refine va_get (D := g.1) (ci := 3) (v := .ref (a 7)) (C := RX5) (T := TX5) (N := 19) hx hb hts hi_3 hown hK hP 0 rfl rfl 7 (by decide) f_23 (fun _ h9 => h9) rfl dX5_loses_29 ?_
        refine lv_iload_n hx hb dX5_loses_32 rfl (lv_at hl 3 rfl) ?_
        refine va_iald (n := 4) (f := upd fK j (nI ((K j) + 1))) hx hb hK hP 4 0 rfl rfl (vp_in_nI (n := i) (by omega) (by decide)) dX5_loses_33 ?_
        refine tp_i (congrArg (upd fK j (nI ((K j) + 1))) (nI_clamp (n := i) (by omega))) ?_
        refine tp_i (b := (nI (erK K j i))) ((hk2 i (by omega)).1) ?_
        have hK5 := (hk2 i (by omega)).2
        refine lv_iconst (v := nI 5) hx hb dX5_loses_34 (by decide) ?_
        refine lv_icmp_ge (tgt := 42) hx hb dX5_loses_35 (by decide) (fun c_35_5 => ?_) (fun c_35_5 => ?_)
        · skip
          have n_35_5 : 5 ≤ erK K j i := (nI_leI (a := 5) (b := erK K j i) (by omega) (by omega)).mp c_35_5
          refine lv_iconst (v := nI 0) hx hb dX5_loses_42 (by decide) ?_
          refine lv_iadd hx hb dX5_loses_43 ?_
          refine tp_i (nI_add c0 0) ?_
          refine lv_istore_n (lv' := [(2, .int (nI (c0 + 0))), (0, .ref (h)), (1, .int (nI (j))), (3, .int (nI (i)))]) hx hb dX5_loses_44 rfl hl (by decide) rfl (fun ls hl => ?_)
          refine lv_iinc (v := (nI (i + 1))) (lv' := [(3, .int (nI (i + 1))), (2, .int (nI (c0 + 0))), (0, .ref (h)), (1, .int (nI (j)))]) hx hb dX5_loses_45 hl (k := 3) rfl (nI_add (i) 1) (by decide) rfl (fun ls hl => ?_)
          refine lv_goto (tgt := 19) hx hb dX5_loses_48 (by decide) ?_
          exact ih_19 (c0 + 0) (i + 1) (by omega) (by omega) (ct_f hc1 (decide_eq_false (by omega))) _ _ _ hP hD hS (lv_sub hl [2, 3, 1, 0] rfl)
        · skip
          have n_35_5 : ¬ 5 ≤ erK K j i := fun q9 => c_35_5 ((nI_leI (a := 5) (b := erK K j i) (by omega) (by omega)).mpr q9)
          refine lv_iconst (v := nI 1) hx hb dX5_loses_38 (by decide) ?_
          refine lv_goto (tgt := 43) hx hb dX5_loses_39 (by decide) ?_
          refine lv_iadd hx hb dX5_loses_43 ?_
          refine tp_i (nI_add c0 1) ?_
          refine lv_istore_n (lv' := [(2, .int (nI (c0 + 1))), (0, .ref (h)), (1, .int (nI (j))), (3, .int (nI (i)))]) hx hb dX5_loses_44 rfl hl (by decide) rfl (fun ls hl => ?_)
          refine lv_iinc (v := (nI (i + 1))) (lv' := [(3, .int (nI (i + 1))), (2, .int (nI (c0 + 1))), (0, .ref (h)), (1, .int (nI (j)))]) hx hb dX5_loses_45 hl (k := 3) rfl (nI_add (i) 1) (by decide) rfl (fun ls hl => ?_)
          refine lv_goto (tgt := 19) hx hb dX5_loses_48 (by decide) ?_
          exact ih_19 (c0 + 1) (i + 1) (by omega) (by omega) (ct_t hc1 (decide_eq_true (by omega))) _ _ _ hP hD hS (lv_sub hl [2, 3, 1, 0] rfl)
  exact L_19 (_ + 1) 0 0 (Nat.lt_succ_self _) (Nat.zero_le _) (rfl) _ _ _ hP hD hS (lv_sub hl [2, 3, 1, 0] rfl)

abbrev rm_X5_hasWord_1 : Room := { frames := 1, cells := 0, slots := 0, locals := 25 }
set_option maxHeartbeats 4000000 in
set_option maxRecDepth 100000 in
theorem c_X5_hasWord_1 (l : Launch) (g : GG) (h : Nat) (a : Nat → Nat) (SL n ll np : Nat) (tu la wi : Int32) (F : Nat) (th : Int32) (fS fL fN fK fF fW fE fC fG fO : Nat → Int32) (D : Nat → Nat) (hDm : MD fL fN D n) (hn : n ≤ 50) (hSL : RV SL) (hfS : MRw fS SL) (hFr : RV F) (hfF : MRw fF F) (hll : ll ≤ 10) (hp : np ≤ 4) : Ci l yX5_hasWord wsX5_hasWord rm_X5_hasWord_1 g [.ref (h), .int (nI (1))] (MW g h a (nI (rwL SL)) (nI n) (nI ll) (nI np) tu la wi (nI (rwL F)) th fS fL fN fK fF fW fE fC fG fO) (fun r w => w = (MW g h a (nI (rwL SL)) (nI n) (nI ll) (nI np) tu la wi (nI (rwL F)) th fS fL fN fK fF fW fE fC fG fO) ∧ Bv r (∃ k, k < n ∧ hwM D n ll F k true)) := by
  refine Ci.ofZ (cc := cX5_hasWord) (maxL := 4) (by decide) rfl (Nat.le_of_ble_eq_true rfl) ?_
  intro p e s m args below meth c A Z hx hb hml hts hown hK hA hret H locs ls hP hD hS hl
  have f_16 := hts (.fieldLink RX5 16 "GhostGameModel" "length" "[I") (by decide +kernel)
  have f_29 := hts (.fieldLink RX5 29 "GhostGameModel" "fragment" "[I") (by decide +kernel)
  have f_51 := hts (.fieldLink RX5 51 "GhostGameModel" "words" "I") (by decide +kernel)
  have f_94 := hts (.fieldLink RX5 94 "GhostGameModel" "fragmentLength" "I") (by decide +kernel)
  have hi_3 : ∀ w ∈ wsX50, w ∈ wsX5_hasWord := by decide +kernel
  have hl : lv_has ls 4 [(0, .ref (h)), (1, .int (nI (1)))] := hl
  have h10 : ∀ k9, k9 < n → rwL (D k9) ≤ 10 := fun k9 h9 => (hDm k9 h9).1.1
  have hz2 := hFr.1
  refine lv_iconst (v := nI 0) hx hb dX5_hasWord_0 (by decide) ?_
  refine lv_istore_n (lv' := [(2, .int (nI (0))), (0, .ref (h)), (1, .int (nI (1)))]) hx hb dX5_hasWord_1 rfl hl (by decide) rfl (fun ls hl => ?_)
  refine lv_iconst (v := nI 0) hx hb dX5_hasWord_2 (by decide) ?_
  refine lv_istore_n (lv' := [(3, .int (nI (0))), (2, .int (nI (0))), (0, .ref (h)), (1, .int (nI (1)))]) hx hb dX5_hasWord_3 rfl hl (by decide) rfl (fun ls hl => ?_)
  have L_4 : ∀ (fu : Nat) (x : Int32) (k : Nat), n - k < fu → (k ≤ n) → (Bv x (∃ j, j < k ∧ hwM D n ll F j true)) → ∀ (H : Heap) (locs : List Loc) (ls : Array Slot), va_P g.1 vwCl (MW g h a (nI (rwL SL)) (nI n) (nI ll) (nI np) tu la wi (nI (rwL F)) th fS fL fN fK fF fW fE fC fG fO) H → va_D A (MW g h a (nI (rwL SL)) (nI n) (nI ll) (nI np) tu la wi (nI (rwL F)) th fS fL fN fK fF fW fE fC fG fO) → va_S A s.heap H locs → lv_has ls 4 [(0, .ref (h)), (1, .int (nI (1))), (2, .int (x)), (3, .int (nI (k)))] → W p l e rm_X5_hasWord_1 s m args below meth c H locs 0 0 Z (F0 m 4 ls []) := by
    intro fu
    induction fu with
    | zero => intro _ _ h0; exact absurd h0 (Nat.not_lt_zero _)
    | succ fu ih_4 =>
      intro x k hfu hk1 hx0 H locs ls hP hD hS hl
      refine lv_iload_n hx hb dX5_hasWord_4 rfl (lv_at hl 3 rfl) ?_
      refine lv_aload_n hx hb dX5_hasWord_5 rfl (lv_at hl 0 rfl) ?_
      refine va_get (D := g.1) (ci := 3) (v := .int (nI (n))) (C := RX5) (T := TX5) (N := 19) hx hb hts hi_3 hown hK hP 0 rfl rfl 4 (by decide) f_51 (fun _ h9 => h9) rfl dX5_hasWord_6 ?_
      refine lv_icmp_ge (tgt := 69) hx hb dX5_hasWord_9 (by decide) (fun c_9_1 => ?_) (fun c_9_1 => ?_)
      · skip
        have n_9_1 : n ≤ k := (nI_leI (a := n) (b := k) (by omega) (by omega)).mp c_9_1
        refine lv_iload_n hx hb dX5_hasWord_69 rfl (lv_at hl 2 rfl) ?_
        exact hret (x) (MW g h a (nI (rwL SL)) (nI n) (nI ll) (nI np) tu la wi (nI (rwL F)) th fS fL fN fK fF fW fE fC fG fO) _ _ _ _ dX5_hasWord_70 (Bv.z hx0) (⟨rfl, hx0.iff (by rw [show k = n by omega])⟩) hP hD hS
      · skip
        have n_9_1 : ¬ n ≤ k := fun q9 => c_9_1 ((nI_leI (a := n) (b := k) (by omega) (by omega)).mpr q9)
        refine lv_iload_n hx hb dX5_hasWord_12 rfl (lv_at hl 2 rfl) ?_
        refine lv_if_ne (tgt := 57) hx hb dX5_hasWord_13 (by decide) (fun c_13_2 => ?_) (fun c_13_2 => ?_)
        · skip
          have n_13_2 := Bv.t hx0 c_13_2
          refine lv_iconst (v := nI 1) hx hb dX5_hasWord_57 (by decide) ?_
          refine lv_goto (tgt := 62) hx hb dX5_hasWord_58 (by decide) ?_
          refine lv_istore_n (lv' := [(2, .int (nI (1))), (0, .ref (h)), (1, .int (nI (1))), (3, .int (nI (k)))]) hx hb dX5_hasWord_62 rfl hl (by decide) rfl (fun ls hl => ?_)
          refine lv_iinc (v := (nI (k + 1))) (lv' := [(3, .int (nI (k + 1))), (2, .int (nI (1))), (0, .ref (h)), (1, .int (nI (1)))]) hx hb dX5_hasWord_63 hl (k := 3) rfl (nI_add (k) 1) (by decide) rfl (fun ls hl => ?_)
          refine lv_goto (tgt := 4) hx hb dX5_hasWord_66 (by decide) ?_
          exact ih_4 (nI (1)) (k + 1) (by omega) (by omega) (hw_yes n_13_2) _ _ _ hP hD hS (lv_sub hl [2, 3, 1, 0] rfl)
        · skip
          have n_13_2 := Bv.f hx0 c_13_2
          refine lv_aload_n hx hb dX5_hasWord_16 rfl (lv_at hl 0 rfl) ?_
          refine lv_iload_n hx hb dX5_hasWord_17 rfl (lv_at hl 3 rfl) ?_
          refine call_iVW (As := [.int (nI (k))]) (rest := []) ⟨hx, hb, hml, hown, hts⟩ (c_X5_counts l g h a SL n ll np tu la wi F th fS fL fN fK fF fW fE fC fG fO D hDm hn hSL hfS hFr hfF hll hp k (by omega)) (cwV 1 hts gX5_hasWord_X5_counts rfl rfl rfl (by decide +kernel) ⟨Nat.le_of_ble_eq_true rfl, Nat.le_of_ble_eq_true rfl⟩) hP hK hD hS hA 0 rfl rfl rfl rfl hl.1 rfl (Nat.le_of_ble_eq_true rfl) dX5_hasWord_18 ⟨Nat.le_refl _, Nat.le_refl _⟩ (fun r_18 w H locs h_18 hP hD hS => ?_)
          obtain ⟨rfl, h_18⟩ := h_18
          have hP : va_P g.1 vwCl (MW g h a (nI (rwL SL)) (nI n) (nI ll) (nI np) tu la wi (nI (rwL F)) th fS fL fN fK fF fW fE fC fG fO) H := hP
          have hD : va_D A (MW g h a (nI (rwL SL)) (nI n) (nI ll) (nI np) tu la wi (nI (rwL F)) th fS fL fN fK fF fW fE fC fG fO) := hD
          refine lv_if_eq (tgt := 61) hx hb dX5_hasWord_21 (by decide) (fun c_21_3 => ?_) (fun c_21_3 => ?_)
          · skip
            have n_21_3 := Bv.f h_18 c_21_3
            refine lv_iconst (v := nI 0) hx hb dX5_hasWord_61 (by decide) ?_
            refine lv_istore_n (lv' := [(2, .int (nI (0))), (0, .ref (h)), (1, .int (nI (1))), (3, .int (nI (k)))]) hx hb dX5_hasWord_62 rfl hl (by decide) rfl (fun ls hl => ?_)
            refine lv_iinc (v := (nI (k + 1))) (lv' := [(3, .int (nI (k + 1))), (2, .int (nI (0))), (0, .ref (h)), (1, .int (nI (1)))]) hx hb dX5_hasWord_63 hl (k := 3) rfl (nI_add (k) 1) (by decide) rfl (fun ls hl => ?_)
            refine lv_goto (tgt := 4) hx hb dX5_hasWord_66 (by decide) ?_
            exact ih_4 (nI (0)) (k + 1) (by omega) (by omega) (hw_none n_13_2 (fun q9 => n_21_3 q9.1)) _ _ _ hP hD hS (lv_sub hl [2, 3, 1, 0] rfl)
          · skip
            have n_21_3 := Bv.t h_18 c_21_3
            refine lv_aload_n hx hb dX5_hasWord_24 rfl (lv_at hl 0 rfl) ?_
            refine lv_iload_n hx hb dX5_hasWord_25 rfl (lv_at hl 3 rfl) ?_
            refine lv_aload_n hx hb dX5_hasWord_26 rfl (lv_at hl 0 rfl) ?_
            refine va_get (D := g.1) (ci := 3) (v := .ref (a 11)) (C := RX5) (T := TX5) (N := 19) hx hb hts hi_3 hown hK hP 0 rfl rfl 11 (by decide) f_29 (fun _ h9 => h9) rfl dX5_hasWord_27 ?_
            refine lv_aload_n hx hb dX5_hasWord_30 rfl (lv_at hl 0 rfl) ?_
            refine va_get (D := g.1) (ci := 3) (v := .int (nI (rwL F))) (C := RX5) (T := TX5) (N := 19) hx hb hts hi_3 hown hK hP 0 rfl rfl 12 (by decide) f_94 (fun _ h9 => h9) rfl dX5_hasWord_31 ?_
            refine call_iVW (As := [.int (nI (k)), .ref (a 11), .int (nI (rwL F))]) (rest := []) ⟨hx, hb, hml, hown, hts⟩ (c_X5_begins_F l g h a SL n ll np tu la wi F th fS fL fN fK fF fW fE fC fG fO D hDm hn hSL hfS hFr hfF hll hp k (by omega)) (cwV 3 hts gX5_hasWord_X5_begins rfl rfl rfl (by decide +kernel) ⟨Nat.le_of_ble_eq_true rfl, Nat.le_of_ble_eq_true rfl⟩) hP hK hD hS hA 0 rfl rfl rfl rfl hl.1 rfl (Nat.le_of_ble_eq_true rfl) dX5_hasWord_34 ⟨Nat.le_refl _, Nat.le_refl _⟩ (fun r_34 w H locs h_34 hP hD hS => ?_)
            obtain ⟨rfl, h_34⟩ := h_34
            have hP : va_P g.1 vwCl (MW g h a (nI (rwL SL)) (nI n) (nI ll) (nI np) tu la wi (nI (rwL F)) th fS fL fN fK fF fW fE fC fG fO) H := hP
            have hD : va_D A (MW g h a (nI (rwL SL)) (nI n) (nI ll) (nI np) tu la wi (nI (rwL F)) th fS fL fN fK fF fW fE fC fG fO) := hD
            refine lv_if_eq (tgt := 61) hx hb dX5_hasWord_37 (by decide) (fun c_37_4 => ?_) (fun c_37_4 => ?_)
            · skip
              have n_37_4 := Bv.f h_34 c_37_4
              refine lv_iconst (v := nI 0) hx hb dX5_hasWord_61 (by decide) ?_
              refine lv_istore_n (lv' := [(2, .int (nI (0))), (0, .ref (h)), (1, .int (nI (1))), (3, .int (nI (k)))]) hx hb dX5_hasWord_62 rfl hl (by decide) rfl (fun ls hl => ?_)
              refine lv_iinc (v := (nI (k + 1))) (lv' := [(3, .int (nI (k + 1))), (2, .int (nI (0))), (0, .ref (h)), (1, .int (nI (1)))]) hx hb dX5_hasWord_63 hl (k := 3) rfl (nI_add (k) 1) (by decide) rfl (fun ls hl => ?_)
              refine lv_goto (tgt := 4) hx hb dX5_hasWord_66 (by decide) ?_
              exact ih_4 (nI (0)) (k + 1) (by omega) (by omega) (hw_none n_13_2 (fun q9 => n_37_4 q9.2.1)) _ _ _ hP hD hS (lv_sub hl [2, 3, 1, 0] rfl)
            · skip
              have n_37_4 := Bv.t h_34 c_37_4
              refine lv_iload_n hx hb dX5_hasWord_40 rfl (lv_at hl 1 rfl) ?_
              refine lv_if_eq (tgt := 57) hx hb dX5_hasWord_41 (by decide) (fun c_41_5 => absurd c_41_5 (by decide)) (fun c_41_5 => ?_)
              refine lv_aload_n hx hb dX5_hasWord_44 rfl (lv_at hl 0 rfl) ?_
              refine va_get (D := g.1) (ci := 3) (v := .ref (a 3)) (C := RX5) (T := TX5) (N := 19) hx hb hts hi_3 hown hK hP 0 rfl rfl 3 (by decide) f_16 (fun _ h9 => h9) rfl dX5_hasWord_45 ?_
              refine lv_iload_n hx hb dX5_hasWord_48 rfl (lv_at hl 3 rfl) ?_
              refine va_iald (n := 50) (f := fN) hx hb hK hP 3 0 rfl rfl (vp_in_nI (n := k) (by omega) (by decide)) dX5_hasWord_49 ?_
              refine tp_i (congrArg fN (nI_clamp (n := k) (by omega))) ?_
              refine tp_i (b := (nI (rwL (D k)))) ((hDm k (by omega)).2.1) ?_
              have hk3 := h10 k (by omega)
              refine lv_aload_n hx hb dX5_hasWord_50 rfl (lv_at hl 0 rfl) ?_
              refine va_get (D := g.1) (ci := 3) (v := .int (nI (rwL F))) (C := RX5) (T := TX5) (N := 19) hx hb hts hi_3 hown hK hP 0 rfl rfl 12 (by decide) f_94 (fun _ h9 => h9) rfl dX5_hasWord_51 ?_
              refine lv_icmp_ne (tgt := 61) hx hb dX5_hasWord_54 (by decide) (fun c_54_6 => ?_) (fun c_54_6 => ?_)
              · skip
                have n_54_6 : ¬ rwL (D k) = rwL F := fun q9 => c_54_6 ((nI_eq (a := rwL (D k)) (b := rwL F) (by omega) (by omega)).mpr q9)
                refine lv_iconst (v := nI 0) hx hb dX5_hasWord_61 (by decide) ?_
                refine lv_istore_n (lv' := [(2, .int (nI (0))), (0, .ref (h)), (1, .int (nI (1))), (3, .int (nI (k)))]) hx hb dX5_hasWord_62 rfl hl (by decide) rfl (fun ls hl => ?_)
                refine lv_iinc (v := (nI (k + 1))) (lv' := [(3, .int (nI (k + 1))), (2, .int (nI (0))), (0, .ref (h)), (1, .int (nI (1)))]) hx hb dX5_hasWord_63 hl (k := 3) rfl (nI_add (k) 1) (by decide) rfl (fun ls hl => ?_)
                refine lv_goto (tgt := 4) hx hb dX5_hasWord_66 (by decide) ?_
                exact ih_4 (nI (0)) (k + 1) (by omega) (by omega) (hw_none n_13_2 (fun q9 => n_54_6 (q9.2.2 rfl))) _ _ _ hP hD hS (lv_sub hl [2, 3, 1, 0] rfl)
              · skip
                have n_54_6 : rwL (D k) = rwL F := (nI_eq (a := rwL (D k)) (b := rwL F) (by omega) (by omega)).mp c_54_6
                refine lv_iconst (v := nI 1) hx hb dX5_hasWord_57 (by decide) ?_
                refine lv_goto (tgt := 62) hx hb dX5_hasWord_58 (by decide) ?_
                refine lv_istore_n (lv' := [(2, .int (nI (1))), (0, .ref (h)), (1, .int (nI (1))), (3, .int (nI (k)))]) hx hb dX5_hasWord_62 rfl hl (by decide) rfl (fun ls hl => ?_)
                refine lv_iinc (v := (nI (k + 1))) (lv' := [(3, .int (nI (k + 1))), (2, .int (nI (1))), (0, .ref (h)), (1, .int (nI (1)))]) hx hb dX5_hasWord_63 hl (k := 3) rfl (nI_add (k) 1) (by decide) rfl (fun ls hl => ?_)
                refine lv_goto (tgt := 4) hx hb dX5_hasWord_66 (by decide) ?_
                exact ih_4 (nI (1)) (k + 1) (by omega) (by omega) (Bv.yes ⟨k, by omega, n_21_3, n_37_4, fun q9 => n_54_6⟩) _ _ _ hP hD hS (lv_sub hl [2, 3, 1, 0] rfl)
  exact L_4 (_ + 1) (nI (0)) 0 (Nat.lt_succ_self _) (Nat.zero_le _) (Bv.no (fun ⟨j, a, _⟩ => absurd a (Nat.not_lt_zero _))) _ _ _ hP hD hS (lv_sub hl [2, 3, 1, 0] rfl)

set_option maxHeartbeats 4000000 in
set_option maxRecDepth 100000 in
theorem c_X5_hasWord_0 (l : Launch) (g : GG) (h : Nat) (a : Nat → Nat) (SL n ll np : Nat) (tu la wi : Int32) (F : Nat) (th : Int32) (fS fL fN fK fF fW fE fC fG fO : Nat → Int32) (D : Nat → Nat) (hDm : MD fL fN D n) (hn : n ≤ 50) (hSL : RV SL) (hfS : MRw fS SL) (hFr : RV F) (hfF : MRw fF F) (hll : ll ≤ 10) (hp : np ≤ 4) : Ci l yX5_hasWord wsX5_hasWord rm_X5_hasWord_1 g [.ref (h), .int (nI (0))] (MW g h a (nI (rwL SL)) (nI n) (nI ll) (nI np) tu la wi (nI (rwL F)) th fS fL fN fK fF fW fE fC fG fO) (fun r w => w = (MW g h a (nI (rwL SL)) (nI n) (nI ll) (nI np) tu la wi (nI (rwL F)) th fS fL fN fK fF fW fE fC fG fO) ∧ Bv r (∃ k, k < n ∧ hwM D n ll F k false)) := by
  refine Ci.ofZ (cc := cX5_hasWord) (maxL := 4) (by decide) rfl (Nat.le_of_ble_eq_true rfl) ?_
  intro p e s m args below meth c A Z hx hb hml hts hown hK hA hret H locs ls hP hD hS hl
  have f_16 := hts (.fieldLink RX5 16 "GhostGameModel" "length" "[I") (by decide +kernel)
  have f_29 := hts (.fieldLink RX5 29 "GhostGameModel" "fragment" "[I") (by decide +kernel)
  have f_51 := hts (.fieldLink RX5 51 "GhostGameModel" "words" "I") (by decide +kernel)
  have f_94 := hts (.fieldLink RX5 94 "GhostGameModel" "fragmentLength" "I") (by decide +kernel)
  have hi_3 : ∀ w ∈ wsX50, w ∈ wsX5_hasWord := by decide +kernel
  have hl : lv_has ls 4 [(0, .ref (h)), (1, .int (nI (0)))] := hl
  have h10 : ∀ k9, k9 < n → rwL (D k9) ≤ 10 := fun k9 h9 => (hDm k9 h9).1.1
  have hz2 := hFr.1
  refine lv_iconst (v := nI 0) hx hb dX5_hasWord_0 (by decide) ?_
  refine lv_istore_n (lv' := [(2, .int (nI (0))), (0, .ref (h)), (1, .int (nI (0)))]) hx hb dX5_hasWord_1 rfl hl (by decide) rfl (fun ls hl => ?_)
  refine lv_iconst (v := nI 0) hx hb dX5_hasWord_2 (by decide) ?_
  refine lv_istore_n (lv' := [(3, .int (nI (0))), (2, .int (nI (0))), (0, .ref (h)), (1, .int (nI (0)))]) hx hb dX5_hasWord_3 rfl hl (by decide) rfl (fun ls hl => ?_)
  have L_4 : ∀ (fu : Nat) (x : Int32) (k : Nat), n - k < fu → (k ≤ n) → (Bv x (∃ j, j < k ∧ hwM D n ll F j false)) → ∀ (H : Heap) (locs : List Loc) (ls : Array Slot), va_P g.1 vwCl (MW g h a (nI (rwL SL)) (nI n) (nI ll) (nI np) tu la wi (nI (rwL F)) th fS fL fN fK fF fW fE fC fG fO) H → va_D A (MW g h a (nI (rwL SL)) (nI n) (nI ll) (nI np) tu la wi (nI (rwL F)) th fS fL fN fK fF fW fE fC fG fO) → va_S A s.heap H locs → lv_has ls 4 [(0, .ref (h)), (1, .int (nI (0))), (2, .int (x)), (3, .int (nI (k)))] → W p l e rm_X5_hasWord_1 s m args below meth c H locs 0 0 Z (F0 m 4 ls []) := by
    intro fu
    induction fu with
    | zero => intro _ _ h0; exact absurd h0 (Nat.not_lt_zero _)
    | succ fu ih_4 =>
      intro x k hfu hk1 hx0 H locs ls hP hD hS hl
      refine lv_iload_n hx hb dX5_hasWord_4 rfl (lv_at hl 3 rfl) ?_
      refine lv_aload_n hx hb dX5_hasWord_5 rfl (lv_at hl 0 rfl) ?_
      refine va_get (D := g.1) (ci := 3) (v := .int (nI (n))) (C := RX5) (T := TX5) (N := 19) hx hb hts hi_3 hown hK hP 0 rfl rfl 4 (by decide) f_51 (fun _ h9 => h9) rfl dX5_hasWord_6 ?_
      refine lv_icmp_ge (tgt := 69) hx hb dX5_hasWord_9 (by decide) (fun c_9_1 => ?_) (fun c_9_1 => ?_)
      · skip
        have n_9_1 : n ≤ k := (nI_leI (a := n) (b := k) (by omega) (by omega)).mp c_9_1
        refine lv_iload_n hx hb dX5_hasWord_69 rfl (lv_at hl 2 rfl) ?_
        exact hret (x) (MW g h a (nI (rwL SL)) (nI n) (nI ll) (nI np) tu la wi (nI (rwL F)) th fS fL fN fK fF fW fE fC fG fO) _ _ _ _ dX5_hasWord_70 (Bv.z hx0) (⟨rfl, hx0.iff (by rw [show k = n by omega])⟩) hP hD hS
      · skip
        have n_9_1 : ¬ n ≤ k := fun q9 => c_9_1 ((nI_leI (a := n) (b := k) (by omega) (by omega)).mpr q9)
        refine lv_iload_n hx hb dX5_hasWord_12 rfl (lv_at hl 2 rfl) ?_
        refine lv_if_ne (tgt := 57) hx hb dX5_hasWord_13 (by decide) (fun c_13_2 => ?_) (fun c_13_2 => ?_)
        · skip
          have n_13_2 := Bv.t hx0 c_13_2
          refine lv_iconst (v := nI 1) hx hb dX5_hasWord_57 (by decide) ?_
          refine lv_goto (tgt := 62) hx hb dX5_hasWord_58 (by decide) ?_
          refine lv_istore_n (lv' := [(2, .int (nI (1))), (0, .ref (h)), (1, .int (nI (0))), (3, .int (nI (k)))]) hx hb dX5_hasWord_62 rfl hl (by decide) rfl (fun ls hl => ?_)
          refine lv_iinc (v := (nI (k + 1))) (lv' := [(3, .int (nI (k + 1))), (2, .int (nI (1))), (0, .ref (h)), (1, .int (nI (0)))]) hx hb dX5_hasWord_63 hl (k := 3) rfl (nI_add (k) 1) (by decide) rfl (fun ls hl => ?_)
          refine lv_goto (tgt := 4) hx hb dX5_hasWord_66 (by decide) ?_
          exact ih_4 (nI (1)) (k + 1) (by omega) (by omega) (hw_yes n_13_2) _ _ _ hP hD hS (lv_sub hl [2, 3, 1, 0] rfl)
        · skip
          have n_13_2 := Bv.f hx0 c_13_2
          refine lv_aload_n hx hb dX5_hasWord_16 rfl (lv_at hl 0 rfl) ?_
          refine lv_iload_n hx hb dX5_hasWord_17 rfl (lv_at hl 3 rfl) ?_
          refine call_iVW (As := [.int (nI (k))]) (rest := []) ⟨hx, hb, hml, hown, hts⟩ (c_X5_counts l g h a SL n ll np tu la wi F th fS fL fN fK fF fW fE fC fG fO D hDm hn hSL hfS hFr hfF hll hp k (by omega)) (cwV 1 hts gX5_hasWord_X5_counts rfl rfl rfl (by decide +kernel) ⟨Nat.le_of_ble_eq_true rfl, Nat.le_of_ble_eq_true rfl⟩) hP hK hD hS hA 0 rfl rfl rfl rfl hl.1 rfl (Nat.le_of_ble_eq_true rfl) dX5_hasWord_18 ⟨Nat.le_refl _, Nat.le_refl _⟩ (fun r_18 w H locs h_18 hP hD hS => ?_)
          obtain ⟨rfl, h_18⟩ := h_18
          have hP : va_P g.1 vwCl (MW g h a (nI (rwL SL)) (nI n) (nI ll) (nI np) tu la wi (nI (rwL F)) th fS fL fN fK fF fW fE fC fG fO) H := hP
          have hD : va_D A (MW g h a (nI (rwL SL)) (nI n) (nI ll) (nI np) tu la wi (nI (rwL F)) th fS fL fN fK fF fW fE fC fG fO) := hD
          refine lv_if_eq (tgt := 61) hx hb dX5_hasWord_21 (by decide) (fun c_21_3 => ?_) (fun c_21_3 => ?_)
          · skip
            have n_21_3 := Bv.f h_18 c_21_3
            refine lv_iconst (v := nI 0) hx hb dX5_hasWord_61 (by decide) ?_
            refine lv_istore_n (lv' := [(2, .int (nI (0))), (0, .ref (h)), (1, .int (nI (0))), (3, .int (nI (k)))]) hx hb dX5_hasWord_62 rfl hl (by decide) rfl (fun ls hl => ?_)
            refine lv_iinc (v := (nI (k + 1))) (lv' := [(3, .int (nI (k + 1))), (2, .int (nI (0))), (0, .ref (h)), (1, .int (nI (0)))]) hx hb dX5_hasWord_63 hl (k := 3) rfl (nI_add (k) 1) (by decide) rfl (fun ls hl => ?_)
            refine lv_goto (tgt := 4) hx hb dX5_hasWord_66 (by decide) ?_
            exact ih_4 (nI (0)) (k + 1) (by omega) (by omega) (hw_none n_13_2 (fun q9 => n_21_3 q9.1)) _ _ _ hP hD hS (lv_sub hl [2, 3, 1, 0] rfl)
          · skip
            have n_21_3 := Bv.t h_18 c_21_3
            refine lv_aload_n hx hb dX5_hasWord_24 rfl (lv_at hl 0 rfl) ?_
            refine lv_iload_n hx hb dX5_hasWord_25 rfl (lv_at hl 3 rfl) ?_
            refine lv_aload_n hx hb dX5_hasWord_26 rfl (lv_at hl 0 rfl) ?_
            refine va_get (D := g.1) (ci := 3) (v := .ref (a 11)) (C := RX5) (T := TX5) (N := 19) hx hb hts hi_3 hown hK hP 0 rfl rfl 11 (by decide) f_29 (fun _ h9 => h9) rfl dX5_hasWord_27 ?_
            refine lv_aload_n hx hb dX5_hasWord_30 rfl (lv_at hl 0 rfl) ?_
            refine va_get (D := g.1) (ci := 3) (v := .int (nI (rwL F))) (C := RX5) (T := TX5) (N := 19) hx hb hts hi_3 hown hK hP 0 rfl rfl 12 (by decide) f_94 (fun _ h9 => h9) rfl dX5_hasWord_31 ?_
            refine call_iVW (As := [.int (nI (k)), .ref (a 11), .int (nI (rwL F))]) (rest := []) ⟨hx, hb, hml, hown, hts⟩ (c_X5_begins_F l g h a SL n ll np tu la wi F th fS fL fN fK fF fW fE fC fG fO D hDm hn hSL hfS hFr hfF hll hp k (by omega)) (cwV 3 hts gX5_hasWord_X5_begins rfl rfl rfl (by decide +kernel) ⟨Nat.le_of_ble_eq_true rfl, Nat.le_of_ble_eq_true rfl⟩) hP hK hD hS hA 0 rfl rfl rfl rfl hl.1 rfl (Nat.le_of_ble_eq_true rfl) dX5_hasWord_34 ⟨Nat.le_refl _, Nat.le_refl _⟩ (fun r_34 w H locs h_34 hP hD hS => ?_)
            obtain ⟨rfl, h_34⟩ := h_34
            have hP : va_P g.1 vwCl (MW g h a (nI (rwL SL)) (nI n) (nI ll) (nI np) tu la wi (nI (rwL F)) th fS fL fN fK fF fW fE fC fG fO) H := hP
            have hD : va_D A (MW g h a (nI (rwL SL)) (nI n) (nI ll) (nI np) tu la wi (nI (rwL F)) th fS fL fN fK fF fW fE fC fG fO) := hD
            refine lv_if_eq (tgt := 61) hx hb dX5_hasWord_37 (by decide) (fun c_37_4 => ?_) (fun c_37_4 => ?_)
            · skip
              have n_37_4 := Bv.f h_34 c_37_4
              refine lv_iconst (v := nI 0) hx hb dX5_hasWord_61 (by decide) ?_
              refine lv_istore_n (lv' := [(2, .int (nI (0))), (0, .ref (h)), (1, .int (nI (0))), (3, .int (nI (k)))]) hx hb dX5_hasWord_62 rfl hl (by decide) rfl (fun ls hl => ?_)
              refine lv_iinc (v := (nI (k + 1))) (lv' := [(3, .int (nI (k + 1))), (2, .int (nI (0))), (0, .ref (h)), (1, .int (nI (0)))]) hx hb dX5_hasWord_63 hl (k := 3) rfl (nI_add (k) 1) (by decide) rfl (fun ls hl => ?_)
              refine lv_goto (tgt := 4) hx hb dX5_hasWord_66 (by decide) ?_
              exact ih_4 (nI (0)) (k + 1) (by omega) (by omega) (hw_none n_13_2 (fun q9 => n_37_4 q9.2.1)) _ _ _ hP hD hS (lv_sub hl [2, 3, 1, 0] rfl)
            · skip
              have n_37_4 := Bv.t h_34 c_37_4
              refine lv_iload_n hx hb dX5_hasWord_40 rfl (lv_at hl 1 rfl) ?_
              refine lv_if_eq (tgt := 57) hx hb dX5_hasWord_41 (by decide) (fun c_41_5 => ?_) (fun c_41_5 => absurd (by decide) c_41_5)
              refine lv_iconst (v := nI 1) hx hb dX5_hasWord_57 (by decide) ?_
              refine lv_goto (tgt := 62) hx hb dX5_hasWord_58 (by decide) ?_
              refine lv_istore_n (lv' := [(2, .int (nI (1))), (0, .ref (h)), (1, .int (nI (0))), (3, .int (nI (k)))]) hx hb dX5_hasWord_62 rfl hl (by decide) rfl (fun ls hl => ?_)
              refine lv_iinc (v := (nI (k + 1))) (lv' := [(3, .int (nI (k + 1))), (2, .int (nI (1))), (0, .ref (h)), (1, .int (nI (0)))]) hx hb dX5_hasWord_63 hl (k := 3) rfl (nI_add (k) 1) (by decide) rfl (fun ls hl => ?_)
              refine lv_goto (tgt := 4) hx hb dX5_hasWord_66 (by decide) ?_
              exact ih_4 (nI (1)) (k + 1) (by omega) (by omega) (Bv.yes ⟨k, by omega, n_21_3, n_37_4, fun q9 => absurd q9 Bool.false_ne_true⟩) _ _ _ hP hD hS (lv_sub hl [2, 3, 1, 0] rfl)
  exact L_4 (_ + 1) (nI (0)) 0 (Nat.lt_succ_self _) (Nat.zero_le _) (Bv.no (fun ⟨j, a, _⟩ => absurd a (Nat.not_lt_zero _))) _ _ _ hP hD hS (lv_sub hl [2, 3, 1, 0] rfl)
