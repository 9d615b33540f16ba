theorem tb_1 {m a : Nat} (h : m / 2 ^ a % 2 = 1) : m.testBit a = true := by
  rw [Nat.testBit_eq_decide_div_mod_eq]
  exact decide_eq_true h
theorem tb_0 {m a : Nat} (h : ¬ m / 2 ^ a % 2 = 1) : ¬ m.testBit a = true := by
  rw [Nat.testBit_eq_decide_div_mod_eq]
  exact fun q => h (of_decide_eq_true q)
theorem nar_bv {x : Int32} {P : Prop} (h : Bv x P) : Bv (vp_nar .boolean x) P := by
  rcases h with ⟨rfl, h⟩ | ⟨rfl, h⟩
  · exact Or.inl ⟨rfl, h⟩
  · exact Or.inr ⟨rfl, h⟩
theorem BS.le {G : Nat} {eb ct : Nat → Nat} {a : Nat} {x : Int32} {e : Nat} (h : BS G eb ct a x e) (hb : ∀ t, eb t ≤ 100) : e ≤ 100 := by
  rcases h with ⟨h1, h2, h3⟩ | ⟨t, h1, h2, h3, h4, h5, h6⟩
  · omega
  · rw [h4]; exact hb t
theorem GM_g {D : Nat → Nat} {n ll p g : Nat} (hg : g = gmP D n ll p) (h : ¬ g = 0) : GMk D n ll p = g := by
  subst hg
  exact if_pos h
theorem GM_o {D : Nat → Nat} {n ll p g o : Nat} (hg : g = gmP D n ll p) (ho : o = opM D ll p n) (h : g = 0) : GMk D n ll p = o := by
  subst hg
  subst ho
  exact if_neg (fun q => q h)
theorem ct_g {D : Nat → Nat} {n ll p g : Nat} (hg : g = gmP D n ll p) (h : ¬ g = 0) (a : Nat) : ctP D n ll p a = ebP D n ll p a := by
  subst hg
  exact if_pos h
theorem ct_o {D : Nat → Nat} {n ll p g : Nat} (hg : g = gmP D n ll p) (h : g = 0) (a : Nat) : ctP D n ll p a = 100 - ebP D n ll p a := by
  subst hg
  exact if_neg (fun q => q h)
theorem zI_dec (m : Nat) : nI m + Int32.ofInt (-1) = zI ((m : Int) - 1) := by
  rw [zI_nat, Int.sub_eq_add_neg]
  unfold zI
  exact (Int32.ofInt_add _ _).symm
abbrev rm_X5_solves : Room := { frames := 3, cells := 0, slots := 0, locals := 74 }
set_option maxHeartbeats 4000000 in
set_option maxRecDepth 100000 in
theorem c_X5_solves (l : Launch) (g : GG) (h : Nat) (a : Nat → Nat) (SL n ll np : Nat) (tu la wi : Int32) (F : Nat) (th : Int32) (fS fL fN fK fF fW fE fC fG fO : Nat → Int32) (D : Nat → Nat) (hDm : MD fL fN D n) (hn : n ≤ 50) (hSL : RV SL) (hfS : MRw fS SL) (hFr : RV F) (hfF : MRw fF F) (hll : ll ≤ 10) (hp : np ≤ 4) (y0 m0 : Nat) (hy0 : y0 < n) (hl0 : ll ≤ rwL (D y0)) (hm0 : m0 ≤ rwL (D y0)) (hTA : TA D n ll fW fE fC fG fO (m0 + 1)) : Cv l yX5_solves wsX5_solves rm_X5_solves g [.ref (h), .int (nI (y0)), .int (nI (m0))] (MW g h a (nI (rwL SL)) (nI n) (nI ll) (nI np) tu la wi (nI (rwL F)) th fS fL fN fK fF fW fE fC fG fO) (fun w => ∃ (gW gE gC gG gO : Nat → Int32), w = (MW g h a (nI (rwL SL)) (nI n) (nI ll) (nI np) tu la wi (nI (rwL F)) th fS fL fN fK fF gW gE gC gG gO) ∧ TB D n ll gW gE gC gG gO ((11 * y0) + m0) (rwB (D y0) m0) ∧ ∀ z, z ≠ ((11 * y0) + m0) → ALK fW fE fC fG fO gW gE gC gG gO z) := by
  refine Cv.ofV (cc := cX5_solves) (maxL := 8) (by decide) rfl (Nat.le_of_ble_eq_true rfl) ?_
  intro p e s m args below meth c A Z hx hb hml hts hown hK hA hret H locs ls hP hD hS hl
  have f_13 := hts (.fieldLink RX5 13 "GhostGameModel" "letters" "[I") (by decide +kernel)
  have f_16 := hts (.fieldLink RX5 16 "GhostGameModel" "length" "[I") (by decide +kernel)
  have f_32 := hts (.fieldLink RX5 32 "GhostGameModel" "wins" "[Z") (by decide +kernel)
  have f_36 := hts (.fieldLink RX5 36 "GhostGameModel" "ends" "[I") (by decide +kernel)
  have f_39 := hts (.fieldLink RX5 39 "GhostGameModel" "chosen" "[I") (by decide +kernel)
  have f_42 := hts (.fieldLink RX5 42 "GhostGameModel" "good" "[I") (by decide +kernel)
  have f_45 := hts (.fieldLink RX5 45 "GhostGameModel" "open" "[I") (by decide +kernel)
  have f_51 := hts (.fieldLink RX5 51 "GhostGameModel" "words" "I") (by decide +kernel)
  have hi_3 : ∀ w ∈ wsX50, w ∈ wsX5_solves := by decide +kernel
  have hl : lv_has ls 8 [(0, .ref (h)), (1, .int (nI (y0))), (2, .int (nI (m0)))] := hl
  have h10 : ∀ k9, k9 < n → rwL (D k9) ≤ 10 := fun k9 h9 => (hDm k9 h9).1.1
  have hy3 := h10 y0 hy0
  have hy4 := (hDm y0 hy0).1.rbl hm0
  have hpV := (hDm y0 hy0).1.rb hm0
  refine lv_bipush (v := nI 11) hx hb dX5_solves_0 (by decide) ?_
  refine lv_iload_n hx hb dX5_solves_2 rfl (lv_at hl 1 rfl) ?_
  refine lv_imul hx hb dX5_solves_3 ?_
  refine tp_i (pk_mul 11 y0) ?_
  refine lv_iload_n hx hb dX5_solves_4 rfl (lv_at hl 2 rfl) ?_
  refine lv_iadd hx hb dX5_solves_5 ?_
  refine tp_i (nI_add (11 * y0) m0) ?_
  refine lv_istore_n (lv' := [(3, .int (nI ((11 * y0) + m0))), (0, .ref (h)), (1, .int (nI (y0))), (2, .int (nI (m0)))]) hx hb dX5_solves_6 rfl hl (by decide) rfl (fun ls hl => ?_)
  refine lv_aload_n hx hb dX5_solves_7 rfl (lv_at hl 1 rfl) ?_
  refine va_get (D := g.1) (ci := 3) (v := .ref (a 17)) (C := RX5) (T := TX5) (N := 19) hx hb hts hi_3 hown hK hP 0 rfl rfl 17 (by decide) f_45 (fun _ h9 => h9) rfl dX5_solves_8 ?_
  refine lv_iload_n hx hb dX5_solves_11 rfl (lv_at hl 0 rfl) ?_
  refine lv_iconst (v := nI 0) hx hb dX5_solves_12 (by decide) ?_
  refine va_iast (n := 550) (f := fO) hx hb hK hP hD hS 10 0 rfl rfl (vp_in_nI (n := (11 * y0) + m0) (by omega) (by decide)) dX5_solves_13 (fun H locs hP hD hS => ?_)
  rw [nI_clamp (n := (11 * y0) + m0) (by omega)] at hP hD
  have hP : va_P g.1 vwCl (MW g h a (nI (rwL SL)) (nI n) (nI ll) (nI np) tu la wi (nI (rwL F)) th fS fL fN fK fF fW fE fC fG (upd fO ((11 * y0) + m0) (nI (0)))) H := hP
  have hD : va_D A (MW g h a (nI (rwL SL)) (nI n) (nI ll) (nI np) tu la wi (nI (rwL F)) th fS fL fN fK fF fW fE fC fG (upd fO ((11 * y0) + m0) (nI (0)))) := hD
  refine lv_aload_n hx hb dX5_solves_14 rfl (lv_at hl 1 rfl) ?_
  refine va_get (D := g.1) (ci := 3) (v := .ref (a 16)) (C := RX5) (T := TX5) (N := 19) hx hb hts hi_3 hown hK hP 0 rfl rfl 16 (by decide) f_42 (fun _ h9 => h9) rfl dX5_solves_15 ?_
  refine lv_iload_n hx hb dX5_solves_18 rfl (lv_at hl 0 rfl) ?_
  refine lv_iconst (v := nI 0) hx hb dX5_solves_19 (by decide) ?_
  refine va_iast (n := 550) (f := fG) hx hb hK hP hD hS 9 0 rfl rfl (vp_in_nI (n := (11 * y0) + m0) (by omega) (by decide)) dX5_solves_20 (fun H locs hP hD hS => ?_)
  rw [nI_clamp (n := (11 * y0) + m0) (by omega)] at hP hD
  have hP : va_P g.1 vwCl (MW g h a (nI (rwL SL)) (nI n) (nI ll) (nI np) tu la wi (nI (rwL F)) th fS fL fN fK fF fW fE fC (upd fG ((11 * y0) + m0) (nI (0))) (upd fO ((11 * y0) + m0) (nI (0)))) H := hP
  have hD : va_D A (MW g h a (nI (rwL SL)) (nI n) (nI ll) (nI np) tu la wi (nI (rwL F)) th fS fL fN fK fF fW fE fC (upd fG ((11 * y0) + m0) (nI (0))) (upd fO ((11 * y0) + m0) (nI (0)))) := hD
  refine lv_iconst (v := nI 0) hx hb dX5_solves_21 (by decide) ?_
  refine lv_istore (lv' := [(4, .int (nI (0))), (3, .int (nI ((11 * y0) + m0))), (0, .ref (h)), (1, .int (nI (y0))), (2, .int (nI (m0)))]) hx hb dX5_solves_22 hl (by decide) rfl (fun ls hl => ?_)
  have L_24 : ∀ (fu : Nat) (k o1 g1 : Nat) (fO1 fG1 : Nat → Int32), n - k < fu → (k ≤ n) → (fO1 ((11 * y0) + m0) = nI o1) → (o1 = opM D ll (rwB (D y0) m0) k) → (fG1 ((11 * y0) + m0) = nI g1) → (g1 = gdM D n ll (rwB (D y0) m0) k) → (∀ z, z ≠ ((11 * y0) + m0) → fO1 z = fO z) → (∀ z, z ≠ ((11 * y0) + m0) → fG1 z = fG z) → ∀ (H : Heap) (locs : List Loc) (ls : Array Slot), va_P g.1 vwCl (MW g h a (nI (rwL SL)) (nI n) (nI ll) (nI np) tu la wi (nI (rwL F)) th fS fL fN fK fF fW fE fC fG1 fO1) H → va_D A (MW g h a (nI (rwL SL)) (nI n) (nI ll) (nI np) tu la wi (nI (rwL F)) th fS fL fN fK fF fW fE fC fG1 fO1) → va_S A s.heap H locs → lv_has ls 8 [(0, .ref (h)), (1, .int (nI (y0))), (2, .int (nI (m0))), (3, .int (nI ((11 * y0) + m0))), (4, .int (nI (k)))] → W p l e rm_X5_solves s m args below meth c H locs 0 0 Z (F0 m 24 ls []) := by
    intro fu
    induction fu with
    | zero => intro _ _ _ _ _ h0; exact absurd h0 (Nat.not_lt_zero _)
    | succ fu ih_24 =>
      intro k o1 g1 fO1 fG1 hfu hk1 hO ho hG hg hoO hoG H locs ls hP hD hS hl
      refine lv_iload hx hb dX5_solves_24 (lv_at hl 4 rfl) ?_
      refine lv_aload_n hx hb dX5_solves_26 rfl (lv_at hl 0 rfl) ?_
      refine va_get (D := g.1) (ci := 3) (v := .int (nI (n))) (C := RX5) (T := TX5) (N := 19) hx hb hts hi_3 hown hK hP 0 rfl rfl 4 (by decide) f_51 (fun _ h9 => h9) rfl dX5_solves_27 ?_
      refine lv_icmp_ge (tgt := 143) hx hb dX5_solves_30 (by decide) (fun c_30_1 => ?_) (fun c_30_1 => ?_)
      · skip
        have n_30_1 : n ≤ k := (nI_leI (a := n) (b := k) (by omega) (by omega)).mp c_30_1
        have ho2 : o1 = opM D ll (rwB (D y0) m0) n := by rw [ho, show k = n by omega]
        have hg2 : g1 = gmP D n ll (rwB (D y0) m0) := by rw [hg, show k = n by omega]; exact gdM_eq hDm.V hpV
        have ho3 : o1 < 67108864 := by rw [ho2]; exact opM_lt hDm.V
        have hg3 : g1 < 67108864 := by rw [hg2]; exact gmP_lt
        have J_171 : ∀ (xw : Int32), (Bv xw (0 < scP D n ll (rwB (D y0) m0))) → ∀ (H : Heap) (locs : List Loc) (ls : Array Slot), va_P g.1 vwCl (MW g h a (nI (rwL SL)) (nI n) (nI ll) (nI np) tu la wi (nI (rwL F)) th fS fL fN fK fF fW fE fC fG1 fO1) H → va_D A (MW g h a (nI (rwL SL)) (nI n) (nI ll) (nI np) tu la wi (nI (rwL F)) th fS fL fN fK fF fW fE fC fG1 fO1) → va_S A s.heap H locs → lv_has ls 8 [(0, .ref (h)), (1, .int (nI (y0))), (2, .int (nI (m0))), (3, .int (nI ((11 * y0) + m0)))] → W p l e rm_X5_solves s m args below meth c H locs 0 0 Z (F0 m 171 ls [.int (xw), .int (nI ((11 * y0) + m0)), .ref (a 13)]) := by
          intro xw hxw H locs ls hP hD hS hl
          refine va_zast (n := 550) (f := fW) hx hb hK hP hD hS 6 2 rfl rfl (vp_in_nI (n := (11 * y0) + m0) (by omega) (by decide)) dX5_solves_171 (fun H locs hP hD hS => ?_)
          rw [nI_clamp (n := (11 * y0) + m0) (by omega)] at hP hD
          have hP : va_P g.1 vwCl (MW g h a (nI (rwL SL)) (nI n) (nI ll) (nI np) tu la wi (nI (rwL F)) th fS fL fN fK fF (upd fW ((11 * y0) + m0) (vp_nar .boolean (xw))) fE fC fG1 fO1) H := hP
          have hD : va_D A (MW g h a (nI (rwL SL)) (nI n) (nI ll) (nI np) tu la wi (nI (rwL F)) th fS fL fN fK fF (upd fW ((11 * y0) + m0) (vp_nar .boolean (xw))) fE fC fG1 fO1) := hD
          refine lv_aload_n hx hb dX5_solves_172 rfl (lv_at hl 0 rfl) ?_
          refine va_get (D := g.1) (ci := 3) (v := .ref (a 14)) (C := RX5) (T := TX5) (N := 19) hx hb hts hi_3 hown hK hP 0 rfl rfl 14 (by decide) f_36 (fun _ h9 => h9) rfl dX5_solves_173 ?_
          refine lv_iload_n hx hb dX5_solves_176 rfl (lv_at hl 3 rfl) ?_
          refine lv_iconst (v := nI 0) hx hb dX5_solves_177 (by decide) ?_
          refine va_iast (n := 550) (f := fE) hx hb hK hP hD hS 7 0 rfl rfl (vp_in_nI (n := (11 * y0) + m0) (by omega) (by decide)) dX5_solves_178 (fun H locs hP hD hS => ?_)
          rw [nI_clamp (n := (11 * y0) + m0) (by omega)] at hP hD
          have hP : va_P g.1 vwCl (MW g h a (nI (rwL SL)) (nI n) (nI ll) (nI np) tu la wi (nI (rwL F)) th fS fL fN fK fF (upd fW ((11 * y0) + m0) (vp_nar .boolean (xw))) (upd fE ((11 * y0) + m0) (nI (0))) fC fG1 fO1) H := hP
          have hD : va_D A (MW g h a (nI (rwL SL)) (nI n) (nI ll) (nI np) tu la wi (nI (rwL F)) th fS fL fN fK fF (upd fW ((11 * y0) + m0) (vp_nar .boolean (xw))) (upd fE ((11 * y0) + m0) (nI (0))) fC fG1 fO1) := hD
          refine lv_aload_n hx hb dX5_solves_179 rfl (lv_at hl 0 rfl) ?_
          refine va_get (D := g.1) (ci := 3) (v := .ref (a 15)) (C := RX5) (T := TX5) (N := 19) hx hb hts hi_3 hown hK hP 0 rfl rfl 15 (by decide) f_39 (fun _ h9 => h9) rfl dX5_solves_180 ?_
          refine lv_iload_n hx hb dX5_solves_183 rfl (lv_at hl 3 rfl) ?_
          refine lv_iconst (v := -1) hx hb dX5_solves_184 (by decide) ?_
          refine va_iast (n := 550) (f := fC) hx hb hK hP hD hS 8 0 rfl rfl (vp_in_nI (n := (11 * y0) + m0) (by omega) (by decide)) dX5_solves_185 (fun H locs hP hD hS => ?_)
          rw [nI_clamp (n := (11 * y0) + m0) (by omega)] at hP hD
          have hP : va_P g.1 vwCl (MW g h a (nI (rwL SL)) (nI n) (nI ll) (nI np) tu la wi (nI (rwL F)) th fS fL fN fK fF (upd fW ((11 * y0) + m0) (vp_nar .boolean (xw))) (upd fE ((11 * y0) + m0) (nI (0))) (upd fC ((11 * y0) + m0) (-1)) fG1 fO1) H := hP
          have hD : va_D A (MW g h a (nI (rwL SL)) (nI n) (nI ll) (nI np) tu la wi (nI (rwL F)) th fS fL fN fK fF (upd fW ((11 * y0) + m0) (vp_nar .boolean (xw))) (upd fE ((11 * y0) + m0) (nI (0))) (upd fC ((11 * y0) + m0) (-1)) fG1 fO1) := hD
          refine lv_iconst (v := nI 0) hx hb dX5_solves_186 (by decide) ?_
          refine lv_istore (lv' := [(4, .int (nI (0))), (0, .ref (h)), (1, .int (nI (y0))), (2, .int (nI (m0))), (3, .int (nI ((11 * y0) + m0)))]) hx hb dX5_solves_187 hl (by decide) rfl (fun ls hl => ?_)
          have L_189 : ∀ (fu : Nat) (lt : Nat) (x1 : Int32) (e1 : Nat) (fE1 fC1 : Nat → Int32), 26 - lt < fu → (lt ≤ 26) → (fE1 ((11 * y0) + m0) = nI e1) → (fC1 ((11 * y0) + m0) = x1) → (∀ z, z ≠ ((11 * y0) + m0) → fE1 z = fE z) → (∀ z, z ≠ ((11 * y0) + m0) → fC1 z = fC z) → (BS (GMk D n ll (rwB (D y0) m0)) (ebP D n ll (rwB (D y0) m0)) (ctP D n ll (rwB (D y0) m0)) lt x1 e1) → ∀ (H : Heap) (locs : List Loc) (ls : Array Slot), va_P g.1 vwCl (MW g h a (nI (rwL SL)) (nI n) (nI ll) (nI np) tu la wi (nI (rwL F)) th fS fL fN fK fF (upd fW ((11 * y0) + m0) (vp_nar .boolean (xw))) fE1 fC1 fG1 fO1) H → va_D A (MW g h a (nI (rwL SL)) (nI n) (nI ll) (nI np) tu la wi (nI (rwL F)) th fS fL fN fK fF (upd fW ((11 * y0) + m0) (vp_nar .boolean (xw))) fE1 fC1 fG1 fO1) → va_S A s.heap H locs → lv_has ls 8 [(0, .ref (h)), (1, .int (nI (y0))), (2, .int (nI (m0))), (3, .int (nI ((11 * y0) + m0))), (4, .int (nI (lt)))] → W p l e rm_X5_solves s m args below meth c H locs 0 0 Z (F0 m 189 ls []) := by
            intro fu
            induction fu with
            | zero => intro _ _ _ _ _ h0; exact absurd h0 (Nat.not_lt_zero _)
            | succ fu ih_189 =>
              intro lt x1 e1 fE1 fC1 hfu hlt hE hC hoE hoC hBS H locs ls hP hD hS hl
              have he1 := hBS.le (fun t => Nat.sub_le _ _)
              have hAL : ∀ z, z ≠ ((11 * y0) + m0) → ALK fW fE fC fG fO (upd fW ((11 * y0) + m0) (vp_nar .boolean (xw))) fE1 fC1 fG1 fO1 z := fun z hz => ⟨pk_un hz, hoE z hz, hoC z hz, hoG z hz, hoO z hz⟩
              have hTA2 := TA.kept hDm.V hTA (by omega) hAL
              refine lv_iload hx hb dX5_solves_189 (lv_at hl 4 rfl) ?_
              refine lv_bipush (v := nI 26) hx hb dX5_solves_191 (by decide) ?_
              refine lv_icmp_ge (tgt := 366) hx hb dX5_solves_193 (by decide) (fun c_193_2 => ?_) (fun c_193_2 => ?_)
              · skip
                have n_193_2 : 26 ≤ lt := (nI_leI (a := 26) (b := lt) (by omega) (by omega)).mp c_193_2
                have elt : lt = 26 := by omega
                rw [elt] at hBS
                obtain ⟨hbe, hbc⟩ := BS_end hDm.V hpV hBS
                exact hret (MW g h a (nI (rwL SL)) (nI n) (nI ll) (nI np) tu la wi (nI (rwL F)) th fS fL fN fK fF (upd fW ((11 * y0) + m0) (vp_nar .boolean (xw))) fE1 fC1 fG1 fO1) _ _ _ _ dX5_solves_366 (⟨_, fE1, fC1, fG1, fO1, rfl, ⟨hO.trans (by rw [ho2]), hG.trans (by rw [hg2]), by rw [pk_us]; exact nar_bv hxw, hE.trans (by rw [hbe]), by rw [hC]; exact hbc⟩, hAL⟩) hP hD hS
              · skip
                have n_193_2 : ¬ 26 ≤ lt := fun q9 => c_193_2 ((nI_leI (a := 26) (b := lt) (by omega) (by omega)).mpr q9)
                refine lv_aload_n hx hb dX5_solves_196 rfl (lv_at hl 0 rfl) ?_
                refine va_get (D := g.1) (ci := 3) (v := .ref (a 16)) (C := RX5) (T := TX5) (N := 19) hx hb hts hi_3 hown hK hP 0 rfl rfl 16 (by decide) f_42 (fun _ h9 => h9) rfl dX5_solves_197 ?_
                refine lv_iload_n hx hb dX5_solves_200 rfl (lv_at hl 3 rfl) ?_
                refine va_iald (n := 550) (f := fG1) hx hb hK hP 9 0 rfl rfl (vp_in_nI (n := (11 * y0) + m0) (by omega) (by decide)) dX5_solves_201 ?_
                refine tp_i (congrArg fG1 (nI_clamp (n := (11 * y0) + m0) (by omega))) ?_
                refine tp_i (b := (nI (g1))) (hG) ?_
                refine lv_if_eq (tgt := 214) hx hb dX5_solves_202 (by decide) (fun c_202_3 => ?_) (fun c_202_3 => ?_)
                · skip
                  have n_202_3 : g1 = 0 := (nI_eq (a := g1) (b := 0) (by omega) (by omega)).mp c_202_3
                  refine lv_aload_n hx hb dX5_solves_214 rfl (lv_at hl 0 rfl) ?_
                  refine va_get (D := g.1) (ci := 3) (v := .ref (a 17)) (C := RX5) (T := TX5) (N := 19) hx hb hts hi_3 hown hK hP 0 rfl rfl 17 (by decide) f_45 (fun _ h9 => h9) rfl dX5_solves_215 ?_
                  refine lv_iload_n hx hb dX5_solves_218 rfl (lv_at hl 3 rfl) ?_
                  refine va_iald (n := 550) (f := fO1) hx hb hK hP 10 0 rfl rfl (vp_in_nI (n := (11 * y0) + m0) (by omega) (by decide)) dX5_solves_219 ?_
                  refine tp_i (congrArg fO1 (nI_clamp (n := (11 * y0) + m0) (by omega))) ?_
                  refine tp_i (b := (nI (o1))) (hO) ?_
                  refine lv_iload hx hb dX5_solves_220 (lv_at hl 4 rfl) ?_
                  refine lv_ishr hx hb dX5_solves_222 ?_
                  refine tp_i (b := (nI (o1 / 2 ^ lt))) (mk_shr (by omega) (by omega)) ?_
                  refine lv_iconst (v := nI 1) hx hb dX5_solves_223 (by decide) ?_
                  refine lv_iand hx hb dX5_solves_224 ?_
                  refine tp_i (b := (nI (o1 / 2 ^ lt % 2))) (fa_mask _ 1) ?_
                  refine lv_iconst (v := nI 1) hx hb dX5_solves_225 (by decide) ?_
                  refine lv_icmp_ne (tgt := 233) hx hb dX5_solves_226 (by decide) (fun c_226_4 => ?_) (fun c_226_4 => ?_)
                  · skip
                    have n_226_4 : ¬ o1 / 2 ^ lt % 2 = 1 := fun q9 => c_226_4 ((nI_eq (a := o1 / 2 ^ lt % 2) (b := 1) (by omega) (by omega)).mpr q9)
                    have hbit : ¬ (GMk D n ll (rwB (D y0) m0)).testBit lt = true := by rw [GM_o hg2 ho2 n_202_3]; exact tb_0 n_226_4
                    refine lv_iconst (v := nI 0) hx hb dX5_solves_233 (by decide) ?_
                    refine lv_istore (lv' := [(5, .int (nI (0))), (0, .ref (h)), (1, .int (nI (y0))), (2, .int (nI (m0))), (3, .int (nI ((11 * y0) + m0))), (4, .int (nI (lt)))]) hx hb dX5_solves_234 hl (by decide) rfl (fun ls hl => ?_)
                    refine lv_iload hx hb dX5_solves_236 (lv_at hl 0 rfl) ?_
                    refine lv_if_eq (tgt := 252) hx hb dX5_solves_238 (by decide) (fun c_238_5 => ?_) (fun c_238_5 => absurd (by decide) c_238_5)
                    refine lv_iconst (v := nI 0) hx hb dX5_solves_252 (by decide) ?_
                    refine lv_istore (lv' := [(6, .int (nI (0))), (5, .int (nI (0))), (0, .ref (h)), (1, .int (nI (y0))), (2, .int (nI (m0))), (3, .int (nI ((11 * y0) + m0))), (4, .int (nI (lt)))]) hx hb dX5_solves_253 hl (by decide) rfl (fun ls hl => ?_)
                    refine lv_aload_n hx hb dX5_solves_255 rfl (lv_at hl 2 rfl) ?_
                    refine va_get (D := g.1) (ci := 3) (v := .ref (a 15)) (C := RX5) (T := TX5) (N := 19) hx hb hts hi_3 hown hK hP 0 rfl rfl 15 (by decide) f_39 (fun _ h9 => h9) rfl dX5_solves_256 ?_
                    refine lv_iload_n hx hb dX5_solves_259 rfl (lv_at hl 5 rfl) ?_
                    refine va_iald (n := 550) (f := fC1) hx hb hK hP 8 0 rfl rfl (vp_in_nI (n := (11 * y0) + m0) (by omega) (by decide)) dX5_solves_260 ?_
                    refine tp_i (congrArg fC1 (nI_clamp (n := (11 * y0) + m0) (by omega))) ?_
                    refine tp_i (b := (x1)) (hC) ?_
                    refine lv_iconst (v := -1) hx hb dX5_solves_261 (by decide) ?_
                    refine lv_icmp_eq (tgt := 299) hx hb dX5_solves_262 (by decide) (fun c_262_6 => ?_) (fun c_262_6 => ?_)
                    · skip
                      refine lv_iconst (v := nI 1) hx hb dX5_solves_299 (by decide) ?_
                      refine lv_goto (tgt := 304) hx hb dX5_solves_300 (by decide) ?_
                      refine lv_istore (lv' := [(7, .int (nI (1))), (6, .int (nI (0))), (5, .int (nI (0))), (0, .ref (h)), (1, .int (nI (y0))), (2, .int (nI (m0))), (3, .int (nI ((11 * y0) + m0))), (4, .int (nI (lt)))]) hx hb dX5_solves_304 hl (by decide) rfl (fun ls hl => ?_)
                      refine lv_aload_n hx hb dX5_solves_306 rfl (lv_at hl 3 rfl) ?_
                      refine va_get (D := g.1) (ci := 3) (v := .ref (a 14)) (C := RX5) (T := TX5) (N := 19) hx hb hts hi_3 hown hK hP 0 rfl rfl 14 (by decide) f_36 (fun _ h9 => h9) rfl dX5_solves_307 ?_
                      refine lv_iload_n hx hb dX5_solves_310 rfl (lv_at hl 6 rfl) ?_
                      refine lv_iload hx hb dX5_solves_311 (lv_at hl 2 rfl) ?_
                      refine lv_if_eq (tgt := 326) hx hb dX5_solves_313 (by decide) (fun c_313_7 => ?_) (fun c_313_7 => absurd (by decide) c_313_7)
                      refine lv_aload_n hx hb dX5_solves_326 rfl (lv_at hl 3 rfl) ?_
                      refine va_get (D := g.1) (ci := 3) (v := .ref (a 14)) (C := RX5) (T := TX5) (N := 19) hx hb hts hi_3 hown hK hP 0 rfl rfl 14 (by decide) f_36 (fun _ h9 => h9) rfl dX5_solves_327 ?_
                      refine lv_iload_n hx hb dX5_solves_330 rfl (lv_at hl 6 rfl) ?_
                      refine va_iald (n := 550) (f := fE1) hx hb hK hP 7 0 rfl rfl (vp_in_nI (n := (11 * y0) + m0) (by omega) (by decide)) dX5_solves_331 ?_
                      refine tp_i (congrArg fE1 (nI_clamp (n := (11 * y0) + m0) (by omega))) ?_
                      refine tp_i (b := (nI (e1))) (hE) ?_
                      refine va_iast (n := 550) (f := fE1) hx hb hK hP hD hS 7 0 rfl rfl (vp_in_nI (n := (11 * y0) + m0) (by omega) (by decide)) dX5_solves_332 (fun H locs hP hD hS => ?_)
                      rw [nI_clamp (n := (11 * y0) + m0) (by omega)] at hP hD
                      have hP : va_P g.1 vwCl (MW g h a (nI (rwL SL)) (nI n) (nI ll) (nI np) tu la wi (nI (rwL F)) th fS fL fN fK fF (upd fW ((11 * y0) + m0) (vp_nar .boolean (xw))) (upd fE1 ((11 * y0) + m0) (nI (e1))) fC1 fG1 fO1) H := hP
                      have hD : va_D A (MW g h a (nI (rwL SL)) (nI n) (nI ll) (nI np) tu la wi (nI (rwL F)) th fS fL fN fK fF (upd fW ((11 * y0) + m0) (vp_nar .boolean (xw))) (upd fE1 ((11 * y0) + m0) (nI (e1))) fC1 fG1 fO1) := hD
                      refine lv_aload_n hx hb dX5_solves_333 rfl (lv_at hl 3 rfl) ?_
                      refine va_get (D := g.1) (ci := 3) (v := .ref (a 15)) (C := RX5) (T := TX5) (N := 19) hx hb hts hi_3 hown hK hP 0 rfl rfl 15 (by decide) f_39 (fun _ h9 => h9) rfl dX5_solves_334 ?_
                      refine lv_iload_n hx hb dX5_solves_337 rfl (lv_at hl 6 rfl) ?_
                      refine lv_iload hx hb dX5_solves_338 (lv_at hl 2 rfl) ?_
                      refine lv_if_eq (tgt := 353) hx hb dX5_solves_340 (by decide) (fun c_340_8 => ?_) (fun c_340_8 => absurd (by decide) c_340_8)
                      refine lv_aload_n hx hb dX5_solves_353 rfl (lv_at hl 3 rfl) ?_
                      refine va_get (D := g.1) (ci := 3) (v := .ref (a 15)) (C := RX5) (T := TX5) (N := 19) hx hb hts hi_3 hown hK hP 0 rfl rfl 15 (by decide) f_39 (fun _ h9 => h9) rfl dX5_solves_354 ?_
                      refine lv_iload_n hx hb dX5_solves_357 rfl (lv_at hl 6 rfl) ?_
                      refine va_iald (n := 550) (f := fC1) hx hb hK hP 8 0 rfl rfl (vp_in_nI (n := (11 * y0) + m0) (by omega) (by decide)) dX5_solves_358 ?_
                      refine tp_i (congrArg fC1 (nI_clamp (n := (11 * y0) + m0) (by omega))) ?_
                      refine tp_i (b := (x1)) (hC) ?_
                      refine va_iast (n := 550) (f := fC1) hx hb hK hP hD hS 8 0 rfl rfl (vp_in_nI (n := (11 * y0) + m0) (by omega) (by decide)) dX5_solves_359 (fun H locs hP hD hS => ?_)
                      rw [nI_clamp (n := (11 * y0) + m0) (by omega)] at hP hD
                      have hP : va_P g.1 vwCl (MW g h a (nI (rwL SL)) (nI n) (nI ll) (nI np) tu la wi (nI (rwL F)) th fS fL fN fK fF (upd fW ((11 * y0) + m0) (vp_nar .boolean (xw))) (upd fE1 ((11 * y0) + m0) (nI (e1))) (upd fC1 ((11 * y0) + m0) (x1)) fG1 fO1) H := hP
                      have hD : va_D A (MW g h a (nI (rwL SL)) (nI n) (nI ll) (nI np) tu la wi (nI (rwL F)) th fS fL fN fK fF (upd fW ((11 * y0) + m0) (vp_nar .boolean (xw))) (upd fE1 ((11 * y0) + m0) (nI (e1))) (upd fC1 ((11 * y0) + m0) (x1)) fG1 fO1) := hD
                      refine lv_iinc (v := (nI (lt + 1))) (lv' := [(4, .int (nI (lt + 1))), (7, .int (nI (1))), (6, .int (nI (0))), (5, .int (nI (0))), (0, .ref (h)), (1, .int (nI (y0))), (2, .int (nI (m0))), (3, .int (nI ((11 * y0) + m0)))]) hx hb dX5_solves_360 hl (k := 7) rfl (nI_add (lt) 1) (by decide) rfl (fun ls hl => ?_)
                      refine lv_goto (tgt := 189) hx hb dX5_solves_363 (by decide) ?_
                      exact ih_189 (lt + 1) x1 e1 (upd fE1 ((11 * y0) + m0) (nI (e1))) (upd fC1 ((11 * y0) + m0) (x1)) (by omega) (by omega) (pk_us) (pk_us) (fun z hz => (pk_un hz).trans (hoE z hz)) (fun z hz => (pk_un hz).trans (hoC z hz)) (hBS.skip hbit) _ _ _ hP hD hS (lv_sub hl [4, 5, 6, 7, 0] rfl)
                    · skip
                      refine lv_aload_n hx hb dX5_solves_265 rfl (lv_at hl 2 rfl) ?_
                      refine va_get (D := g.1) (ci := 3) (v := .ref (a 16)) (C := RX5) (T := TX5) (N := 19) hx hb hts hi_3 hown hK hP 0 rfl rfl 16 (by decide) f_42 (fun _ h9 => h9) rfl dX5_solves_266 ?_
                      refine lv_iload_n hx hb dX5_solves_269 rfl (lv_at hl 5 rfl) ?_
                      refine va_iald (n := 550) (f := fG1) hx hb hK hP 9 0 rfl rfl (vp_in_nI (n := (11 * y0) + m0) (by omega) (by decide)) dX5_solves_270 ?_
                      refine tp_i (congrArg fG1 (nI_clamp (n := (11 * y0) + m0) (by omega))) ?_
                      refine tp_i (b := (nI (g1))) (hG) ?_
                      refine lv_if_eq (tgt := 288) hx hb dX5_solves_271 (by decide) (fun c_271_9 => ?_) (fun c_271_9 => ?_)
                      · skip
                        have n_271_9 : g1 = 0 := (nI_eq (a := g1) (b := 0) (by omega) (by omega)).mp c_271_9
                        refine lv_iload hx hb dX5_solves_288 (lv_at hl 0 rfl) ?_
                        refine lv_aload_n hx hb dX5_solves_290 rfl (lv_at hl 2 rfl) ?_
                        refine va_get (D := g.1) (ci := 3) (v := .ref (a 14)) (C := RX5) (T := TX5) (N := 19) hx hb hts hi_3 hown hK hP 0 rfl rfl 14 (by decide) f_36 (fun _ h9 => h9) rfl dX5_solves_291 ?_
                        refine lv_iload_n hx hb dX5_solves_294 rfl (lv_at hl 5 rfl) ?_
                        refine va_iald (n := 550) (f := fE1) hx hb hK hP 7 0 rfl rfl (vp_in_nI (n := (11 * y0) + m0) (by omega) (by decide)) dX5_solves_295 ?_
                        refine tp_i (congrArg fE1 (nI_clamp (n := (11 * y0) + m0) (by omega))) ?_
                        refine tp_i (b := (nI (e1))) (hE) ?_
                        refine lv_icmp_le (tgt := 303) hx hb dX5_solves_296 (by decide) (fun c_296_10 => ?_) (fun c_296_10 => ?_)
                        · skip
                          have n_296_10 : 0 ≤ e1 := (nI_leI (a := 0) (b := e1) (by omega) (by omega)).mp c_296_10
                          refine lv_iconst (v := nI 0) hx hb dX5_solves_303 (by decide) ?_
                          refine lv_istore (lv' := [(7, .int (nI (0))), (6, .int (nI (0))), (5, .int (nI (0))), (0, .ref (h)), (1, .int (nI (y0))), (2, .int (nI (m0))), (3, .int (nI ((11 * y0) + m0))), (4, .int (nI (lt)))]) hx hb dX5_solves_304 hl (by decide) rfl (fun ls hl => ?_)
                          refine lv_aload_n hx hb dX5_solves_306 rfl (lv_at hl 3 rfl) ?_
                          refine va_get (D := g.1) (ci := 3) (v := .ref (a 14)) (C := RX5) (T := TX5) (N := 19) hx hb hts hi_3 hown hK hP 0 rfl rfl 14 (by decide) f_36 (fun _ h9 => h9) rfl dX5_solves_307 ?_
                          refine lv_iload_n hx hb dX5_solves_310 rfl (lv_at hl 6 rfl) ?_
                          refine lv_iload hx hb dX5_solves_311 (lv_at hl 2 rfl) ?_
                          refine lv_if_eq (tgt := 326) hx hb dX5_solves_313 (by decide) (fun c_313_11 => ?_) (fun c_313_11 => absurd (by decide) c_313_11)
                          refine lv_aload_n hx hb dX5_solves_326 rfl (lv_at hl 3 rfl) ?_
                          refine va_get (D := g.1) (ci := 3) (v := .ref (a 14)) (C := RX5) (T := TX5) (N := 19) hx hb hts hi_3 hown hK hP 0 rfl rfl 14 (by decide) f_36 (fun _ h9 => h9) rfl dX5_solves_327 ?_
                          refine lv_iload_n hx hb dX5_solves_330 rfl (lv_at hl 6 rfl) ?_
                          refine va_iald (n := 550) (f := fE1) hx hb hK hP 7 0 rfl rfl (vp_in_nI (n := (11 * y0) + m0) (by omega) (by decide)) dX5_solves_331 ?_
                          refine tp_i (congrArg fE1 (nI_clamp (n := (11 * y0) + m0) (by omega))) ?_
                          refine tp_i (b := (nI (e1))) (hE) ?_
                          refine va_iast (n := 550) (f := fE1) hx hb hK hP hD hS 7 0 rfl rfl (vp_in_nI (n := (11 * y0) + m0) (by omega) (by decide)) dX5_solves_332 (fun H locs hP hD hS => ?_)
                          rw [nI_clamp (n := (11 * y0) + m0) (by omega)] at hP hD
                          have hP : va_P g.1 vwCl (MW g h a (nI (rwL SL)) (nI n) (nI ll) (nI np) tu la wi (nI (rwL F)) th fS fL fN fK fF (upd fW ((11 * y0) + m0) (vp_nar .boolean (xw))) (upd fE1 ((11 * y0) + m0) (nI (e1))) fC1 fG1 fO1) H := hP
                          have hD : va_D A (MW g h a (nI (rwL SL)) (nI n) (nI ll) (nI np) tu la wi (nI (rwL F)) th fS fL fN fK fF (upd fW ((11 * y0) + m0) (vp_nar .boolean (xw))) (upd fE1 ((11 * y0) + m0) (nI (e1))) fC1 fG1 fO1) := hD
                          refine lv_aload_n hx hb dX5_solves_333 rfl (lv_at hl 3 rfl) ?_
                          refine va_get (D := g.1) (ci := 3) (v := .ref (a 15)) (C := RX5) (T := TX5) (N := 19) hx hb hts hi_3 hown hK hP 0 rfl rfl 15 (by decide) f_39 (fun _ h9 => h9) rfl dX5_solves_334 ?_
                          refine lv_iload_n hx hb dX5_solves_337 rfl (lv_at hl 6 rfl) ?_
                          refine lv_iload hx hb dX5_solves_338 (lv_at hl 2 rfl) ?_
                          refine lv_if_eq (tgt := 353) hx hb dX5_solves_340 (by decide) (fun c_340_12 => ?_) (fun c_340_12 => absurd (by decide) c_340_12)
                          refine lv_aload_n hx hb dX5_solves_353 rfl (lv_at hl 3 rfl) ?_
                          refine va_get (D := g.1) (ci := 3) (v := .ref (a 15)) (C := RX5) (T := TX5) (N := 19) hx hb hts hi_3 hown hK hP 0 rfl rfl 15 (by decide) f_39 (fun _ h9 => h9) rfl dX5_solves_354 ?_
                          refine lv_iload_n hx hb dX5_solves_357 rfl (lv_at hl 6 rfl) ?_
                          refine va_iald (n := 550) (f := fC1) hx hb hK hP 8 0 rfl rfl (vp_in_nI (n := (11 * y0) + m0) (by omega) (by decide)) dX5_solves_358 ?_
                          refine tp_i (congrArg fC1 (nI_clamp (n := (11 * y0) + m0) (by omega))) ?_
                          refine tp_i (b := (x1)) (hC) ?_
                          refine va_iast (n := 550) (f := fC1) hx hb hK hP hD hS 8 0 rfl rfl (vp_in_nI (n := (11 * y0) + m0) (by omega) (by decide)) dX5_solves_359 (fun H locs hP hD hS => ?_)
                          rw [nI_clamp (n := (11 * y0) + m0) (by omega)] at hP hD
                          have hP : va_P g.1 vwCl (MW g h a (nI (rwL SL)) (nI n) (nI ll) (nI np) tu la wi (nI (rwL F)) th fS fL fN fK fF (upd fW ((11 * y0) + m0) (vp_nar .boolean (xw))) (upd fE1 ((11 * y0) + m0) (nI (e1))) (upd fC1 ((11 * y0) + m0) (x1)) fG1 fO1) H := hP
                          have hD : va_D A (MW g h a (nI (rwL SL)) (nI n) (nI ll) (nI np) tu la wi (nI (rwL F)) th fS fL fN fK fF (upd fW ((11 * y0) + m0) (vp_nar .boolean (xw))) (upd fE1 ((11 * y0) + m0) (nI (e1))) (upd fC1 ((11 * y0) + m0) (x1)) fG1 fO1) := hD
                          refine lv_iinc (v := (nI (lt + 1))) (lv' := [(4, .int (nI (lt + 1))), (7, .int (nI (0))), (6, .int (nI (0))), (5, .int (nI (0))), (0, .ref (h)), (1, .int (nI (y0))), (2, .int (nI (m0))), (3, .int (nI ((11 * y0) + m0)))]) hx hb dX5_solves_360 hl (k := 7) rfl (nI_add (lt) 1) (by decide) rfl (fun ls hl => ?_)
                          refine lv_goto (tgt := 189) hx hb dX5_solves_363 (by decide) ?_
                          exact ih_189 (lt + 1) x1 e1 (upd fE1 ((11 * y0) + m0) (nI (e1))) (upd fC1 ((11 * y0) + m0) (x1)) (by omega) (by omega) (pk_us) (pk_us) (fun z hz => (pk_un hz).trans (hoE z hz)) (fun z hz => (pk_un hz).trans (hoC z hz)) (hBS.skip hbit) _ _ _ hP hD hS (lv_sub hl [4, 5, 6, 7, 0] rfl)
                        · skip
                          have n_296_10 : ¬ 0 ≤ e1 := fun q9 => c_296_10 ((nI_leI (a := 0) (b := e1) (by omega) (by omega)).mpr q9)
                          refine lv_iconst (v := nI 1) hx hb dX5_solves_299 (by decide) ?_
                          refine lv_goto (tgt := 304) hx hb dX5_solves_300 (by decide) ?_
                          refine lv_istore (lv' := [(7, .int (nI (1))), (6, .int (nI (0))), (5, .int (nI (0))), (0, .ref (h)), (1, .int (nI (y0))), (2, .int (nI (m0))), (3, .int (nI ((11 * y0) + m0))), (4, .int (nI (lt)))]) hx hb dX5_solves_304 hl (by decide) rfl (fun ls hl => ?_)
                          refine lv_aload_n hx hb dX5_solves_306 rfl (lv_at hl 3 rfl) ?_
                          refine va_get (D := g.1) (ci := 3) (v := .ref (a 14)) (C := RX5) (T := TX5) (N := 19) hx hb hts hi_3 hown hK hP 0 rfl rfl 14 (by decide) f_36 (fun _ h9 => h9) rfl dX5_solves_307 ?_
                          refine lv_iload_n hx hb dX5_solves_310 rfl (lv_at hl 6 rfl) ?_
                          refine lv_iload hx hb dX5_solves_311 (lv_at hl 2 rfl) ?_
                          refine lv_if_eq (tgt := 326) hx hb dX5_solves_313 (by decide) (fun c_313_13 => ?_) (fun c_313_13 => absurd (by decide) c_313_13)
                          refine lv_aload_n hx hb dX5_solves_326 rfl (lv_at hl 3 rfl) ?_
                          refine va_get (D := g.1) (ci := 3) (v := .ref (a 14)) (C := RX5) (T := TX5) (N := 19) hx hb hts hi_3 hown hK hP 0 rfl rfl 14 (by decide) f_36 (fun _ h9 => h9) rfl dX5_solves_327 ?_
                          refine lv_iload_n hx hb dX5_solves_330 rfl (lv_at hl 6 rfl) ?_
                          refine va_iald (n := 550) (f := fE1) hx hb hK hP 7 0 rfl rfl (vp_in_nI (n := (11 * y0) + m0) (by omega) (by decide)) dX5_solves_331 ?_
                          refine tp_i (congrArg fE1 (nI_clamp (n := (11 * y0) + m0) (by omega))) ?_
                          refine tp_i (b := (nI (e1))) (hE) ?_
                          refine va_iast (n := 550) (f := fE1) hx hb hK hP hD hS 7 0 rfl rfl (vp_in_nI (n := (11 * y0) + m0) (by omega) (by decide)) dX5_solves_332 (fun H locs hP hD hS => ?_)
                          rw [nI_clamp (n := (11 * y0) + m0) (by omega)] at hP hD
                          have hP : va_P g.1 vwCl (MW g h a (nI (rwL SL)) (nI n) (nI ll) (nI np) tu la wi (nI (rwL F)) th fS fL fN fK fF (upd fW ((11 * y0) + m0) (vp_nar .boolean (xw))) (upd fE1 ((11 * y0) + m0) (nI (e1))) fC1 fG1 fO1) H := hP
                          have hD : va_D A (MW g h a (nI (rwL SL)) (nI n) (nI ll) (nI np) tu la wi (nI (rwL F)) th fS fL fN fK fF (upd fW ((11 * y0) + m0) (vp_nar .boolean (xw))) (upd fE1 ((11 * y0) + m0) (nI (e1))) fC1 fG1 fO1) := hD
                          refine lv_aload_n hx hb dX5_solves_333 rfl (lv_at hl 3 rfl) ?_
                          refine va_get (D := g.1) (ci := 3) (v := .ref (a 15)) (C := RX5) (T := TX5) (N := 19) hx hb hts hi_3 hown hK hP 0 rfl rfl 15 (by decide) f_39 (fun _ h9 => h9) rfl dX5_solves_334 ?_
                          refine lv_iload_n hx hb dX5_solves_337 rfl (lv_at hl 6 rfl) ?_
                          refine lv_iload hx hb dX5_solves_338 (lv_at hl 2 rfl) ?_
                          refine lv_if_eq (tgt := 353) hx hb dX5_solves_340 (by decide) (fun c_340_14 => ?_) (fun c_340_14 => absurd (by decide) c_340_14)
                          refine lv_aload_n hx hb dX5_solves_353 rfl (lv_at hl 3 rfl) ?_
                          refine va_get (D := g.1) (ci := 3) (v := .ref (a 15)) (C := RX5) (T := TX5) (N := 19) hx hb hts hi_3 hown hK hP 0 rfl rfl 15 (by decide) f_39 (fun _ h9 => h9) rfl dX5_solves_354 ?_
                          refine lv_iload_n hx hb dX5_solves_357 rfl (lv_at hl 6 rfl) ?_
                          refine va_iald (n := 550) (f := fC1) hx hb hK hP 8 0 rfl rfl (vp_in_nI (n := (11 * y0) + m0) (by omega) (by decide)) dX5_solves_358 ?_
                          refine tp_i (congrArg fC1 (nI_clamp (n := (11 * y0) + m0) (by omega))) ?_
                          refine tp_i (b := (x1)) (hC) ?_
                          refine va_iast (n := 550) (f := fC1) hx hb hK hP hD hS 8 0 rfl rfl (vp_in_nI (n := (11 * y0) + m0) (by omega) (by decide)) dX5_solves_359 (fun H locs hP hD hS => ?_)
                          rw [nI_clamp (n := (11 * y0) + m0) (by omega)] at hP hD
                          have hP : va_P g.1 vwCl (MW g h a (nI (rwL SL)) (nI n) (nI ll) (nI np) tu la wi (nI (rwL F)) th fS fL fN fK fF (upd fW ((11 * y0) + m0) (vp_nar .boolean (xw))) (upd fE1 ((11 * y0) + m0) (nI (e1))) (upd fC1 ((11 * y0) + m0) (x1)) fG1 fO1) H := hP
                          have hD : va_D A (MW g h a (nI (rwL SL)) (nI n) (nI ll) (nI np) tu la wi (nI (rwL F)) th fS fL fN fK fF (upd fW ((11 * y0) + m0) (vp_nar .boolean (xw))) (upd fE1 ((11 * y0) + m0) (nI (e1))) (upd fC1 ((11 * y0) + m0) (x1)) fG1 fO1) := hD
                          refine lv_iinc (v := (nI (lt + 1))) (lv' := [(4, .int (nI (lt + 1))), (7, .int (nI (1))), (6, .int (nI (0))), (5, .int (nI (0))), (0, .ref (h)), (1, .int (nI (y0))), (2, .int (nI (m0))), (3, .int (nI ((11 * y0) + m0)))]) hx hb dX5_solves_360 hl (k := 7) rfl (nI_add (lt) 1) (by decide) rfl (fun ls hl => ?_)
                          refine lv_goto (tgt := 189) hx hb dX5_solves_363 (by decide) ?_
                          exact ih_189 (lt + 1) x1 e1 (upd fE1 ((11 * y0) + m0) (nI (e1))) (upd fC1 ((11 * y0) + m0) (x1)) (by omega) (by omega) (pk_us) (pk_us) (fun z hz => (pk_un hz).trans (hoE z hz)) (fun z hz => (pk_un hz).trans (hoC z hz)) (hBS.skip hbit) _ _ _ hP hD hS (lv_sub hl [4, 5, 6, 7, 0] rfl)
                      · skip
                        have n_271_9 : ¬ g1 = 0 := fun q9 => c_271_9 ((nI_eq (a := g1) (b := 0) (by omega) (by omega)).mpr q9)
                        exact absurd n_202_3 n_271_9
                  · skip
                    have n_226_4 : o1 / 2 ^ lt % 2 = 1 := (nI_eq (a := o1 / 2 ^ lt % 2) (b := 1) (by omega) (by omega)).mp c_226_4
                    have hbit : (GMk D n ll (rwB (D y0) m0)).testBit lt = true := by rw [GM_o hg2 ho2 n_202_3]; exact tb_1 n_226_4
                    have hbo : (opM D ll (rwB (D y0) m0) n).testBit lt = true := by rw [GM_o hg2 ho2 n_202_3, ho2] at hbit; exact hbit
                    refine lv_iconst (v := nI 1) hx hb dX5_solves_229 (by decide) ?_
                    refine lv_goto (tgt := 234) hx hb dX5_solves_230 (by decide) ?_
                    refine lv_istore (lv' := [(5, .int (nI (1))), (0, .ref (h)), (1, .int (nI (y0))), (2, .int (nI (m0))), (3, .int (nI ((11 * y0) + m0))), (4, .int (nI (lt)))]) hx hb dX5_solves_234 hl (by decide) rfl (fun ls hl => ?_)
                    refine lv_iload hx hb dX5_solves_236 (lv_at hl 0 rfl) ?_
                    refine lv_if_eq (tgt := 252) hx hb dX5_solves_238 (by decide) (fun c_238_15 => absurd c_238_15 (by decide)) (fun c_238_15 => ?_)
                    refine lv_aload_n hx hb dX5_solves_241 rfl (lv_at hl 1 rfl) ?_
                    refine lv_iload_n hx hb dX5_solves_242 rfl (lv_at hl 2 rfl) ?_
                    refine lv_iload_n hx hb dX5_solves_243 rfl (lv_at hl 3 rfl) ?_
                    refine lv_iload hx hb dX5_solves_244 (lv_at hl 5 rfl) ?_
                    refine call_iVW (As := [.int (nI (y0)), .int (nI (m0)), .int (nI (lt))]) (rest := []) ⟨hx, hb, hml, hown, hts⟩ (c_X5_endBehind l g h a SL n ll np tu la wi F th fS fL fN fK fF (upd fW ((11 * y0) + m0) (vp_nar .boolean (xw))) fE1 fC1 fG1 fO1 D hDm hn hSL hfS hFr hfF hll hp y0 m0 hy0 hl0 hm0 hTA2 lt (by omega) hbo) (cwV 3 hts gX5_solves_X5_endBehind rfl rfl rfl (by decide +kernel) ⟨Nat.le_of_ble_eq_true rfl, Nat.le_of_ble_eq_true rfl⟩) hP hK hD hS hA 0 rfl rfl rfl rfl hl.1 rfl (Nat.le_of_ble_eq_true rfl) dX5_solves_246 ⟨Nat.le_refl _, Nat.le_refl _⟩ (fun r_246 w H locs h_246 hP hD hS => ?_)
                    obtain ⟨rfl, h_246⟩ := h_246
                    subst h_246
                    have heb : ebP D n ll (rwB (D y0) m0) lt ≤ 100 := Nat.sub_le _ _
                    have hP : va_P g.1 vwCl (MW g h a (nI (rwL SL)) (nI n) (nI ll) (nI np) tu la wi (nI (rwL F)) th fS fL fN fK fF (upd fW ((11 * y0) + m0) (vp_nar .boolean (xw))) fE1 fC1 fG1 fO1) H := hP
                    have hD : va_D A (MW g h a (nI (rwL SL)) (nI n) (nI ll) (nI np) tu la wi (nI (rwL F)) th fS fL fN fK fF (upd fW ((11 * y0) + m0) (vp_nar .boolean (xw))) fE1 fC1 fG1 fO1) := hD
                    refine lv_goto (tgt := 253) hx hb dX5_solves_249 (by decide) ?_
                    refine lv_istore (lv' := [(6, .int (nI (ebP D n ll (rwB (D y0) m0) lt))), (5, .int (nI (1))), (0, .ref (h)), (1, .int (nI (y0))), (2, .int (nI (m0))), (3, .int (nI ((11 * y0) + m0))), (4, .int (nI (lt)))]) hx hb dX5_solves_253 hl (by decide) rfl (fun ls hl => ?_)
                    refine lv_aload_n hx hb dX5_solves_255 rfl (lv_at hl 2 rfl) ?_
                    refine va_get (D := g.1) (ci := 3) (v := .ref (a 15)) (C := RX5) (T := TX5) (N := 19) hx hb hts hi_3 hown hK hP 0 rfl rfl 15 (by decide) f_39 (fun _ h9 => h9) rfl dX5_solves_256 ?_
                    refine lv_iload_n hx hb dX5_solves_259 rfl (lv_at hl 5 rfl) ?_
                    refine va_iald (n := 550) (f := fC1) hx hb hK hP 8 0 rfl rfl (vp_in_nI (n := (11 * y0) + m0) (by omega) (by decide)) dX5_solves_260 ?_
                    refine tp_i (congrArg fC1 (nI_clamp (n := (11 * y0) + m0) (by omega))) ?_
                    refine tp_i (b := (x1)) (hC) ?_
                    refine lv_iconst (v := -1) hx hb dX5_solves_261 (by decide) ?_
                    refine lv_icmp_eq (tgt := 299) hx hb dX5_solves_262 (by decide) (fun c_262_16 => ?_) (fun c_262_16 => ?_)
                    · skip
                      refine lv_iconst (v := nI 1) hx hb dX5_solves_299 (by decide) ?_
                      refine lv_goto (tgt := 304) hx hb dX5_solves_300 (by decide) ?_
                      refine lv_istore (lv' := [(7, .int (nI (1))), (6, .int (nI (ebP D n ll (rwB (D y0) m0) lt))), (5, .int (nI (1))), (0, .ref (h)), (1, .int (nI (y0))), (2, .int (nI (m0))), (3, .int (nI ((11 * y0) + m0))), (4, .int (nI (lt)))]) hx hb dX5_solves_304 hl (by decide) rfl (fun ls hl => ?_)
                      refine lv_aload_n hx hb dX5_solves_306 rfl (lv_at hl 3 rfl) ?_
                      refine va_get (D := g.1) (ci := 3) (v := .ref (a 14)) (C := RX5) (T := TX5) (N := 19) hx hb hts hi_3 hown hK hP 0 rfl rfl 14 (by decide) f_36 (fun _ h9 => h9) rfl dX5_solves_307 ?_
                      refine lv_iload_n hx hb dX5_solves_310 rfl (lv_at hl 6 rfl) ?_
                      refine lv_iload hx hb dX5_solves_311 (lv_at hl 2 rfl) ?_
                      refine lv_if_eq (tgt := 326) hx hb dX5_solves_313 (by decide) (fun c_313_17 => absurd c_313_17 (by decide)) (fun c_313_17 => ?_)
                      refine lv_iload hx hb dX5_solves_316 (lv_at hl 0 rfl) ?_
                      refine lv_if_eq (tgt := 326) hx hb dX5_solves_318 (by decide) (fun c_318_18 => absurd c_318_18 (by decide)) (fun c_318_18 => ?_)
                      refine lv_iload hx hb dX5_solves_321 (lv_at hl 1 rfl) ?_
                      refine lv_goto (tgt := 332) hx hb dX5_solves_323 (by decide) ?_
                      refine va_iast (n := 550) (f := fE1) hx hb hK hP hD hS 7 0 rfl rfl (vp_in_nI (n := (11 * y0) + m0) (by omega) (by decide)) dX5_solves_332 (fun H locs hP hD hS => ?_)
                      rw [nI_clamp (n := (11 * y0) + m0) (by omega)] at hP hD
                      have hP : va_P g.1 vwCl (MW g h a (nI (rwL SL)) (nI n) (nI ll) (nI np) tu la wi (nI (rwL F)) th fS fL fN fK fF (upd fW ((11 * y0) + m0) (vp_nar .boolean (xw))) (upd fE1 ((11 * y0) + m0) (nI (ebP D n ll (rwB (D y0) m0) lt))) fC1 fG1 fO1) H := hP
                      have hD : va_D A (MW g h a (nI (rwL SL)) (nI n) (nI ll) (nI np) tu la wi (nI (rwL F)) th fS fL fN fK fF (upd fW ((11 * y0) + m0) (vp_nar .boolean (xw))) (upd fE1 ((11 * y0) + m0) (nI (ebP D n ll (rwB (D y0) m0) lt))) fC1 fG1 fO1) := hD
                      refine lv_aload_n hx hb dX5_solves_333 rfl (lv_at hl 3 rfl) ?_
                      refine va_get (D := g.1) (ci := 3) (v := .ref (a 15)) (C := RX5) (T := TX5) (N := 19) hx hb hts hi_3 hown hK hP 0 rfl rfl 15 (by decide) f_39 (fun _ h9 => h9) rfl dX5_solves_334 ?_
                      refine lv_iload_n hx hb dX5_solves_337 rfl (lv_at hl 6 rfl) ?_
                      refine lv_iload hx hb dX5_solves_338 (lv_at hl 2 rfl) ?_
                      refine lv_if_eq (tgt := 353) hx hb dX5_solves_340 (by decide) (fun c_340_19 => absurd c_340_19 (by decide)) (fun c_340_19 => ?_)
                      refine lv_iload hx hb dX5_solves_343 (lv_at hl 0 rfl) ?_
                      refine lv_if_eq (tgt := 353) hx hb dX5_solves_345 (by decide) (fun c_345_20 => absurd c_345_20 (by decide)) (fun c_345_20 => ?_)
                      refine lv_iload hx hb dX5_solves_348 (lv_at hl 7 rfl) ?_
                      refine lv_goto (tgt := 359) hx hb dX5_solves_350 (by decide) ?_
                      refine va_iast (n := 550) (f := fC1) hx hb hK hP hD hS 8 0 rfl rfl (vp_in_nI (n := (11 * y0) + m0) (by omega) (by decide)) dX5_solves_359 (fun H locs hP hD hS => ?_)
                      rw [nI_clamp (n := (11 * y0) + m0) (by omega)] at hP hD
                      have hP : va_P g.1 vwCl (MW g h a (nI (rwL SL)) (nI n) (nI ll) (nI np) tu la wi (nI (rwL F)) th fS fL fN fK fF (upd fW ((11 * y0) + m0) (vp_nar .boolean (xw))) (upd fE1 ((11 * y0) + m0) (nI (ebP D n ll (rwB (D y0) m0) lt))) (upd fC1 ((11 * y0) + m0) (nI (lt))) fG1 fO1) H := hP
                      have hD : va_D A (MW g h a (nI (rwL SL)) (nI n) (nI ll) (nI np) tu la wi (nI (rwL F)) th fS fL fN fK fF (upd fW ((11 * y0) + m0) (vp_nar .boolean (xw))) (upd fE1 ((11 * y0) + m0) (nI (ebP D n ll (rwB (D y0) m0) lt))) (upd fC1 ((11 * y0) + m0) (nI (lt))) fG1 fO1) := hD
                      refine lv_iinc (v := (nI (lt + 1))) (lv' := [(4, .int (nI (lt + 1))), (7, .int (nI (1))), (6, .int (nI (ebP D n ll (rwB (D y0) m0) lt))), (5, .int (nI (1))), (0, .ref (h)), (1, .int (nI (y0))), (2, .int (nI (m0))), (3, .int (nI ((11 * y0) + m0)))]) hx hb dX5_solves_360 hl (k := 7) rfl (nI_add (lt) 1) (by decide) rfl (fun ls hl => ?_)
                      refine lv_goto (tgt := 189) hx hb dX5_solves_363 (by decide) ?_
                      exact ih_189 (lt + 1) (nI (lt)) (ebP D n ll (rwB (D y0) m0) lt) (upd fE1 ((11 * y0) + m0) (nI (ebP D n ll (rwB (D y0) m0) lt))) (upd fC1 ((11 * y0) + m0) (nI (lt))) (by omega) (by omega) (pk_us) (pk_us) (fun z hz => (pk_un hz).trans (hoE z hz)) (fun z hz => (pk_un hz).trans (hoC z hz)) (hBS.first c_262_16 (by omega) hbit) _ _ _ hP hD hS (lv_sub hl [4, 5, 6, 7, 0] rfl)
                    · skip
                      refine lv_aload_n hx hb dX5_solves_265 rfl (lv_at hl 2 rfl) ?_
                      refine va_get (D := g.1) (ci := 3) (v := .ref (a 16)) (C := RX5) (T := TX5) (N := 19) hx hb hts hi_3 hown hK hP 0 rfl rfl 16 (by decide) f_42 (fun _ h9 => h9) rfl dX5_solves_266 ?_
                      refine lv_iload_n hx hb dX5_solves_269 rfl (lv_at hl 5 rfl) ?_
                      refine va_iald (n := 550) (f := fG1) hx hb hK hP 9 0 rfl rfl (vp_in_nI (n := (11 * y0) + m0) (by omega) (by decide)) dX5_solves_270 ?_
                      refine tp_i (congrArg fG1 (nI_clamp (n := (11 * y0) + m0) (by omega))) ?_
                      refine tp_i (b := (nI (g1))) (hG) ?_
                      refine lv_if_eq (tgt := 288) hx hb dX5_solves_271 (by decide) (fun c_271_21 => ?_) (fun c_271_21 => ?_)
                      · skip
                        have n_271_21 : g1 = 0 := (nI_eq (a := g1) (b := 0) (by omega) (by omega)).mp c_271_21
                        refine lv_iload hx hb dX5_solves_288 (lv_at hl 0 rfl) ?_
                        refine lv_aload_n hx hb dX5_solves_290 rfl (lv_at hl 2 rfl) ?_
                        refine va_get (D := g.1) (ci := 3) (v := .ref (a 14)) (C := RX5) (T := TX5) (N := 19) hx hb hts hi_3 hown hK hP 0 rfl rfl 14 (by decide) f_36 (fun _ h9 => h9) rfl dX5_solves_291 ?_
                        refine lv_iload_n hx hb dX5_solves_294 rfl (lv_at hl 5 rfl) ?_
                        refine va_iald (n := 550) (f := fE1) hx hb hK hP 7 0 rfl rfl (vp_in_nI (n := (11 * y0) + m0) (by omega) (by decide)) dX5_solves_295 ?_
                        refine tp_i (congrArg fE1 (nI_clamp (n := (11 * y0) + m0) (by omega))) ?_
                        refine tp_i (b := (nI (e1))) (hE) ?_
                        refine lv_icmp_le (tgt := 303) hx hb dX5_solves_296 (by decide) (fun c_296_22 => ?_) (fun c_296_22 => ?_)
                        · skip
                          have n_296_22 : ebP D n ll (rwB (D y0) m0) lt ≤ e1 := (nI_leI (a := ebP D n ll (rwB (D y0) m0) lt) (b := e1) (by omega) (by omega)).mp c_296_22
                          refine lv_iconst (v := nI 0) hx hb dX5_solves_303 (by decide) ?_
                          refine lv_istore (lv' := [(7, .int (nI (0))), (6, .int (nI (ebP D n ll (rwB (D y0) m0) lt))), (5, .int (nI (1))), (0, .ref (h)), (1, .int (nI (y0))), (2, .int (nI (m0))), (3, .int (nI ((11 * y0) + m0))), (4, .int (nI (lt)))]) hx hb dX5_solves_304 hl (by decide) rfl (fun ls hl => ?_)
                          refine lv_aload_n hx hb dX5_solves_306 rfl (lv_at hl 3 rfl) ?_
                          refine va_get (D := g.1) (ci := 3) (v := .ref (a 14)) (C := RX5) (T := TX5) (N := 19) hx hb hts hi_3 hown hK hP 0 rfl rfl 14 (by decide) f_36 (fun _ h9 => h9) rfl dX5_solves_307 ?_
                          refine lv_iload_n hx hb dX5_solves_310 rfl (lv_at hl 6 rfl) ?_
                          refine lv_iload hx hb dX5_solves_311 (lv_at hl 2 rfl) ?_
                          refine lv_if_eq (tgt := 326) hx hb dX5_solves_313 (by decide) (fun c_313_23 => absurd c_313_23 (by decide)) (fun c_313_23 => ?_)
                          refine lv_iload hx hb dX5_solves_316 (lv_at hl 0 rfl) ?_
                          refine lv_if_eq (tgt := 326) hx hb dX5_solves_318 (by decide) (fun c_318_24 => ?_) (fun c_318_24 => absurd (by decide) c_318_24)
                          refine lv_aload_n hx hb dX5_solves_326 rfl (lv_at hl 3 rfl) ?_
                          refine va_get (D := g.1) (ci := 3) (v := .ref (a 14)) (C := RX5) (T := TX5) (N := 19) hx hb hts hi_3 hown hK hP 0 rfl rfl 14 (by decide) f_36 (fun _ h9 => h9) rfl dX5_solves_327 ?_
                          refine lv_iload_n hx hb dX5_solves_330 rfl (lv_at hl 6 rfl) ?_
                          refine va_iald (n := 550) (f := fE1) hx hb hK hP 7 0 rfl rfl (vp_in_nI (n := (11 * y0) + m0) (by omega) (by decide)) dX5_solves_331 ?_
                          refine tp_i (congrArg fE1 (nI_clamp (n := (11 * y0) + m0) (by omega))) ?_
                          refine tp_i (b := (nI (e1))) (hE) ?_
                          refine va_iast (n := 550) (f := fE1) hx hb hK hP hD hS 7 0 rfl rfl (vp_in_nI (n := (11 * y0) + m0) (by omega) (by decide)) dX5_solves_332 (fun H locs hP hD hS => ?_)
                          rw [nI_clamp (n := (11 * y0) + m0) (by omega)] at hP hD
                          have hP : va_P g.1 vwCl (MW g h a (nI (rwL SL)) (nI n) (nI ll) (nI np) tu la wi (nI (rwL F)) th fS fL fN fK fF (upd fW ((11 * y0) + m0) (vp_nar .boolean (xw))) (upd fE1 ((11 * y0) + m0) (nI (e1))) fC1 fG1 fO1) H := hP
                          have hD : va_D A (MW g h a (nI (rwL SL)) (nI n) (nI ll) (nI np) tu la wi (nI (rwL F)) th fS fL fN fK fF (upd fW ((11 * y0) + m0) (vp_nar .boolean (xw))) (upd fE1 ((11 * y0) + m0) (nI (e1))) fC1 fG1 fO1) := hD
                          refine lv_aload_n hx hb dX5_solves_333 rfl (lv_at hl 3 rfl) ?_
                          refine va_get (D := g.1) (ci := 3) (v := .ref (a 15)) (C := RX5) (T := TX5) (N := 19) hx hb hts hi_3 hown hK hP 0 rfl rfl 15 (by decide) f_39 (fun _ h9 => h9) rfl dX5_solves_334 ?_
                          refine lv_iload_n hx hb dX5_solves_337 rfl (lv_at hl 6 rfl) ?_
                          refine lv_iload hx hb dX5_solves_338 (lv_at hl 2 rfl) ?_
                          refine lv_if_eq (tgt := 353) hx hb dX5_solves_340 (by decide) (fun c_340_25 => absurd c_340_25 (by decide)) (fun c_340_25 => ?_)
                          refine lv_iload hx hb dX5_solves_343 (lv_at hl 0 rfl) ?_
                          refine lv_if_eq (tgt := 353) hx hb dX5_solves_345 (by decide) (fun c_345_26 => ?_) (fun c_345_26 => absurd (by decide) c_345_26)
                          refine lv_aload_n hx hb dX5_solves_353 rfl (lv_at hl 3 rfl) ?_
                          refine va_get (D := g.1) (ci := 3) (v := .ref (a 15)) (C := RX5) (T := TX5) (N := 19) hx hb hts hi_3 hown hK hP 0 rfl rfl 15 (by decide) f_39 (fun _ h9 => h9) rfl dX5_solves_354 ?_
                          refine lv_iload_n hx hb dX5_solves_357 rfl (lv_at hl 6 rfl) ?_
                          refine va_iald (n := 550) (f := fC1) hx hb hK hP 8 0 rfl rfl (vp_in_nI (n := (11 * y0) + m0) (by omega) (by decide)) dX5_solves_358 ?_
                          refine tp_i (congrArg fC1 (nI_clamp (n := (11 * y0) + m0) (by omega))) ?_
                          refine tp_i (b := (x1)) (hC) ?_
                          refine va_iast (n := 550) (f := fC1) hx hb hK hP hD hS 8 0 rfl rfl (vp_in_nI (n := (11 * y0) + m0) (by omega) (by decide)) dX5_solves_359 (fun H locs hP hD hS => ?_)
                          rw [nI_clamp (n := (11 * y0) + m0) (by omega)] at hP hD
                          have hP : va_P g.1 vwCl (MW g h a (nI (rwL SL)) (nI n) (nI ll) (nI np) tu la wi (nI (rwL F)) th fS fL fN fK fF (upd fW ((11 * y0) + m0) (vp_nar .boolean (xw))) (upd fE1 ((11 * y0) + m0) (nI (e1))) (upd fC1 ((11 * y0) + m0) (x1)) fG1 fO1) H := hP
                          have hD : va_D A (MW g h a (nI (rwL SL)) (nI n) (nI ll) (nI np) tu la wi (nI (rwL F)) th fS fL fN fK fF (upd fW ((11 * y0) + m0) (vp_nar .boolean (xw))) (upd fE1 ((11 * y0) + m0) (nI (e1))) (upd fC1 ((11 * y0) + m0) (x1)) fG1 fO1) := hD
                          refine lv_iinc (v := (nI (lt + 1))) (lv' := [(4, .int (nI (lt + 1))), (7, .int (nI (0))), (6, .int (nI (ebP D n ll (rwB (D y0) m0) lt))), (5, .int (nI (1))), (0, .ref (h)), (1, .int (nI (y0))), (2, .int (nI (m0))), (3, .int (nI ((11 * y0) + m0)))]) hx hb dX5_solves_360 hl (k := 7) rfl (nI_add (lt) 1) (by decide) rfl (fun ls hl => ?_)
                          refine lv_goto (tgt := 189) hx hb dX5_solves_363 (by decide) ?_
                          exact ih_189 (lt + 1) x1 e1 (upd fE1 ((11 * y0) + m0) (nI (e1))) (upd fC1 ((11 * y0) + m0) (x1)) (by omega) (by omega) (pk_us) (pk_us) (fun z hz => (pk_un hz).trans (hoE z hz)) (fun z hz => (pk_un hz).trans (hoC z hz)) (hBS.keep c_262_16 (fun t9 _ _ h9 => by rw [ct_o hg2 n_202_3, ct_o hg2 n_202_3]; omega)) _ _ _ hP hD hS (lv_sub hl [4, 5, 6, 7, 0] rfl)
                        · skip
                          have n_296_22 : ¬ ebP D n ll (rwB (D y0) m0) lt ≤ e1 := fun q9 => c_296_22 ((nI_leI (a := ebP D n ll (rwB (D y0) m0) lt) (b := e1) (by omega) (by omega)).mpr q9)
                          refine lv_iconst (v := nI 1) hx hb dX5_solves_299 (by decide) ?_
                          refine lv_goto (tgt := 304) hx hb dX5_solves_300 (by decide) ?_
                          refine lv_istore (lv' := [(7, .int (nI (1))), (6, .int (nI (ebP D n ll (rwB (D y0) m0) lt))), (5, .int (nI (1))), (0, .ref (h)), (1, .int (nI (y0))), (2, .int (nI (m0))), (3, .int (nI ((11 * y0) + m0))), (4, .int (nI (lt)))]) hx hb dX5_solves_304 hl (by decide) rfl (fun ls hl => ?_)
                          refine lv_aload_n hx hb dX5_solves_306 rfl (lv_at hl 3 rfl) ?_
                          refine va_get (D := g.1) (ci := 3) (v := .ref (a 14)) (C := RX5) (T := TX5) (N := 19) hx hb hts hi_3 hown hK hP 0 rfl rfl 14 (by decide) f_36 (fun _ h9 => h9) rfl dX5_solves_307 ?_
                          refine lv_iload_n hx hb dX5_solves_310 rfl (lv_at hl 6 rfl) ?_
                          refine lv_iload hx hb dX5_solves_311 (lv_at hl 2 rfl) ?_
                          refine lv_if_eq (tgt := 326) hx hb dX5_solves_313 (by decide) (fun c_313_27 => absurd c_313_27 (by decide)) (fun c_313_27 => ?_)
                          refine lv_iload hx hb dX5_solves_316 (lv_at hl 0 rfl) ?_
                          refine lv_if_eq (tgt := 326) hx hb dX5_solves_318 (by decide) (fun c_318_28 => absurd c_318_28 (by decide)) (fun c_318_28 => ?_)
                          refine lv_iload hx hb dX5_solves_321 (lv_at hl 1 rfl) ?_
                          refine lv_goto (tgt := 332) hx hb dX5_solves_323 (by decide) ?_
                          refine va_iast (n := 550) (f := fE1) hx hb hK hP hD hS 7 0 rfl rfl (vp_in_nI (n := (11 * y0) + m0) (by omega) (by decide)) dX5_solves_332 (fun H locs hP hD hS => ?_)
                          rw [nI_clamp (n := (11 * y0) + m0) (by omega)] at hP hD
                          have hP : va_P g.1 vwCl (MW g h a (nI (rwL SL)) (nI n) (nI ll) (nI np) tu la wi (nI (rwL F)) th fS fL fN fK fF (upd fW ((11 * y0) + m0) (vp_nar .boolean (xw))) (upd fE1 ((11 * y0) + m0) (nI (ebP D n ll (rwB (D y0) m0) lt))) fC1 fG1 fO1) H := hP
                          have hD : va_D A (MW g h a (nI (rwL SL)) (nI n) (nI ll) (nI np) tu la wi (nI (rwL F)) th fS fL fN fK fF (upd fW ((11 * y0) + m0) (vp_nar .boolean (xw))) (upd fE1 ((11 * y0) + m0) (nI (ebP D n ll (rwB (D y0) m0) lt))) fC1 fG1 fO1) := hD
                          refine lv_aload_n hx hb dX5_solves_333 rfl (lv_at hl 3 rfl) ?_
                          refine va_get (D := g.1) (ci := 3) (v := .ref (a 15)) (C := RX5) (T := TX5) (N := 19) hx hb hts hi_3 hown hK hP 0 rfl rfl 15 (by decide) f_39 (fun _ h9 => h9) rfl dX5_solves_334 ?_
                          refine lv_iload_n hx hb dX5_solves_337 rfl (lv_at hl 6 rfl) ?_
                          refine lv_iload hx hb dX5_solves_338 (lv_at hl 2 rfl) ?_
                          refine lv_if_eq (tgt := 353) hx hb dX5_solves_340 (by decide) (fun c_340_29 => absurd c_340_29 (by decide)) (fun c_340_29 => ?_)
                          refine lv_iload hx hb dX5_solves_343 (lv_at hl 0 rfl) ?_
                          refine lv_if_eq (tgt := 353) hx hb dX5_solves_345 (by decide) (fun c_345_30 => absurd c_345_30 (by decide)) (fun c_345_30 => ?_)
                          refine lv_iload hx hb dX5_solves_348 (lv_at hl 7 rfl) ?_
                          refine lv_goto (tgt := 359) hx hb dX5_solves_350 (by decide) ?_
                          refine va_iast (n := 550) (f := fC1) hx hb hK hP hD hS 8 0 rfl rfl (vp_in_nI (n := (11 * y0) + m0) (by omega) (by decide)) dX5_solves_359 (fun H locs hP hD hS => ?_)
                          rw [nI_clamp (n := (11 * y0) + m0) (by omega)] at hP hD
                          have hP : va_P g.1 vwCl (MW g h a (nI (rwL SL)) (nI n) (nI ll) (nI np) tu la wi (nI (rwL F)) th fS fL fN fK fF (upd fW ((11 * y0) + m0) (vp_nar .boolean (xw))) (upd fE1 ((11 * y0) + m0) (nI (ebP D n ll (rwB (D y0) m0) lt))) (upd fC1 ((11 * y0) + m0) (nI (lt))) fG1 fO1) H := hP
                          have hD : va_D A (MW g h a (nI (rwL SL)) (nI n) (nI ll) (nI np) tu la wi (nI (rwL F)) th fS fL fN fK fF (upd fW ((11 * y0) + m0) (vp_nar .boolean (xw))) (upd fE1 ((11 * y0) + m0) (nI (ebP D n ll (rwB (D y0) m0) lt))) (upd fC1 ((11 * y0) + m0) (nI (lt))) fG1 fO1) := hD
                          refine lv_iinc (v := (nI (lt + 1))) (lv' := [(4, .int (nI (lt + 1))), (7, .int (nI (1))), (6, .int (nI (ebP D n ll (rwB (D y0) m0) lt))), (5, .int (nI (1))), (0, .ref (h)), (1, .int (nI (y0))), (2, .int (nI (m0))), (3, .int (nI ((11 * y0) + m0)))]) hx hb dX5_solves_360 hl (k := 7) rfl (nI_add (lt) 1) (by decide) rfl (fun ls hl => ?_)
                          refine lv_goto (tgt := 189) hx hb dX5_solves_363 (by decide) ?_
                          exact ih_189 (lt + 1) (nI (lt)) (ebP D n ll (rwB (D y0) m0) lt) (upd fE1 ((11 * y0) + m0) (nI (ebP D n ll (rwB (D y0) m0) lt))) (upd fC1 ((11 * y0) + m0) (nI (lt))) (by omega) (by omega) (pk_us) (pk_us) (fun z hz => (pk_un hz).trans (hoE z hz)) (fun z hz => (pk_un hz).trans (hoC z hz)) (hBS.better c_262_16 hbit (fun t9 _ _ h9 => by rw [ct_o hg2 n_202_3, ct_o hg2 n_202_3]; omega)) _ _ _ hP hD hS (lv_sub hl [4, 5, 6, 7, 0] rfl)
                      · skip
                        have n_271_21 : ¬ g1 = 0 := fun q9 => c_271_21 ((nI_eq (a := g1) (b := 0) (by omega) (by omega)).mpr q9)
                        exact absurd n_202_3 n_271_21
                · skip
                  have n_202_3 : ¬ g1 = 0 := fun q9 => c_202_3 ((nI_eq (a := g1) (b := 0) (by omega) (by omega)).mpr q9)
                  refine lv_aload_n hx hb dX5_solves_205 rfl (lv_at hl 0 rfl) ?_
                  refine va_get (D := g.1) (ci := 3) (v := .ref (a 16)) (C := RX5) (T := TX5) (N := 19) hx hb hts hi_3 hown hK hP 0 rfl rfl 16 (by decide) f_42 (fun _ h9 => h9) rfl dX5_solves_206 ?_
                  refine lv_iload_n hx hb dX5_solves_209 rfl (lv_at hl 3 rfl) ?_
                  refine va_iald (n := 550) (f := fG1) hx hb hK hP 9 0 rfl rfl (vp_in_nI (n := (11 * y0) + m0) (by omega) (by decide)) dX5_solves_210 ?_
                  refine tp_i (congrArg fG1 (nI_clamp (n := (11 * y0) + m0) (by omega))) ?_
                  refine tp_i (b := (nI (g1))) (hG) ?_
                  refine lv_goto (tgt := 220) hx hb dX5_solves_211 (by decide) ?_
                  refine lv_iload hx hb dX5_solves_220 (lv_at hl 4 rfl) ?_
                  refine lv_ishr hx hb dX5_solves_222 ?_
                  refine tp_i (b := (nI (g1 / 2 ^ lt))) (mk_shr (by omega) (by omega)) ?_
                  refine lv_iconst (v := nI 1) hx hb dX5_solves_223 (by decide) ?_
                  refine lv_iand hx hb dX5_solves_224 ?_
                  refine tp_i (b := (nI (g1 / 2 ^ lt % 2))) (fa_mask _ 1) ?_
                  refine lv_iconst (v := nI 1) hx hb dX5_solves_225 (by decide) ?_
                  refine lv_icmp_ne (tgt := 233) hx hb dX5_solves_226 (by decide) (fun c_226_31 => ?_) (fun c_226_31 => ?_)
                  · skip
                    have n_226_31 : ¬ g1 / 2 ^ lt % 2 = 1 := fun q9 => c_226_31 ((nI_eq (a := g1 / 2 ^ lt % 2) (b := 1) (by omega) (by omega)).mpr q9)
                    have hbit : ¬ (GMk D n ll (rwB (D y0) m0)).testBit lt = true := by rw [GM_g hg2 n_202_3]; exact tb_0 n_226_31
                    refine lv_iconst (v := nI 0) hx hb dX5_solves_233 (by decide) ?_
                    refine lv_istore (lv' := [(5, .int (nI (0))), (0, .ref (h)), (1, .int (nI (y0))), (2, .int (nI (m0))), (3, .int (nI ((11 * y0) + m0))), (4, .int (nI (lt)))]) hx hb dX5_solves_234 hl (by decide) rfl (fun ls hl => ?_)
                    refine lv_iload hx hb dX5_solves_236 (lv_at hl 0 rfl) ?_
                    refine lv_if_eq (tgt := 252) hx hb dX5_solves_238 (by decide) (fun c_238_32 => ?_) (fun c_238_32 => absurd (by decide) c_238_32)
                    refine lv_iconst (v := nI 0) hx hb dX5_solves_252 (by decide) ?_
                    refine lv_istore (lv' := [(6, .int (nI (0))), (5, .int (nI (0))), (0, .ref (h)), (1, .int (nI (y0))), (2, .int (nI (m0))), (3, .int (nI ((11 * y0) + m0))), (4, .int (nI (lt)))]) hx hb dX5_solves_253 hl (by decide) rfl (fun ls hl => ?_)
                    refine lv_aload_n hx hb dX5_solves_255 rfl (lv_at hl 2 rfl) ?_
                    refine va_get (D := g.1) (ci := 3) (v := .ref (a 15)) (C := RX5) (T := TX5) (N := 19) hx hb hts hi_3 hown hK hP 0 rfl rfl 15 (by decide) f_39 (fun _ h9 => h9) rfl dX5_solves_256 ?_
                    refine lv_iload_n hx hb dX5_solves_259 rfl (lv_at hl 5 rfl) ?_
                    refine va_iald (n := 550) (f := fC1) hx hb hK hP 8 0 rfl rfl (vp_in_nI (n := (11 * y0) + m0) (by omega) (by decide)) dX5_solves_260 ?_
                    refine tp_i (congrArg fC1 (nI_clamp (n := (11 * y0) + m0) (by omega))) ?_
                    refine tp_i (b := (x1)) (hC) ?_
                    refine lv_iconst (v := -1) hx hb dX5_solves_261 (by decide) ?_
                    refine lv_icmp_eq (tgt := 299) hx hb dX5_solves_262 (by decide) (fun c_262_33 => ?_) (fun c_262_33 => ?_)
                    · skip
                      refine lv_iconst (v := nI 1) hx hb dX5_solves_299 (by decide) ?_
                      refine lv_goto (tgt := 304) hx hb dX5_solves_300 (by decide) ?_
                      refine lv_istore (lv' := [(7, .int (nI (1))), (6, .int (nI (0))), (5, .int (nI (0))), (0, .ref (h)), (1, .int (nI (y0))), (2, .int (nI (m0))), (3, .int (nI ((11 * y0) + m0))), (4, .int (nI (lt)))]) hx hb dX5_solves_304 hl (by decide) rfl (fun ls hl => ?_)
                      refine lv_aload_n hx hb dX5_solves_306 rfl (lv_at hl 3 rfl) ?_
                      refine va_get (D := g.1) (ci := 3) (v := .ref (a 14)) (C := RX5) (T := TX5) (N := 19) hx hb hts hi_3 hown hK hP 0 rfl rfl 14 (by decide) f_36 (fun _ h9 => h9) rfl dX5_solves_307 ?_
                      refine lv_iload_n hx hb dX5_solves_310 rfl (lv_at hl 6 rfl) ?_
                      refine lv_iload hx hb dX5_solves_311 (lv_at hl 2 rfl) ?_
                      refine lv_if_eq (tgt := 326) hx hb dX5_solves_313 (by decide) (fun c_313_34 => ?_) (fun c_313_34 => absurd (by decide) c_313_34)
                      refine lv_aload_n hx hb dX5_solves_326 rfl (lv_at hl 3 rfl) ?_
                      refine va_get (D := g.1) (ci := 3) (v := .ref (a 14)) (C := RX5) (T := TX5) (N := 19) hx hb hts hi_3 hown hK hP 0 rfl rfl 14 (by decide) f_36 (fun _ h9 => h9) rfl dX5_solves_327 ?_
                      refine lv_iload_n hx hb dX5_solves_330 rfl (lv_at hl 6 rfl) ?_
                      refine va_iald (n := 550) (f := fE1) hx hb hK hP 7 0 rfl rfl (vp_in_nI (n := (11 * y0) + m0) (by omega) (by decide)) dX5_solves_331 ?_
                      refine tp_i (congrArg fE1 (nI_clamp (n := (11 * y0) + m0) (by omega))) ?_
                      refine tp_i (b := (nI (e1))) (hE) ?_
                      refine va_iast (n := 550) (f := fE1) hx hb hK hP hD hS 7 0 rfl rfl (vp_in_nI (n := (11 * y0) + m0) (by omega) (by decide)) dX5_solves_332 (fun H locs hP hD hS => ?_)
                      rw [nI_clamp (n := (11 * y0) + m0) (by omega)] at hP hD
                      have hP : va_P g.1 vwCl (MW g h a (nI (rwL SL)) (nI n) (nI ll) (nI np) tu la wi (nI (rwL F)) th fS fL fN fK fF (upd fW ((11 * y0) + m0) (vp_nar .boolean (xw))) (upd fE1 ((11 * y0) + m0) (nI (e1))) fC1 fG1 fO1) H := hP
                      have hD : va_D A (MW g h a (nI (rwL SL)) (nI n) (nI ll) (nI np) tu la wi (nI (rwL F)) th fS fL fN fK fF (upd fW ((11 * y0) + m0) (vp_nar .boolean (xw))) (upd fE1 ((11 * y0) + m0) (nI (e1))) fC1 fG1 fO1) := hD
                      refine lv_aload_n hx hb dX5_solves_333 rfl (lv_at hl 3 rfl) ?_
                      refine va_get (D := g.1) (ci := 3) (v := .ref (a 15)) (C := RX5) (T := TX5) (N := 19) hx hb hts hi_3 hown hK hP 0 rfl rfl 15 (by decide) f_39 (fun _ h9 => h9) rfl dX5_solves_334 ?_
                      refine lv_iload_n hx hb dX5_solves_337 rfl (lv_at hl 6 rfl) ?_
                      refine lv_iload hx hb dX5_solves_338 (lv_at hl 2 rfl) ?_
                      refine lv_if_eq (tgt := 353) hx hb dX5_solves_340 (by decide) (fun c_340_35 => ?_) (fun c_340_35 => absurd (by decide) c_340_35)
                      refine lv_aload_n hx hb dX5_solves_353 rfl (lv_at hl 3 rfl) ?_
                      refine va_get (D := g.1) (ci := 3) (v := .ref (a 15)) (C := RX5) (T := TX5) (N := 19) hx hb hts hi_3 hown hK hP 0 rfl rfl 15 (by decide) f_39 (fun _ h9 => h9) rfl dX5_solves_354 ?_
                      refine lv_iload_n hx hb dX5_solves_357 rfl (lv_at hl 6 rfl) ?_
                      refine va_iald (n := 550) (f := fC1) hx hb hK hP 8 0 rfl rfl (vp_in_nI (n := (11 * y0) + m0) (by omega) (by decide)) dX5_solves_358 ?_
                      refine tp_i (congrArg fC1 (nI_clamp (n := (11 * y0) + m0) (by omega))) ?_
                      refine tp_i (b := (x1)) (hC) ?_
                      refine va_iast (n := 550) (f := fC1) hx hb hK hP hD hS 8 0 rfl rfl (vp_in_nI (n := (11 * y0) + m0) (by omega) (by decide)) dX5_solves_359 (fun H locs hP hD hS => ?_)
                      rw [nI_clamp (n := (11 * y0) + m0) (by omega)] at hP hD
                      have hP : va_P g.1 vwCl (MW g h a (nI (rwL SL)) (nI n) (nI ll) (nI np) tu la wi (nI (rwL F)) th fS fL fN fK fF (upd fW ((11 * y0) + m0) (vp_nar .boolean (xw))) (upd fE1 ((11 * y0) + m0) (nI (e1))) (upd fC1 ((11 * y0) + m0) (x1)) fG1 fO1) H := hP
                      have hD : va_D A (MW g h a (nI (rwL SL)) (nI n) (nI ll) (nI np) tu la wi (nI (rwL F)) th fS fL fN fK fF (upd fW ((11 * y0) + m0) (vp_nar .boolean (xw))) (upd fE1 ((11 * y0) + m0) (nI (e1))) (upd fC1 ((11 * y0) + m0) (x1)) fG1 fO1) := hD
                      refine lv_iinc (v := (nI (lt + 1))) (lv' := [(4, .int (nI (lt + 1))), (7, .int (nI (1))), (6, .int (nI (0))), (5, .int (nI (0))), (0, .ref (h)), (1, .int (nI (y0))), (2, .int (nI (m0))), (3, .int (nI ((11 * y0) + m0)))]) hx hb dX5_solves_360 hl (k := 7) rfl (nI_add (lt) 1) (by decide) rfl (fun ls hl => ?_)
                      refine lv_goto (tgt := 189) hx hb dX5_solves_363 (by decide) ?_
                      exact ih_189 (lt + 1) x1 e1 (upd fE1 ((11 * y0) + m0) (nI (e1))) (upd fC1 ((11 * y0) + m0) (x1)) (by omega) (by omega) (pk_us) (pk_us) (fun z hz => (pk_un hz).trans (hoE z hz)) (fun z hz => (pk_un hz).trans (hoC z hz)) (hBS.skip hbit) _ _ _ hP hD hS (lv_sub hl [4, 5, 6, 7, 0] rfl)
                    · skip
                      refine lv_aload_n hx hb dX5_solves_265 rfl (lv_at hl 2 rfl) ?_
                      refine va_get (D := g.1) (ci := 3) (v := .ref (a 16)) (C := RX5) (T := TX5) (N := 19) hx hb hts hi_3 hown hK hP 0 rfl rfl 16 (by decide) f_42 (fun _ h9 => h9) rfl dX5_solves_266 ?_
                      refine lv_iload_n hx hb dX5_solves_269 rfl (lv_at hl 5 rfl) ?_
                      refine va_iald (n := 550) (f := fG1) hx hb hK hP 9 0 rfl rfl (vp_in_nI (n := (11 * y0) + m0) (by omega) (by decide)) dX5_solves_270 ?_
                      refine tp_i (congrArg fG1 (nI_clamp (n := (11 * y0) + m0) (by omega))) ?_
                      refine tp_i (b := (nI (g1))) (hG) ?_
                      refine lv_if_eq (tgt := 288) hx hb dX5_solves_271 (by decide) (fun c_271_36 => ?_) (fun c_271_36 => ?_)
                      · skip
                        have n_271_36 : g1 = 0 := (nI_eq (a := g1) (b := 0) (by omega) (by omega)).mp c_271_36
                        exact absurd n_271_36 n_202_3
                      · skip
                        have n_271_36 : ¬ g1 = 0 := fun q9 => c_271_36 ((nI_eq (a := g1) (b := 0) (by omega) (by omega)).mpr q9)
                        refine lv_iload hx hb dX5_solves_274 (lv_at hl 0 rfl) ?_
                        refine lv_aload_n hx hb dX5_solves_276 rfl (lv_at hl 2 rfl) ?_
                        refine va_get (D := g.1) (ci := 3) (v := .ref (a 14)) (C := RX5) (T := TX5) (N := 19) hx hb hts hi_3 hown hK hP 0 rfl rfl 14 (by decide) f_36 (fun _ h9 => h9) rfl dX5_solves_277 ?_
                        refine lv_iload_n hx hb dX5_solves_280 rfl (lv_at hl 5 rfl) ?_
                        refine va_iald (n := 550) (f := fE1) hx hb hK hP 7 0 rfl rfl (vp_in_nI (n := (11 * y0) + m0) (by omega) (by decide)) dX5_solves_281 ?_
                        refine tp_i (congrArg fE1 (nI_clamp (n := (11 * y0) + m0) (by omega))) ?_
                        refine tp_i (b := (nI (e1))) (hE) ?_
                        refine lv_icmp_ge (tgt := 303) hx hb dX5_solves_282 (by decide) (fun c_282_37 => ?_) (fun c_282_37 => ?_)
                        · skip
                          have n_282_37 : e1 ≤ 0 := (nI_leI (a := e1) (b := 0) (by omega) (by omega)).mp c_282_37
                          refine lv_iconst (v := nI 0) hx hb dX5_solves_303 (by decide) ?_
                          refine lv_istore (lv' := [(7, .int (nI (0))), (6, .int (nI (0))), (5, .int (nI (0))), (0, .ref (h)), (1, .int (nI (y0))), (2, .int (nI (m0))), (3, .int (nI ((11 * y0) + m0))), (4, .int (nI (lt)))]) hx hb dX5_solves_304 hl (by decide) rfl (fun ls hl => ?_)
                          refine lv_aload_n hx hb dX5_solves_306 rfl (lv_at hl 3 rfl) ?_
                          refine va_get (D := g.1) (ci := 3) (v := .ref (a 14)) (C := RX5) (T := TX5) (N := 19) hx hb hts hi_3 hown hK hP 0 rfl rfl 14 (by decide) f_36 (fun _ h9 => h9) rfl dX5_solves_307 ?_
                          refine lv_iload_n hx hb dX5_solves_310 rfl (lv_at hl 6 rfl) ?_
                          refine lv_iload hx hb dX5_solves_311 (lv_at hl 2 rfl) ?_
                          refine lv_if_eq (tgt := 326) hx hb dX5_solves_313 (by decide) (fun c_313_38 => ?_) (fun c_313_38 => absurd (by decide) c_313_38)
                          refine lv_aload_n hx hb dX5_solves_326 rfl (lv_at hl 3 rfl) ?_
                          refine va_get (D := g.1) (ci := 3) (v := .ref (a 14)) (C := RX5) (T := TX5) (N := 19) hx hb hts hi_3 hown hK hP 0 rfl rfl 14 (by decide) f_36 (fun _ h9 => h9) rfl dX5_solves_327 ?_
                          refine lv_iload_n hx hb dX5_solves_330 rfl (lv_at hl 6 rfl) ?_
                          refine va_iald (n := 550) (f := fE1) hx hb hK hP 7 0 rfl rfl (vp_in_nI (n := (11 * y0) + m0) (by omega) (by decide)) dX5_solves_331 ?_
                          refine tp_i (congrArg fE1 (nI_clamp (n := (11 * y0) + m0) (by omega))) ?_
                          refine tp_i (b := (nI (e1))) (hE) ?_
                          refine va_iast (n := 550) (f := fE1) hx hb hK hP hD hS 7 0 rfl rfl (vp_in_nI (n := (11 * y0) + m0) (by omega) (by decide)) dX5_solves_332 (fun H locs hP hD hS => ?_)
                          rw [nI_clamp (n := (11 * y0) + m0) (by omega)] at hP hD
                          have hP : va_P g.1 vwCl (MW g h a (nI (rwL SL)) (nI n) (nI ll) (nI np) tu la wi (nI (rwL F)) th fS fL fN fK fF (upd fW ((11 * y0) + m0) (vp_nar .boolean (xw))) (upd fE1 ((11 * y0) + m0) (nI (e1))) fC1 fG1 fO1) H := hP
                          have hD : va_D A (MW g h a (nI (rwL SL)) (nI n) (nI ll) (nI np) tu la wi (nI (rwL F)) th fS fL fN fK fF (upd fW ((11 * y0) + m0) (vp_nar .boolean (xw))) (upd fE1 ((11 * y0) + m0) (nI (e1))) fC1 fG1 fO1) := hD
                          refine lv_aload_n hx hb dX5_solves_333 rfl (lv_at hl 3 rfl) ?_
                          refine va_get (D := g.1) (ci := 3) (v := .ref (a 15)) (C := RX5) (T := TX5) (N := 19) hx hb hts hi_3 hown hK hP 0 rfl rfl 15 (by decide) f_39 (fun _ h9 => h9) rfl dX5_solves_334 ?_
                          refine lv_iload_n hx hb dX5_solves_337 rfl (lv_at hl 6 rfl) ?_
                          refine lv_iload hx hb dX5_solves_338 (lv_at hl 2 rfl) ?_
                          refine lv_if_eq (tgt := 353) hx hb dX5_solves_340 (by decide) (fun c_340_39 => ?_) (fun c_340_39 => absurd (by decide) c_340_39)
                          refine lv_aload_n hx hb dX5_solves_353 rfl (lv_at hl 3 rfl) ?_
                          refine va_get (D := g.1) (ci := 3) (v := .ref (a 15)) (C := RX5) (T := TX5) (N := 19) hx hb hts hi_3 hown hK hP 0 rfl rfl 15 (by decide) f_39 (fun _ h9 => h9) rfl dX5_solves_354 ?_
                          refine lv_iload_n hx hb dX5_solves_357 rfl (lv_at hl 6 rfl) ?_
                          refine va_iald (n := 550) (f := fC1) hx hb hK hP 8 0 rfl rfl (vp_in_nI (n := (11 * y0) + m0) (by omega) (by decide)) dX5_solves_358 ?_
                          refine tp_i (congrArg fC1 (nI_clamp (n := (11 * y0) + m0) (by omega))) ?_
                          refine tp_i (b := (x1)) (hC) ?_
                          refine va_iast (n := 550) (f := fC1) hx hb hK hP hD hS 8 0 rfl rfl (vp_in_nI (n := (11 * y0) + m0) (by omega) (by decide)) dX5_solves_359 (fun H locs hP hD hS => ?_)
                          rw [nI_clamp (n := (11 * y0) + m0) (by omega)] at hP hD
                          have hP : va_P g.1 vwCl (MW g h a (nI (rwL SL)) (nI n) (nI ll) (nI np) tu la wi (nI (rwL F)) th fS fL fN fK fF (upd fW ((11 * y0) + m0) (vp_nar .boolean (xw))) (upd fE1 ((11 * y0) + m0) (nI (e1))) (upd fC1 ((11 * y0) + m0) (x1)) fG1 fO1) H := hP
                          have hD : va_D A (MW g h a (nI (rwL SL)) (nI n) (nI ll) (nI np) tu la wi (nI (rwL F)) th fS fL fN fK fF (upd fW ((11 * y0) + m0) (vp_nar .boolean (xw))) (upd fE1 ((11 * y0) + m0) (nI (e1))) (upd fC1 ((11 * y0) + m0) (x1)) fG1 fO1) := hD
                          refine lv_iinc (v := (nI (lt + 1))) (lv' := [(4, .int (nI (lt + 1))), (7, .int (nI (0))), (6, .int (nI (0))), (5, .int (nI (0))), (0, .ref (h)), (1, .int (nI (y0))), (2, .int (nI (m0))), (3, .int (nI ((11 * y0) + m0)))]) hx hb dX5_solves_360 hl (k := 7) rfl (nI_add (lt) 1) (by decide) rfl (fun ls hl => ?_)
                          refine lv_goto (tgt := 189) hx hb dX5_solves_363 (by decide) ?_
                          exact ih_189 (lt + 1) x1 e1 (upd fE1 ((11 * y0) + m0) (nI (e1))) (upd fC1 ((11 * y0) + m0) (x1)) (by omega) (by omega) (pk_us) (pk_us) (fun z hz => (pk_un hz).trans (hoE z hz)) (fun z hz => (pk_un hz).trans (hoC z hz)) (hBS.skip hbit) _ _ _ hP hD hS (lv_sub hl [4, 5, 6, 7, 0] rfl)
                        · skip
                          have n_282_37 : ¬ e1 ≤ 0 := fun q9 => c_282_37 ((nI_leI (a := e1) (b := 0) (by omega) (by omega)).mpr q9)
                          refine lv_goto (tgt := 299) hx hb dX5_solves_285 (by decide) ?_
                          refine lv_iconst (v := nI 1) hx hb dX5_solves_299 (by decide) ?_
                          refine lv_goto (tgt := 304) hx hb dX5_solves_300 (by decide) ?_
                          refine lv_istore (lv' := [(7, .int (nI (1))), (6, .int (nI (0))), (5, .int (nI (0))), (0, .ref (h)), (1, .int (nI (y0))), (2, .int (nI (m0))), (3, .int (nI ((11 * y0) + m0))), (4, .int (nI (lt)))]) hx hb dX5_solves_304 hl (by decide) rfl (fun ls hl => ?_)
                          refine lv_aload_n hx hb dX5_solves_306 rfl (lv_at hl 3 rfl) ?_
                          refine va_get (D := g.1) (ci := 3) (v := .ref (a 14)) (C := RX5) (T := TX5) (N := 19) hx hb hts hi_3 hown hK hP 0 rfl rfl 14 (by decide) f_36 (fun _ h9 => h9) rfl dX5_solves_307 ?_
                          refine lv_iload_n hx hb dX5_solves_310 rfl (lv_at hl 6 rfl) ?_
                          refine lv_iload hx hb dX5_solves_311 (lv_at hl 2 rfl) ?_
                          refine lv_if_eq (tgt := 326) hx hb dX5_solves_313 (by decide) (fun c_313_40 => ?_) (fun c_313_40 => absurd (by decide) c_313_40)
                          refine lv_aload_n hx hb dX5_solves_326 rfl (lv_at hl 3 rfl) ?_
                          refine va_get (D := g.1) (ci := 3) (v := .ref (a 14)) (C := RX5) (T := TX5) (N := 19) hx hb hts hi_3 hown hK hP 0 rfl rfl 14 (by decide) f_36 (fun _ h9 => h9) rfl dX5_solves_327 ?_
                          refine lv_iload_n hx hb dX5_solves_330 rfl (lv_at hl 6 rfl) ?_
                          refine va_iald (n := 550) (f := fE1) hx hb hK hP 7 0 rfl rfl (vp_in_nI (n := (11 * y0) + m0) (by omega) (by decide)) dX5_solves_331 ?_
                          refine tp_i (congrArg fE1 (nI_clamp (n := (11 * y0) + m0) (by omega))) ?_
                          refine tp_i (b := (nI (e1))) (hE) ?_
                          refine va_iast (n := 550) (f := fE1) hx hb hK hP hD hS 7 0 rfl rfl (vp_in_nI (n := (11 * y0) + m0) (by omega) (by decide)) dX5_solves_332 (fun H locs hP hD hS => ?_)
                          rw [nI_clamp (n := (11 * y0) + m0) (by omega)] at hP hD
                          have hP : va_P g.1 vwCl (MW g h a (nI (rwL SL)) (nI n) (nI ll) (nI np) tu la wi (nI (rwL F)) th fS fL fN fK fF (upd fW ((11 * y0) + m0) (vp_nar .boolean (xw))) (upd fE1 ((11 * y0) + m0) (nI (e1))) fC1 fG1 fO1) H := hP
                          have hD : va_D A (MW g h a (nI (rwL SL)) (nI n) (nI ll) (nI np) tu la wi (nI (rwL F)) th fS fL fN fK fF (upd fW ((11 * y0) + m0) (vp_nar .boolean (xw))) (upd fE1 ((11 * y0) + m0) (nI (e1))) fC1 fG1 fO1) := hD
                          refine lv_aload_n hx hb dX5_solves_333 rfl (lv_at hl 3 rfl) ?_
                          refine va_get (D := g.1) (ci := 3) (v := .ref (a 15)) (C := RX5) (T := TX5) (N := 19) hx hb hts hi_3 hown hK hP 0 rfl rfl 15 (by decide) f_39 (fun _ h9 => h9) rfl dX5_solves_334 ?_
                          refine lv_iload_n hx hb dX5_solves_337 rfl (lv_at hl 6 rfl) ?_
                          refine lv_iload hx hb dX5_solves_338 (lv_at hl 2 rfl) ?_
                          refine lv_if_eq (tgt := 353) hx hb dX5_solves_340 (by decide) (fun c_340_41 => ?_) (fun c_340_41 => absurd (by decide) c_340_41)
                          refine lv_aload_n hx hb dX5_solves_353 rfl (lv_at hl 3 rfl) ?_
                          refine va_get (D := g.1) (ci := 3) (v := .ref (a 15)) (C := RX5) (T := TX5) (N := 19) hx hb hts hi_3 hown hK hP 0 rfl rfl 15 (by decide) f_39 (fun _ h9 => h9) rfl dX5_solves_354 ?_
                          refine lv_iload_n hx hb dX5_solves_357 rfl (lv_at hl 6 rfl) ?_
                          refine va_iald (n := 550) (f := fC1) hx hb hK hP 8 0 rfl rfl (vp_in_nI (n := (11 * y0) + m0) (by omega) (by decide)) dX5_solves_358 ?_
                          refine tp_i (congrArg fC1 (nI_clamp (n := (11 * y0) + m0) (by omega))) ?_
                          refine tp_i (b := (x1)) (hC) ?_
                          refine va_iast (n := 550) (f := fC1) hx hb hK hP hD hS 8 0 rfl rfl (vp_in_nI (n := (11 * y0) + m0) (by omega) (by decide)) dX5_solves_359 (fun H locs hP hD hS => ?_)
                          rw [nI_clamp (n := (11 * y0) + m0) (by omega)] at hP hD
                          have hP : va_P g.1 vwCl (MW g h a (nI (rwL SL)) (nI n) (nI ll) (nI np) tu la wi (nI (rwL F)) th fS fL fN fK fF (upd fW ((11 * y0) + m0) (vp_nar .boolean (xw))) (upd fE1 ((11 * y0) + m0) (nI (e1))) (upd fC1 ((11 * y0) + m0) (x1)) fG1 fO1) H := hP
                          have hD : va_D A (MW g h a (nI (rwL SL)) (nI n) (nI ll) (nI np) tu la wi (nI (rwL F)) th fS fL fN fK fF (upd fW ((11 * y0) + m0) (vp_nar .boolean (xw))) (upd fE1 ((11 * y0) + m0) (nI (e1))) (upd fC1 ((11 * y0) + m0) (x1)) fG1 fO1) := hD
                          refine lv_iinc (v := (nI (lt + 1))) (lv' := [(4, .int (nI (lt + 1))), (7, .int (nI (1))), (6, .int (nI (0))), (5, .int (nI (0))), (0, .ref (h)), (1, .int (nI (y0))), (2, .int (nI (m0))), (3, .int (nI ((11 * y0) + m0)))]) hx hb dX5_solves_360 hl (k := 7) rfl (nI_add (lt) 1) (by decide) rfl (fun ls hl => ?_)
                          refine lv_goto (tgt := 189) hx hb dX5_solves_363 (by decide) ?_
                          exact ih_189 (lt + 1) x1 e1 (upd fE1 ((11 * y0) + m0) (nI (e1))) (upd fC1 ((11 * y0) + m0) (x1)) (by omega) (by omega) (pk_us) (pk_us) (fun z hz => (pk_un hz).trans (hoE z hz)) (fun z hz => (pk_un hz).trans (hoC z hz)) (hBS.skip hbit) _ _ _ hP hD hS (lv_sub hl [4, 5, 6, 7, 0] rfl)
                  · skip
                    have n_226_31 : g1 / 2 ^ lt % 2 = 1 := (nI_eq (a := g1 / 2 ^ lt % 2) (b := 1) (by omega) (by omega)).mp c_226_31
                    have hbit : (GMk D n ll (rwB (D y0) m0)).testBit lt = true := by rw [GM_g hg2 n_202_3]; exact tb_1 n_226_31
                    have hbo : (opM D ll (rwB (D y0) m0) n).testBit lt = true := by rw [GM_g hg2 n_202_3, hg2] at hbit; exact ((gmP_bit (by omega)).mp hbit).1
                    refine lv_iconst (v := nI 1) hx hb dX5_solves_229 (by decide) ?_
                    refine lv_goto (tgt := 234) hx hb dX5_solves_230 (by decide) ?_
                    refine lv_istore (lv' := [(5, .int (nI (1))), (0, .ref (h)), (1, .int (nI (y0))), (2, .int (nI (m0))), (3, .int (nI ((11 * y0) + m0))), (4, .int (nI (lt)))]) hx hb dX5_solves_234 hl (by decide) rfl (fun ls hl => ?_)
                    refine lv_iload hx hb dX5_solves_236 (lv_at hl 0 rfl) ?_
                    refine lv_if_eq (tgt := 252) hx hb dX5_solves_238 (by decide) (fun c_238_42 => absurd c_238_42 (by decide)) (fun c_238_42 => ?_)
                    refine lv_aload_n hx hb dX5_solves_241 rfl (lv_at hl 1 rfl) ?_
                    refine lv_iload_n hx hb dX5_solves_242 rfl (lv_at hl 2 rfl) ?_
                    refine lv_iload_n hx hb dX5_solves_243 rfl (lv_at hl 3 rfl) ?_
                    refine lv_iload hx hb dX5_solves_244 (lv_at hl 5 rfl) ?_
                    refine call_iVW (As := [.int (nI (y0)), .int (nI (m0)), .int (nI (lt))]) (rest := []) ⟨hx, hb, hml, hown, hts⟩ (c_X5_endBehind l g h a SL n ll np tu la wi F th fS fL fN fK fF (upd fW ((11 * y0) + m0) (vp_nar .boolean (xw))) fE1 fC1 fG1 fO1 D hDm hn hSL hfS hFr hfF hll hp y0 m0 hy0 hl0 hm0 hTA2 lt (by omega) hbo) (cwV 3 hts gX5_solves_X5_endBehind rfl rfl rfl (by decide +kernel) ⟨Nat.le_of_ble_eq_true rfl, Nat.le_of_ble_eq_true rfl⟩) hP hK hD hS hA 0 rfl rfl rfl rfl hl.1 rfl (Nat.le_of_ble_eq_true rfl) dX5_solves_246 ⟨Nat.le_refl _, Nat.le_refl _⟩ (fun r_246 w H locs h_246 hP hD hS => ?_)
                    obtain ⟨rfl, h_246⟩ := h_246
                    subst h_246
                    have heb : ebP D n ll (rwB (D y0) m0) lt ≤ 100 := Nat.sub_le _ _
                    have hP : va_P g.1 vwCl (MW g h a (nI (rwL SL)) (nI n) (nI ll) (nI np) tu la wi (nI (rwL F)) th fS fL fN fK fF (upd fW ((11 * y0) + m0) (vp_nar .boolean (xw))) fE1 fC1 fG1 fO1) H := hP
                    have hD : va_D A (MW g h a (nI (rwL SL)) (nI n) (nI ll) (nI np) tu la wi (nI (rwL F)) th fS fL fN fK fF (upd fW ((11 * y0) + m0) (vp_nar .boolean (xw))) fE1 fC1 fG1 fO1) := hD
                    refine lv_goto (tgt := 253) hx hb dX5_solves_249 (by decide) ?_
                    refine lv_istore (lv' := [(6, .int (nI (ebP D n ll (rwB (D y0) m0) lt))), (5, .int (nI (1))), (0, .ref (h)), (1, .int (nI (y0))), (2, .int (nI (m0))), (3, .int (nI ((11 * y0) + m0))), (4, .int (nI (lt)))]) hx hb dX5_solves_253 hl (by decide) rfl (fun ls hl => ?_)
                    refine lv_aload_n hx hb dX5_solves_255 rfl (lv_at hl 2 rfl) ?_
                    refine va_get (D := g.1) (ci := 3) (v := .ref (a 15)) (C := RX5) (T := TX5) (N := 19) hx hb hts hi_3 hown hK hP 0 rfl rfl 15 (by decide) f_39 (fun _ h9 => h9) rfl dX5_solves_256 ?_
                    refine lv_iload_n hx hb dX5_solves_259 rfl (lv_at hl 5 rfl) ?_
                    refine va_iald (n := 550) (f := fC1) hx hb hK hP 8 0 rfl rfl (vp_in_nI (n := (11 * y0) + m0) (by omega) (by decide)) dX5_solves_260 ?_
                    refine tp_i (congrArg fC1 (nI_clamp (n := (11 * y0) + m0) (by omega))) ?_
                    refine tp_i (b := (x1)) (hC) ?_
                    refine lv_iconst (v := -1) hx hb dX5_solves_261 (by decide) ?_
                    refine lv_icmp_eq (tgt := 299) hx hb dX5_solves_262 (by decide) (fun c_262_43 => ?_) (fun c_262_43 => ?_)
                    · skip
                      refine lv_iconst (v := nI 1) hx hb dX5_solves_299 (by decide) ?_
                      refine lv_goto (tgt := 304) hx hb dX5_solves_300 (by decide) ?_
                      refine lv_istore (lv' := [(7, .int (nI (1))), (6, .int (nI (ebP D n ll (rwB (D y0) m0) lt))), (5, .int (nI (1))), (0, .ref (h)), (1, .int (nI (y0))), (2, .int (nI (m0))), (3, .int (nI ((11 * y0) + m0))), (4, .int (nI (lt)))]) hx hb dX5_solves_304 hl (by decide) rfl (fun ls hl => ?_)
                      refine lv_aload_n hx hb dX5_solves_306 rfl (lv_at hl 3 rfl) ?_
                      refine va_get (D := g.1) (ci := 3) (v := .ref (a 14)) (C := RX5) (T := TX5) (N := 19) hx hb hts hi_3 hown hK hP 0 rfl rfl 14 (by decide) f_36 (fun _ h9 => h9) rfl dX5_solves_307 ?_
                      refine lv_iload_n hx hb dX5_solves_310 rfl (lv_at hl 6 rfl) ?_
                      refine lv_iload hx hb dX5_solves_311 (lv_at hl 2 rfl) ?_
                      refine lv_if_eq (tgt := 326) hx hb dX5_solves_313 (by decide) (fun c_313_44 => absurd c_313_44 (by decide)) (fun c_313_44 => ?_)
                      refine lv_iload hx hb dX5_solves_316 (lv_at hl 0 rfl) ?_
                      refine lv_if_eq (tgt := 326) hx hb dX5_solves_318 (by decide) (fun c_318_45 => absurd c_318_45 (by decide)) (fun c_318_45 => ?_)
                      refine lv_iload hx hb dX5_solves_321 (lv_at hl 1 rfl) ?_
                      refine lv_goto (tgt := 332) hx hb dX5_solves_323 (by decide) ?_
                      refine va_iast (n := 550) (f := fE1) hx hb hK hP hD hS 7 0 rfl rfl (vp_in_nI (n := (11 * y0) + m0) (by omega) (by decide)) dX5_solves_332 (fun H locs hP hD hS => ?_)
                      rw [nI_clamp (n := (11 * y0) + m0) (by omega)] at hP hD
                      have hP : va_P g.1 vwCl (MW g h a (nI (rwL SL)) (nI n) (nI ll) (nI np) tu la wi (nI (rwL F)) th fS fL fN fK fF (upd fW ((11 * y0) + m0) (vp_nar .boolean (xw))) (upd fE1 ((11 * y0) + m0) (nI (ebP D n ll (rwB (D y0) m0) lt))) fC1 fG1 fO1) H := hP
                      have hD : va_D A (MW g h a (nI (rwL SL)) (nI n) (nI ll) (nI np) tu la wi (nI (rwL F)) th fS fL fN fK fF (upd fW ((11 * y0) + m0) (vp_nar .boolean (xw))) (upd fE1 ((11 * y0) + m0) (nI (ebP D n ll (rwB (D y0) m0) lt))) fC1 fG1 fO1) := hD
                      refine lv_aload_n hx hb dX5_solves_333 rfl (lv_at hl 3 rfl) ?_
                      refine va_get (D := g.1) (ci := 3) (v := .ref (a 15)) (C := RX5) (T := TX5) (N := 19) hx hb hts hi_3 hown hK hP 0 rfl rfl 15 (by decide) f_39 (fun _ h9 => h9) rfl dX5_solves_334 ?_
                      refine lv_iload_n hx hb dX5_solves_337 rfl (lv_at hl 6 rfl) ?_
                      refine lv_iload hx hb dX5_solves_338 (lv_at hl 2 rfl) ?_
                      refine lv_if_eq (tgt := 353) hx hb dX5_solves_340 (by decide) (fun c_340_46 => absurd c_340_46 (by decide)) (fun c_340_46 => ?_)
                      refine lv_iload hx hb dX5_solves_343 (lv_at hl 0 rfl) ?_
                      refine lv_if_eq (tgt := 353) hx hb dX5_solves_345 (by decide) (fun c_345_47 => absurd c_345_47 (by decide)) (fun c_345_47 => ?_)
                      refine lv_iload hx hb dX5_solves_348 (lv_at hl 7 rfl) ?_
                      refine lv_goto (tgt := 359) hx hb dX5_solves_350 (by decide) ?_
                      refine va_iast (n := 550) (f := fC1) hx hb hK hP hD hS 8 0 rfl rfl (vp_in_nI (n := (11 * y0) + m0) (by omega) (by decide)) dX5_solves_359 (fun H locs hP hD hS => ?_)
                      rw [nI_clamp (n := (11 * y0) + m0) (by omega)] at hP hD
                      have hP : va_P g.1 vwCl (MW g h a (nI (rwL SL)) (nI n) (nI ll) (nI np) tu la wi (nI (rwL F)) th fS fL fN fK fF (upd fW ((11 * y0) + m0) (vp_nar .boolean (xw))) (upd fE1 ((11 * y0) + m0) (nI (ebP D n ll (rwB (D y0) m0) lt))) (upd fC1 ((11 * y0) + m0) (nI (lt))) fG1 fO1) H := hP
                      have hD : va_D A (MW g h a (nI (rwL SL)) (nI n) (nI ll) (nI np) tu la wi (nI (rwL F)) th fS fL fN fK fF (upd fW ((11 * y0) + m0) (vp_nar .boolean (xw))) (upd fE1 ((11 * y0) + m0) (nI (ebP D n ll (rwB (D y0) m0) lt))) (upd fC1 ((11 * y0) + m0) (nI (lt))) fG1 fO1) := hD
                      refine lv_iinc (v := (nI (lt + 1))) (lv' := [(4, .int (nI (lt + 1))), (7, .int (nI (1))), (6, .int (nI (ebP D n ll (rwB (D y0) m0) lt))), (5, .int (nI (1))), (0, .ref (h)), (1, .int (nI (y0))), (2, .int (nI (m0))), (3, .int (nI ((11 * y0) + m0)))]) hx hb dX5_solves_360 hl (k := 7) rfl (nI_add (lt) 1) (by decide) rfl (fun ls hl => ?_)
                      refine lv_goto (tgt := 189) hx hb dX5_solves_363 (by decide) ?_
                      exact ih_189 (lt + 1) (nI (lt)) (ebP D n ll (rwB (D y0) m0) lt) (upd fE1 ((11 * y0) + m0) (nI (ebP D n ll (rwB (D y0) m0) lt))) (upd fC1 ((11 * y0) + m0) (nI (lt))) (by omega) (by omega) (pk_us) (pk_us) (fun z hz => (pk_un hz).trans (hoE z hz)) (fun z hz => (pk_un hz).trans (hoC z hz)) (hBS.first c_262_43 (by omega) hbit) _ _ _ hP hD hS (lv_sub hl [4, 5, 6, 7, 0] rfl)
                    · skip
                      refine lv_aload_n hx hb dX5_solves_265 rfl (lv_at hl 2 rfl) ?_
                      refine va_get (D := g.1) (ci := 3) (v := .ref (a 16)) (C := RX5) (T := TX5) (N := 19) hx hb hts hi_3 hown hK hP 0 rfl rfl 16 (by decide) f_42 (fun _ h9 => h9) rfl dX5_solves_266 ?_
                      refine lv_iload_n hx hb dX5_solves_269 rfl (lv_at hl 5 rfl) ?_
                      refine va_iald (n := 550) (f := fG1) hx hb hK hP 9 0 rfl rfl (vp_in_nI (n := (11 * y0) + m0) (by omega) (by decide)) dX5_solves_270 ?_
                      refine tp_i (congrArg fG1 (nI_clamp (n := (11 * y0) + m0) (by omega))) ?_
                      refine tp_i (b := (nI (g1))) (hG) ?_
                      refine lv_if_eq (tgt := 288) hx hb dX5_solves_271 (by decide) (fun c_271_48 => ?_) (fun c_271_48 => ?_)
                      · skip
                        have n_271_48 : g1 = 0 := (nI_eq (a := g1) (b := 0) (by omega) (by omega)).mp c_271_48
                        exact absurd n_271_48 n_202_3
                      · skip
                        have n_271_48 : ¬ g1 = 0 := fun q9 => c_271_48 ((nI_eq (a := g1) (b := 0) (by omega) (by omega)).mpr q9)
                        refine lv_iload hx hb dX5_solves_274 (lv_at hl 0 rfl) ?_
                        refine lv_aload_n hx hb dX5_solves_276 rfl (lv_at hl 2 rfl) ?_
                        refine va_get (D := g.1) (ci := 3) (v := .ref (a 14)) (C := RX5) (T := TX5) (N := 19) hx hb hts hi_3 hown hK hP 0 rfl rfl 14 (by decide) f_36 (fun _ h9 => h9) rfl dX5_solves_277 ?_
                        refine lv_iload_n hx hb dX5_solves_280 rfl (lv_at hl 5 rfl) ?_
                        refine va_iald (n := 550) (f := fE1) hx hb hK hP 7 0 rfl rfl (vp_in_nI (n := (11 * y0) + m0) (by omega) (by decide)) dX5_solves_281 ?_
                        refine tp_i (congrArg fE1 (nI_clamp (n := (11 * y0) + m0) (by omega))) ?_
                        refine tp_i (b := (nI (e1))) (hE) ?_
                        refine lv_icmp_ge (tgt := 303) hx hb dX5_solves_282 (by decide) (fun c_282_49 => ?_) (fun c_282_49 => ?_)
                        · skip
                          have n_282_49 : e1 ≤ ebP D n ll (rwB (D y0) m0) lt := (nI_leI (a := e1) (b := ebP D n ll (rwB (D y0) m0) lt) (by omega) (by omega)).mp c_282_49
                          refine lv_iconst (v := nI 0) hx hb dX5_solves_303 (by decide) ?_
                          refine lv_istore (lv' := [(7, .int (nI (0))), (6, .int (nI (ebP D n ll (rwB (D y0) m0) lt))), (5, .int (nI (1))), (0, .ref (h)), (1, .int (nI (y0))), (2, .int (nI (m0))), (3, .int (nI ((11 * y0) + m0))), (4, .int (nI (lt)))]) hx hb dX5_solves_304 hl (by decide) rfl (fun ls hl => ?_)
                          refine lv_aload_n hx hb dX5_solves_306 rfl (lv_at hl 3 rfl) ?_
                          refine va_get (D := g.1) (ci := 3) (v := .ref (a 14)) (C := RX5) (T := TX5) (N := 19) hx hb hts hi_3 hown hK hP 0 rfl rfl 14 (by decide) f_36 (fun _ h9 => h9) rfl dX5_solves_307 ?_
                          refine lv_iload_n hx hb dX5_solves_310 rfl (lv_at hl 6 rfl) ?_
                          refine lv_iload hx hb dX5_solves_311 (lv_at hl 2 rfl) ?_
                          refine lv_if_eq (tgt := 326) hx hb dX5_solves_313 (by decide) (fun c_313_50 => absurd c_313_50 (by decide)) (fun c_313_50 => ?_)
                          refine lv_iload hx hb dX5_solves_316 (lv_at hl 0 rfl) ?_
                          refine lv_if_eq (tgt := 326) hx hb dX5_solves_318 (by decide) (fun c_318_51 => ?_) (fun c_318_51 => absurd (by decide) c_318_51)
                          refine lv_aload_n hx hb dX5_solves_326 rfl (lv_at hl 3 rfl) ?_
                          refine va_get (D := g.1) (ci := 3) (v := .ref (a 14)) (C := RX5) (T := TX5) (N := 19) hx hb hts hi_3 hown hK hP 0 rfl rfl 14 (by decide) f_36 (fun _ h9 => h9) rfl dX5_solves_327 ?_
                          refine lv_iload_n hx hb dX5_solves_330 rfl (lv_at hl 6 rfl) ?_
                          refine va_iald (n := 550) (f := fE1) hx hb hK hP 7 0 rfl rfl (vp_in_nI (n := (11 * y0) + m0) (by omega) (by decide)) dX5_solves_331 ?_
                          refine tp_i (congrArg fE1 (nI_clamp (n := (11 * y0) + m0) (by omega))) ?_
                          refine tp_i (b := (nI (e1))) (hE) ?_
                          refine va_iast (n := 550) (f := fE1) hx hb hK hP hD hS 7 0 rfl rfl (vp_in_nI (n := (11 * y0) + m0) (by omega) (by decide)) dX5_solves_332 (fun H locs hP hD hS => ?_)
                          rw [nI_clamp (n := (11 * y0) + m0) (by omega)] at hP hD
                          have hP : va_P g.1 vwCl (MW g h a (nI (rwL SL)) (nI n) (nI ll) (nI np) tu la wi (nI (rwL F)) th fS fL fN fK fF (upd fW ((11 * y0) + m0) (vp_nar .boolean (xw))) (upd fE1 ((11 * y0) + m0) (nI (e1))) fC1 fG1 fO1) H := hP
                          have hD : va_D A (MW g h a (nI (rwL SL)) (nI n) (nI ll) (nI np) tu la wi (nI (rwL F)) th fS fL fN fK fF (upd fW ((11 * y0) + m0) (vp_nar .boolean (xw))) (upd fE1 ((11 * y0) + m0) (nI (e1))) fC1 fG1 fO1) := hD
                          refine lv_aload_n hx hb dX5_solves_333 rfl (lv_at hl 3 rfl) ?_
                          refine va_get (D := g.1) (ci := 3) (v := .ref (a 15)) (C := RX5) (T := TX5) (N := 19) hx hb hts hi_3 hown hK hP 0 rfl rfl 15 (by decide) f_39 (fun _ h9 => h9) rfl dX5_solves_334 ?_
                          refine lv_iload_n hx hb dX5_solves_337 rfl (lv_at hl 6 rfl) ?_
                          refine lv_iload hx hb dX5_solves_338 (lv_at hl 2 rfl) ?_
                          refine lv_if_eq (tgt := 353) hx hb dX5_solves_340 (by decide) (fun c_340_52 => absurd c_340_52 (by decide)) (fun c_340_52 => ?_)
                          refine lv_iload hx hb dX5_solves_343 (lv_at hl 0 rfl) ?_
                          refine lv_if_eq (tgt := 353) hx hb dX5_solves_345 (by decide) (fun c_345_53 => ?_) (fun c_345_53 => absurd (by decide) c_345_53)
                          refine lv_aload_n hx hb dX5_solves_353 rfl (lv_at hl 3 rfl) ?_
                          refine va_get (D := g.1) (ci := 3) (v := .ref (a 15)) (C := RX5) (T := TX5) (N := 19) hx hb hts hi_3 hown hK hP 0 rfl rfl 15 (by decide) f_39 (fun _ h9 => h9) rfl dX5_solves_354 ?_
                          refine lv_iload_n hx hb dX5_solves_357 rfl (lv_at hl 6 rfl) ?_
                          refine va_iald (n := 550) (f := fC1) hx hb hK hP 8 0 rfl rfl (vp_in_nI (n := (11 * y0) + m0) (by omega) (by decide)) dX5_solves_358 ?_
                          refine tp_i (congrArg fC1 (nI_clamp (n := (11 * y0) + m0) (by omega))) ?_
                          refine tp_i (b := (x1)) (hC) ?_
                          refine va_iast (n := 550) (f := fC1) hx hb hK hP hD hS 8 0 rfl rfl (vp_in_nI (n := (11 * y0) + m0) (by omega) (by decide)) dX5_solves_359 (fun H locs hP hD hS => ?_)
                          rw [nI_clamp (n := (11 * y0) + m0) (by omega)] at hP hD
                          have hP : va_P g.1 vwCl (MW g h a (nI (rwL SL)) (nI n) (nI ll) (nI np) tu la wi (nI (rwL F)) th fS fL fN fK fF (upd fW ((11 * y0) + m0) (vp_nar .boolean (xw))) (upd fE1 ((11 * y0) + m0) (nI (e1))) (upd fC1 ((11 * y0) + m0) (x1)) fG1 fO1) H := hP
                          have hD : va_D A (MW g h a (nI (rwL SL)) (nI n) (nI ll) (nI np) tu la wi (nI (rwL F)) th fS fL fN fK fF (upd fW ((11 * y0) + m0) (vp_nar .boolean (xw))) (upd fE1 ((11 * y0) + m0) (nI (e1))) (upd fC1 ((11 * y0) + m0) (x1)) fG1 fO1) := hD
                          refine lv_iinc (v := (nI (lt + 1))) (lv' := [(4, .int (nI (lt + 1))), (7, .int (nI (0))), (6, .int (nI (ebP D n ll (rwB (D y0) m0) lt))), (5, .int (nI (1))), (0, .ref (h)), (1, .int (nI (y0))), (2, .int (nI (m0))), (3, .int (nI ((11 * y0) + m0)))]) hx hb dX5_solves_360 hl (k := 7) rfl (nI_add (lt) 1) (by decide) rfl (fun ls hl => ?_)
                          refine lv_goto (tgt := 189) hx hb dX5_solves_363 (by decide) ?_
                          exact ih_189 (lt + 1) x1 e1 (upd fE1 ((11 * y0) + m0) (nI (e1))) (upd fC1 ((11 * y0) + m0) (x1)) (by omega) (by omega) (pk_us) (pk_us) (fun z hz => (pk_un hz).trans (hoE z hz)) (fun z hz => (pk_un hz).trans (hoC z hz)) (hBS.keep c_262_43 (fun t9 _ _ h9 => by rw [ct_g hg2 n_202_3, ct_g hg2 n_202_3]; omega)) _ _ _ hP hD hS (lv_sub hl [4, 5, 6, 7, 0] rfl)
                        · skip
                          have n_282_49 : ¬ e1 ≤ ebP D n ll (rwB (D y0) m0) lt := fun q9 => c_282_49 ((nI_leI (a := e1) (b := ebP D n ll (rwB (D y0) m0) lt) (by omega) (by omega)).mpr q9)
                          refine lv_goto (tgt := 299) hx hb dX5_solves_285 (by decide) ?_
                          refine lv_iconst (v := nI 1) hx hb dX5_solves_299 (by decide) ?_
                          refine lv_goto (tgt := 304) hx hb dX5_solves_300 (by decide) ?_
                          refine lv_istore (lv' := [(7, .int (nI (1))), (6, .int (nI (ebP D n ll (rwB (D y0) m0) lt))), (5, .int (nI (1))), (0, .ref (h)), (1, .int (nI (y0))), (2, .int (nI (m0))), (3, .int (nI ((11 * y0) + m0))), (4, .int (nI (lt)))]) hx hb dX5_solves_304 hl (by decide) rfl (fun ls hl => ?_)
                          refine lv_aload_n hx hb dX5_solves_306 rfl (lv_at hl 3 rfl) ?_
                          refine va_get (D := g.1) (ci := 3) (v := .ref (a 14)) (C := RX5) (T := TX5) (N := 19) hx hb hts hi_3 hown hK hP 0 rfl rfl 14 (by decide) f_36 (fun _ h9 => h9) rfl dX5_solves_307 ?_
                          refine lv_iload_n hx hb dX5_solves_310 rfl (lv_at hl 6 rfl) ?_
                          refine lv_iload hx hb dX5_solves_311 (lv_at hl 2 rfl) ?_
                          refine lv_if_eq (tgt := 326) hx hb dX5_solves_313 (by decide) (fun c_313_54 => absurd c_313_54 (by decide)) (fun c_313_54 => ?_)
                          refine lv_iload hx hb dX5_solves_316 (lv_at hl 0 rfl) ?_
                          refine lv_if_eq (tgt := 326) hx hb dX5_solves_318 (by decide) (fun c_318_55 => absurd c_318_55 (by decide)) (fun c_318_55 => ?_)
                          refine lv_iload hx hb dX5_solves_321 (lv_at hl 1 rfl) ?_
                          refine lv_goto (tgt := 332) hx hb dX5_solves_323 (by decide) ?_
                          refine va_iast (n := 550) (f := fE1) hx hb hK hP hD hS 7 0 rfl rfl (vp_in_nI (n := (11 * y0) + m0) (by omega) (by decide)) dX5_solves_332 (fun H locs hP hD hS => ?_)
                          rw [nI_clamp (n := (11 * y0) + m0) (by omega)] at hP hD
                          have hP : va_P g.1 vwCl (MW g h a (nI (rwL SL)) (nI n) (nI ll) (nI np) tu la wi (nI (rwL F)) th fS fL fN fK fF (upd fW ((11 * y0) + m0) (vp_nar .boolean (xw))) (upd fE1 ((11 * y0) + m0) (nI (ebP D n ll (rwB (D y0) m0) lt))) fC1 fG1 fO1) H := hP
                          have hD : va_D A (MW g h a (nI (rwL SL)) (nI n) (nI ll) (nI np) tu la wi (nI (rwL F)) th fS fL fN fK fF (upd fW ((11 * y0) + m0) (vp_nar .boolean (xw))) (upd fE1 ((11 * y0) + m0) (nI (ebP D n ll (rwB (D y0) m0) lt))) fC1 fG1 fO1) := hD
                          refine lv_aload_n hx hb dX5_solves_333 rfl (lv_at hl 3 rfl) ?_
                          refine va_get (D := g.1) (ci := 3) (v := .ref (a 15)) (C := RX5) (T := TX5) (N := 19) hx hb hts hi_3 hown hK hP 0 rfl rfl 15 (by decide) f_39 (fun _ h9 => h9) rfl dX5_solves_334 ?_
                          refine lv_iload_n hx hb dX5_solves_337 rfl (lv_at hl 6 rfl) ?_
                          refine lv_iload hx hb dX5_solves_338 (lv_at hl 2 rfl) ?_
                          refine lv_if_eq (tgt := 353) hx hb dX5_solves_340 (by decide) (fun c_340_56 => absurd c_340_56 (by decide)) (fun c_340_56 => ?_)
                          refine lv_iload hx hb dX5_solves_343 (lv_at hl 0 rfl) ?_
                          refine lv_if_eq (tgt := 353) hx hb dX5_solves_345 (by decide) (fun c_345_57 => absurd c_345_57 (by decide)) (fun c_345_57 => ?_)
                          refine lv_iload hx hb dX5_solves_348 (lv_at hl 7 rfl) ?_
                          refine lv_goto (tgt := 359) hx hb dX5_solves_350 (by decide) ?_
                          refine va_iast (n := 550) (f := fC1) hx hb hK hP hD hS 8 0 rfl rfl (vp_in_nI (n := (11 * y0) + m0) (by omega) (by decide)) dX5_solves_359 (fun H locs hP hD hS => ?_)
                          rw [nI_clamp (n := (11 * y0) + m0) (by omega)] at hP hD
                          have hP : va_P g.1 vwCl (MW g h a (nI (rwL SL)) (nI n) (nI ll) (nI np) tu la wi (nI (rwL F)) th fS fL fN fK fF (upd fW ((11 * y0) + m0) (vp_nar .boolean (xw))) (upd fE1 ((11 * y0) + m0) (nI (ebP D n ll (rwB (D y0) m0) lt))) (upd fC1 ((11 * y0) + m0) (nI (lt))) fG1 fO1) H := hP
                          have hD : va_D A (MW g h a (nI (rwL SL)) (nI n) (nI ll) (nI np) tu la wi (nI (rwL F)) th fS fL fN fK fF (upd fW ((11 * y0) + m0) (vp_nar .boolean (xw))) (upd fE1 ((11 * y0) + m0) (nI (ebP D n ll (rwB (D y0) m0) lt))) (upd fC1 ((11 * y0) + m0) (nI (lt))) fG1 fO1) := hD
                          refine lv_iinc (v := (nI (lt + 1))) (lv' := [(4, .int (nI (lt + 1))), (7, .int (nI (1))), (6, .int (nI (ebP D n ll (rwB (D y0) m0) lt))), (5, .int (nI (1))), (0, .ref (h)), (1, .int (nI (y0))), (2, .int (nI (m0))), (3, .int (nI ((11 * y0) + m0)))]) hx hb dX5_solves_360 hl (k := 7) rfl (nI_add (lt) 1) (by decide) rfl (fun ls hl => ?_)
                          refine lv_goto (tgt := 189) hx hb dX5_solves_363 (by decide) ?_
                          exact ih_189 (lt + 1) (nI (lt)) (ebP D n ll (rwB (D y0) m0) lt) (upd fE1 ((11 * y0) + m0) (nI (ebP D n ll (rwB (D y0) m0) lt))) (upd fC1 ((11 * y0) + m0) (nI (lt))) (by omega) (by omega) (pk_us) (pk_us) (fun z hz => (pk_un hz).trans (hoE z hz)) (fun z hz => (pk_un hz).trans (hoC z hz)) (hBS.better c_262_43 hbit (fun t9 _ _ h9 => by rw [ct_g hg2 n_202_3, ct_g hg2 n_202_3]; omega)) _ _ _ hP hD hS (lv_sub hl [4, 5, 6, 7, 0] rfl)
          exact L_189 (_ + 1) 0 (-1) 0 (upd fE ((11 * y0) + m0) (nI (0))) (upd fC ((11 * y0) + m0) (-1)) (Nat.lt_succ_self _) (by omega) (pk_us) (pk_us) (fun z hz => pk_un hz) (fun z hz => pk_un hz) (BS.nil) _ _ _ hP hD hS (lv_sub hl [1, 2, 3, 4, 0] rfl)
        refine lv_aload_n hx hb dX5_solves_143 rfl (lv_at hl 0 rfl) ?_
        refine va_get (D := g.1) (ci := 3) (v := .ref (a 13)) (C := RX5) (T := TX5) (N := 19) hx hb hts hi_3 hown hK hP 0 rfl rfl 13 (by decide) f_32 (fun _ h9 => h9) rfl dX5_solves_144 ?_
        refine lv_iload_n hx hb dX5_solves_147 rfl (lv_at hl 3 rfl) ?_
        refine lv_aload_n hx hb dX5_solves_148 rfl (lv_at hl 0 rfl) ?_
        refine va_get (D := g.1) (ci := 3) (v := .ref (a 17)) (C := RX5) (T := TX5) (N := 19) hx hb hts hi_3 hown hK hP 0 rfl rfl 17 (by decide) f_45 (fun _ h9 => h9) rfl dX5_solves_149 ?_
        refine lv_iload_n hx hb dX5_solves_152 rfl (lv_at hl 3 rfl) ?_
        refine va_iald (n := 550) (f := fO1) hx hb hK hP 10 0 rfl rfl (vp_in_nI (n := (11 * y0) + m0) (by omega) (by decide)) dX5_solves_153 ?_
        refine tp_i (congrArg fO1 (nI_clamp (n := (11 * y0) + m0) (by omega))) ?_
        refine tp_i (b := (nI (o1))) (hO) ?_
        refine lv_if_eq (tgt := 166) hx hb dX5_solves_154 (by decide) (fun c_154_58 => ?_) (fun c_154_58 => ?_)
        · skip
          have n_154_58 : o1 = 0 := (nI_eq (a := o1) (b := 0) (by omega) (by omega)).mp c_154_58
          refine lv_iconst (v := nI 1) hx hb dX5_solves_166 (by decide) ?_
          refine lv_goto (tgt := 171) hx hb dX5_solves_167 (by decide) ?_
          exact J_171 (nI (1)) (Bv.yes ((wins_iff hDm.V hpV).mpr (Or.inl (by rw [← ho2]; exact n_154_58)))) _ _ _ hP hD hS (lv_sub hl [0, 1, 2, 3] rfl)
        · skip
          have n_154_58 : ¬ o1 = 0 := fun q9 => c_154_58 ((nI_eq (a := o1) (b := 0) (by omega) (by omega)).mpr q9)
          refine lv_aload_n hx hb dX5_solves_157 rfl (lv_at hl 0 rfl) ?_
          refine va_get (D := g.1) (ci := 3) (v := .ref (a 16)) (C := RX5) (T := TX5) (N := 19) hx hb hts hi_3 hown hK hP 0 rfl rfl 16 (by decide) f_42 (fun _ h9 => h9) rfl dX5_solves_158 ?_
          refine lv_iload_n hx hb dX5_solves_161 rfl (lv_at hl 3 rfl) ?_
          refine va_iald (n := 550) (f := fG1) hx hb hK hP 9 0 rfl rfl (vp_in_nI (n := (11 * y0) + m0) (by omega) (by decide)) dX5_solves_162 ?_
          refine tp_i (congrArg fG1 (nI_clamp (n := (11 * y0) + m0) (by omega))) ?_
          refine tp_i (b := (nI (g1))) (hG) ?_
          refine lv_if_eq (tgt := 170) hx hb dX5_solves_163 (by decide) (fun c_163_59 => ?_) (fun c_163_59 => ?_)
          · skip
            have n_163_59 : g1 = 0 := (nI_eq (a := g1) (b := 0) (by omega) (by omega)).mp c_163_59
            refine lv_iconst (v := nI 0) hx hb dX5_solves_170 (by decide) ?_
            exact J_171 (nI (0)) (Bv.no (fun q9 => ((wins_iff hDm.V hpV).mp q9).elim (fun q8 => n_154_58 (by rw [ho2]; exact q8)) (fun q8 => q8 (by rw [← hg2]; exact n_163_59)))) _ _ _ hP hD hS (lv_sub hl [0, 1, 2, 3] rfl)
          · skip
            have n_163_59 : ¬ g1 = 0 := fun q9 => c_163_59 ((nI_eq (a := g1) (b := 0) (by omega) (by omega)).mpr q9)
            refine lv_iconst (v := nI 1) hx hb dX5_solves_166 (by decide) ?_
            refine lv_goto (tgt := 171) hx hb dX5_solves_167 (by decide) ?_
            exact J_171 (nI (1)) (Bv.yes ((wins_iff hDm.V hpV).mpr (Or.inr (by rw [← hg2]; exact n_163_59)))) _ _ _ hP hD hS (lv_sub hl [0, 1, 2, 3] rfl)
      · skip
        have n_30_1 : ¬ n ≤ k := fun q9 => c_30_1 ((nI_leI (a := n) (b := k) (by omega) (by omega)).mpr q9)
        refine lv_aload_n hx hb dX5_solves_33 rfl (lv_at hl 0 rfl) ?_
        refine lv_iload hx hb dX5_solves_34 (lv_at hl 4 rfl) ?_
        refine call_iVW (As := [.int (nI (k))]) (rest := []) ⟨hx, hb, hml, hown, hts⟩ (c_X5_counts l g h a SL n ll np tu la wi F th fS fL fN fK fF fW fE fC fG1 fO1 D hDm hn hSL hfS hFr hfF hll hp k (by omega)) (cwV 1 hts gX5_solves_X5_counts rfl rfl rfl (by decide +kernel) ⟨Nat.le_of_ble_eq_true rfl, Nat.le_of_ble_eq_true rfl⟩) hP hK hD hS hA 0 rfl rfl rfl rfl hl.1 rfl (Nat.le_of_ble_eq_true rfl) dX5_solves_36 ⟨Nat.le_refl _, Nat.le_refl _⟩ (fun r_36 w H locs h_36 hP hD hS => ?_)
        obtain ⟨rfl, h_36⟩ := h_36
        have hP : va_P g.1 vwCl (MW g h a (nI (rwL SL)) (nI n) (nI ll) (nI np) tu la wi (nI (rwL F)) th fS fL fN fK fF fW fE fC fG1 fO1) H := hP
        have hD : va_D A (MW g h a (nI (rwL SL)) (nI n) (nI ll) (nI np) tu la wi (nI (rwL F)) th fS fL fN fK fF fW fE fC fG1 fO1) := hD
        refine lv_if_eq (tgt := 137) hx hb dX5_solves_39 (by decide) (fun c_39_60 => ?_) (fun c_39_60 => ?_)
        · skip
          have n_39_60 := Bv.f h_36 c_39_60
          refine lv_iinc (v := (nI (k + 1))) (lv' := [(4, .int (nI (k + 1))), (0, .ref (h)), (1, .int (nI (y0))), (2, .int (nI (m0))), (3, .int (nI ((11 * y0) + m0)))]) hx hb dX5_solves_137 hl (k := 4) rfl (nI_add (k) 1) (by decide) rfl (fun ls hl => ?_)
          refine lv_goto (tgt := 24) hx hb dX5_solves_140 (by decide) ?_
          exact ih_24 (k + 1) o1 g1 fO1 fG1 (by omega) (by omega) (hO) (opM_f ho (fun q9 => by have := ld_to (hDm y0 hy0).1 hm0 q9; exact n_39_60 this.1)) (hG) (gdM_f hg (fun q8 => (fun q9 => by have := ld_to (hDm y0 hy0).1 hm0 q9; exact n_39_60 this.1) q8.1)) (hoO) (hoG) _ _ _ hP hD hS (lv_sub hl [1, 2, 3, 4, 0] rfl)
        · skip
          have n_39_60 := Bv.t h_36 c_39_60
          refine lv_aload_n hx hb dX5_solves_42 rfl (lv_at hl 0 rfl) ?_
          refine va_get (D := g.1) (ci := 3) (v := .ref (a 3)) (C := RX5) (T := TX5) (N := 19) hx hb hts hi_3 hown hK hP 0 rfl rfl 3 (by decide) f_16 (fun _ h9 => h9) rfl dX5_solves_43 ?_
          refine lv_iload hx hb dX5_solves_46 (lv_at hl 4 rfl) ?_
          refine va_iald (n := 50) (f := fN) hx hb hK hP 3 0 rfl rfl (vp_in_nI (n := k) (by omega) (by decide)) dX5_solves_48 ?_
          refine tp_i (congrArg fN (nI_clamp (n := k) (by omega))) ?_
          refine tp_i (b := (nI (rwL (D k)))) ((hDm k (by omega)).2.1) ?_
          have hk3 := h10 k (by omega)
          refine lv_iload_n hx hb dX5_solves_49 rfl (lv_at hl 2 rfl) ?_
          refine lv_icmp_le (tgt := 137) hx hb dX5_solves_50 (by decide) (fun c_50_61 => ?_) (fun c_50_61 => ?_)
          · skip
            have n_50_61 : rwL (D k) ≤ m0 := (nI_leI (a := rwL (D k)) (b := m0) (by omega) (by omega)).mp c_50_61
            refine lv_iinc (v := (nI (k + 1))) (lv' := [(4, .int (nI (k + 1))), (0, .ref (h)), (1, .int (nI (y0))), (2, .int (nI (m0))), (3, .int (nI ((11 * y0) + m0)))]) hx hb dX5_solves_137 hl (k := 4) rfl (nI_add (k) 1) (by decide) rfl (fun ls hl => ?_)
            refine lv_goto (tgt := 24) hx hb dX5_solves_140 (by decide) ?_
            exact ih_24 (k + 1) o1 g1 fO1 fG1 (by omega) (by omega) (hO) (opM_f ho (fun q9 => by have := ld_to (hDm y0 hy0).1 hm0 q9; omega)) (hG) (gdM_f hg (fun q8 => (fun q9 => by have := ld_to (hDm y0 hy0).1 hm0 q9; omega) q8.1)) (hoO) (hoG) _ _ _ hP hD hS (lv_sub hl [1, 2, 3, 4, 0] rfl)
          · skip
            have n_50_61 : ¬ rwL (D k) ≤ m0 := fun q9 => c_50_61 ((nI_leI (a := rwL (D k)) (b := m0) (by omega) (by omega)).mpr q9)
            refine lv_aload_n hx hb dX5_solves_53 rfl (lv_at hl 0 rfl) ?_
            refine lv_iload hx hb dX5_solves_54 (lv_at hl 4 rfl) ?_
            refine lv_iload_n hx hb dX5_solves_56 rfl (lv_at hl 1 rfl) ?_
            refine lv_iload_n hx hb dX5_solves_57 rfl (lv_at hl 2 rfl) ?_
            refine call_iVW (As := [.int (nI (k)), .int (nI (y0)), .int (nI (m0))]) (rest := []) ⟨hx, hb, hml, hown, hts⟩ (c_X5_areAlike l g h a SL n ll np tu la wi F th fS fL fN fK fF fW fE fC fG1 fO1 D hDm hn hSL hfS hFr hfF hll hp k y0 m0 (by omega) hy0 (by omega)) (cwV 3 hts gX5_solves_X5_areAlike rfl rfl rfl (by decide +kernel) ⟨Nat.le_of_ble_eq_true rfl, Nat.le_of_ble_eq_true rfl⟩) hP hK hD hS hA 0 rfl rfl rfl rfl hl.1 rfl (Nat.le_of_ble_eq_true rfl) dX5_solves_58 ⟨Nat.le_refl _, Nat.le_refl _⟩ (fun r_58 w H locs h_58 hP hD hS => ?_)
            obtain ⟨rfl, h_58⟩ := h_58
            have hP : va_P g.1 vwCl (MW g h a (nI (rwL SL)) (nI n) (nI ll) (nI np) tu la wi (nI (rwL F)) th fS fL fN fK fF fW fE fC fG1 fO1) H := hP
            have hD : va_D A (MW g h a (nI (rwL SL)) (nI n) (nI ll) (nI np) tu la wi (nI (rwL F)) th fS fL fN fK fF fW fE fC fG1 fO1) := hD
            refine lv_if_eq (tgt := 137) hx hb dX5_solves_61 (by decide) (fun c_61_62 => ?_) (fun c_61_62 => ?_)
            · skip
              have n_61_62 := Bv.f h_58 c_61_62
              refine lv_iinc (v := (nI (k + 1))) (lv' := [(4, .int (nI (k + 1))), (0, .ref (h)), (1, .int (nI (y0))), (2, .int (nI (m0))), (3, .int (nI ((11 * y0) + m0)))]) hx hb dX5_solves_137 hl (k := 4) rfl (nI_add (k) 1) (by decide) rfl (fun ls hl => ?_)
              refine lv_goto (tgt := 24) hx hb dX5_solves_140 (by decide) ?_
              exact ih_24 (k + 1) o1 g1 fO1 fG1 (by omega) (by omega) (hO) (opM_f ho (fun q9 => by have := ld_to (hDm y0 hy0).1 hm0 q9; exact n_61_62 this.2.2)) (hG) (gdM_f hg (fun q8 => (fun q9 => by have := ld_to (hDm y0 hy0).1 hm0 q9; exact n_61_62 this.2.2) q8.1)) (hoO) (hoG) _ _ _ hP hD hS (lv_sub hl [1, 2, 3, 4, 0] rfl)
            · skip
              have n_61_62 := Bv.t h_58 c_61_62
              have hld := ld_of (hDm k (by omega)).1 (hDm y0 hy0).1 n_39_60 (show m0 < rwL (D k) by omega) n_61_62
              have hnx := ld_next (hDm k (by omega)).1 (hDm y0 hy0).1 hm0 hld
              have hk3 := h10 k (by omega)
              have hlt9 := (hDm k (by omega)).1.2.2 m0 (by omega)
              refine lv_aload_n hx hb dX5_solves_64 rfl (lv_at hl 0 rfl) ?_
              refine va_get (D := g.1) (ci := 3) (v := .ref (a 2)) (C := RX5) (T := TX5) (N := 19) hx hb hts hi_3 hown hK hP 0 rfl rfl 2 (by decide) f_13 (fun _ h9 => h9) rfl dX5_solves_65 ?_
              refine lv_bipush (v := nI 10) hx hb dX5_solves_68 (by decide) ?_
              refine lv_iload hx hb dX5_solves_70 (lv_at hl 4 rfl) ?_
              refine lv_imul hx hb dX5_solves_72 ?_
              refine tp_i (pk_mul 10 k) ?_
              refine lv_iload_n hx hb dX5_solves_73 rfl (lv_at hl 2 rfl) ?_
              refine lv_iadd hx hb dX5_solves_74 ?_
              refine tp_i (nI_add (10 * k) m0) ?_
              refine va_iald (n := 500) (f := fL) hx hb hK hP 2 0 rfl rfl (vp_in_nI (n := (10 * k) + m0) (by omega) (by decide)) dX5_solves_75 ?_
              refine tp_i (congrArg fL (nI_clamp (n := (10 * k) + m0) (by omega))) ?_
              refine tp_i (b := (nI (rwA (D k) m0))) ((hDm k (by omega)).2.2 m0 (by omega)) ?_
              refine lv_istore (lv' := [(5, .int (nI (rwA (D k) m0))), (0, .ref (h)), (1, .int (nI (y0))), (2, .int (nI (m0))), (3, .int (nI ((11 * y0) + m0))), (4, .int (nI (k)))]) hx hb dX5_solves_76 hl (by decide) rfl (fun ls hl => ?_)
              refine lv_aload_n hx hb dX5_solves_78 rfl (lv_at hl 1 rfl) ?_
              refine va_get (D := g.1) (ci := 3) (v := .ref (a 17)) (C := RX5) (T := TX5) (N := 19) hx hb hts hi_3 hown hK hP 0 rfl rfl 17 (by decide) f_45 (fun _ h9 => h9) rfl dX5_solves_79 ?_
              refine lv_iload_n hx hb dX5_solves_82 rfl (lv_at hl 4 rfl) ?_
              refine lv_dup2_11 hx hb dX5_solves_83 rfl rfl ?_
              refine va_iald (n := 550) (f := fO1) hx hb hK hP 10 0 rfl rfl (vp_in_nI (n := (11 * y0) + m0) (by omega) (by decide)) dX5_solves_84 ?_
              refine tp_i (congrArg fO1 (nI_clamp (n := (11 * y0) + m0) (by omega))) ?_
              refine tp_i (b := (nI (o1))) (hO) ?_
              refine lv_iconst (v := nI 1) hx hb dX5_solves_85 (by decide) ?_
              refine lv_iload hx hb dX5_solves_86 (lv_at hl 0 rfl) ?_
              refine lv_ishl hx hb dX5_solves_88 ?_
              refine tp_i (b := (nI (2 ^ rwA (D k) m0))) (mk_shl hlt9) ?_
              refine lv_ior hx hb dX5_solves_89 ?_
              refine tp_i (b := (nI (o1 ||| 2 ^ rwA (D k) m0))) (fa_or _ _) ?_
              refine va_iast (n := 550) (f := fO1) hx hb hK hP hD hS 10 0 rfl rfl (vp_in_nI (n := (11 * y0) + m0) (by omega) (by decide)) dX5_solves_90 (fun H locs hP hD hS => ?_)
              rw [nI_clamp (n := (11 * y0) + m0) (by omega)] at hP hD
              have hP : va_P g.1 vwCl (MW g h a (nI (rwL SL)) (nI n) (nI ll) (nI np) tu la wi (nI (rwL F)) th fS fL fN fK fF fW fE fC fG1 (upd fO1 ((11 * y0) + m0) (nI (o1 ||| 2 ^ rwA (D k) m0)))) H := hP
              have hD : va_D A (MW g h a (nI (rwL SL)) (nI n) (nI ll) (nI np) tu la wi (nI (rwL F)) th fS fL fN fK fF fW fE fC fG1 (upd fO1 ((11 * y0) + m0) (nI (o1 ||| 2 ^ rwA (D k) m0)))) := hD
              refine lv_aload_n hx hb dX5_solves_91 rfl (lv_at hl 1 rfl) ?_
              refine va_get (D := g.1) (ci := 3) (v := .ref (a 16)) (C := RX5) (T := TX5) (N := 19) hx hb hts hi_3 hown hK hP 0 rfl rfl 16 (by decide) f_42 (fun _ h9 => h9) rfl dX5_solves_92 ?_
              refine lv_iload_n hx hb dX5_solves_95 rfl (lv_at hl 4 rfl) ?_
              refine lv_dup2_11 hx hb dX5_solves_96 rfl rfl ?_
              refine va_iald (n := 550) (f := fG1) hx hb hK hP 9 0 rfl rfl (vp_in_nI (n := (11 * y0) + m0) (by omega) (by decide)) dX5_solves_97 ?_
              refine tp_i (congrArg fG1 (nI_clamp (n := (11 * y0) + m0) (by omega))) ?_
              refine tp_i (b := (nI (g1))) (hG) ?_
              refine lv_aload_n hx hb dX5_solves_98 rfl (lv_at hl 1 rfl) ?_
              refine lv_iload hx hb dX5_solves_99 (lv_at hl 5 rfl) ?_
              refine lv_iload_n hx hb dX5_solves_101 rfl (lv_at hl 3 rfl) ?_
              refine lv_iconst (v := nI 1) hx hb dX5_solves_102 (by decide) ?_
              refine lv_iadd hx hb dX5_solves_103 ?_
              refine tp_i (nI_add m0 1) ?_
              refine call_iVW (As := [.int (nI (k)), .int (nI (m0 + 1))]) (rest := [.int (nI (g1)), .int (nI ((11 * y0) + m0)), .ref (a 16)]) ⟨hx, hb, hml, hown, hts⟩ (c_X5_isWhole l g h a SL n ll np tu la wi F th fS fL fN fK fF fW fE fC fG1 (upd fO1 ((11 * y0) + m0) (nI (o1 ||| 2 ^ rwA (D k) m0))) D hDm hn hSL hfS hFr hfF hll hp k (m0 + 1) (by omega) (by omega)) (cwV 2 hts gX5_solves_X5_isWhole rfl rfl rfl (by decide +kernel) ⟨Nat.le_of_ble_eq_true rfl, Nat.le_of_ble_eq_true rfl⟩) hP hK hD hS hA 0 rfl rfl rfl rfl hl.1 rfl (Nat.le_of_ble_eq_true rfl) dX5_solves_104 ⟨Nat.le_refl _, Nat.le_refl _⟩ (fun r_104 w H locs h_104 hP hD hS => ?_)
              obtain ⟨rfl, h_104⟩ := h_104
              have hP : va_P g.1 vwCl (MW g h a (nI (rwL SL)) (nI n) (nI ll) (nI np) tu la wi (nI (rwL F)) th fS fL fN fK fF fW fE fC fG1 (upd fO1 ((11 * y0) + m0) (nI (o1 ||| 2 ^ rwA (D k) m0)))) H := hP
              have hD : va_D A (MW g h a (nI (rwL SL)) (nI n) (nI ll) (nI np) tu la wi (nI (rwL F)) th fS fL fN fK fF fW fE fC fG1 (upd fO1 ((11 * y0) + m0) (nI (o1 ||| 2 ^ rwA (D k) m0)))) := hD
              refine lv_if_ne (tgt := 134) hx hb dX5_solves_107 (by decide) (fun c_107_63 => ?_) (fun c_107_63 => ?_)
              · skip
                have n_107_63 := Bv.t h_104 c_107_63
                refine lv_iconst (v := nI 0) hx hb dX5_solves_134 (by decide) ?_
                refine lv_ior hx hb dX5_solves_135 ?_
                refine tp_i (b := (nI (g1 ||| 0))) (fa_or _ _) ?_
                refine va_iast (n := 550) (f := fG1) hx hb hK hP hD hS 9 0 rfl rfl (vp_in_nI (n := (11 * y0) + m0) (by omega) (by decide)) dX5_solves_136 (fun H locs hP hD hS => ?_)
                rw [nI_clamp (n := (11 * y0) + m0) (by omega)] at hP hD
                have hP : va_P g.1 vwCl (MW g h a (nI (rwL SL)) (nI n) (nI ll) (nI np) tu la wi (nI (rwL F)) th fS fL fN fK fF fW fE fC (upd fG1 ((11 * y0) + m0) (nI (g1 ||| 0))) (upd fO1 ((11 * y0) + m0) (nI (o1 ||| 2 ^ rwA (D k) m0)))) H := hP
                have hD : va_D A (MW g h a (nI (rwL SL)) (nI n) (nI ll) (nI np) tu la wi (nI (rwL F)) th fS fL fN fK fF fW fE fC (upd fG1 ((11 * y0) + m0) (nI (g1 ||| 0))) (upd fO1 ((11 * y0) + m0) (nI (o1 ||| 2 ^ rwA (D k) m0)))) := hD
                refine lv_iinc (v := (nI (k + 1))) (lv' := [(4, .int (nI (k + 1))), (5, .int (nI (rwA (D k) m0))), (0, .ref (h)), (1, .int (nI (y0))), (2, .int (nI (m0))), (3, .int (nI ((11 * y0) + m0)))]) hx hb dX5_solves_137 hl (k := 5) rfl (nI_add (k) 1) (by decide) rfl (fun ls hl => ?_)
                refine lv_goto (tgt := 24) hx hb dX5_solves_140 (by decide) ?_
                exact ih_24 (k + 1) (o1 ||| 2 ^ rwA (D k) m0) (g1 ||| 0) (upd fO1 ((11 * y0) + m0) (nI (o1 ||| 2 ^ rwA (D k) m0))) (upd fG1 ((11 * y0) + m0) (nI (g1 ||| 0))) (by omega) (by omega) (pk_us) (by rw [ho, ← opM_t rfl hld, hy4]) (pk_us) (by rw [Nat.or_zero]; exact gdM_f hg (fun q8 => q8.2.1 ((hwB_iff (m := m0 + 1) (by rw [hy4, ← hnx]; exact (hDm k (by omega)).1.rbl (by omega))).mpr (by rw [hy4, ← hnx]; exact n_107_63)))) (fun z hz => (pk_un hz).trans (hoO z hz)) (fun z hz => (pk_un hz).trans (hoG z hz)) _ _ _ hP hD hS (lv_sub hl [2, 3, 4, 5, 0] rfl)
              · skip
                have n_107_63 := Bv.f h_104 c_107_63
                refine lv_aload_n hx hb dX5_solves_110 rfl (lv_at hl 1 rfl) ?_
                refine va_get (D := g.1) (ci := 3) (v := .ref (a 13)) (C := RX5) (T := TX5) (N := 19) hx hb hts hi_3 hown hK hP 0 rfl rfl 13 (by decide) f_32 (fun _ h9 => h9) rfl dX5_solves_111 ?_
                refine lv_bipush (v := nI 11) hx hb dX5_solves_114 (by decide) ?_
                refine lv_iload hx hb dX5_solves_116 (lv_at hl 5 rfl) ?_
                refine lv_imul hx hb dX5_solves_118 ?_
                refine tp_i (pk_mul 11 k) ?_
                refine lv_iload_n hx hb dX5_solves_119 rfl (lv_at hl 3 rfl) ?_
                refine lv_iadd hx hb dX5_solves_120 ?_
                refine tp_i (nI_add (11 * k) m0) ?_
                refine lv_iconst (v := nI 1) hx hb dX5_solves_121 (by decide) ?_
                refine lv_iadd hx hb dX5_solves_122 ?_
                refine tp_i (nI_add ((11 * k) + m0) 1) ?_
                refine va_zald (n := 550) (f := fW) hx hb hK hP 6 2 rfl rfl (vp_in_nI (n := ((11 * k) + m0) + 1) (by omega) (by decide)) dX5_solves_123 ?_
                refine tp_i (congrArg fW (nI_clamp (n := ((11 * k) + m0) + 1) (by omega))) ?_
                have hwv := (hTA k (m0 + 1) (by omega) (by omega) (by omega) (by omega)).2.2.1
                refine lv_if_ne (tgt := 134) hx hb dX5_solves_124 (by decide) (fun c_124_64 => ?_) (fun c_124_64 => ?_)
                · skip
                  have n_124_64 := Bv.t hwv c_124_64
                  refine lv_iconst (v := nI 0) hx hb dX5_solves_134 (by decide) ?_
                  refine lv_ior hx hb dX5_solves_135 ?_
                  refine tp_i (b := (nI (g1 ||| 0))) (fa_or _ _) ?_
                  refine va_iast (n := 550) (f := fG1) hx hb hK hP hD hS 9 0 rfl rfl (vp_in_nI (n := (11 * y0) + m0) (by omega) (by decide)) dX5_solves_136 (fun H locs hP hD hS => ?_)
                  rw [nI_clamp (n := (11 * y0) + m0) (by omega)] at hP hD
                  have hP : va_P g.1 vwCl (MW g h a (nI (rwL SL)) (nI n) (nI ll) (nI np) tu la wi (nI (rwL F)) th fS fL fN fK fF fW fE fC (upd fG1 ((11 * y0) + m0) (nI (g1 ||| 0))) (upd fO1 ((11 * y0) + m0) (nI (o1 ||| 2 ^ rwA (D k) m0)))) H := hP
                  have hD : va_D A (MW g h a (nI (rwL SL)) (nI n) (nI ll) (nI np) tu la wi (nI (rwL F)) th fS fL fN fK fF fW fE fC (upd fG1 ((11 * y0) + m0) (nI (g1 ||| 0))) (upd fO1 ((11 * y0) + m0) (nI (o1 ||| 2 ^ rwA (D k) m0)))) := hD
                  refine lv_iinc (v := (nI (k + 1))) (lv' := [(4, .int (nI (k + 1))), (5, .int (nI (rwA (D k) m0))), (0, .ref (h)), (1, .int (nI (y0))), (2, .int (nI (m0))), (3, .int (nI ((11 * y0) + m0)))]) hx hb dX5_solves_137 hl (k := 5) rfl (nI_add (k) 1) (by decide) rfl (fun ls hl => ?_)
                  refine lv_goto (tgt := 24) hx hb dX5_solves_140 (by decide) ?_
                  exact ih_24 (k + 1) (o1 ||| 2 ^ rwA (D k) m0) (g1 ||| 0) (upd fO1 ((11 * y0) + m0) (nI (o1 ||| 2 ^ rwA (D k) m0))) (upd fG1 ((11 * y0) + m0) (nI (g1 ||| 0))) (by omega) (by omega) (pk_us) (by rw [ho, ← opM_t rfl hld, hy4]) (pk_us) (by rw [Nat.or_zero]; exact gdM_f hg (fun q8 => q8.2.2 (by rw [hy4, ← hnx]; exact n_124_64))) (fun z hz => (pk_un hz).trans (hoO z hz)) (fun z hz => (pk_un hz).trans (hoG z hz)) _ _ _ hP hD hS (lv_sub hl [2, 3, 4, 5, 0] rfl)
                · skip
                  have n_124_64 := Bv.f hwv c_124_64
                  refine lv_iconst (v := nI 1) hx hb dX5_solves_127 (by decide) ?_
                  refine lv_iload hx hb dX5_solves_128 (lv_at hl 0 rfl) ?_
                  refine lv_ishl hx hb dX5_solves_130 ?_
                  refine tp_i (b := (nI (2 ^ rwA (D k) m0))) (mk_shl hlt9) ?_
                  refine lv_goto (tgt := 135) hx hb dX5_solves_131 (by decide) ?_
                  refine lv_ior hx hb dX5_solves_135 ?_
                  refine tp_i (b := (nI (g1 ||| 2 ^ rwA (D k) m0))) (fa_or _ _) ?_
                  refine va_iast (n := 550) (f := fG1) hx hb hK hP hD hS 9 0 rfl rfl (vp_in_nI (n := (11 * y0) + m0) (by omega) (by decide)) dX5_solves_136 (fun H locs hP hD hS => ?_)
                  rw [nI_clamp (n := (11 * y0) + m0) (by omega)] at hP hD
                  have hP : va_P g.1 vwCl (MW g h a (nI (rwL SL)) (nI n) (nI ll) (nI np) tu la wi (nI (rwL F)) th fS fL fN fK fF fW fE fC (upd fG1 ((11 * y0) + m0) (nI (g1 ||| 2 ^ rwA (D k) m0))) (upd fO1 ((11 * y0) + m0) (nI (o1 ||| 2 ^ rwA (D k) m0)))) H := hP
                  have hD : va_D A (MW g h a (nI (rwL SL)) (nI n) (nI ll) (nI np) tu la wi (nI (rwL F)) th fS fL fN fK fF fW fE fC (upd fG1 ((11 * y0) + m0) (nI (g1 ||| 2 ^ rwA (D k) m0))) (upd fO1 ((11 * y0) + m0) (nI (o1 ||| 2 ^ rwA (D k) m0)))) := hD
                  refine lv_iinc (v := (nI (k + 1))) (lv' := [(4, .int (nI (k + 1))), (5, .int (nI (rwA (D k) m0))), (0, .ref (h)), (1, .int (nI (y0))), (2, .int (nI (m0))), (3, .int (nI ((11 * y0) + m0)))]) hx hb dX5_solves_137 hl (k := 5) rfl (nI_add (k) 1) (by decide) rfl (fun ls hl => ?_)
                  refine lv_goto (tgt := 24) hx hb dX5_solves_140 (by decide) ?_
                  exact ih_24 (k + 1) (o1 ||| 2 ^ rwA (D k) m0) (g1 ||| 2 ^ rwA (D k) m0) (upd fO1 ((11 * y0) + m0) (nI (o1 ||| 2 ^ rwA (D k) m0))) (upd fG1 ((11 * y0) + m0) (nI (g1 ||| 2 ^ rwA (D k) m0))) (by omega) (by omega) (pk_us) (by rw [ho, ← opM_t rfl hld, hy4]) (pk_us) (by have q7 := gdM_t hg hld (fun q8 => n_107_63 (by have q6 := (hwB_iff (m := m0 + 1) (by rw [hy4, ← hnx]; exact (hDm k (by omega)).1.rbl (by omega))).mp q8; rw [hy4, ← hnx] at q6; exact q6)) (by rw [hy4, ← hnx]; exact n_124_64); rw [hy4] at q7; exact q7) (fun z hz => (pk_un hz).trans (hoO z hz)) (fun z hz => (pk_un hz).trans (hoG z hz)) _ _ _ hP hD hS (lv_sub hl [2, 3, 4, 5, 0] rfl)
  exact L_24 (_ + 1) 0 0 0 (upd fO ((11 * y0) + m0) (nI (0))) (upd fG ((11 * y0) + m0) (nI (0))) (Nat.lt_succ_self _) (Nat.zero_le _) (pk_us) (rfl) (pk_us) (rfl) (fun z hz => pk_un hz) (fun z hz => pk_un hz) _ _ _ hP hD hS (lv_sub hl [2, 3, 4, 1, 0] rfl)

abbrev rm_X5_looks : Room := { frames := 4, cells := 0, slots := 0, locals := 101 }
set_option maxHeartbeats 4000000 in
set_option maxRecDepth 100000 in
theorem c_X5_looks (l : Launch) (g : GG) (h : Nat) (a : Nat → Nat) (SL n ll np : Nat) (tu la wi : Int32) (F : Nat) (th : Int32) (fS fL fN fK fF fW fE fC fG fO : Nat → Int32) (D : Nat → Nat) (hDm : MD fL fN D n) (hn : n ≤ 50) (hSL : RV SL) (hfS : MRw fS SL) (hFr : RV F) (hfF : MRw fF F) (hll : ll ≤ 10) (hp : np ≤ 4) : Ci l yX5_looks wsX5_looks rm_X5_looks g [.ref (h)] (MW g h a (nI (rwL SL)) (nI n) (nI ll) (nI np) tu la wi (nI (rwL F)) th fS fL fN fK fF fW fE fC fG fO) (fun r w => ∃ (gW gE gC gG gO : Nat → Int32), w = (MW g h a (nI (rwL SL)) (nI n) (nI ll) (nI np) tu la wi (nI (rwL F)) (nI 0) fS fL fN fK fF gW gE gC gG gO) ∧ lkQ D n ll F gW gE gC gG gO r) := by
  refine Ci.ofI (cc := cX5_looks) (maxL := 4) (by decide) rfl (Nat.le_of_ble_eq_true rfl) ?_
  intro p e s m args below meth c A Z hx hb hml hts hown hK hA hret H locs ls hP hD hS hl
  have f_16 := hts (.fieldLink RX5 16 "GhostGameModel" "length" "[I") (by decide +kernel)
  have f_29 := hts (.fieldLink RX5 29 "GhostGameModel" "fragment" "[I") (by decide +kernel)
  have f_48 := hts (.fieldLink RX5 48 "GhostGameModel" "thrown" "I") (by decide +kernel)
  have f_51 := hts (.fieldLink RX5 51 "GhostGameModel" "words" "I") (by decide +kernel)
  have f_94 := hts (.fieldLink RX5 94 "GhostGameModel" "fragmentLength" "I") (by decide +kernel)
  have hi_3 : ∀ w ∈ wsX50, w ∈ wsX5_looks := by decide +kernel
  have hl : lv_has ls 4 [(0, .ref (h))] := hl
  have h10 : ∀ k9, k9 < n → rwL (D k9) ≤ 10 := fun k9 h9 => (hDm k9 h9).1.1
  have hz2 := hFr.1
  refine lv_aload_n hx hb dX5_looks_0 rfl (lv_at hl 0 rfl) ?_
  refine lv_iconst (v := nI 0) hx hb dX5_looks_1 (by decide) ?_
  refine va_put (D := g.1) (ci := 3) (v := .int (nI (0))) (ty := .int) (C := RX5) (T := TX5) (N := 19) hx hb hts hi_3 tyX5 tyX5_ok nmX5 hown hK hP hD hS 0 rfl rfl 18 (by decide) f_48 (fun _ h9 => h9) rfl (by decide +kernel) rfl rfl (Nat.le_of_ble_eq_true rfl) dX5_looks_2 (fun H locs hP hD hS => ?_)
  have hP : va_P g.1 vwCl (MW g h a (nI (rwL SL)) (nI n) (nI ll) (nI np) tu la wi (nI (rwL F)) (nI 0) fS fL fN fK fF fW fE fC fG fO) H := hP
  have hD : va_D A (MW g h a (nI (rwL SL)) (nI n) (nI ll) (nI np) tu la wi (nI (rwL F)) (nI 0) fS fL fN fK fF fW fE fC fG fO) := hD
  refine lv_iconst (v := -1) hx hb dX5_looks_5 (by decide) ?_
  refine lv_istore_n (lv' := [(1, .int (-1)), (0, .ref (h))]) hx hb dX5_looks_6 rfl hl (by decide) rfl (fun ls hl => ?_)
  refine lv_bipush (v := nI 10) hx hb dX5_looks_7 (by decide) ?_
  refine lv_istore_n (lv' := [(2, .int (nI (10))), (1, .int (-1)), (0, .ref (h))]) hx hb dX5_looks_9 rfl hl (by decide) rfl (fun ls hl => ?_)
  have L_10 : ∀ (fu : Nat) (mm : Nat) (xm : Int32) (fW1 fE1 fC1 fG1 fO1 : Nat → Int32), mm < fu → (mm ≤ 11) → (rwL F ≤ mm) → (xm = zI ((mm : Int) - 1)) → (TA D n ll fW1 fE1 fC1 fG1 fO1 mm) → ∀ (H : Heap) (locs : List Loc) (ls : Array Slot), va_P g.1 vwCl (MW g h a (nI (rwL SL)) (nI n) (nI ll) (nI np) tu la wi (nI (rwL F)) (nI 0) fS fL fN fK fF fW1 fE1 fC1 fG1 fO1) H → va_D A (MW g h a (nI (rwL SL)) (nI n) (nI ll) (nI np) tu la wi (nI (rwL F)) (nI 0) fS fL fN fK fF fW1 fE1 fC1 fG1 fO1) → va_S A s.heap H locs → lv_has ls 4 [(0, .ref (h)), (1, .int (-1)), (2, .int (xm))] → W p l e rm_X5_looks s m args below meth c H locs 0 0 Z (F0 m 10 ls []) := by
    intro fu
    induction fu with
    | zero => intro _ _ _ _ _ _ _ h0; exact absurd h0 (Nat.not_lt_zero _)
    | succ fu ih_10 =>
      intro mm xm fW1 fE1 fC1 fG1 fO1 hfu hm1 hm2 hxm hTA H locs ls hP hD hS hl
      refine lv_iload_n hx hb dX5_looks_10 rfl (lv_at hl 2 rfl) ?_
      refine lv_aload_n hx hb dX5_looks_11 rfl (lv_at hl 0 rfl) ?_
      refine va_get (D := g.1) (ci := 3) (v := .int (nI (rwL F))) (C := RX5) (T := TX5) (N := 19) hx hb hts hi_3 hown hK hP 0 rfl rfl 12 (by decide) f_94 (fun _ h9 => h9) rfl dX5_looks_12 ?_
      refine lv_icmp_lt (tgt := 64) hx hb dX5_looks_15 (by decide) (fun c_15_1 => ?_) (fun c_15_1 => ?_)
      · skip
        have hmF : mm = rwL F := by
          rw [hxm, zI_nat] at c_15_1
          have := (zI_lt (by omega) (by omega) (by omega) (by omega)).mp c_15_1
          omega
        rw [hmF] at hTA
        refine lv_iconst (v := nI 0) hx hb dX5_looks_64 (by decide) ?_
        refine lv_istore_n (lv' := [(2, .int (nI (0))), (0, .ref (h)), (1, .int (-1))]) hx hb dX5_looks_65 rfl hl (by decide) rfl (fun ls hl => ?_)
        have L_66 : ∀ (fu : Nat) (x : Int32) (k : Nat), n - k < fu → (k ≤ n) → (lkI D n ll F fW1 fE1 fC1 fG1 fO1 k x) → ∀ (H : Heap) (locs : List Loc) (ls : Array Slot), va_P g.1 vwCl (MW g h a (nI (rwL SL)) (nI n) (nI ll) (nI np) tu la wi (nI (rwL F)) (nI 0) fS fL fN fK fF fW1 fE1 fC1 fG1 fO1) H → va_D A (MW g h a (nI (rwL SL)) (nI n) (nI ll) (nI np) tu la wi (nI (rwL F)) (nI 0) fS fL fN fK fF fW1 fE1 fC1 fG1 fO1) → va_S A s.heap H locs → lv_has ls 4 [(0, .ref (h)), (1, .int (x)), (2, .int (nI (k)))] → W p l e rm_X5_looks s m args below meth c H locs 0 0 Z (F0 m 66 ls []) := by
          intro fu
          induction fu with
          | zero => intro _ _ h0; exact absurd h0 (Nat.not_lt_zero _)
          | succ fu ih_66 =>
            intro x k hfu hk1 hx0 H locs ls hP hD hS hl
            refine lv_iload_n hx hb dX5_looks_66 rfl (lv_at hl 2 rfl) ?_
            refine lv_aload_n hx hb dX5_looks_67 rfl (lv_at hl 0 rfl) ?_
            refine va_get (D := g.1) (ci := 3) (v := .int (nI (n))) (C := RX5) (T := TX5) (N := 19) hx hb hts hi_3 hown hK hP 0 rfl rfl 4 (by decide) f_51 (fun _ h9 => h9) rfl dX5_looks_68 ?_
            refine lv_icmp_ge (tgt := 118) hx hb dX5_looks_71 (by decide) (fun c_71_2 => ?_) (fun c_71_2 => ?_)
            · skip
              have n_71_2 : n ≤ k := (nI_leI (a := n) (b := k) (by omega) (by omega)).mp c_71_2
              refine lv_iload_n hx hb dX5_looks_118 rfl (lv_at hl 1 rfl) ?_
              exact hret (x) (MW g h a (nI (rwL SL)) (nI n) (nI ll) (nI np) tu la wi (nI (rwL F)) (nI 0) fS fL fN fK fF fW1 fE1 fC1 fG1 fO1) _ _ _ _ dX5_looks_119 (⟨_, _, _, _, _, rfl, lkI_end hDm.V hFr hTA (by rw [show k = n by omega] at hx0; exact hx0) hn⟩) hP hD hS
            · skip
              have n_71_2 : ¬ n ≤ k := fun q9 => c_71_2 ((nI_leI (a := n) (b := k) (by omega) (by omega)).mpr q9)
              refine lv_aload_n hx hb dX5_looks_74 rfl (lv_at hl 0 rfl) ?_
              refine lv_iload_n hx hb dX5_looks_75 rfl (lv_at hl 2 rfl) ?_
              refine call_iVW (As := [.int (nI (k))]) (rest := []) ⟨hx, hb, hml, hown, hts⟩ (c_X5_counts l g h a SL n ll np tu la wi F (nI 0) fS fL fN fK fF fW1 fE1 fC1 fG1 fO1 D hDm hn hSL hfS hFr hfF hll hp k (by omega)) (cwV 1 hts gX5_looks_X5_counts rfl rfl rfl (by decide +kernel) ⟨Nat.le_of_ble_eq_true rfl, Nat.le_of_ble_eq_true rfl⟩) hP hK hD hS hA 0 rfl rfl rfl rfl hl.1 rfl (Nat.le_of_ble_eq_true rfl) dX5_looks_76 ⟨Nat.le_refl _, Nat.le_refl _⟩ (fun r_76 w H locs h_76 hP hD hS => ?_)
              obtain ⟨rfl, h_76⟩ := h_76
              have hP : va_P g.1 vwCl (MW g h a (nI (rwL SL)) (nI n) (nI ll) (nI np) tu la wi (nI (rwL F)) (nI 0) fS fL fN fK fF fW1 fE1 fC1 fG1 fO1) H := hP
              have hD : va_D A (MW g h a (nI (rwL SL)) (nI n) (nI ll) (nI np) tu la wi (nI (rwL F)) (nI 0) fS fL fN fK fF fW1 fE1 fC1 fG1 fO1) := hD
              refine lv_if_eq (tgt := 110) hx hb dX5_looks_79 (by decide) (fun c_79_3 => ?_) (fun c_79_3 => ?_)
              · skip
                have n_79_3 := Bv.f h_76 c_79_3
                refine lv_iload_n hx hb dX5_looks_110 rfl (lv_at hl 1 rfl) ?_
                refine lv_istore_n (lv' := [(1, .int (x)), (0, .ref (h)), (2, .int (nI (k)))]) hx hb dX5_looks_111 rfl hl (by decide) rfl (fun ls hl => ?_)
                refine lv_iinc (v := (nI (k + 1))) (lv' := [(2, .int (nI (k + 1))), (1, .int (x)), (0, .ref (h))]) hx hb dX5_looks_112 hl (k := 2) rfl (nI_add (k) 1) (by decide) rfl (fun ls hl => ?_)
                refine lv_goto (tgt := 66) hx hb dX5_looks_115 (by decide) ?_
                exact ih_66 x (k + 1) (by omega) (by omega) (lkI_f hx0 (fun q9 => n_79_3 q9.1)) _ _ _ hP hD hS (lv_sub hl [2, 1, 0] rfl)
              · skip
                have n_79_3 := Bv.t h_76 c_79_3
                refine lv_aload_n hx hb dX5_looks_82 rfl (lv_at hl 0 rfl) ?_
                refine lv_iload_n hx hb dX5_looks_83 rfl (lv_at hl 2 rfl) ?_
                refine lv_aload_n hx hb dX5_looks_84 rfl (lv_at hl 0 rfl) ?_
                refine va_get (D := g.1) (ci := 3) (v := .ref (a 11)) (C := RX5) (T := TX5) (N := 19) hx hb hts hi_3 hown hK hP 0 rfl rfl 11 (by decide) f_29 (fun _ h9 => h9) rfl dX5_looks_85 ?_
                refine lv_aload_n hx hb dX5_looks_88 rfl (lv_at hl 0 rfl) ?_
                refine va_get (D := g.1) (ci := 3) (v := .int (nI (rwL F))) (C := RX5) (T := TX5) (N := 19) hx hb hts hi_3 hown hK hP 0 rfl rfl 12 (by decide) f_94 (fun _ h9 => h9) rfl dX5_looks_89 ?_
                refine call_iVW (As := [.int (nI (k)), .ref (a 11), .int (nI (rwL F))]) (rest := []) ⟨hx, hb, hml, hown, hts⟩ (c_X5_begins_F l g h a SL n ll np tu la wi F (nI 0) fS fL fN fK fF fW1 fE1 fC1 fG1 fO1 D hDm hn hSL hfS hFr hfF hll hp k (by omega)) (cwV 3 hts gX5_looks_X5_begins rfl rfl rfl (by decide +kernel) ⟨Nat.le_of_ble_eq_true rfl, Nat.le_of_ble_eq_true rfl⟩) hP hK hD hS hA 0 rfl rfl rfl rfl hl.1 rfl (Nat.le_of_ble_eq_true rfl) dX5_looks_92 ⟨Nat.le_refl _, Nat.le_refl _⟩ (fun r_92 w H locs h_92 hP hD hS => ?_)
                obtain ⟨rfl, h_92⟩ := h_92
                have hP : va_P g.1 vwCl (MW g h a (nI (rwL SL)) (nI n) (nI ll) (nI np) tu la wi (nI (rwL F)) (nI 0) fS fL fN fK fF fW1 fE1 fC1 fG1 fO1) H := hP
                have hD : va_D A (MW g h a (nI (rwL SL)) (nI n) (nI ll) (nI np) tu la wi (nI (rwL F)) (nI 0) fS fL fN fK fF fW1 fE1 fC1 fG1 fO1) := hD
                refine lv_if_eq (tgt := 110) hx hb dX5_looks_95 (by decide) (fun c_95_4 => ?_) (fun c_95_4 => ?_)
                · skip
                  have n_95_4 := Bv.f h_92 c_95_4
                  refine lv_iload_n hx hb dX5_looks_110 rfl (lv_at hl 1 rfl) ?_
                  refine lv_istore_n (lv' := [(1, .int (x)), (0, .ref (h)), (2, .int (nI (k)))]) hx hb dX5_looks_111 rfl hl (by decide) rfl (fun ls hl => ?_)
                  refine lv_iinc (v := (nI (k + 1))) (lv' := [(2, .int (nI (k + 1))), (1, .int (x)), (0, .ref (h))]) hx hb dX5_looks_112 hl (k := 2) rfl (nI_add (k) 1) (by decide) rfl (fun ls hl => ?_)
                  refine lv_goto (tgt := 66) hx hb dX5_looks_115 (by decide) ?_
                  exact ih_66 x (k + 1) (by omega) (by omega) (lkI_f hx0 (fun q9 => n_95_4 q9.2)) _ _ _ hP hD hS (lv_sub hl [2, 1, 0] rfl)
                · skip
                  have n_95_4 := Bv.t h_92 c_95_4
                  refine lv_bipush (v := nI 11) hx hb dX5_looks_98 (by decide) ?_
                  refine lv_iload_n hx hb dX5_looks_100 rfl (lv_at hl 2 rfl) ?_
                  refine lv_imul hx hb dX5_looks_101 ?_
                  refine tp_i (pk_mul 11 k) ?_
                  refine lv_aload_n hx hb dX5_looks_102 rfl (lv_at hl 0 rfl) ?_
                  refine va_get (D := g.1) (ci := 3) (v := .int (nI (rwL F))) (C := RX5) (T := TX5) (N := 19) hx hb hts hi_3 hown hK hP 0 rfl rfl 12 (by decide) f_94 (fun _ h9 => h9) rfl dX5_looks_103 ?_
                  refine lv_iadd hx hb dX5_looks_106 ?_
                  refine tp_i (nI_add (11 * k) (rwL F)) ?_
                  refine lv_goto (tgt := 111) hx hb dX5_looks_107 (by decide) ?_
                  refine lv_istore_n (lv' := [(1, .int (nI ((11 * k) + (rwL F)))), (0, .ref (h)), (2, .int (nI (k)))]) hx hb dX5_looks_111 rfl hl (by decide) rfl (fun ls hl => ?_)
                  refine lv_iinc (v := (nI (k + 1))) (lv' := [(2, .int (nI (k + 1))), (1, .int (nI ((11 * k) + (rwL F)))), (0, .ref (h))]) hx hb dX5_looks_112 hl (k := 2) rfl (nI_add (k) 1) (by decide) rfl (fun ls hl => ?_)
                  refine lv_goto (tgt := 66) hx hb dX5_looks_115 (by decide) ?_
                  exact ih_66 (nI ((11 * k) + (rwL F))) (k + 1) (by omega) (by omega) (lkI_t (by omega) ⟨n_79_3, n_95_4⟩) _ _ _ hP hD hS (lv_sub hl [2, 1, 0] rfl)
        exact L_66 (_ + 1) (-1) 0 (Nat.lt_succ_self _) (Nat.zero_le _) (Or.inr ⟨fun i hi => absurd hi (Nat.not_lt_zero _), rfl⟩) _ _ _ hP hD hS (lv_sub hl [1, 2, 0] rfl)
      · skip
        obtain ⟨m1, rfl⟩ : ∃ m1, mm = m1 + 1 := ⟨mm - 1, by
          rcases Nat.eq_zero_or_pos mm with q9 | q9
          · exact absurd (by rw [hxm, q9, zI_nat]; exact (zI_lt (by omega) (by omega) (by omega) (by omega)).mpr (by omega)) c_15_1
          · omega⟩
        obtain rfl : xm = nI m1 := by rw [hxm, zI_nat]; congr 1; omega
        have hm1 : rwL F ≤ m1 := by
          rcases Nat.lt_or_ge m1 (rwL F) with q9 | q9
          · exact absurd ((nI_ltI (by omega) (by omega)).mpr q9) c_15_1
          · exact q9
        refine lv_iconst (v := nI 0) hx hb dX5_looks_18 (by decide) ?_
        refine lv_istore_n (lv' := [(3, .int (nI (0))), (0, .ref (h)), (1, .int (-1)), (2, .int (nI (m1)))]) hx hb dX5_looks_19 rfl hl (by decide) rfl (fun ls hl => ?_)
        have L_20 : ∀ (fu : Nat) (k : Nat) (fW2 fE2 fC2 fG2 fO2 : Nat → Int32), n - k < fu → (k ≤ n) → (TA D n ll fW2 fE2 fC2 fG2 fO2 (m1 + 1)) → (TK D n ll fW2 fE2 fC2 fG2 fO2 m1 k) → ∀ (H : Heap) (locs : List Loc) (ls : Array Slot), va_P g.1 vwCl (MW g h a (nI (rwL SL)) (nI n) (nI ll) (nI np) tu la wi (nI (rwL F)) (nI 0) fS fL fN fK fF fW2 fE2 fC2 fG2 fO2) H → va_D A (MW g h a (nI (rwL SL)) (nI n) (nI ll) (nI np) tu la wi (nI (rwL F)) (nI 0) fS fL fN fK fF fW2 fE2 fC2 fG2 fO2) → va_S A s.heap H locs → lv_has ls 4 [(0, .ref (h)), (1, .int (-1)), (2, .int (nI (m1))), (3, .int (nI (k)))] → W p l e rm_X5_looks s m args below meth c H locs 0 0 Z (F0 m 20 ls []) := by
          intro fu
          induction fu with
          | zero => intro _ _ _ _ _ _ h0; exact absurd h0 (Nat.not_lt_zero _)
          | succ fu ih_20 =>
            intro k fW2 fE2 fC2 fG2 fO2 hfu hk1 hTA hTK H locs ls hP hD hS hl
            refine lv_iload_n hx hb dX5_looks_20 rfl (lv_at hl 3 rfl) ?_
            refine lv_aload_n hx hb dX5_looks_21 rfl (lv_at hl 0 rfl) ?_
            refine va_get (D := g.1) (ci := 3) (v := .int (nI (n))) (C := RX5) (T := TX5) (N := 19) hx hb hts hi_3 hown hK hP 0 rfl rfl 4 (by decide) f_51 (fun _ h9 => h9) rfl dX5_looks_22 ?_
            refine lv_icmp_ge (tgt := 58) hx hb dX5_looks_25 (by decide) (fun c_25_5 => ?_) (fun c_25_5 => ?_)
            · skip
              have n_25_5 : n ≤ k := (nI_leI (a := n) (b := k) (by omega) (by omega)).mp c_25_5
              refine lv_iinc (v := (zI ((m1 : Int) - 1))) (lv' := [(2, .int (zI ((m1 : Int) - 1))), (0, .ref (h)), (1, .int (-1)), (3, .int (nI (k)))]) hx hb dX5_looks_58 hl (k := 2) rfl (zI_dec m1) (by decide) rfl (fun ls hl => ?_)
              refine lv_goto (tgt := 10) hx hb dX5_looks_61 (by decide) ?_
              exact ih_10 m1 (zI ((m1 : Int) - 1)) fW2 fE2 fC2 fG2 fO2 (by omega) (by omega) (hm1) (rfl) (hTA.step ((show k = n by omega) ▸ hTK)) _ _ _ hP hD hS (lv_sub hl [1, 2, 0] rfl)
            · skip
              have n_25_5 : ¬ n ≤ k := fun q9 => c_25_5 ((nI_leI (a := n) (b := k) (by omega) (by omega)).mpr q9)
              refine lv_aload_n hx hb dX5_looks_28 rfl (lv_at hl 0 rfl) ?_
              refine lv_iload_n hx hb dX5_looks_29 rfl (lv_at hl 3 rfl) ?_
              refine call_iVW (As := [.int (nI (k))]) (rest := []) ⟨hx, hb, hml, hown, hts⟩ (c_X5_counts l g h a SL n ll np tu la wi F (nI 0) fS fL fN fK fF fW2 fE2 fC2 fG2 fO2 D hDm hn hSL hfS hFr hfF hll hp k (by omega)) (cwV 1 hts gX5_looks_X5_counts rfl rfl rfl (by decide +kernel) ⟨Nat.le_of_ble_eq_true rfl, Nat.le_of_ble_eq_true rfl⟩) hP hK hD hS hA 0 rfl rfl rfl rfl hl.1 rfl (Nat.le_of_ble_eq_true rfl) dX5_looks_30 ⟨Nat.le_refl _, Nat.le_refl _⟩ (fun r_30 w H locs h_30 hP hD hS => ?_)
              obtain ⟨rfl, h_30⟩ := h_30
              have hP : va_P g.1 vwCl (MW g h a (nI (rwL SL)) (nI n) (nI ll) (nI np) tu la wi (nI (rwL F)) (nI 0) fS fL fN fK fF fW2 fE2 fC2 fG2 fO2) H := hP
              have hD : va_D A (MW g h a (nI (rwL SL)) (nI n) (nI ll) (nI np) tu la wi (nI (rwL F)) (nI 0) fS fL fN fK fF fW2 fE2 fC2 fG2 fO2) := hD
              refine lv_if_eq (tgt := 52) hx hb dX5_looks_33 (by decide) (fun c_33_6 => ?_) (fun c_33_6 => ?_)
              · skip
                have n_33_6 := Bv.f h_30 c_33_6
                refine lv_iinc (v := (nI (k + 1))) (lv' := [(3, .int (nI (k + 1))), (0, .ref (h)), (1, .int (-1)), (2, .int (nI (m1)))]) hx hb dX5_looks_52 hl (k := 3) rfl (nI_add (k) 1) (by decide) rfl (fun ls hl => ?_)
                refine lv_goto (tgt := 20) hx hb dX5_looks_55 (by decide) ?_
                exact ih_20 (k + 1) fW2 fE2 fC2 fG2 fO2 (by omega) (by omega) (hTA) (hTK.skip (fun q9 => n_33_6 q9.1)) _ _ _ hP hD hS (lv_sub hl [1, 2, 3, 0] rfl)
              · skip
                have n_33_6 := Bv.t h_30 c_33_6
                refine lv_aload_n hx hb dX5_looks_36 rfl (lv_at hl 0 rfl) ?_
                refine va_get (D := g.1) (ci := 3) (v := .ref (a 3)) (C := RX5) (T := TX5) (N := 19) hx hb hts hi_3 hown hK hP 0 rfl rfl 3 (by decide) f_16 (fun _ h9 => h9) rfl dX5_looks_37 ?_
                refine lv_iload_n hx hb dX5_looks_40 rfl (lv_at hl 3 rfl) ?_
                refine va_iald (n := 50) (f := fN) hx hb hK hP 3 0 rfl rfl (vp_in_nI (n := k) (by omega) (by decide)) dX5_looks_41 ?_
                refine tp_i (congrArg fN (nI_clamp (n := k) (by omega))) ?_
                refine tp_i (b := (nI (rwL (D k)))) ((hDm k (by omega)).2.1) ?_
                have hk3 := h10 k (by omega)
                refine lv_iload_n hx hb dX5_looks_42 rfl (lv_at hl 2 rfl) ?_
                refine lv_icmp_lt (tgt := 52) hx hb dX5_looks_43 (by decide) (fun c_43_7 => ?_) (fun c_43_7 => ?_)
                · skip
                  have n_43_7 : rwL (D k) < m1 := (nI_ltI (a := rwL (D k)) (b := m1) (by omega) (by omega)).mp c_43_7
                  refine lv_iinc (v := (nI (k + 1))) (lv' := [(3, .int (nI (k + 1))), (0, .ref (h)), (1, .int (-1)), (2, .int (nI (m1)))]) hx hb dX5_looks_52 hl (k := 3) rfl (nI_add (k) 1) (by decide) rfl (fun ls hl => ?_)
                  refine lv_goto (tgt := 20) hx hb dX5_looks_55 (by decide) ?_
                  exact ih_20 (k + 1) fW2 fE2 fC2 fG2 fO2 (by omega) (by omega) (hTA) (hTK.skip (fun q9 => by omega)) _ _ _ hP hD hS (lv_sub hl [1, 2, 3, 0] rfl)
                · skip
                  have n_43_7 : ¬ rwL (D k) < m1 := fun q9 => c_43_7 ((nI_ltI (a := rwL (D k)) (b := m1) (by omega) (by omega)).mpr q9)
                  refine lv_aload_n hx hb dX5_looks_46 rfl (lv_at hl 0 rfl) ?_
                  refine lv_iload_n hx hb dX5_looks_47 rfl (lv_at hl 3 rfl) ?_
                  refine lv_iload_n hx hb dX5_looks_48 rfl (lv_at hl 2 rfl) ?_
                  refine call_vVW (As := [.int (nI (k)), .int (nI (m1))]) (rest := []) ⟨hx, hb, hml, hown, hts⟩ (c_X5_solves l g h a SL n ll np tu la wi F (nI 0) fS fL fN fK fF fW2 fE2 fC2 fG2 fO2 D hDm hn hSL hfS hFr hfF hll hp k m1 (by omega) n_33_6 (by omega) hTA) (cwV 2 hts gX5_looks_X5_solves rfl rfl rfl (by decide +kernel) ⟨Nat.le_of_ble_eq_true rfl, Nat.le_of_ble_eq_true rfl⟩) hP hK hD hS hA 0 rfl rfl rfl rfl hl.1 rfl (Nat.le_of_ble_eq_true rfl) dX5_looks_49 ⟨Nat.le_refl _, Nat.le_refl _⟩ (fun w H locs h_49 hP hD hS => ?_)
                  obtain ⟨gW, gE, gC, gG, gO, rfl, hTB, hAL⟩ := h_49
                  have hP : va_P g.1 vwCl (MW g h a (nI (rwL SL)) (nI n) (nI ll) (nI np) tu la wi (nI (rwL F)) (nI 0) fS fL fN fK fF gW gE gC gG gO) H := hP
                  have hD : va_D A (MW g h a (nI (rwL SL)) (nI n) (nI ll) (nI np) tu la wi (nI (rwL F)) (nI 0) fS fL fN fK fF gW gE gC gG gO) := hD
                  refine lv_iinc (v := (nI (k + 1))) (lv' := [(3, .int (nI (k + 1))), (0, .ref (h)), (1, .int (-1)), (2, .int (nI (m1)))]) hx hb dX5_looks_52 hl (k := 3) rfl (nI_add (k) 1) (by decide) rfl (fun ls hl => ?_)
                  refine lv_goto (tgt := 20) hx hb dX5_looks_55 (by decide) ?_
                  exact ih_20 (k + 1) gW gE gC gG gO (by omega) (by omega) (TA.kept hDm.V hTA (by omega) hAL) (hTK.step (by omega) hAL hTB) _ _ _ hP hD hS (lv_sub hl [1, 2, 3, 0] rfl)
        exact L_20 (_ + 1) 0 fW1 fE1 fC1 fG1 fO1 (Nat.lt_succ_self _) (Nat.zero_le _) (hTA) (fun k9 h9 => absurd h9 (Nat.not_lt_zero _)) _ _ _ hP hD hS (lv_sub hl [1, 2, 3, 0] rfl)
  exact L_10 (_ + 1) 11 (nI (10)) fW fE fC fG fO (Nat.lt_succ_self _) (by omega) (by omega) (by decide) (TA.top hDm.V) _ _ _ hP hD hS (lv_sub hl [2, 1, 0] rfl)

abbrev rm_X5_openLetters : Room := { frames := 5, cells := 0, slots := 0, locals := 124 }
set_option maxHeartbeats 4000000 in
set_option maxRecDepth 100000 in
theorem c_X5_openLetters (l : Launch) (g : GG) (h : Nat) (a : Nat → Nat) (SL n ll np : Nat) (tu la wi : Int32) (F : Nat) (th : Int32) (fS fL fN fK fF fW fE fC fG fO : Nat → Int32) (D : Nat → Nat) (hDm : MD fL fN D n) (hn : n ≤ 50) (hSL : RV SL) (hfS : MRw fS SL) (hFr : RV F) (hfF : MRw fF F) (hll : ll ≤ 10) (hp : np ≤ 4) : Ci l yX5_openLetters wsX5_openLetters rm_X5_openLetters g [.ref (h)] (MW g h a (nI (rwL SL)) (nI n) (nI ll) (nI np) tu la wi (nI (rwL F)) th fS fL fN fK fF fW fE fC fG fO) (fun r w => (r = nI (opM D ll F n)) ∧ ∃ (gW gE gC gG gO : Nat → Int32), w = (MW g h a (nI (rwL SL)) (nI n) (nI ll) (nI np) tu la wi (nI (rwL F)) (nI 0) fS fL fN fK fF gW gE gC gG gO)) := by
  refine Ci.ofI (cc := cX5_openLetters) (maxL := 2) (by decide) rfl (Nat.le_of_ble_eq_true rfl) ?_
  intro p e s m args below meth c A Z hx hb hml hts hown hK hA hret H locs ls hP hD hS hl
  have f_45 := hts (.fieldLink RX5 45 "GhostGameModel" "open" "[I") (by decide +kernel)
  have hi_3 : ∀ w ∈ wsX50, w ∈ wsX5_openLetters := by decide +kernel
  have hl : lv_has ls 2 [(0, .ref (h))] := hl
  refine lv_aload_n hx hb dX5_openLetters_0 rfl (lv_at hl 0 rfl) ?_
  refine call_iVW (As := []) (rest := []) ⟨hx, hb, hml, hown, hts⟩ (c_X5_looks l g h a SL n ll np tu la wi F th fS fL fN fK fF fW fE fC fG fO D hDm hn hSL hfS hFr hfF hll hp) (cwV 0 hts gX5_openLetters_X5_looks rfl rfl rfl (by decide +kernel) ⟨Nat.le_of_ble_eq_true rfl, Nat.le_of_ble_eq_true rfl⟩) hP hK hD hS hA 0 rfl rfl rfl rfl hl.1 rfl (Nat.le_of_ble_eq_true rfl) dX5_openLetters_1 ⟨Nat.le_refl _, Nat.le_refl _⟩ (fun r_1 w H locs h_1 hP hD hS => ?_)
  rcases h_1 with ⟨gW, gE, gC, gG, gO, rfl, ⟨i, hi, rfl, hTB⟩ | ⟨rfl, h0⟩⟩
  · skip
    have hP : va_P g.1 vwCl (MW g h a (nI (rwL SL)) (nI n) (nI ll) (nI np) tu la wi (nI (rwL F)) (nI 0) fS fL fN fK fF gW gE gC gG gO) H := hP
    have hD : va_D A (MW g h a (nI (rwL SL)) (nI n) (nI ll) (nI np) tu la wi (nI (rwL F)) (nI 0) fS fL fN fK fF gW gE gC gG gO) := hD
    refine lv_istore_n (lv' := [(1, .int (nI (i))), (0, .ref (h))]) hx hb dX5_openLetters_4 rfl hl (by decide) rfl (fun ls hl => ?_)
    refine lv_iload_n hx hb dX5_openLetters_5 rfl (lv_at hl 0 rfl) ?_
    refine lv_iconst (v := -1) hx hb dX5_openLetters_6 (by decide) ?_
    refine lv_icmp_ne (tgt := 14) hx hb dX5_openLetters_7 (by decide) (fun c_7_1 => ?_) (fun c_7_1 => ?_)
    · skip
      refine lv_aload_n hx hb dX5_openLetters_14 rfl (lv_at hl 1 rfl) ?_
      refine va_get (D := g.1) (ci := 3) (v := .ref (a 17)) (C := RX5) (T := TX5) (N := 19) hx hb hts hi_3 hown hK hP 0 rfl rfl 17 (by decide) f_45 (fun _ h9 => h9) rfl dX5_openLetters_15 ?_
      refine lv_iload_n hx hb dX5_openLetters_18 rfl (lv_at hl 0 rfl) ?_
      refine va_iald (n := 550) (f := gO) hx hb hK hP 10 0 rfl rfl (vp_in_nI (n := i) (by omega) (by decide)) dX5_openLetters_19 ?_
      refine tp_i (congrArg gO (nI_clamp (n := i) (by omega))) ?_
      refine tp_i (b := (nI (opM D ll F n))) (hTB.1) ?_
      exact hret (nI (opM D ll F n)) (MW g h a (nI (rwL SL)) (nI n) (nI ll) (nI np) tu la wi (nI (rwL F)) (nI 0) fS fL fN fK fF gW gE gC gG gO) _ _ _ _ dX5_openLetters_20 (⟨rfl, gW, gE, gC, gG, gO, rfl⟩) hP hD hS
    · skip
      exact absurd c_7_1 (nI_nem1 (by omega))
  · skip
    have hP : va_P g.1 vwCl (MW g h a (nI (rwL SL)) (nI n) (nI ll) (nI np) tu la wi (nI (rwL F)) (nI 0) fS fL fN fK fF gW gE gC gG gO) H := hP
    have hD : va_D A (MW g h a (nI (rwL SL)) (nI n) (nI ll) (nI np) tu la wi (nI (rwL F)) (nI 0) fS fL fN fK fF gW gE gC gG gO) := hD
    refine lv_istore_n (lv' := [(1, .int (-1)), (0, .ref (h))]) hx hb dX5_openLetters_4 rfl hl (by decide) rfl (fun ls hl => ?_)
    refine lv_iload_n hx hb dX5_openLetters_5 rfl (lv_at hl 0 rfl) ?_
    refine lv_iconst (v := -1) hx hb dX5_openLetters_6 (by decide) ?_
    refine lv_icmp_ne (tgt := 14) hx hb dX5_openLetters_7 (by decide) (fun c_7_2 => ?_) (fun c_7_2 => ?_)
    · skip
      exact absurd rfl c_7_2
    · skip
      refine lv_iconst (v := nI 0) hx hb dX5_openLetters_10 (by decide) ?_
      refine lv_goto (tgt := 20) hx hb dX5_openLetters_11 (by decide) ?_
      exact hret (nI (0)) (MW g h a (nI (rwL SL)) (nI n) (nI ll) (nI np) tu la wi (nI (rwL F)) (nI 0) fS fL fN fK fF gW gE gC gG gO) _ _ _ _ dX5_openLetters_20 (⟨by rw [h0], gW, gE, gC, gG, gO, rfl⟩) hP hD hS

abbrev rm_X5_winningLetters : Room := { frames := 5, cells := 0, slots := 0, locals := 124 }
set_option maxHeartbeats 4000000 in
set_option maxRecDepth 100000 in
theorem c_X5_winningLetters (l : Launch) (g : GG) (h : Nat) (a : Nat → Nat) (SL n ll np : Nat) (tu la wi : Int32) (F : Nat) (th : Int32) (fS fL fN fK fF fW fE fC fG fO : Nat → Int32) (D : Nat → Nat) (hDm : MD fL fN D n) (hn : n ≤ 50) (hSL : RV SL) (hfS : MRw fS SL) (hFr : RV F) (hfF : MRw fF F) (hll : ll ≤ 10) (hp : np ≤ 4) : Ci l yX5_winningLetters wsX5_winningLetters rm_X5_winningLetters g [.ref (h)] (MW g h a (nI (rwL SL)) (nI n) (nI ll) (nI np) tu la wi (nI (rwL F)) th fS fL fN fK fF fW fE fC fG fO) (fun r w => (r = nI (gmP D n ll F)) ∧ ∃ (gW gE gC gG gO : Nat → Int32), w = (MW g h a (nI (rwL SL)) (nI n) (nI ll) (nI np) tu la wi (nI (rwL F)) (nI 0) fS fL fN fK fF gW gE gC gG gO)) := by
  refine Ci.ofI (cc := cX5_winningLetters) (maxL := 2) (by decide) rfl (Nat.le_of_ble_eq_true rfl) ?_
  intro p e s m args below meth c A Z hx hb hml hts hown hK hA hret H locs ls hP hD hS hl
  have f_42 := hts (.fieldLink RX5 42 "GhostGameModel" "good" "[I") (by decide +kernel)
  have hi_3 : ∀ w ∈ wsX50, w ∈ wsX5_winningLetters := by decide +kernel
  have hl : lv_has ls 2 [(0, .ref (h))] := hl
  refine lv_aload_n hx hb dX5_winningLetters_0 rfl (lv_at hl 0 rfl) ?_
  refine call_iVW (As := []) (rest := []) ⟨hx, hb, hml, hown, hts⟩ (c_X5_looks l g h a SL n ll np tu la wi F th fS fL fN fK fF fW fE fC fG fO D hDm hn hSL hfS hFr hfF hll hp) (cwV 0 hts gX5_winningLetters_X5_looks rfl rfl rfl (by decide +kernel) ⟨Nat.le_of_ble_eq_true rfl, Nat.le_of_ble_eq_true rfl⟩) hP hK hD hS hA 0 rfl rfl rfl rfl hl.1 rfl (Nat.le_of_ble_eq_true rfl) dX5_winningLetters_1 ⟨Nat.le_refl _, Nat.le_refl _⟩ (fun r_1 w H locs h_1 hP hD hS => ?_)
  rcases h_1 with ⟨gW, gE, gC, gG, gO, rfl, ⟨i, hi, rfl, hTB⟩ | ⟨rfl, h0⟩⟩
  · skip
    have hP : va_P g.1 vwCl (MW g h a (nI (rwL SL)) (nI n) (nI ll) (nI np) tu la wi (nI (rwL F)) (nI 0) fS fL fN fK fF gW gE gC gG gO) H := hP
    have hD : va_D A (MW g h a (nI (rwL SL)) (nI n) (nI ll) (nI np) tu la wi (nI (rwL F)) (nI 0) fS fL fN fK fF gW gE gC gG gO) := hD
    refine lv_istore_n (lv' := [(1, .int (nI (i))), (0, .ref (h))]) hx hb dX5_winningLetters_4 rfl hl (by decide) rfl (fun ls hl => ?_)
    refine lv_iload_n hx hb dX5_winningLetters_5 rfl (lv_at hl 0 rfl) ?_
    refine lv_iconst (v := -1) hx hb dX5_winningLetters_6 (by decide) ?_
    refine lv_icmp_ne (tgt := 14) hx hb dX5_winningLetters_7 (by decide) (fun c_7_1 => ?_) (fun c_7_1 => ?_)
    · skip
      refine lv_aload_n hx hb dX5_winningLetters_14 rfl (lv_at hl 1 rfl) ?_
      refine va_get (D := g.1) (ci := 3) (v := .ref (a 16)) (C := RX5) (T := TX5) (N := 19) hx hb hts hi_3 hown hK hP 0 rfl rfl 16 (by decide) f_42 (fun _ h9 => h9) rfl dX5_winningLetters_15 ?_
      refine lv_iload_n hx hb dX5_winningLetters_18 rfl (lv_at hl 0 rfl) ?_
      refine va_iald (n := 550) (f := gG) hx hb hK hP 9 0 rfl rfl (vp_in_nI (n := i) (by omega) (by decide)) dX5_winningLetters_19 ?_
      refine tp_i (congrArg gG (nI_clamp (n := i) (by omega))) ?_
      refine tp_i (b := (nI (gmP D n ll F))) (hTB.2.1) ?_
      exact hret (nI (gmP D n ll F)) (MW g h a (nI (rwL SL)) (nI n) (nI ll) (nI np) tu la wi (nI (rwL F)) (nI 0) fS fL fN fK fF gW gE gC gG gO) _ _ _ _ dX5_winningLetters_20 (⟨rfl, gW, gE, gC, gG, gO, rfl⟩) hP hD hS
    · skip
      exact absurd c_7_1 (nI_nem1 (by omega))
  · skip
    have hP : va_P g.1 vwCl (MW g h a (nI (rwL SL)) (nI n) (nI ll) (nI np) tu la wi (nI (rwL F)) (nI 0) fS fL fN fK fF gW gE gC gG gO) H := hP
    have hD : va_D A (MW g h a (nI (rwL SL)) (nI n) (nI ll) (nI np) tu la wi (nI (rwL F)) (nI 0) fS fL fN fK fF gW gE gC gG gO) := hD
    refine lv_istore_n (lv' := [(1, .int (-1)), (0, .ref (h))]) hx hb dX5_winningLetters_4 rfl hl (by decide) rfl (fun ls hl => ?_)
    refine lv_iload_n hx hb dX5_winningLetters_5 rfl (lv_at hl 0 rfl) ?_
    refine lv_iconst (v := -1) hx hb dX5_winningLetters_6 (by decide) ?_
    refine lv_icmp_ne (tgt := 14) hx hb dX5_winningLetters_7 (by decide) (fun c_7_2 => ?_) (fun c_7_2 => ?_)
    · skip
      exact absurd rfl c_7_2
    · skip
      refine lv_iconst (v := nI 0) hx hb dX5_winningLetters_10 (by decide) ?_
      refine lv_goto (tgt := 20) hx hb dX5_winningLetters_11 (by decide) ?_
      exact hret (nI (0)) (MW g h a (nI (rwL SL)) (nI n) (nI ll) (nI np) tu la wi (nI (rwL F)) (nI 0) fS fL fN fK fF gW gE gC gG gO) _ _ _ _ dX5_winningLetters_20 (⟨by rw [gm_0 h0], gW, gE, gC, gG, gO, rfl⟩) hP hD hS

abbrev rm_X5_end : Room := { frames := 5, cells := 0, slots := 0, locals := 124 }
set_option maxHeartbeats 4000000 in
set_option maxRecDepth 100000 in
theorem c_X5_end (l : Launch) (g : GG) (h : Nat) (a : Nat → Nat) (SL n ll np : Nat) (tu la wi : Int32) (F : Nat) (th : Int32) (fS fL fN fK fF fW fE fC fG fO : Nat → Int32) (D : Nat → Nat) (hDm : MD fL fN D n) (hn : n ≤ 50) (hSL : RV SL) (hfS : MRw fS SL) (hFr : RV F) (hfF : MRw fF F) (hll : ll ≤ 10) (hp : np ≤ 4) : Ci l yX5_end wsX5_end rm_X5_end g [.ref (h)] (MW g h a (nI (rwL SL)) (nI n) (nI ll) (nI np) tu la wi (nI (rwL F)) th fS fL fN fK fF fW fE fC fG fO) (fun r w => (r = nI (100 - (scP D n ll F).natAbs)) ∧ ∃ (gW gE gC gG gO : Nat → Int32), w = (MW g h a (nI (rwL SL)) (nI n) (nI ll) (nI np) tu la wi (nI (rwL F)) (nI 0) fS fL fN fK fF gW gE gC gG gO)) := by
  refine Ci.ofI (cc := cX5_end) (maxL := 2) (by decide) rfl (Nat.le_of_ble_eq_true rfl) ?_
  intro p e s m args below meth c A Z hx hb hml hts hown hK hA hret H locs ls hP hD hS hl
  have f_36 := hts (.fieldLink RX5 36 "GhostGameModel" "ends" "[I") (by decide +kernel)
  have hi_3 : ∀ w ∈ wsX50, w ∈ wsX5_end := by decide +kernel
  have hl : lv_has ls 2 [(0, .ref (h))] := hl
  refine lv_aload_n hx hb dX5_end_0 rfl (lv_at hl 0 rfl) ?_
  refine call_iVW (As := []) (rest := []) ⟨hx, hb, hml, hown, hts⟩ (c_X5_looks l g h a SL n ll np tu la wi F th fS fL fN fK fF fW fE fC fG fO D hDm hn hSL hfS hFr hfF hll hp) (cwV 0 hts gX5_end_X5_looks rfl rfl rfl (by decide +kernel) ⟨Nat.le_of_ble_eq_true rfl, Nat.le_of_ble_eq_true rfl⟩) hP hK hD hS hA 0 rfl rfl rfl rfl hl.1 rfl (Nat.le_of_ble_eq_true rfl) dX5_end_1 ⟨Nat.le_refl _, Nat.le_refl _⟩ (fun r_1 w H locs h_1 hP hD hS => ?_)
  rcases h_1 with ⟨gW, gE, gC, gG, gO, rfl, ⟨i, hi, rfl, hTB⟩ | ⟨rfl, h0⟩⟩
  · skip
    have hP : va_P g.1 vwCl (MW g h a (nI (rwL SL)) (nI n) (nI ll) (nI np) tu la wi (nI (rwL F)) (nI 0) fS fL fN fK fF gW gE gC gG gO) H := hP
    have hD : va_D A (MW g h a (nI (rwL SL)) (nI n) (nI ll) (nI np) tu la wi (nI (rwL F)) (nI 0) fS fL fN fK fF gW gE gC gG gO) := hD
    refine lv_istore_n (lv' := [(1, .int (nI (i))), (0, .ref (h))]) hx hb dX5_end_4 rfl hl (by decide) rfl (fun ls hl => ?_)
    refine lv_iload_n hx hb dX5_end_5 rfl (lv_at hl 0 rfl) ?_
    refine lv_iconst (v := -1) hx hb dX5_end_6 (by decide) ?_
    refine lv_icmp_ne (tgt := 14) hx hb dX5_end_7 (by decide) (fun c_7_1 => ?_) (fun c_7_1 => ?_)
    · skip
      refine lv_aload_n hx hb dX5_end_14 rfl (lv_at hl 1 rfl) ?_
      refine va_get (D := g.1) (ci := 3) (v := .ref (a 14)) (C := RX5) (T := TX5) (N := 19) hx hb hts hi_3 hown hK hP 0 rfl rfl 14 (by decide) f_36 (fun _ h9 => h9) rfl dX5_end_15 ?_
      refine lv_iload_n hx hb dX5_end_18 rfl (lv_at hl 0 rfl) ?_
      refine va_iald (n := 550) (f := gE) hx hb hK hP 7 0 rfl rfl (vp_in_nI (n := i) (by omega) (by decide)) dX5_end_19 ?_
      refine tp_i (congrArg gE (nI_clamp (n := i) (by omega))) ?_
      refine tp_i (b := (nI (100 - (scP D n ll F).natAbs))) (hTB.2.2.2.1) ?_
      exact hret (nI (100 - (scP D n ll F).natAbs)) (MW g h a (nI (rwL SL)) (nI n) (nI ll) (nI np) tu la wi (nI (rwL F)) (nI 0) fS fL fN fK fF gW gE gC gG gO) _ _ _ _ dX5_end_20 (⟨rfl, gW, gE, gC, gG, gO, rfl⟩) hP hD hS
    · skip
      exact absurd c_7_1 (nI_nem1 (by omega))
  · skip
    have hP : va_P g.1 vwCl (MW g h a (nI (rwL SL)) (nI n) (nI ll) (nI np) tu la wi (nI (rwL F)) (nI 0) fS fL fN fK fF gW gE gC gG gO) H := hP
    have hD : va_D A (MW g h a (nI (rwL SL)) (nI n) (nI ll) (nI np) tu la wi (nI (rwL F)) (nI 0) fS fL fN fK fF gW gE gC gG gO) := hD
    refine lv_istore_n (lv' := [(1, .int (-1)), (0, .ref (h))]) hx hb dX5_end_4 rfl hl (by decide) rfl (fun ls hl => ?_)
    refine lv_iload_n hx hb dX5_end_5 rfl (lv_at hl 0 rfl) ?_
    refine lv_iconst (v := -1) hx hb dX5_end_6 (by decide) ?_
    refine lv_icmp_ne (tgt := 14) hx hb dX5_end_7 (by decide) (fun c_7_2 => ?_) (fun c_7_2 => ?_)
    · skip
      exact absurd rfl c_7_2
    · skip
      refine lv_iconst (v := nI 0) hx hb dX5_end_10 (by decide) ?_
      refine lv_goto (tgt := 20) hx hb dX5_end_11 (by decide) ?_
      exact hret (nI (0)) (MW g h a (nI (rwL SL)) (nI n) (nI ll) (nI np) tu la wi (nI (rwL F)) (nI 0) fS fL fN fK fF gW gE gC gG gO) _ _ _ _ dX5_end_20 (⟨by rw [sc_0 h0]; rfl, gW, gE, gC, gG, gO, rfl⟩) hP hD hS

abbrev rm_X5_bestLetter : Room := { frames := 5, cells := 0, slots := 0, locals := 124 }
set_option maxHeartbeats 4000000 in
set_option maxRecDepth 100000 in
theorem c_X5_bestLetter (l : Launch) (g : GG) (h : Nat) (a : Nat → Nat) (SL n ll np : Nat) (tu la wi : Int32) (F : Nat) (th : Int32) (fS fL fN fK fF fW fE fC fG fO : Nat → Int32) (D : Nat → Nat) (hDm : MD fL fN D n) (hn : n ≤ 50) (hSL : RV SL) (hfS : MRw fS SL) (hFr : RV F) (hfF : MRw fF F) (hll : ll ≤ 10) (hp : np ≤ 4) : Ci l yX5_bestLetter wsX5_bestLetter rm_X5_bestLetter g [.ref (h)] (MW g h a (nI (rwL SL)) (nI n) (nI ll) (nI np) tu la wi (nI (rwL F)) th fS fL fN fK fF fW fE fC fG fO) (fun r w => (chP D n ll F r) ∧ ∃ (gW gE gC gG gO : Nat → Int32), w = (MW g h a (nI (rwL SL)) (nI n) (nI ll) (nI np) tu la wi (nI (rwL F)) (nI 0) fS fL fN fK fF gW gE gC gG gO)) := by
  refine Ci.ofI (cc := cX5_bestLetter) (maxL := 2) (by decide) rfl (Nat.le_of_ble_eq_true rfl) ?_
  intro p e s m args below meth c A Z hx hb hml hts hown hK hA hret H locs ls hP hD hS hl
  have f_39 := hts (.fieldLink RX5 39 "GhostGameModel" "chosen" "[I") (by decide +kernel)
  have hi_3 : ∀ w ∈ wsX50, w ∈ wsX5_bestLetter := by decide +kernel
  have hl : lv_has ls 2 [(0, .ref (h))] := hl
  refine lv_aload_n hx hb dX5_bestLetter_0 rfl (lv_at hl 0 rfl) ?_
  refine call_iVW (As := []) (rest := []) ⟨hx, hb, hml, hown, hts⟩ (c_X5_looks l g h a SL n ll np tu la wi F th fS fL fN fK fF fW fE fC fG fO D hDm hn hSL hfS hFr hfF hll hp) (cwV 0 hts gX5_bestLetter_X5_looks rfl rfl rfl (by decide +kernel) ⟨Nat.le_of_ble_eq_true rfl, Nat.le_of_ble_eq_true rfl⟩) hP hK hD hS hA 0 rfl rfl rfl rfl hl.1 rfl (Nat.le_of_ble_eq_true rfl) dX5_bestLetter_1 ⟨Nat.le_refl _, Nat.le_refl _⟩ (fun r_1 w H locs h_1 hP hD hS => ?_)
  rcases h_1 with ⟨gW, gE, gC, gG, gO, rfl, ⟨i, hi, rfl, hTB⟩ | ⟨rfl, h0⟩⟩
  · skip
    have hP : va_P g.1 vwCl (MW g h a (nI (rwL SL)) (nI n) (nI ll) (nI np) tu la wi (nI (rwL F)) (nI 0) fS fL fN fK fF gW gE gC gG gO) H := hP
    have hD : va_D A (MW g h a (nI (rwL SL)) (nI n) (nI ll) (nI np) tu la wi (nI (rwL F)) (nI 0) fS fL fN fK fF gW gE gC gG gO) := hD
    refine lv_istore_n (lv' := [(1, .int (nI (i))), (0, .ref (h))]) hx hb dX5_bestLetter_4 rfl hl (by decide) rfl (fun ls hl => ?_)
    refine lv_iload_n hx hb dX5_bestLetter_5 rfl (lv_at hl 0 rfl) ?_
    refine lv_iconst (v := -1) hx hb dX5_bestLetter_6 (by decide) ?_
    refine lv_icmp_ne (tgt := 14) hx hb dX5_bestLetter_7 (by decide) (fun c_7_1 => ?_) (fun c_7_1 => ?_)
    · skip
      refine lv_aload_n hx hb dX5_bestLetter_14 rfl (lv_at hl 1 rfl) ?_
      refine va_get (D := g.1) (ci := 3) (v := .ref (a 15)) (C := RX5) (T := TX5) (N := 19) hx hb hts hi_3 hown hK hP 0 rfl rfl 15 (by decide) f_39 (fun _ h9 => h9) rfl dX5_bestLetter_15 ?_
      refine lv_iload_n hx hb dX5_bestLetter_18 rfl (lv_at hl 0 rfl) ?_
      refine va_iald (n := 550) (f := gC) hx hb hK hP 8 0 rfl rfl (vp_in_nI (n := i) (by omega) (by decide)) dX5_bestLetter_19 ?_
      refine tp_i (congrArg gC (nI_clamp (n := i) (by omega))) ?_
      exact hret (gC i) (MW g h a (nI (rwL SL)) (nI n) (nI ll) (nI np) tu la wi (nI (rwL F)) (nI 0) fS fL fN fK fF gW gE gC gG gO) _ _ _ _ dX5_bestLetter_20 (⟨hTB.2.2.2.2, gW, gE, gC, gG, gO, rfl⟩) hP hD hS
    · skip
      exact absurd c_7_1 (nI_nem1 (by omega))
  · skip
    have hP : va_P g.1 vwCl (MW g h a (nI (rwL SL)) (nI n) (nI ll) (nI np) tu la wi (nI (rwL F)) (nI 0) fS fL fN fK fF gW gE gC gG gO) H := hP
    have hD : va_D A (MW g h a (nI (rwL SL)) (nI n) (nI ll) (nI np) tu la wi (nI (rwL F)) (nI 0) fS fL fN fK fF gW gE gC gG gO) := hD
    refine lv_istore_n (lv' := [(1, .int (-1)), (0, .ref (h))]) hx hb dX5_bestLetter_4 rfl hl (by decide) rfl (fun ls hl => ?_)
    refine lv_iload_n hx hb dX5_bestLetter_5 rfl (lv_at hl 0 rfl) ?_
    refine lv_iconst (v := -1) hx hb dX5_bestLetter_6 (by decide) ?_
    refine lv_icmp_ne (tgt := 14) hx hb dX5_bestLetter_7 (by decide) (fun c_7_2 => ?_) (fun c_7_2 => ?_)
    · skip
      exact absurd rfl c_7_2
    · skip
      refine lv_iconst (v := -1) hx hb dX5_bestLetter_10 (by decide) ?_
      refine lv_goto (tgt := 20) hx hb dX5_bestLetter_11 (by decide) ?_
      exact hret (-1) (MW g h a (nI (rwL SL)) (nI n) (nI ll) (nI np) tu la wi (nI (rwL F)) (nI 0) fS fL fN fK fF gW gE gC gG gO) _ _ _ _ dX5_bestLetter_20 (⟨ch_0 h0, gW, gE, gC, gG, gO, rfl⟩) hP hD hS

abbrev rm_X5_canWin : Room := { frames := 5, cells := 0, slots := 0, locals := 124 }
set_option maxHeartbeats 4000000 in
set_option maxRecDepth 100000 in
theorem c_X5_canWin (l : Launch) (g : GG) (h : Nat) (a : Nat → Nat) (SL n ll np : Nat) (tu la wi : Int32) (F : Nat) (th : Int32) (fS fL fN fK fF fW fE fC fG fO : Nat → Int32) (D : Nat → Nat) (hDm : MD fL fN D n) (hn : n ≤ 50) (hSL : RV SL) (hfS : MRw fS SL) (hFr : RV F) (hfF : MRw fF F) (hll : ll ≤ 10) (hp : np ≤ 4) : Ci l yX5_canWin wsX5_canWin rm_X5_canWin g [.ref (h)] (MW g h a (nI (rwL SL)) (nI n) (nI ll) (nI np) tu la wi (nI (rwL F)) th fS fL fN fK fF fW fE fC fG fO) (fun r w => (Bv r (0 < scP D n ll F)) ∧ ∃ (gW gE gC gG gO : Nat → Int32), w = (MW g h a (nI (rwL SL)) (nI n) (nI ll) (nI np) tu la wi (nI (rwL F)) (nI 0) fS fL fN fK fF gW gE gC gG gO)) := by
  refine Ci.ofZ (cc := cX5_canWin) (maxL := 2) (by decide) rfl (Nat.le_of_ble_eq_true rfl) ?_
  intro p e s m args below meth c A Z hx hb hml hts hown hK hA hret H locs ls hP hD hS hl
  have f_32 := hts (.fieldLink RX5 32 "GhostGameModel" "wins" "[Z") (by decide +kernel)
  have hi_3 : ∀ w ∈ wsX50, w ∈ wsX5_canWin := by decide +kernel
  have hl : lv_has ls 2 [(0, .ref (h))] := hl
  refine lv_aload_n hx hb dX5_canWin_0 rfl (lv_at hl 0 rfl) ?_
  refine call_iVW (As := []) (rest := []) ⟨hx, hb, hml, hown, hts⟩ (c_X5_looks l g h a SL n ll np tu la wi F th fS fL fN fK fF fW fE fC fG fO D hDm hn hSL hfS hFr hfF hll hp) (cwV 0 hts gX5_canWin_X5_looks rfl rfl rfl (by decide +kernel) ⟨Nat.le_of_ble_eq_true rfl, Nat.le_of_ble_eq_true rfl⟩) hP hK hD hS hA 0 rfl rfl rfl rfl hl.1 rfl (Nat.le_of_ble_eq_true rfl) dX5_canWin_1 ⟨Nat.le_refl _, Nat.le_refl _⟩ (fun r_1 w H locs h_1 hP hD hS => ?_)
  rcases h_1 with ⟨gW, gE, gC, gG, gO, rfl, ⟨i, hi, rfl, hTB⟩ | ⟨rfl, h0⟩⟩
  · skip
    have hP : va_P g.1 vwCl (MW g h a (nI (rwL SL)) (nI n) (nI ll) (nI np) tu la wi (nI (rwL F)) (nI 0) fS fL fN fK fF gW gE gC gG gO) H := hP
    have hD : va_D A (MW g h a (nI (rwL SL)) (nI n) (nI ll) (nI np) tu la wi (nI (rwL F)) (nI 0) fS fL fN fK fF gW gE gC gG gO) := hD
    refine lv_istore_n (lv' := [(1, .int (nI (i))), (0, .ref (h))]) hx hb dX5_canWin_4 rfl hl (by decide) rfl (fun ls hl => ?_)
    refine lv_iload_n hx hb dX5_canWin_5 rfl (lv_at hl 0 rfl) ?_
    refine lv_iconst (v := -1) hx hb dX5_canWin_6 (by decide) ?_
    refine lv_icmp_eq (tgt := 19) hx hb dX5_canWin_7 (by decide) (fun c_7_1 => ?_) (fun c_7_1 => ?_)
    · skip
      exact absurd c_7_1 (nI_nem1 (by omega))
    · skip
      refine lv_aload_n hx hb dX5_canWin_10 rfl (lv_at hl 1 rfl) ?_
      refine va_get (D := g.1) (ci := 3) (v := .ref (a 13)) (C := RX5) (T := TX5) (N := 19) hx hb hts hi_3 hown hK hP 0 rfl rfl 13 (by decide) f_32 (fun _ h9 => h9) rfl dX5_canWin_11 ?_
      refine lv_iload_n hx hb dX5_canWin_14 rfl (lv_at hl 0 rfl) ?_
      refine va_zald (n := 550) (f := gW) hx hb hK hP 6 2 rfl rfl (vp_in_nI (n := i) (by omega) (by decide)) dX5_canWin_15 ?_
      refine tp_i (congrArg gW (nI_clamp (n := i) (by omega))) ?_
      have hwb := hTB.2.2.1
      refine lv_if_eq (tgt := 23) hx hb dX5_canWin_16 (by decide) (fun c_16_2 => ?_) (fun c_16_2 => ?_)
      · skip
        have n_16_2 := Bv.f hwb c_16_2
        refine lv_iconst (v := nI 0) hx hb dX5_canWin_23 (by decide) ?_
        exact hret (nI (0)) (MW g h a (nI (rwL SL)) (nI n) (nI ll) (nI np) tu la wi (nI (rwL F)) (nI 0) fS fL fN fK fF gW gE gC gG gO) _ _ _ _ dX5_canWin_24 (Or.inl rfl) (⟨Bv.no n_16_2, gW, gE, gC, gG, gO, rfl⟩) hP hD hS
      · skip
        have n_16_2 := Bv.t hwb c_16_2
        refine lv_iconst (v := nI 1) hx hb dX5_canWin_19 (by decide) ?_
        refine lv_goto (tgt := 24) hx hb dX5_canWin_20 (by decide) ?_
        exact hret (nI (1)) (MW g h a (nI (rwL SL)) (nI n) (nI ll) (nI np) tu la wi (nI (rwL F)) (nI 0) fS fL fN fK fF gW gE gC gG gO) _ _ _ _ dX5_canWin_24 (Or.inr rfl) (⟨Bv.yes n_16_2, gW, gE, gC, gG, gO, rfl⟩) hP hD hS
  · skip
    have hP : va_P g.1 vwCl (MW g h a (nI (rwL SL)) (nI n) (nI ll) (nI np) tu la wi (nI (rwL F)) (nI 0) fS fL fN fK fF gW gE gC gG gO) H := hP
    have hD : va_D A (MW g h a (nI (rwL SL)) (nI n) (nI ll) (nI np) tu la wi (nI (rwL F)) (nI 0) fS fL fN fK fF gW gE gC gG gO) := hD
    refine lv_istore_n (lv' := [(1, .int (-1)), (0, .ref (h))]) hx hb dX5_canWin_4 rfl hl (by decide) rfl (fun ls hl => ?_)
    refine lv_iload_n hx hb dX5_canWin_5 rfl (lv_at hl 0 rfl) ?_
    refine lv_iconst (v := -1) hx hb dX5_canWin_6 (by decide) ?_
    refine lv_icmp_eq (tgt := 19) hx hb dX5_canWin_7 (by decide) (fun c_7_3 => ?_) (fun c_7_3 => ?_)
    · skip
      refine lv_iconst (v := nI 1) hx hb dX5_canWin_19 (by decide) ?_
      refine lv_goto (tgt := 24) hx hb dX5_canWin_20 (by decide) ?_
      exact hret (nI (1)) (MW g h a (nI (rwL SL)) (nI n) (nI ll) (nI np) tu la wi (nI (rwL F)) (nI 0) fS fL fN fK fF gW gE gC gG gO) _ _ _ _ dX5_canWin_24 (Or.inr rfl) (⟨Bv.yes (by rw [sc_0 h0]; decide), gW, gE, gC, gG, gO, rfl⟩) hP hD hS
    · skip
      exact absurd rfl c_7_3
