section COMB
/-- the law's row for a long answer -/
def OC (g : GG) (o : Nat) (fo : Nat → Int64) : Nat × va_E := (o, .inl (g.2.2.1, 1, .inr (.inl fo)))
/-- what both sides' values keep -/
def LI (SL : Nat) (k : Nat → Int32) (K : Nat → Nat) (np : Nat) (mv lm ch : Int32) (F : Nat) (f : Nat → Int64) (S : Nat → Nat) (cnt ll : Nat) (tu la wi : Int32) (fS fL fN fK fF : Nat → Int32) (D : Nat → Nat) : Prop := RV SL ∧ RV F ∧ GK k K ∧ np ≤ 4 ∧ DR f S cnt ∧ cnt ≤ 50 ∧ ll ≤ 10 ∧ MD fL fN D cnt ∧ MRw fS SL ∧ MRw fF F ∧ GK fK K ∧ WR S D cnt ∧ GR K np F mv lm ch tu la wi
/-- the two sides' cells, related; th: what the reference threw -/
def IV (g : GG) (x h : Nat) (wF wM : va_W) (th : Int32) : Prop := ∃ (q u d v : Nat) (SL : Nat) (k : Nat → Int32) (K : Nat → Nat) (np : Nat) (mv lm ch : Int32) (F : Nat) (f : Nat → Int64) (S : Nat → Nat) (cnt ll : Nat) (a : Nat → Nat) (tu la wi : Int32) (fS fL fN fK fF fW fE fC fG fO : Nat → Int32) (D : Nat → Nat), wF = FW g x (lN SL) q u k (nI np) mv lm ch (lN F) d v f (nI cnt) (nI ll) ∧ wM = MW g h a (nI (rwL SL)) (nI cnt) (nI ll) (nI np) tu la wi (nI (rwL F)) th fS fL fN fK fF fW fE fC fG fO ∧ LI SL k K np mv lm ch F f S cnt ll tu la wi fS fL fN fK fF D
def OS (g : GG) (x h : Nat) (w w2 : va_W) (r1 r2 : Int32) : Prop := ∃ th, IV g x h w w2 th ∧ r1 = r2
def OT (g : GG) (x h o : Nat) (rc r2 : Int32) (w w2 : va_W) : Prop := ∃ (fo' : Nat → Int64) (wF : va_W) (th : Int32), w = OC g o fo' :: wF ∧ IV g x h wF w2 th ∧ th = rc ∧ (rc = nI 0 → fo' 0 = r2.toInt64)
def OV (g : GG) (x h : Nat) (rc : Int32) (w w2 : va_W) : Prop := ∃ th, IV g x h w w2 th ∧ th = rc
variable {g : GG} {x q u d v : Nat} {SL : Nat} {k : Nat → Int32} {K : Nat → Nat} {np : Nat} {mv lm ch : Int32} {F : Nat} {f : Nat → Int64} {S : Nat → Nat} {cnt ll : Nat} {h : Nat} {a : Nat → Nat} {tu la wi th : Int32} {fS fL fN fK fF fW fE fC fG fO : Nat → Int32} {D : Nat → Nat} {o : Nat} {fo : Nat → Int64} {x0 r1 r2 rc : Int32} {w w2 : va_W}
theorem IV.of {sl fl : Int32} (hw : w = FW g x (lN SL) q u k (nI np) mv lm ch (lN F) d v f (nI cnt) (nI ll)) (hm : w2 = MW g h a sl (nI cnt) (nI ll) (nI np) tu la wi fl th fS fL fN fK fF fW fE fC fG fO) (es : sl = nI (rwL SL)) (ef : fl = nI (rwL F)) (L : LI SL k K np mv lm ch F f S cnt ll tu la wi fS fL fN fK fF D) : IV g x h w w2 th := by
  subst es ef
  exact ⟨_, _, _, _, _, _, _, _, _, _, _, _, _, _, _, _, _, _, _, _, _, _, _, _, _, _, _, _, _, _, _, hw, hm, L⟩
theorem Bv.eq {P Q : Prop} (h1 : Bv r1 P) (h2 : Bv r2 Q) (e : P ↔ Q) : r1 = r2 := by
  rcases h1 with ⟨rfl, p⟩ | ⟨rfl, p⟩ <;> rcases h2 with ⟨rfl, q⟩ | ⟨rfl, q⟩
  · rfl
  · exact absurd (e.mp p) q
  · exact absurd (e.mpr q) p
  · rfl
theorem chP.uniq {D : Nat → Nat} {n ll p : Nat} (h1 : chP D n ll p r1) (h2 : chP D n ll p r2) : r1 = r2 := by
  rcases h1 with ⟨a1, l1, p1, m1, rfl⟩ | ⟨m1, rfl⟩ <;> rcases h2 with ⟨a2, l2, p2, m2, rfl⟩ | ⟨m2, rfl⟩
  · by_cases e : a1 = a2
    · rw [e]
    · by_cases e2 : a1 < a2
      · exact absurd p1 (m2 _ e2)
      · exact absurd p2 (m1 _ (by omega))
  · exact absurd p1 (m2 _ l1)
  · exact absurd p2 (m1 _ l2)
  · rfl
theorem rwL0 : rwL 0 = 0 := by simp [rwL]
theorem nI_e {i j b : Nat} (hi : i < b) (hj : j < b) (hb : b ≤ 1000) (e1 : nI i = x0) (e2 : nI j = x0) : i = j := (nI_eq (by omega) (by omega)).mp (e1.trans e2.symm)
theorem o_wipe (L : LI SL k K np mv lm ch F f S cnt ll tu la wi fS fL fN fK fF D) (h1 : (fun r w => w = (FW g x (lN 0) q u k (nI np) mv lm ch (lN F) d v f (nI cnt) (nI ll)) ∧ r = nI (rwL SL)) r1 w) (h2 : (fun r w => r = nI (rwL SL) ∧ w = (MW g h a (nI 0) (nI cnt) (nI ll) (nI np) tu la wi (nI (rwL F)) (nI 0) fS fL fN fK fF fW fE fC fG fO)) r2 w2) : OS g x h w w2 r1 r2 := by
  obtain ⟨hSL, hF, hk, hp, hf, hc, hll, hM, hfS, hfF, hK, hW, hG⟩ := L
  obtain ⟨rfl, rfl⟩ := h1
  obtain ⟨rfl, rfl⟩ := h2
  exact ⟨_, IV.of (SL := 0) rfl rfl (by rw [rwL0]) rfl ⟨RV.zero, hF, hk, hp, hf, hc, hll, hM, MRw.nil _, hfF, hK, hW, hG⟩, rfl⟩
theorem o_slipLength (L : LI SL k K np mv lm ch F f S cnt ll tu la wi fS fL fN fK fF D) (h1 : (fun r w => w = (FW g x (lN SL) q u k (nI np) mv lm ch (lN F) d v f (nI cnt) (nI ll)) ∧ r = nI (rwL SL)) r1 w) (h2 : (fun r w => r = nI (rwL SL) ∧ w = (MW g h a (nI (rwL SL)) (nI cnt) (nI ll) (nI np) tu la wi (nI (rwL F)) (nI 0) fS fL fN fK fF fW fE fC fG fO)) r2 w2) : OS g x h w w2 r1 r2 := by
  obtain ⟨hSL, hF, hk, hp, hf, hc, hll, hM, hfS, hfF, hK, hW, hG⟩ := L
  obtain ⟨rfl, rfl⟩ := h1
  obtain ⟨rfl, rfl⟩ := h2
  exact ⟨_, IV.of rfl rfl rfl rfl ⟨hSL, hF, hk, hp, hf, hc, hll, hM, hfS, hfF, hK, hW, hG⟩, rfl⟩
theorem o_isWord (L : LI SL k K np mv lm ch F f S cnt ll tu la wi fS fL fN fK fF D) (h1 : (fun r w => w = (FW g x (lN SL) q u k (nI np) mv lm ch (lN F) d v f (nI cnt) (nI ll)) ∧ Bv r (inS S cnt SL)) r1 w) (h2 : (fun r w => w = (MW g h a (nI (rwL SL)) (nI cnt) (nI ll) (nI np) tu la wi (nI (rwL F)) (nI 0) fS fL fN fK fF fW fE fC fG fO) ∧ Bv r (∃ j, j < cnt ∧ D j = SL)) r2 w2) : OS g x h w w2 r1 r2 := by
  obtain ⟨hSL, hF, hk, hp, hf, hc, hll, hM, hfS, hfF, hK, hW, hG⟩ := L
  obtain ⟨rfl, h1⟩ := h1
  obtain ⟨rfl, h2⟩ := h2
  exact ⟨_, IV.of rfl rfl rfl rfl ⟨hSL, hF, hk, hp, hf, hc, hll, hM, hfS, hfF, hK, hW, hG⟩, Bv.eq h1 h2 (hW.1.ins SL)⟩
theorem o_words (L : LI SL k K np mv lm ch F f S cnt ll tu la wi fS fL fN fK fF D) (h1 : (fun r w => w = (FW g x (lN SL) q u k (nI np) mv lm ch (lN F) d v f (nI cnt) (nI ll)) ∧ r = nI cnt) r1 w) (h2 : (fun r w => r = nI cnt ∧ w = (MW g h a (nI (rwL SL)) (nI cnt) (nI ll) (nI np) tu la wi (nI (rwL F)) (nI 0) fS fL fN fK fF fW fE fC fG fO)) r2 w2) : OS g x h w w2 r1 r2 := by
  obtain ⟨hSL, hF, hk, hp, hf, hc, hll, hM, hfS, hfF, hK, hW, hG⟩ := L
  obtain ⟨rfl, rfl⟩ := h1
  obtain ⟨rfl, rfl⟩ := h2
  exact ⟨_, IV.of rfl rfl rfl rfl ⟨hSL, hF, hk, hp, hf, hc, hll, hM, hfS, hfF, hK, hW, hG⟩, rfl⟩
theorem o_wordsFromSlip (L : LI SL k K np mv lm ch F f S cnt ll tu la wi fS fL fN fK fF D) (h1 : (fun r w => w = (FW g x (lN SL) q u k (nI np) mv lm ch (lN F) d v f (nI cnt) (nI ll)) ∧ r = nI (fb_ct (fun i => bgB (S i) SL) cnt)) r1 w) (h2 : (fun r w => r = nI (fb_ct (fun i => bgB (D i) SL) cnt) ∧ w = (MW g h a (nI (rwL SL)) (nI cnt) (nI ll) (nI np) tu la wi (nI (rwL F)) (nI 0) fS fL fN fK fF fW fE fC fG fO)) r2 w2) : OS g x h w w2 r1 r2 := by
  obtain ⟨hSL, hF, hk, hp, hf, hc, hll, hM, hfS, hfF, hK, hW, hG⟩ := L
  obtain ⟨rfl, rfl⟩ := h1
  obtain ⟨rfl, rfl⟩ := h2
  exact ⟨_, IV.of rfl rfl rfl rfl ⟨hSL, hF, hk, hp, hf, hc, hll, hM, hfS, hfF, hK, hW, hG⟩, congrArg nI (hW.1 (fun q => bgB q SL))⟩
theorem o_beginnings (L : LI SL k K np mv lm ch F f S cnt ll tu la wi fS fL fN fK fF D) (h1 : (fun r w => w = (FW g x (lN SL) q u k (nI np) mv lm ch (lN F) d v f (nI cnt) (nI ll)) ∧ r = nI (bgnN S cnt)) r1 w) (h2 : (fun r w => r = nI (if cnt = 0 then 1 else bgmD D cnt) ∧ w = (MW g h a (nI (rwL SL)) (nI cnt) (nI ll) (nI np) tu la wi (nI (rwL F)) (nI 0) fS fL fN fK fF fW fE fC fG fO)) r2 w2) : OS g x h w w2 r1 r2 := by
  obtain ⟨hSL, hF, hk, hp, hf, hc, hll, hM, hfS, hfF, hK, hW, hG⟩ := L
  obtain ⟨rfl, rfl⟩ := h1
  obtain ⟨rfl, rfl⟩ := h2
  exact ⟨_, IV.of rfl rfl rfl rfl ⟨hSL, hF, hk, hp, hf, hc, hll, hM, hfS, hfF, hK, hW, hG⟩, congrArg nI (hW.beg (fun i hi => (hf i hi).2) (fun i hi => (hM i hi).1))⟩
theorem o_turn (L : LI SL k K np mv lm ch F f S cnt ll tu la wi fS fL fN fK fF D) (h1 : (fun r w => w = (FW g x (lN SL) q u k (nI np) mv lm ch (lN F) d v f (nI cnt) (nI ll)) ∧ r = mv) r1 w) (h2 : (fun r w => (((0 < np ∧ wi = -1) ∧ r = tu) ∨ (¬ (0 < np ∧ wi = -1) ∧ r = -1)) ∧ w = (MW g h a (nI (rwL SL)) (nI cnt) (nI ll) (nI np) tu la wi (nI (rwL F)) (nI 0) fS fL fN fK fF fW fE fC fG fO)) r2 w2) : OS g x h w w2 r1 r2 := by
  obtain ⟨hSL, hF, hk, hp, hf, hc, hll, hM, hfS, hfF, hK, hW, hG⟩ := L
  obtain ⟨rfl, rfl⟩ := h1
  obtain ⟨h2, rfl⟩ := h2
  refine ⟨_, IV.of rfl rfl rfl rfl ⟨hSL, hF, hk, hp, hf, hc, hll, hM, hfS, hfF, hK, hW, hG⟩, ?_⟩
  rcases h2 with ⟨hg, rfl⟩ | ⟨hg, rfl⟩
  · exact (hG.2.1 hg.1 hg.2).1
  · exact (hG.2.2.1 hg).1
theorem o_winner (L : LI SL k K np mv lm ch F f S cnt ll tu la wi fS fL fN fK fF D) (h1 : (fun r w => w = (FW g x (lN SL) q u k (nI np) mv lm ch (lN F) d v f (nI cnt) (nI ll)) ∧ r = ch) r1 w) (h2 : (fun r w => r = wi ∧ w = (MW g h a (nI (rwL SL)) (nI cnt) (nI ll) (nI np) tu la wi (nI (rwL F)) (nI 0) fS fL fN fK fF fW fE fC fG fO)) r2 w2) : OS g x h w w2 r1 r2 := by
  obtain ⟨hSL, hF, hk, hp, hf, hc, hll, hM, hfS, hfF, hK, hW, hG⟩ := L
  obtain ⟨rfl, rfl⟩ := h1
  obtain ⟨rfl, rfl⟩ := h2
  exact ⟨_, IV.of rfl rfl rfl rfl ⟨hSL, hF, hk, hp, hf, hc, hll, hM, hfS, hfF, hK, hW, hG⟩, hG.1⟩
theorem o_players (L : LI SL k K np mv lm ch F f S cnt ll tu la wi fS fL fN fK fF D) (h1 : (fun r w => w = (FW g x (lN SL) q u k (nI np) mv lm ch (lN F) d v f (nI cnt) (nI ll)) ∧ r = nI np) r1 w) (h2 : (fun r w => r = nI np ∧ w = (MW g h a (nI (rwL SL)) (nI cnt) (nI ll) (nI np) tu la wi (nI (rwL F)) (nI 0) fS fL fN fK fF fW fE fC fG fO)) r2 w2) : OS g x h w w2 r1 r2 := by
  obtain ⟨hSL, hF, hk, hp, hf, hc, hll, hM, hfS, hfF, hK, hW, hG⟩ := L
  obtain ⟨rfl, rfl⟩ := h1
  obtain ⟨rfl, rfl⟩ := h2
  exact ⟨_, IV.of rfl rfl rfl rfl ⟨hSL, hF, hk, hp, hf, hc, hll, hM, hfS, hfF, hK, hW, hG⟩, rfl⟩
theorem o_fragmentLength (L : LI SL k K np mv lm ch F f S cnt ll tu la wi fS fL fN fK fF D) (h1 : (fun r w => w = (FW g x (lN SL) q u k (nI np) mv lm ch (lN F) d v f (nI cnt) (nI ll)) ∧ r = nI (rwL F)) r1 w) (h2 : (fun r w => r = nI (rwL F) ∧ w = (MW g h a (nI (rwL SL)) (nI cnt) (nI ll) (nI np) tu la wi (nI (rwL F)) (nI 0) fS fL fN fK fF fW fE fC fG fO)) r2 w2) : OS g x h w w2 r1 r2 := by
  obtain ⟨hSL, hF, hk, hp, hf, hc, hll, hM, hfS, hfF, hK, hW, hG⟩ := L
  obtain ⟨rfl, rfl⟩ := h1
  obtain ⟨rfl, rfl⟩ := h2
  exact ⟨_, IV.of rfl rfl rfl rfl ⟨hSL, hF, hk, hp, hf, hc, hll, hM, hfS, hfF, hK, hW, hG⟩, rfl⟩
theorem o_openLetters (L : LI SL k K np mv lm ch F f S cnt ll tu la wi fS fL fN fK fF D) (h1 : (fun r w => w = (FW g x (lN SL) q u k (nI np) mv lm ch (lN F) d v f (nI cnt) (nI ll)) ∧ r = nI (opM S ll F cnt)) r1 w) (h2 : (fun r w => (r = nI (opM D ll F cnt)) ∧ ∃ (gW gE gC gG gO : Nat → Int32), w = (MW g h a (nI (rwL SL)) (nI cnt) (nI ll) (nI np) tu la wi (nI (rwL F)) (nI 0) fS fL fN fK fF gW gE gC gG gO)) r2 w2) : OS g x h w w2 r1 r2 := by
  obtain ⟨hSL, hF, hk, hp, hf, hc, hll, hM, hfS, hfF, hK, hW, hG⟩ := L
  obtain ⟨rfl, rfl⟩ := h1
  obtain ⟨rfl, gW, gE, gC, gG, gO, rfl⟩ := h2
  exact ⟨_, IV.of rfl rfl rfl rfl ⟨hSL, hF, hk, hp, hf, hc, hll, hM, hfS, hfF, hK, hW, hG⟩, congrArg nI (hW.1.op ll F)⟩
theorem o_winningLetters (L : LI SL k K np mv lm ch F f S cnt ll tu la wi fS fL fN fK fF D) (h1 : (fun r w => w = (FW g x (lN SL) q u k (nI np) mv lm ch (lN F) d v f (nI cnt) (nI ll)) ∧ r = nI (scW (fun F => opM S ll F cnt) (hwB S cnt ll) (9 - rwL F) F 26)) r1 w) (h2 : (fun r w => (r = nI (gmP D cnt ll F)) ∧ ∃ (gW gE gC gG gO : Nat → Int32), w = (MW g h a (nI (rwL SL)) (nI cnt) (nI ll) (nI np) tu la wi (nI (rwL F)) (nI 0) fS fL fN fK fF gW gE gC gG gO)) r2 w2) : OS g x h w w2 r1 r2 := by
  obtain ⟨hSL, hF, hk, hp, hf, hc, hll, hM, hfS, hfF, hK, hW, hG⟩ := L
  obtain ⟨rfl, rfl⟩ := h1
  obtain ⟨rfl, gW, gE, gC, gG, gO, rfl⟩ := h2
  exact ⟨_, IV.of rfl rfl rfl rfl ⟨hSL, hF, hk, hp, hf, hc, hll, hM, hfS, hfF, hK, hW, hG⟩, congrArg nI (by unfold gmP; rw [hW.1.opf ll, hW.1.hw ll])⟩
theorem o_canWin (L : LI SL k K np mv lm ch F f S cnt ll tu la wi fS fL fN fK fF D) (h1 : (fun r w => w = (FW g x (lN SL) q u k (nI np) mv lm ch (lN F) d v f (nI cnt) (nI ll)) ∧ Bv r (0 < sc (fun F => opM S ll F cnt) (hwB S cnt ll) (10 - rwL F) F)) r1 w) (h2 : (fun r w => (Bv r (0 < scP D cnt ll F)) ∧ ∃ (gW gE gC gG gO : Nat → Int32), w = (MW g h a (nI (rwL SL)) (nI cnt) (nI ll) (nI np) tu la wi (nI (rwL F)) (nI 0) fS fL fN fK fF gW gE gC gG gO)) r2 w2) : OS g x h w w2 r1 r2 := by
  obtain ⟨hSL, hF, hk, hp, hf, hc, hll, hM, hfS, hfF, hK, hW, hG⟩ := L
  obtain ⟨rfl, h1⟩ := h1
  obtain ⟨h2, gW, gE, gC, gG, gO, rfl⟩ := h2
  exact ⟨_, IV.of rfl rfl rfl rfl ⟨hSL, hF, hk, hp, hf, hc, hll, hM, hfS, hfF, hK, hW, hG⟩, Bv.eq h1 h2 (by unfold scP; rw [hW.1.opf ll, hW.1.hw ll])⟩
theorem o_end (L : LI SL k K np mv lm ch F f S cnt ll tu la wi fS fL fN fK fF D) (h1 : (fun r w => w = (FW g x (lN SL) q u k (nI np) mv lm ch (lN F) d v f (nI cnt) (nI ll)) ∧ r = nI (100 - (sc (fun F => opM S ll F cnt) (hwB S cnt ll) (10 - rwL F) F).natAbs)) r1 w) (h2 : (fun r w => (r = nI (100 - (scP D cnt ll F).natAbs)) ∧ ∃ (gW gE gC gG gO : Nat → Int32), w = (MW g h a (nI (rwL SL)) (nI cnt) (nI ll) (nI np) tu la wi (nI (rwL F)) (nI 0) fS fL fN fK fF gW gE gC gG gO)) r2 w2) : OS g x h w w2 r1 r2 := by
  obtain ⟨hSL, hF, hk, hp, hf, hc, hll, hM, hfS, hfF, hK, hW, hG⟩ := L
  obtain ⟨rfl, rfl⟩ := h1
  obtain ⟨rfl, gW, gE, gC, gG, gO, rfl⟩ := h2
  exact ⟨_, IV.of rfl rfl rfl rfl ⟨hSL, hF, hk, hp, hf, hc, hll, hM, hfS, hfF, hK, hW, hG⟩, congrArg nI (by unfold scP; rw [hW.1.opf ll, hW.1.hw ll])⟩
theorem o_bestLetter (L : LI SL k K np mv lm ch F f S cnt ll tu la wi fS fL fN fK fF D) (h1 : (fun r w => w = (FW g x (lN SL) q u k (nI np) mv lm ch (lN F) d v f (nI cnt) (nI ll)) ∧ ((∃ a, a < 26 ∧ ((opM S ll F cnt).testBit a = true ∧ scL (fun F => opM S ll F cnt) (hwB S cnt ll) (9 - rwL F) F a = sc (fun F => opM S ll F cnt) (hwB S cnt ll) (10 - rwL F) F) ∧ (∀ b, b < a → ¬ ((opM S ll F cnt).testBit b = true ∧ scL (fun F => opM S ll F cnt) (hwB S cnt ll) (9 - rwL F) F b = sc (fun F => opM S ll F cnt) (hwB S cnt ll) (10 - rwL F) F)) ∧ r = nI a) ∨ ((∀ b, b < 26 → ¬ ((opM S ll F cnt).testBit b = true ∧ scL (fun F => opM S ll F cnt) (hwB S cnt ll) (9 - rwL F) F b = sc (fun F => opM S ll F cnt) (hwB S cnt ll) (10 - rwL F) F)) ∧ r = -1))) r1 w) (h2 : (fun r w => (chP D cnt ll F r) ∧ ∃ (gW gE gC gG gO : Nat → Int32), w = (MW g h a (nI (rwL SL)) (nI cnt) (nI ll) (nI np) tu la wi (nI (rwL F)) (nI 0) fS fL fN fK fF gW gE gC gG gO)) r2 w2) : OS g x h w w2 r1 r2 := by
  obtain ⟨hSL, hF, hk, hp, hf, hc, hll, hM, hfS, hfF, hK, hW, hG⟩ := L
  obtain ⟨rfl, h1⟩ := h1
  obtain ⟨h2, gW, gE, gC, gG, gO, rfl⟩ := h2
  rw [hW.1.op ll F, hW.1.opf ll, hW.1.hw ll] at h1
  exact ⟨_, IV.of rfl rfl rfl rfl ⟨hSL, hF, hk, hp, hf, hc, hll, hM, hfS, hfF, hK, hW, hG⟩, chP.uniq (show chP D cnt ll F r1 from h1) h2⟩
theorem o_waysToPlay (L : LI SL k K np mv lm ch F f S cnt ll tu la wi fS fL fN fK fF D) (h1 : (fun r w => w = (FW g x (lN SL) q u k (nI np) mv lm ch (lN F) d v f (nI cnt) (nI ll)) ∧ r = nI (fb_ct (fun i => bB (wyP S cnt ll F (S i))) cnt)) r1 w) (h2 : (fun r w => r = nI (fb_ct (fun i => bB (wyP D cnt ll F (D i))) cnt) ∧ w = (MW g h a (nI (rwL SL)) (nI cnt) (nI ll) (nI np) tu la wi (nI (rwL F)) (nI 0) fS fL fN fK fF fW fE fC fG fO)) r2 w2) : OS g x h w w2 r1 r2 := by
  obtain ⟨hSL, hF, hk, hp, hf, hc, hll, hM, hfS, hfF, hK, hW, hG⟩ := L
  obtain ⟨rfl, rfl⟩ := h1
  obtain ⟨rfl, rfl⟩ := h2
  exact ⟨_, IV.of rfl rfl rfl rfl ⟨hSL, hF, hk, hp, hf, hc, hll, hM, hfS, hfF, hK, hW, hG⟩, congrArg nI (hW.1.ways1 ll F)⟩
theorem o_waysToWin (L : LI SL k K np mv lm ch F f S cnt ll tu la wi fS fL fN fK fF D) (h1 : (fun r w => w = (FW g x (lN SL) q u k (nI np) mv lm ch (lN F) d v f (nI cnt) (nI ll)) ∧ r = nI (fb_ct (fun i => bB (wyP S cnt ll F (S i) ∧ (rwL (S i) - rwL F) % 2 = 0)) cnt)) r1 w) (h2 : (fun r w => r = nI (fb_ct (fun i => bB (wyP D cnt ll F (D i) ∧ (rwL (D i) - rwL F) % 2 = 0)) cnt) ∧ w = (MW g h a (nI (rwL SL)) (nI cnt) (nI ll) (nI np) tu la wi (nI (rwL F)) (nI 0) fS fL fN fK fF fW fE fC fG fO)) r2 w2) : OS g x h w w2 r1 r2 := by
  obtain ⟨hSL, hF, hk, hp, hf, hc, hll, hM, hfS, hfF, hK, hW, hG⟩ := L
  obtain ⟨rfl, rfl⟩ := h1
  obtain ⟨rfl, rfl⟩ := h2
  exact ⟨_, IV.of rfl rfl rfl rfl ⟨hSL, hF, hk, hp, hf, hc, hll, hM, hfS, hfF, hK, hW, hG⟩, congrArg nI (hW.1.ways ll F (fun W => (rwL W - rwL F) % 2 = 0))⟩
end COMB
