section COMB
/-- what both sides' values keep -/
def LI (SL : Nat) (k : Nat → Int32) (K : Nat → Nat) (np : Nat) (mv lm ch : Int32) (F : Nat) (f : Nat → Int64) (S : Nat → Nat) (cnt ll : Nat) (tu la wi : Int32) (fS fL fN fK fF : Nat → Int32) (D : Nat → Nat) : Prop := RV SL ∧ RV F ∧ GK k K ∧ np ≤ 4 ∧ DR f S cnt ∧ cnt ≤ 50 ∧ ll ≤ 10 ∧ MD fL fN D cnt ∧ MRw fS SL ∧ MRw fF F ∧ GK fK K ∧ WR S D cnt ∧ GR K np F mv lm ch tu la wi
/-- the two sides' cells, related; th: what the reference threw -/
def IV (g : GG) (x h : Nat) (wF wM : va_W) (th : Int32) : Prop := ∃ (q u d v : Nat) (SL : Nat) (k : Nat → Int32) (K : Nat → Nat) (np : Nat) (mv lm ch : Int32) (F : Nat) (f : Nat → Int64) (S : Nat → Nat) (cnt ll : Nat) (a : Nat → Nat) (tu la wi : Int32) (fS fL fN fK fF fW fE fC fG fO : Nat → Int32) (D : Nat → Nat), wF = FW g x (lN SL) q u k (nI np) mv lm ch (lN F) d v f (nI cnt) (nI ll) ∧ wM = MW g h a (nI (rwL SL)) (nI cnt) (nI ll) (nI np) tu la wi (nI (rwL F)) th fS fL fN fK fF fW fE fC fG fO ∧ LI SL k K np mv lm ch F f S cnt ll tu la wi fS fL fN fK fF D
def OS (g : GG) (x h : Nat) (w w2 : va_W) (r1 r2 : Int32) : Prop := ∃ th, IV g x h w w2 th ∧ r1 = r2
def OT (g : GG) (x h o : Nat) (rc r2 : Int32) (w w2 : va_W) : Prop := ∃ (fo' : Nat → Int64) (wF : va_W) (th : Int32), w = OC g o fo' :: wF ∧ IV g x h wF w2 th ∧ th = rc ∧ (rc = nI 0 → fo' 0 = r2.toInt64)
def OV (g : GG) (x h : Nat) (rc : Int32) (w w2 : va_W) : Prop := ∃ th, IV g x h w w2 th ∧ th = rc
variable {g : GG} {x q u d v : Nat} {SL : Nat} {k : Nat → Int32} {K : Nat → Nat} {np : Nat} {mv lm ch : Int32} {F : Nat} {f : Nat → Int64} {S : Nat → Nat} {cnt ll : Nat} {h : Nat} {a : Nat → Nat} {tu la wi th : Int32} {fS fL fN fK fF fW fE fC fG fO : Nat → Int32} {D : Nat → Nat} {o : Nat} {fo : Nat → Int64} {x0 r1 r2 rc : Int32} {w w2 : va_W}
theorem IV.of {sl fl : Int32} (hw : w = FW g x (lN SL) q u k (nI np) mv lm ch (lN F) d v f (nI cnt) (nI ll)) (hm : w2 = MW g h a sl (nI cnt) (nI ll) (nI np) tu la wi fl th fS fL fN fK fF fW fE fC fG fO) (es : sl = nI (rwL SL)) (ef : fl = nI (rwL F)) (L : LI SL k K np mv lm ch F f S cnt ll tu la wi fS fL fN fK fF D) : IV g x h w w2 th := by
  subst es ef
  exact ⟨_, _, _, _, _, _, _, _, _, _, _, _, _, _, _, _, _, _, _, _, _, _, _, _, _, _, _, _, _, _, _, hw, hm, L⟩
theorem Bv.eq {P Q : Prop} (h1 : Bv r1 P) (h2 : Bv r2 Q) (e : P ↔ Q) : r1 = r2 := by
  rcases h1 with ⟨rfl, p⟩ | ⟨rfl, p⟩ <;> rcases h2 with ⟨rfl, q⟩ | ⟨rfl, q⟩
  · rfl
  · exact absurd (e.mp p) q
  · exact absurd (e.mpr q) p
  · rfl
theorem chP.uniq {D : Nat → Nat} {n ll p : Nat} (h1 : chP D n ll p r1) (h2 : chP D n ll p r2) : r1 = r2 := by
  rcases h1 with ⟨a1, l1, p1, m1, rfl⟩ | ⟨m1, rfl⟩ <;> rcases h2 with ⟨a2, l2, p2, m2, rfl⟩ | ⟨m2, rfl⟩
  · by_cases e : a1 = a2
    · rw [e]
    · by_cases e2 : a1 < a2
      · exact absurd p1 (m2 _ e2)
      · exact absurd p2 (m1 _ (by omega))
  · exact absurd p1 (m2 _ l1)
  · exact absurd p2 (m1 _ l2)
  · rfl
theorem rwL0 : rwL 0 = 0 := by simp [rwL]
theorem nI_e {i j b : Nat} (hi : i < b) (hj : j < b) (hb : b ≤ 1000) (e1 : nI i = x0) (e2 : nI j = x0) : i = j := (nI_eq (by omega) (by omega)).mp (e1.trans e2.symm)
theorem o_wipe (L : LI SL k K np mv lm ch F f S cnt ll tu la wi fS fL fN fK fF D) (h1 : (fun r w => w = (FW g x (lN 0) q u k (nI np) mv lm ch (lN F) d v f (nI cnt) (nI ll)) ∧ r = nI (rwL SL)) r1 w) (h2 : (fun r w => r = nI (rwL SL) ∧ w = (MW g h a (nI 0) (nI cnt) (nI ll) (nI np) tu la wi (nI (rwL F)) (nI 0) fS fL fN fK fF fW fE fC fG fO)) r2 w2) : OS g x h w w2 r1 r2 := by
  obtain ⟨hSL, hF, hk, hp, hf, hc, hll, hM, hfS, hfF, hK, hW, hG⟩ := L
  obtain ⟨rfl, rfl⟩ := h1
  obtain ⟨rfl, rfl⟩ := h2
  exact ⟨_, IV.of (SL := 0) rfl rfl (by rw [rwL0]) rfl ⟨RV.zero, hF, hk, hp, hf, hc, hll, hM, MRw.nil _, hfF, hK, hW, hG⟩, rfl⟩
theorem o_slipLength (L : LI SL k K np mv lm ch F f S cnt ll tu la wi fS fL fN fK fF D) (h1 : (fun r w => w = (FW g x (lN SL) q u k (nI np) mv lm ch (lN F) d v f (nI cnt) (nI ll)) ∧ r = nI (rwL SL)) r1 w) (h2 : (fun r w => r = nI (rwL SL) ∧ w = (MW g h a (nI (rwL SL)) (nI cnt) (nI ll) (nI np) tu la wi (nI (rwL F)) (nI 0) fS fL fN fK fF fW fE fC fG fO)) r2 w2) : OS g x h w w2 r1 r2 := by
  obtain ⟨hSL, hF, hk, hp, hf, hc, hll, hM, hfS, hfF, hK, hW, hG⟩ := L
  obtain ⟨rfl, rfl⟩ := h1
  obtain ⟨rfl, rfl⟩ := h2
  exact ⟨_, IV.of rfl rfl rfl rfl ⟨hSL, hF, hk, hp, hf, hc, hll, hM, hfS, hfF, hK, hW, hG⟩, rfl⟩
theorem o_isWord (L : LI SL k K np mv lm ch F f S cnt ll tu la wi fS fL fN fK fF D) (h1 : (fun r w => w = (FW g x (lN SL) q u k (nI np) mv lm ch (lN F) d v f (nI cnt) (nI ll)) ∧ Bv r (inS S cnt SL)) r1 w) (h2 : (fun r w => w = (MW g h a (nI (rwL SL)) (nI cnt) (nI ll) (nI np) tu la wi (nI (rwL F)) (nI 0) fS fL fN fK fF fW fE fC fG fO) ∧ Bv r (∃ j, j < cnt ∧ D j = SL)) r2 w2) : OS g x h w w2 r1 r2 := by
  obtain ⟨hSL, hF, hk, hp, hf, hc, hll, hM, hfS, hfF, hK, hW, hG⟩ := L
  obtain ⟨rfl, h1⟩ := h1
  obtain ⟨rfl, h2⟩ := h2
  exact ⟨_, IV.of rfl rfl rfl rfl ⟨hSL, hF, hk, hp, hf, hc, hll, hM, hfS, hfF, hK, hW, hG⟩, Bv.eq h1 h2 (hW.1.ins SL)⟩
theorem o_words (L : LI SL k K np mv lm ch F f S cnt ll tu la wi fS fL fN fK fF D) (h1 : (fun r w => w = (FW g x (lN SL) q u k (nI np) mv lm ch (lN F) d v f (nI cnt) (nI ll)) ∧ r = nI cnt) r1 w) (h2 : (fun r w => r = nI cnt ∧ w = (MW g h a (nI (rwL SL)) (nI cnt) (nI ll) (nI np) tu la wi (nI (rwL F)) (nI 0) fS fL fN fK fF fW fE fC fG fO)) r2 w2) : OS g x h w w2 r1 r2 := by
  obtain ⟨hSL, hF, hk, hp, hf, hc, hll, hM, hfS, hfF, hK, hW, hG⟩ := L
  obtain ⟨rfl, rfl⟩ := h1
  obtain ⟨rfl, rfl⟩ := h2
  exact ⟨_, IV.of rfl rfl rfl rfl ⟨hSL, hF, hk, hp, hf, hc, hll, hM, hfS, hfF, hK, hW, hG⟩, rfl⟩
theorem o_wordsFromSlip (L : LI SL k K np mv lm ch F f S cnt ll tu la wi fS fL fN fK fF D) (h1 : (fun r w => w = (FW g x (lN SL) q u k (nI np) mv lm ch (lN F) d v f (nI cnt) (nI ll)) ∧ r = nI (fb_ct (fun i => bgB (S i) SL) cnt)) r1 w) (h2 : (fun r w => r = nI (fb_ct (fun i => bgB (D i) SL) cnt) ∧ w = (MW g h a (nI (rwL SL)) (nI cnt) (nI ll) (nI np) tu la wi (nI (rwL F)) (nI 0) fS fL fN fK fF fW fE fC fG fO)) r2 w2) : OS g x h w w2 r1 r2 := by
  obtain ⟨hSL, hF, hk, hp, hf, hc, hll, hM, hfS, hfF, hK, hW, hG⟩ := L
  obtain ⟨rfl, rfl⟩ := h1
  obtain ⟨rfl, rfl⟩ := h2
  exact ⟨_, IV.of rfl rfl rfl rfl ⟨hSL, hF, hk, hp, hf, hc, hll, hM, hfS, hfF, hK, hW, hG⟩, congrArg nI (hW.1 (fun q => bgB q SL))⟩
theorem o_beginnings (L : LI SL k K np mv lm ch F f S cnt ll tu la wi fS fL fN fK fF D) (h1 : (fun r w => w = (FW g x (lN SL) q u k (nI np) mv lm ch (lN F) d v f (nI cnt) (nI ll)) ∧ r = nI (bgnN S cnt)) r1 w) (h2 : (fun r w => r = nI (if cnt = 0 then 1 else bgmD D cnt) ∧ w = (MW g h a (nI (rwL SL)) (nI cnt) (nI ll) (nI np) tu la wi (nI (rwL F)) (nI 0) fS fL fN fK fF fW fE fC fG fO)) r2 w2) : OS g x h w w2 r1 r2 := by
  obtain ⟨hSL, hF, hk, hp, hf, hc, hll, hM, hfS, hfF, hK, hW, hG⟩ := L
  obtain ⟨rfl, rfl⟩ := h1
  obtain ⟨rfl, rfl⟩ := h2
  exact ⟨_, IV.of rfl rfl rfl rfl ⟨hSL, hF, hk, hp, hf, hc, hll, hM, hfS, hfF, hK, hW, hG⟩, congrArg nI (hW.beg (fun i hi => (hf i hi).2) (fun i hi => (hM i hi).1))⟩
theorem o_turn (L : LI SL k K np mv lm ch F f S cnt ll tu la wi fS fL fN fK fF D) (h1 : (fun r w => w = (FW g x (lN SL) q u k (nI np) mv lm ch (lN F) d v f (nI cnt) (nI ll)) ∧ r = mv) r1 w) (h2 : (fun r w => (((0 < np ∧ wi = -1) ∧ r = tu) ∨ (¬ (0 < np ∧ wi = -1) ∧ r = -1)) ∧ w = (MW g h a (nI (rwL SL)) (nI cnt) (nI ll) (nI np) tu la wi (nI (rwL F)) (nI 0) fS fL fN fK fF fW fE fC fG fO)) r2 w2) : OS g x h w w2 r1 r2 := by
  obtain ⟨hSL, hF, hk, hp, hf, hc, hll, hM, hfS, hfF, hK, hW, hG⟩ := L
  obtain ⟨rfl, rfl⟩ := h1
  obtain ⟨h2, rfl⟩ := h2
  refine ⟨_, IV.of rfl rfl rfl rfl ⟨hSL, hF, hk, hp, hf, hc, hll, hM, hfS, hfF, hK, hW, hG⟩, ?_⟩
  rcases h2 with ⟨hg, rfl⟩ | ⟨hg, rfl⟩
  · exact (hG.2.1 hg.1 hg.2).1
  · exact (hG.2.2.1 hg).1
theorem o_winner (L : LI SL k K np mv lm ch F f S cnt ll tu la wi fS fL fN fK fF D) (h1 : (fun r w => w = (FW g x (lN SL) q u k (nI np) mv lm ch (lN F) d v f (nI cnt) (nI ll)) ∧ r = ch) r1 w) (h2 : (fun r w => r = wi ∧ w = (MW g h a (nI (rwL SL)) (nI cnt) (nI ll) (nI np) tu la wi (nI (rwL F)) (nI 0) fS fL fN fK fF fW fE fC fG fO)) r2 w2) : OS g x h w w2 r1 r2 := by
  obtain ⟨hSL, hF, hk, hp, hf, hc, hll, hM, hfS, hfF, hK, hW, hG⟩ := L
  obtain ⟨rfl, rfl⟩ := h1
  obtain ⟨rfl, rfl⟩ := h2
  exact ⟨_, IV.of rfl rfl rfl rfl ⟨hSL, hF, hk, hp, hf, hc, hll, hM, hfS, hfF, hK, hW, hG⟩, hG.1⟩
theorem o_players (L : LI SL k K np mv lm ch F f S cnt ll tu la wi fS fL fN fK fF D) (h1 : (fun r w => w = (FW g x (lN SL) q u k (nI np) mv lm ch (lN F) d v f (nI cnt) (nI ll)) ∧ r = nI np) r1 w) (h2 : (fun r w => r = nI np ∧ w = (MW g h a (nI (rwL SL)) (nI cnt) (nI ll) (nI np) tu la wi (nI (rwL F)) (nI 0) fS fL fN fK fF fW fE fC fG fO)) r2 w2) : OS g x h w w2 r1 r2 := by
  obtain ⟨hSL, hF, hk, hp, hf, hc, hll, hM, hfS, hfF, hK, hW, hG⟩ := L
  obtain ⟨rfl, rfl⟩ := h1
  obtain ⟨rfl, rfl⟩ := h2
  exact ⟨_, IV.of rfl rfl rfl rfl ⟨hSL, hF, hk, hp, hf, hc, hll, hM, hfS, hfF, hK, hW, hG⟩, rfl⟩
theorem o_fragmentLength (L : LI SL k K np mv lm ch F f S cnt ll tu la wi fS fL fN fK fF D) (h1 : (fun r w => w = (FW g x (lN SL) q u k (nI np) mv lm ch (lN F) d v f (nI cnt) (nI ll)) ∧ r = nI (rwL F)) r1 w) (h2 : (fun r w => r = nI (rwL F) ∧ w = (MW g h a (nI (rwL SL)) (nI cnt) (nI ll) (nI np) tu la wi (nI (rwL F)) (nI 0) fS fL fN fK fF fW fE fC fG fO)) r2 w2) : OS g x h w w2 r1 r2 := by
  obtain ⟨hSL, hF, hk, hp, hf, hc, hll, hM, hfS, hfF, hK, hW, hG⟩ := L
  obtain ⟨rfl, rfl⟩ := h1
  obtain ⟨rfl, rfl⟩ := h2
  exact ⟨_, IV.of rfl rfl rfl rfl ⟨hSL, hF, hk, hp, hf, hc, hll, hM, hfS, hfF, hK, hW, hG⟩, rfl⟩
theorem o_openLetters (L : LI SL k K np mv lm ch F f S cnt ll tu la wi fS fL fN fK fF D) (h1 : (fun r w => w = (FW g x (lN SL) q u k (nI np) mv lm ch (lN F) d v f (nI cnt) (nI ll)) ∧ r = nI (opM S ll F cnt)) r1 w) (h2 : (fun r w => (r = nI (opM D ll F cnt)) ∧ ∃ (gW gE gC gG gO : Nat → Int32), w = (MW g h a (nI (rwL SL)) (nI cnt) (nI ll) (nI np) tu la wi (nI (rwL F)) (nI 0) fS fL fN fK fF gW gE gC gG gO)) r2 w2) : OS g x h w w2 r1 r2 := by
  obtain ⟨hSL, hF, hk, hp, hf, hc, hll, hM, hfS, hfF, hK, hW, hG⟩ := L
  obtain ⟨rfl, rfl⟩ := h1
  obtain ⟨rfl, gW, gE, gC, gG, gO, rfl⟩ := h2
  exact ⟨_, IV.of rfl rfl rfl rfl ⟨hSL, hF, hk, hp, hf, hc, hll, hM, hfS, hfF, hK, hW, hG⟩, congrArg nI (hW.1.op ll F)⟩
theorem o_winningLetters (L : LI SL k K np mv lm ch F f S cnt ll tu la wi fS fL fN fK fF D) (h1 : (fun r w => w = (FW g x (lN SL) q u k (nI np) mv lm ch (lN F) d v f (nI cnt) (nI ll)) ∧ r = nI (scW (fun F => opM S ll F cnt) (hwB S cnt ll) (9 - rwL F) F 26)) r1 w) (h2 : (fun r w => (r = nI (gmP D cnt ll F)) ∧ ∃ (gW gE gC gG gO : Nat → Int32), w = (MW g h a (nI (rwL SL)) (nI cnt) (nI ll) (nI np) tu la wi (nI (rwL F)) (nI 0) fS fL fN fK fF gW gE gC gG gO)) r2 w2) : OS g x h w w2 r1 r2 := by
  obtain ⟨hSL, hF, hk, hp, hf, hc, hll, hM, hfS, hfF, hK, hW, hG⟩ := L
  obtain ⟨rfl, rfl⟩ := h1
  obtain ⟨rfl, gW, gE, gC, gG, gO, rfl⟩ := h2
  exact ⟨_, IV.of rfl rfl rfl rfl ⟨hSL, hF, hk, hp, hf, hc, hll, hM, hfS, hfF, hK, hW, hG⟩, congrArg nI (by unfold gmP; rw [hW.1.opf ll, hW.1.hw ll])⟩
theorem o_canWin (L : LI SL k K np mv lm ch F f S cnt ll tu la wi fS fL fN fK fF D) (h1 : (fun r w => w = (FW g x (lN SL) q u k (nI np) mv lm ch (lN F) d v f (nI cnt) (nI ll)) ∧ Bv r (0 < sc (fun F => opM S ll F cnt) (hwB S cnt ll) (10 - rwL F) F)) r1 w) (h2 : (fun r w => (Bv r (0 < scP D cnt ll F)) ∧ ∃ (gW gE gC gG gO : Nat → Int32), w = (MW g h a (nI (rwL SL)) (nI cnt) (nI ll) (nI np) tu la wi (nI (rwL F)) (nI 0) fS fL fN fK fF gW gE gC gG gO)) r2 w2) : OS g x h w w2 r1 r2 := by
  obtain ⟨hSL, hF, hk, hp, hf, hc, hll, hM, hfS, hfF, hK, hW, hG⟩ := L
  obtain ⟨rfl, h1⟩ := h1
  obtain ⟨h2, gW, gE, gC, gG, gO, rfl⟩ := h2
  exact ⟨_, IV.of rfl rfl rfl rfl ⟨hSL, hF, hk, hp, hf, hc, hll, hM, hfS, hfF, hK, hW, hG⟩, Bv.eq h1 h2 (by unfold scP; rw [hW.1.opf ll, hW.1.hw ll])⟩
theorem o_end (L : LI SL k K np mv lm ch F f S cnt ll tu la wi fS fL fN fK fF D) (h1 : (fun r w => w = (FW g x (lN SL) q u k (nI np) mv lm ch (lN F) d v f (nI cnt) (nI ll)) ∧ r = nI (100 - (sc (fun F => opM S ll F cnt) (hwB S cnt ll) (10 - rwL F) F).natAbs)) r1 w) (h2 : (fun r w => (r = nI (100 - (scP D cnt ll F).natAbs)) ∧ ∃ (gW gE gC gG gO : Nat → Int32), w = (MW g h a (nI (rwL SL)) (nI cnt) (nI ll) (nI np) tu la wi (nI (rwL F)) (nI 0) fS fL fN fK fF gW gE gC gG gO)) r2 w2) : OS g x h w w2 r1 r2 := by
  obtain ⟨hSL, hF, hk, hp, hf, hc, hll, hM, hfS, hfF, hK, hW, hG⟩ := L
  obtain ⟨rfl, rfl⟩ := h1
  obtain ⟨rfl, gW, gE, gC, gG, gO, rfl⟩ := h2
  exact ⟨_, IV.of rfl rfl rfl rfl ⟨hSL, hF, hk, hp, hf, hc, hll, hM, hfS, hfF, hK, hW, hG⟩, congrArg nI (by unfold scP; rw [hW.1.opf ll, hW.1.hw ll])⟩
theorem o_bestLetter (L : LI SL k K np mv lm ch F f S cnt ll tu la wi fS fL fN fK fF D) (h1 : (fun r w => w = (FW g x (lN SL) q u k (nI np) mv lm ch (lN F) d v f (nI cnt) (nI ll)) ∧ ((∃ a, a < 26 ∧ ((opM S ll F cnt).testBit a = true ∧ scL (fun F => opM S ll F cnt) (hwB S cnt ll) (9 - rwL F) F a = sc (fun F => opM S ll F cnt) (hwB S cnt ll) (10 - rwL F) F) ∧ (∀ b, b < a → ¬ ((opM S ll F cnt).testBit b = true ∧ scL (fun F => opM S ll F cnt) (hwB S cnt ll) (9 - rwL F) F b = sc (fun F => opM S ll F cnt) (hwB S cnt ll) (10 - rwL F) F)) ∧ r = nI a) ∨ ((∀ b, b < 26 → ¬ ((opM S ll F cnt).testBit b = true ∧ scL (fun F => opM S ll F cnt) (hwB S cnt ll) (9 - rwL F) F b = sc (fun F => opM S ll F cnt) (hwB S cnt ll) (10 - rwL F) F)) ∧ r = -1))) r1 w) (h2 : (fun r w => (chP D cnt ll F r) ∧ ∃ (gW gE gC gG gO : Nat → Int32), w = (MW g h a (nI (rwL SL)) (nI cnt) (nI ll) (nI np) tu la wi (nI (rwL F)) (nI 0) fS fL fN fK fF gW gE gC gG gO)) r2 w2) : OS g x h w w2 r1 r2 := by
  obtain ⟨hSL, hF, hk, hp, hf, hc, hll, hM, hfS, hfF, hK, hW, hG⟩ := L
  obtain ⟨rfl, h1⟩ := h1
  obtain ⟨h2, gW, gE, gC, gG, gO, rfl⟩ := h2
  rw [hW.1.op ll F, hW.1.opf ll, hW.1.hw ll] at h1
  exact ⟨_, IV.of rfl rfl rfl rfl ⟨hSL, hF, hk, hp, hf, hc, hll, hM, hfS, hfF, hK, hW, hG⟩, chP.uniq (show chP D cnt ll F r1 from h1) h2⟩
theorem o_waysToPlay (L : LI SL k K np mv lm ch F f S cnt ll tu la wi fS fL fN fK fF D) (h1 : (fun r w => w = (FW g x (lN SL) q u k (nI np) mv lm ch (lN F) d v f (nI cnt) (nI ll)) ∧ r = nI (fb_ct (fun i => bB (wyP S cnt ll F (S i))) cnt)) r1 w) (h2 : (fun r w => r = nI (fb_ct (fun i => bB (wyP D cnt ll F (D i))) cnt) ∧ w = (MW g h a (nI (rwL SL)) (nI cnt) (nI ll) (nI np) tu la wi (nI (rwL F)) (nI 0) fS fL fN fK fF fW fE fC fG fO)) r2 w2) : OS g x h w w2 r1 r2 := by
  obtain ⟨hSL, hF, hk, hp, hf, hc, hll, hM, hfS, hfF, hK, hW, hG⟩ := L
  obtain ⟨rfl, rfl⟩ := h1
  obtain ⟨rfl, rfl⟩ := h2
  exact ⟨_, IV.of rfl rfl rfl rfl ⟨hSL, hF, hk, hp, hf, hc, hll, hM, hfS, hfF, hK, hW, hG⟩, congrArg nI (hW.1.ways1 ll F)⟩
theorem o_waysToWin (L : LI SL k K np mv lm ch F f S cnt ll tu la wi fS fL fN fK fF D) (h1 : (fun r w => w = (FW g x (lN SL) q u k (nI np) mv lm ch (lN F) d v f (nI cnt) (nI ll)) ∧ r = nI (fb_ct (fun i => bB (wyP S cnt ll F (S i) ∧ (rwL (S i) - rwL F) % 2 = 0)) cnt)) r1 w) (h2 : (fun r w => r = nI (fb_ct (fun i => bB (wyP D cnt ll F (D i) ∧ (rwL (D i) - rwL F) % 2 = 0)) cnt) ∧ w = (MW g h a (nI (rwL SL)) (nI cnt) (nI ll) (nI np) tu la wi (nI (rwL F)) (nI 0) fS fL fN fK fF fW fE fC fG fO)) r2 w2) : OS g x h w w2 r1 r2 := by
  obtain ⟨hSL, hF, hk, hp, hf, hc, hll, hM, hfS, hfF, hK, hW, hG⟩ := L
  obtain ⟨rfl, rfl⟩ := h1
  obtain ⟨rfl, rfl⟩ := h2
  exact ⟨_, IV.of rfl rfl rfl rfl ⟨hSL, hF, hk, hp, hf, hc, hll, hM, hfS, hfF, hK, hW, hG⟩, congrArg nI (hW.1.ways ll F (fun W => (rwL W - rwL F) % 2 = 0))⟩
theorem o_write (L : LI SL k K np mv lm ch F f S cnt ll tu la wi fS fL fN fK fF D) (h1 : (fun rc w => (rc = nI 0 ∧ ∃ (r : Int32) (w1 : va_W), (fun r w => ∃ a : Nat, a < 26 ∧ nI a = x0 ∧ rwL SL < 10 ∧ r = nI (rwL SL + 1) ∧ w = (FW g x (lN (rwX SL a)) q u k (nI np) mv lm ch (lN F) d v f (nI cnt) (nI ll))) r w1 ∧ w = OC g o (vp_updL fo 0 r.toInt64) :: w1) ∨ (∃ E, (fun E => (E = "java/lang/IllegalArgumentException" ∧ ¬ (∃ a : Nat, a < 26 ∧ nI a = x0)) ∨ (E = "java/lang/IllegalStateException" ∧ (∃ a : Nat, a < 26 ∧ nI a = x0) ∧ 10 ≤ rwL SL)) E ∧ ((E = "java/lang/IllegalArgumentException" ∧ rc = nI 1) ∨ (E = "java/lang/IllegalStateException" ∧ rc = nI 2)) ∧ w = OC g o fo :: (FW g x (lN SL) q u k (nI np) mv lm ch (lN F) d v f (nI cnt) (nI ll)))) rc w) (h2 : (fun r w => (∃ lt : Nat, lt < 26 ∧ nI lt = x0 ∧ rwL SL < 10 ∧ r = nI (rwL SL + 1) ∧ w = (MW g h a (nI (rwL SL + 1)) (nI cnt) (nI ll) (nI np) tu la wi (nI (rwL F)) (nI 0) (upd fS (rwL SL) (nI lt)) fL fN fK fF fW fE fC fG fO)) ∨ (¬ (∃ z : Nat, z < 26 ∧ nI z = x0) ∧ w = (MW g h a (nI (rwL SL)) (nI cnt) (nI ll) (nI np) tu la wi (nI (rwL F)) (nI 1) fS fL fN fK fF fW fE fC fG fO)) ∨ ((∃ z : Nat, z < 26 ∧ nI z = x0) ∧ 10 ≤ rwL SL ∧ w = (MW g h a (nI (rwL SL)) (nI cnt) (nI ll) (nI np) tu la wi (nI (rwL F)) (nI 2) fS fL fN fK fF fW fE fC fG fO))) r2 w2) : OT g x h o rc r2 w w2 := by
  obtain ⟨hSL, hF, hk, hp, hf, hc, hll, hM, hfS, hfF, hK, hW, hG⟩ := L
  rcases h1 with ⟨rfl, r, w1, ⟨a1, ha, ea, hl, rfl, rfl⟩, rfl⟩ | ⟨E, hE, hrc, rfl⟩
  · rcases h2 with ⟨lt, hlt, elt, hl2, rfl, rfl⟩ | ⟨hn, rfl⟩ | ⟨_, h10, rfl⟩
    · have e := nI_e ha hlt (by omega) ea elt
      subst e
      exact ⟨_, _, nI 0, rfl, IV.of rfl rfl (by rw [hSL.rxl hl (by omega)]) rfl ⟨hSL.rx hl ha, hF, hk, hp, hf, hc, hll, hM, hfS.put hSL hl ha, hfF, hK, hW, hG⟩, rfl, fun _ => rfl⟩
    · exact absurd ⟨a1, ha, ea⟩ hn
    · omega
  · rcases hE with ⟨rfl, hn⟩ | ⟨rfl, hy, h10⟩ <;> rcases hrc with ⟨e, rfl⟩ | ⟨e, rfl⟩
    · rcases h2 with ⟨lt, hlt, elt, hl2, rfl, rfl⟩ | ⟨hn2, rfl⟩ | ⟨hy, h10, rfl⟩
      · exact absurd ⟨lt, hlt, elt⟩ hn
      · exact ⟨fo, _, nI 1, rfl, IV.of rfl rfl rfl rfl ⟨hSL, hF, hk, hp, hf, hc, hll, hM, hfS, hfF, hK, hW, hG⟩, rfl, fun e => absurd e (by decide)⟩
      · exact absurd hy hn
    · exact absurd e (by decide)
    · exact absurd e (by decide)
    · rcases h2 with ⟨lt, hlt, elt, hl2, rfl, rfl⟩ | ⟨hn2, rfl⟩ | ⟨hy, h10, rfl⟩
      · omega
      · exact absurd hy hn2
      · exact ⟨fo, _, nI 2, rfl, IV.of rfl rfl rfl rfl ⟨hSL, hF, hk, hp, hf, hc, hll, hM, hfS, hfF, hK, hW, hG⟩, rfl, fun e => absurd e (by decide)⟩
theorem o_slipAt (L : LI SL k K np mv lm ch F f S cnt ll tu la wi fS fL fN fK fF D) (h1 : (fun rc w => (rc = nI 0 ∧ ∃ (r : Int32) (w1 : va_W), (fun r w => w = (FW g x (lN SL) q u k (nI np) mv lm ch (lN F) d v f (nI cnt) (nI ll)) ∧ ∃ j : Nat, j < rwL SL ∧ nI j = x0 ∧ r = nI (rwA SL j)) r w1 ∧ w = OC g o (vp_updL fo 0 r.toInt64) :: w1) ∨ (∃ E, (fun E => E = "java/lang/IndexOutOfBoundsException" ∧ ¬ ∃ j : Nat, j < rwL SL ∧ nI j = x0) E ∧ ((E = "java/lang/IndexOutOfBoundsException" ∧ rc = nI 1)) ∧ w = OC g o fo :: (FW g x (lN SL) q u k (nI np) mv lm ch (lN F) d v f (nI cnt) (nI ll)))) rc w) (h2 : (fun r w => (∃ j : Nat, j < rwL SL ∧ nI j = x0 ∧ r = nI (rwA SL j) ∧ w = (MW g h a (nI (rwL SL)) (nI cnt) (nI ll) (nI np) tu la wi (nI (rwL F)) (nI 0) fS fL fN fK fF fW fE fC fG fO)) ∨ ((¬ ∃ j : Nat, j < rwL SL ∧ nI j = x0) ∧ w = (MW g h a (nI (rwL SL)) (nI cnt) (nI ll) (nI np) tu la wi (nI (rwL F)) (nI 1) fS fL fN fK fF fW fE fC fG fO))) r2 w2) : OT g x h o rc r2 w w2 := by
  obtain ⟨hSL, hF, hk, hp, hf, hc, hll, hM, hfS, hfF, hK, hW, hG⟩ := L
  rcases h1 with ⟨rfl, r, w1, ⟨rfl, j1, hj, ej, rfl⟩, rfl⟩ | ⟨E, ⟨rfl, hn⟩, ⟨e, rfl⟩, rfl⟩
  · rcases h2 with ⟨j2, hj2, ej2, rfl, rfl⟩ | ⟨hn, rfl⟩
    · have e := nI_e hj hj2 (by have := hSL.1; omega) ej ej2
      subst e
      exact ⟨_, _, nI 0, rfl, IV.of rfl rfl rfl rfl ⟨hSL, hF, hk, hp, hf, hc, hll, hM, hfS, hfF, hK, hW, hG⟩, rfl, fun _ => rfl⟩
    · exact absurd ⟨j1, hj, ej⟩ hn
  · rcases h2 with ⟨j2, hj2, ej2, rfl, rfl⟩ | ⟨hn2, rfl⟩
    · exact absurd ⟨j2, hj2, ej2⟩ hn
    · exact ⟨fo, _, nI 1, rfl, IV.of rfl rfl rfl rfl ⟨hSL, hF, hk, hp, hf, hc, hll, hM, hfS, hfF, hK, hW, hG⟩, rfl, fun e => absurd e (by decide)⟩
theorem o_fragmentAt (L : LI SL k K np mv lm ch F f S cnt ll tu la wi fS fL fN fK fF D) (h1 : (fun rc w => (rc = nI 0 ∧ ∃ (r : Int32) (w1 : va_W), (fun r w => w = (FW g x (lN SL) q u k (nI np) mv lm ch (lN F) d v f (nI cnt) (nI ll)) ∧ ∃ j : Nat, j < rwL F ∧ nI j = x0 ∧ r = nI (rwA F j)) r w1 ∧ w = OC g o (vp_updL fo 0 r.toInt64) :: w1) ∨ (∃ E, (fun E => E = "java/lang/IndexOutOfBoundsException" ∧ ¬ ∃ j : Nat, j < rwL F ∧ nI j = x0) E ∧ ((E = "java/lang/IndexOutOfBoundsException" ∧ rc = nI 1)) ∧ w = OC g o fo :: (FW g x (lN SL) q u k (nI np) mv lm ch (lN F) d v f (nI cnt) (nI ll)))) rc w) (h2 : (fun r w => (∃ j : Nat, j < rwL F ∧ nI j = x0 ∧ r = nI (rwA F j) ∧ w = (MW g h a (nI (rwL SL)) (nI cnt) (nI ll) (nI np) tu la wi (nI (rwL F)) (nI 0) fS fL fN fK fF fW fE fC fG fO)) ∨ ((¬ ∃ j : Nat, j < rwL F ∧ nI j = x0) ∧ w = (MW g h a (nI (rwL SL)) (nI cnt) (nI ll) (nI np) tu la wi (nI (rwL F)) (nI 1) fS fL fN fK fF fW fE fC fG fO))) r2 w2) : OT g x h o rc r2 w w2 := by
  obtain ⟨hSL, hF, hk, hp, hf, hc, hll, hM, hfS, hfF, hK, hW, hG⟩ := L
  rcases h1 with ⟨rfl, r, w1, ⟨rfl, j1, hj, ej, rfl⟩, rfl⟩ | ⟨E, ⟨rfl, hn⟩, ⟨e, rfl⟩, rfl⟩
  · rcases h2 with ⟨j2, hj2, ej2, rfl, rfl⟩ | ⟨hn, rfl⟩
    · have e := nI_e hj hj2 (by have := hF.1; omega) ej ej2
      subst e
      exact ⟨_, _, nI 0, rfl, IV.of rfl rfl rfl rfl ⟨hSL, hF, hk, hp, hf, hc, hll, hM, hfS, hfF, hK, hW, hG⟩, rfl, fun _ => rfl⟩
    · exact absurd ⟨j1, hj, ej⟩ hn
  · rcases h2 with ⟨j2, hj2, ej2, rfl, rfl⟩ | ⟨hn2, rfl⟩
    · exact absurd ⟨j2, hj2, ej2⟩ hn
    · exact ⟨fo, _, nI 1, rfl, IV.of rfl rfl rfl rfl ⟨hSL, hF, hk, hp, hf, hc, hll, hM, hfS, hfF, hK, hW, hG⟩, rfl, fun e => absurd e (by decide)⟩
theorem o_strikes (L : LI SL k K np mv lm ch F f S cnt ll tu la wi fS fL fN fK fF D) (h1 : (fun rc w => (rc = nI 0 ∧ ∃ (r : Int32) (w1 : va_W), (fun r w => w = (FW g x (lN SL) q u k (nI np) mv lm ch (lN F) d v f (nI cnt) (nI ll)) ∧ ∃ j : Nat, j < np ∧ nI j = x0 ∧ r = nI (K j)) r w1 ∧ w = OC g o (vp_updL fo 0 r.toInt64) :: w1) ∨ (∃ E, (fun E => E = "java/lang/IndexOutOfBoundsException" ∧ ¬ ∃ j : Nat, j < np ∧ nI j = x0) E ∧ ((E = "java/lang/IndexOutOfBoundsException" ∧ rc = nI 1)) ∧ w = OC g o fo :: (FW g x (lN SL) q u k (nI np) mv lm ch (lN F) d v f (nI cnt) (nI ll)))) rc w) (h2 : (fun r w => (∃ j : Nat, j < np ∧ nI j = x0 ∧ r = nI (K j) ∧ w = (MW g h a (nI (rwL SL)) (nI cnt) (nI ll) (nI np) tu la wi (nI (rwL F)) (nI 0) fS fL fN fK fF fW fE fC fG fO)) ∨ ((¬ ∃ j : Nat, j < np ∧ nI j = x0) ∧ w = (MW g h a (nI (rwL SL)) (nI cnt) (nI ll) (nI np) tu la wi (nI (rwL F)) (nI 1) fS fL fN fK fF fW fE fC fG fO))) r2 w2) : OT g x h o rc r2 w w2 := by
  obtain ⟨hSL, hF, hk, hp, hf, hc, hll, hM, hfS, hfF, hK, hW, hG⟩ := L
  rcases h1 with ⟨rfl, r, w1, ⟨rfl, j1, hj, ej, rfl⟩, rfl⟩ | ⟨E, ⟨rfl, hn⟩, ⟨e, rfl⟩, rfl⟩
  · rcases h2 with ⟨j2, hj2, ej2, rfl, rfl⟩ | ⟨hn, rfl⟩
    · have e := nI_e hj hj2 (by omega) ej ej2
      subst e
      exact ⟨_, _, nI 0, rfl, IV.of rfl rfl rfl rfl ⟨hSL, hF, hk, hp, hf, hc, hll, hM, hfS, hfF, hK, hW, hG⟩, rfl, fun _ => rfl⟩
    · exact absurd ⟨j1, hj, ej⟩ hn
  · rcases h2 with ⟨j2, hj2, ej2, rfl, rfl⟩ | ⟨hn2, rfl⟩
    · exact absurd ⟨j2, hj2, ej2⟩ hn
    · exact ⟨fo, _, nI 1, rfl, IV.of rfl rfl rfl rfl ⟨hSL, hF, hk, hp, hf, hc, hll, hM, hfS, hfF, hK, hW, hG⟩, rfl, fun e => absurd e (by decide)⟩
theorem o_addWord (L : LI SL k K np mv lm ch F f S cnt ll tu la wi fS fL fN fK fF D) (h1 : (fun rc w => (rc = nI 0 ∧ ∃ (r : Int32) (w1 : va_W), (fun r w => 2 ≤ rwL SL ∧ cnt < 50 ∧ ¬ inS S cnt SL ∧ r = nI (cnt + 1) ∧ ∃ (f9 : Nat → Int64) (S9 : Nat → Nat) (t : Nat), w = FW g x (lN SL) q u k (nI np) mv lm ch (lN F) d v f9 (nI (cnt + 1)) (nI ll) ∧ DR f9 S9 (cnt + 1) ∧ InsAt S cnt t SL S9) r w1 ∧ w = OC g o (vp_updL fo 0 r.toInt64) :: w1) ∨ (∃ E, (fun E => (E = "java/lang/IllegalArgumentException" ∧ ¬ 2 ≤ rwL SL) ∨ (E = "java/lang/IllegalStateException" ∧ 2 ≤ rwL SL ∧ (50 ≤ cnt ∨ inS S cnt SL))) E ∧ ((E = "java/lang/IllegalArgumentException" ∧ rc = nI 1) ∨ (E = "java/lang/IllegalStateException" ∧ rc = nI 2)) ∧ w = OC g o fo :: (FW g x (lN SL) q u k (nI np) mv lm ch (lN F) d v f (nI cnt) (nI ll)))) rc w) (h2 : (fun r w => (2 ≤ rwL SL ∧ cnt < 50 ∧ (∀ j, j < cnt → D j ≠ SL) ∧ r = nI (cnt + 1) ∧ ∃ f9, w = (MW g h a (nI (rwL SL)) (nI (cnt + 1)) (nI ll) (nI np) tu la wi (nI (rwL F)) (nI 0) fS f9 (upd fN cnt (nI (rwL SL))) fK fF fW fE fC fG fO) ∧ MD f9 (upd fN cnt (nI (rwL SL))) (adD D cnt SL) (cnt + 1)) ∨ (¬ 2 ≤ rwL SL ∧ w = (MW g h a (nI (rwL SL)) (nI cnt) (nI ll) (nI np) tu la wi (nI (rwL F)) (nI 1) fS fL fN fK fF fW fE fC fG fO)) ∨ (2 ≤ rwL SL ∧ (50 ≤ cnt ∨ ∃ j, j < cnt ∧ D j = SL) ∧ w = (MW g h a (nI (rwL SL)) (nI cnt) (nI ll) (nI np) tu la wi (nI (rwL F)) (nI 2) fS fL fN fK fF fW fE fC fG fO))) r2 w2) : OT g x h o rc r2 w w2 := by
  obtain ⟨hSL, hF, hk, hp, hf, hc, hll, hM, hfS, hfF, hK, hW, hG⟩ := L
  rcases h1 with ⟨rfl, r, w1, ⟨h2l, h50, hn, rfl, f9, S9, t, rfl, hd9, hi9⟩, rfl⟩ | ⟨E, hE, hrc, rfl⟩
  · rcases h2 with ⟨_, _, hnD, rfl, f8, rfl, hm8⟩ | ⟨hno, rfl⟩ | ⟨_, hno, rfl⟩
    · exact ⟨_, _, nI 0, rfl, IV.of rfl rfl rfl rfl ⟨hSL, hF, hk, hp, hd9, by omega, hll, hm8, hfS, hfF, hK, hW.add hi9 hn h2l, hG⟩, rfl, fun _ => rfl⟩
    · exact absurd h2l hno
    · rcases hno with q9 | q9
      · omega
      · exact absurd ((hW.1.ins SL).mpr q9) hn
  · rcases hE with ⟨rfl, hn⟩ | ⟨rfl, hy, ho⟩ <;> rcases hrc with ⟨e, rfl⟩ | ⟨e, rfl⟩
    · rcases h2 with ⟨hy, _, _, _, _⟩ | ⟨hno, rfl⟩ | ⟨hy, hno, rfl⟩
      · exact absurd hy hn
      · exact ⟨fo, _, nI 1, rfl, IV.of rfl rfl rfl rfl ⟨hSL, hF, hk, hp, hf, hc, hll, hM, hfS, hfF, hK, hW, hG⟩, rfl, fun e => absurd e (by decide)⟩
      · exact absurd hy hn
    · exact absurd e (by decide)
    · exact absurd e (by decide)
    · rcases h2 with ⟨_, h50, hnD, _⟩ | ⟨hno, rfl⟩ | ⟨_, hno, rfl⟩
      · rcases ho with q9 | q9
        · omega
        · obtain ⟨i, hi, ei⟩ := (hW.1.ins SL).mp q9
          exact absurd ei (hnD i hi)
      · exact absurd hy hno
      · exact ⟨fo, _, nI 2, rfl, IV.of rfl rfl rfl rfl ⟨hSL, hF, hk, hp, hf, hc, hll, hM, hfS, hfF, hK, hW, hG⟩, rfl, fun e => absurd e (by decide)⟩
theorem o_removeWord (L : LI SL k K np mv lm ch F f S cnt ll tu la wi fS fL fN fK fF D) (h1 : (fun rc w => (rc = nI 0 ∧ ∃ (r : Int32) (w1 : va_W), (fun r w => r = nI (cnt - 1) ∧ ∃ (f9 : Nat → Int64) (S9 : Nat → Nat) (t : Nat), w = FW g x (lN SL) q u k (nI np) mv lm ch (lN F) d v f9 (nI (cnt - 1)) (nI ll) ∧ S t = SL ∧ DR f9 S9 (cnt - 1) ∧ RemAt S cnt t S9) r w1 ∧ w = OC g o (vp_updL fo 0 r.toInt64) :: w1) ∨ (∃ E, (fun E => E = "java/lang/IllegalStateException" ∧ ¬ inS S cnt SL) E ∧ ((E = "java/lang/IllegalStateException" ∧ rc = nI 1)) ∧ w = OC g o fo :: (FW g x (lN SL) q u k (nI np) mv lm ch (lN F) d v f (nI cnt) (nI ll)))) rc w) (h2 : (fun r w => (∃ t, t < cnt ∧ D t = SL ∧ r = nI (cnt - 1) ∧ ∃ f9, w = (MW g h a (nI (rwL SL)) (nI (cnt - 1)) (nI ll) (nI np) tu la wi (nI (rwL F)) (nI 0) fS f9 (upd fN t (nI (rwL (D (cnt - 1))))) fK fF fW fE fC fG fO) ∧ MD f9 (upd fN t (nI (rwL (D (cnt - 1))))) (rmD D cnt t) (cnt - 1)) ∨ ((∀ j, j < cnt → D j ≠ SL) ∧ w = (MW g h a (nI (rwL SL)) (nI cnt) (nI ll) (nI np) tu la wi (nI (rwL F)) (nI 1) fS fL fN fK fF fW fE fC fG fO))) r2 w2) : OT g x h o rc r2 w w2 := by
  obtain ⟨hSL, hF, hk, hp, hf, hc, hll, hM, hfS, hfF, hK, hW, hG⟩ := L
  rcases h1 with ⟨rfl, r, w1, ⟨rfl, f9, S9, t, rfl, et, hd9, hr9⟩, rfl⟩ | ⟨E, ⟨rfl, hn⟩, ⟨e, rfl⟩, rfl⟩
  · rcases h2 with ⟨t2, ht2, et2, rfl, f8, rfl, hm8⟩ | ⟨hno, rfl⟩
    · exact ⟨_, _, nI 0, rfl, IV.of rfl rfl rfl rfl ⟨hSL, hF, hk, hp, hd9, by omega, hll, hm8, hfS, hfF, hK, hW.rem hr9 ht2 (et.trans et2.symm), hG⟩, rfl, fun _ => rfl⟩
    · obtain ⟨i, hi, ei⟩ := (hW.1.ins SL).mp ⟨t, hr9.1, et⟩
      exact absurd ei (hno i hi)
  · rcases h2 with ⟨t2, ht2, et2, _⟩ | ⟨hno, rfl⟩
    · exact absurd ((hW.1.ins SL).mpr ⟨t2, ht2, et2⟩) hn
    · exact ⟨fo, _, nI 1, rfl, IV.of rfl rfl rfl rfl ⟨hSL, hF, hk, hp, hf, hc, hll, hM, hfS, hfF, hK, hW, hG⟩, rfl, fun e => absurd e (by decide)⟩
theorem o_copyWord (L : LI SL k K np mv lm ch F f S cnt ll tu la wi fS fL fN fK fF D) (h1 : (fun rc w => (rc = nI 0 ∧ ∃ (r : Int32) (w1 : va_W), (fun r w => ∃ j : Nat, j < cnt ∧ nI j = x0 ∧ r = nI (rwL (S j)) ∧ w = (FW g x (lN (S j)) q u k (nI np) mv lm ch (lN F) d v f (nI cnt) (nI ll))) r w1 ∧ w = OC g o (vp_updL fo 0 r.toInt64) :: w1) ∨ (∃ E, (fun E => E = "java/lang/IndexOutOfBoundsException" ∧ ¬ ∃ j : Nat, j < cnt ∧ nI j = x0) E ∧ ((E = "java/lang/IndexOutOfBoundsException" ∧ rc = nI 1)) ∧ w = OC g o fo :: (FW g x (lN SL) q u k (nI np) mv lm ch (lN F) d v f (nI cnt) (nI ll)))) rc w) (h2 : (fun r w => (∃ j t : Nat, j < cnt ∧ nI j = x0 ∧ t < cnt ∧ rankD D cnt t = j ∧ r = nI (rwL (D t)) ∧ ∃ f9, w = (MW g h a (nI (rwL (D t))) (nI cnt) (nI ll) (nI np) tu la wi (nI (rwL F)) (nI 0) f9 fL fN fK fF fW fE fC fG fO) ∧ MRw f9 (D t)) ∨ ((¬ ∃ j : Nat, j < cnt ∧ nI j = x0) ∧ w = (MW g h a (nI (rwL SL)) (nI cnt) (nI ll) (nI np) tu la wi (nI (rwL F)) (nI 1) fS fL fN fK fF fW fE fC fG fO))) r2 w2) : OT g x h o rc r2 w w2 := by
  obtain ⟨hSL, hF, hk, hp, hf, hc, hll, hM, hfS, hfF, hK, hW, hG⟩ := L
  rcases h1 with ⟨rfl, r, w1, ⟨j1, hj, ej, rfl, rfl⟩, rfl⟩ | ⟨E, ⟨rfl, hn⟩, ⟨e, rfl⟩, rfl⟩
  · rcases h2 with ⟨j2, t, hj2, ej2, ht, hr, rfl, f9, rfl, hm9⟩ | ⟨hno, rfl⟩
    · have e := nI_e hj hj2 (by omega) ej ej2
      subst e
      have eD := hW.rank hj ht hr
      rw [eD] at hm9 ⊢
      exact ⟨_, _, nI 0, rfl, IV.of rfl rfl rfl rfl ⟨(hf _ hj).2, hF, hk, hp, hf, hc, hll, hM, hm9, hfF, hK, hW, hG⟩, rfl, fun _ => rfl⟩
    · exact absurd ⟨j1, hj, ej⟩ hno
  · rcases h2 with ⟨j2, t, hj2, ej2, _⟩ | ⟨hno, rfl⟩
    · exact absurd ⟨j2, hj2, ej2⟩ hn
    · exact ⟨fo, _, nI 1, rfl, IV.of rfl rfl rfl rfl ⟨hSL, hF, hk, hp, hf, hc, hll, hM, hfS, hfF, hK, hW, hG⟩, rfl, fun e => absurd e (by decide)⟩
theorem o_setLeastLength (L : LI SL k K np mv lm ch F f S cnt ll tu la wi fS fL fN fK fF D) (h1 : (fun rc w => (rc = nI 0 ∧ ∃ (r : Int32) (w1 : va_W), (fun r w => ∃ n0 : Nat, 2 ≤ n0 ∧ n0 ≤ 10 ∧ nI n0 = x0 ∧ r = nI ll ∧ w = (FW g x (lN SL) q u k (nI np) mv lm ch (lN F) d v f (nI cnt) (nI n0))) r w1 ∧ w = OC g o (vp_updL fo 0 r.toInt64) :: w1) ∨ (∃ E, (fun E => E = "java/lang/IllegalArgumentException" ∧ ¬ (∃ n0 : Nat, 2 ≤ n0 ∧ n0 ≤ 10 ∧ nI n0 = x0)) E ∧ ((E = "java/lang/IllegalArgumentException" ∧ rc = nI 1)) ∧ w = OC g o fo :: (FW g x (lN SL) q u k (nI np) mv lm ch (lN F) d v f (nI cnt) (nI ll)))) rc w) (h2 : (fun r w => (∃ n0 : Nat, 2 ≤ n0 ∧ n0 ≤ 10 ∧ nI n0 = x0 ∧ r = nI ll ∧ w = (MW g h a (nI (rwL SL)) (nI cnt) (nI n0) (nI np) tu la wi (nI (rwL F)) (nI 0) fS fL fN fK fF fW fE fC fG fO)) ∨ (¬ (∃ n0 : Nat, 2 ≤ n0 ∧ n0 ≤ 10 ∧ nI n0 = x0) ∧ w = (MW g h a (nI (rwL SL)) (nI cnt) (nI ll) (nI np) tu la wi (nI (rwL F)) (nI 1) fS fL fN fK fF fW fE fC fG fO))) r2 w2) : OT g x h o rc r2 w w2 := by
  obtain ⟨hSL, hF, hk, hp, hf, hc, hll, hM, hfS, hfF, hK, hW, hG⟩ := L
  rcases h1 with ⟨rfl, r, w1, ⟨n1, hl1, hu1, e1, rfl, rfl⟩, rfl⟩ | ⟨E, ⟨rfl, hn⟩, ⟨e, rfl⟩, rfl⟩
  · rcases h2 with ⟨n2, hl2, hu2, e2, rfl, rfl⟩ | ⟨hno, rfl⟩
    · have e := nI_e (b := 11) (by omega) (by omega) (by omega) e1 e2
      subst e
      exact ⟨_, _, nI 0, rfl, IV.of rfl rfl rfl rfl ⟨hSL, hF, hk, hp, hf, hc, hu1, hM, hfS, hfF, hK, hW, hG⟩, rfl, fun _ => rfl⟩
    · exact absurd ⟨n1, hl1, hu1, e1⟩ hno
  · rcases h2 with ⟨n2, hl2, hu2, e2, _⟩ | ⟨hno, rfl⟩
    · exact absurd ⟨n2, hl2, hu2, e2⟩ hn
    · exact ⟨fo, _, nI 1, rfl, IV.of rfl rfl rfl rfl ⟨hSL, hF, hk, hp, hf, hc, hll, hM, hfS, hfF, hK, hW, hG⟩, rfl, fun e => absurd e (by decide)⟩
theorem o_start (L : LI SL k K np mv lm ch F f S cnt ll tu la wi fS fL fN fK fF D) (h1 : (fun rc w => (rc = nI 0 ∧ (fun w => ∃ (n0 : Nat) (k9 : Nat → Int32), 2 ≤ n0 ∧ n0 ≤ 4 ∧ nI n0 = x0 ∧ GK k9 (fun _ => 0) ∧ w = (FW g x (lN SL) q u k9 (nI n0) (nI 0) (-1) (-1) (lN 0) d v f (nI cnt) (nI ll))) w) ∨ (∃ E, (fun E => E = "java/lang/IllegalArgumentException" ∧ ¬ (∃ n0 : Nat, 2 ≤ n0 ∧ n0 ≤ 4 ∧ nI n0 = x0)) E ∧ ((E = "java/lang/IllegalArgumentException" ∧ rc = nI 1)) ∧ w = (FW g x (lN SL) q u k (nI np) mv lm ch (lN F) d v f (nI cnt) (nI ll)))) rc w) (h2 : (fun w => (∃ (n0 : Nat) (k9 : Nat → Int32), 2 ≤ n0 ∧ n0 ≤ 4 ∧ nI n0 = x0 ∧ GK k9 (fun _ => 0) ∧ w = (MW g h a (nI (rwL SL)) (nI cnt) (nI ll) (nI n0) (nI 0) la (-1) (nI 0) (nI 0) fS fL fN k9 fF fW fE fC fG fO)) ∨ (¬ (∃ n0 : Nat, 2 ≤ n0 ∧ n0 ≤ 4 ∧ nI n0 = x0) ∧ w = (MW g h a (nI (rwL SL)) (nI cnt) (nI ll) (nI np) tu la wi (nI (rwL F)) (nI 1) fS fL fN fK fF fW fE fC fG fO))) w2) : OV g x h rc w w2 := by
  obtain ⟨hSL, hF, hk, hp, hf, hc, hll, hM, hfS, hfF, hK, hW, hG⟩ := L
  rcases h1 with ⟨rfl, n1, k1, hl1, hu1, e1, hk1, rfl⟩ | ⟨E, ⟨rfl, hn⟩, ⟨e, rfl⟩, rfl⟩
  · rcases h2 with ⟨n2, k2, hl2, hu2, e2, hk2, rfl⟩ | ⟨hno, rfl⟩
    · have e := nI_e (b := 11) (by omega) (by omega) (by omega) e1 e2
      subst e
      exact ⟨nI 0, IV.of (F := 0) rfl rfl rfl (by rw [rwL0]) ⟨hSL, RV.zero, hk1, hu1, hf, hc, hll, hM, hfS, MRw.nil _, hk2, hW, GR.begun hl1⟩, rfl⟩
    · exact absurd ⟨n1, hl1, hu1, e1⟩ hno
  · rcases h2 with ⟨n2, k2, hl2, hu2, e2, _⟩ | ⟨hno, rfl⟩
    · exact absurd ⟨n2, hl2, hu2, e2⟩ hn
    · exact ⟨nI 1, IV.of rfl rfl rfl rfl ⟨hSL, hF, hk, hp, hf, hc, hll, hM, hfS, hfF, hK, hW, hG⟩, rfl⟩
theorem o_play (L : LI SL k K np mv lm ch F f S cnt ll tu la wi fS fL fN fK fF D) (h1 : (fun rc w => (rc = nI 0 ∧ ∃ (r : Int32) (w1 : va_W), (fun r w => ∃ a j : Nat, a < 26 ∧ nI a = x0 ∧ mv = nI j ∧ j < np ∧ K j < 5 ∧ rwL F < 10 ∧ (((ll ≤ rwL (rwX F a) ∧ inS S cnt (rwX F a)) ∧ r = nI j ∧ w = (FW g x (lN SL) q u (upd k j (nI (K j + 1))) (nI np) (erM K np j) lm (erC K np j ch) (lN 0) d v f (nI cnt) (nI ll))) ∨ (¬ (ll ≤ rwL (rwX F a) ∧ inS S cnt (rwX F a)) ∧ r = -1 ∧ w = (FW g x (lN SL) q u k (nI np) (oI (nxF K np np j)) (nI j) ch (lN (rwX F a)) d v f (nI cnt) (nI ll))))) r w1 ∧ w = OC g o (vp_updL fo 0 r.toInt64) :: w1) ∨ (∃ E, (fun E => (E = "java/lang/IllegalArgumentException" ∧ ¬ (∃ a : Nat, a < 26 ∧ nI a = x0)) ∨ (E = "java/lang/IllegalStateException" ∧ (∃ a : Nat, a < 26 ∧ nI a = x0) ∧ (mv = -1 ∨ 10 ≤ rwL F))) E ∧ ((E = "java/lang/IllegalArgumentException" ∧ rc = nI 1) ∨ (E = "java/lang/IllegalStateException" ∧ rc = nI 2)) ∧ w = OC g o fo :: (FW g x (lN SL) q u k (nI np) mv lm ch (lN F) d v f (nI cnt) (nI ll)))) rc w) (h2 : (fun r w => (∃ lt j : Nat, lt < 26 ∧ nI lt = x0 ∧ (0 < np ∧ wi = -1) ∧ tu = nI j ∧ j < np ∧ K j < 5 ∧ rwL F < 10 ∧ (((∃ k, k < cnt ∧ hwM D cnt ll (rwX F lt) k true) ∧ r = nI j ∧ w = (MW g h a (nI (rwL SL)) (nI cnt) (nI ll) (nI np) (lsT K np j) la (lsW K np j) (nI 0) (nI 0) fS fL fN (upd fK j (nI ((K j) + 1))) (upd fF (rwL F) (nI lt)) fW fE fC fG fO)) ∨ (¬ (∃ k, k < cnt ∧ hwM D cnt ll (rwX F lt) k true) ∧ r = -1 ∧ ∃ t, nxF K np np j = some t ∧ w = (MW g h a (nI (rwL SL)) (nI cnt) (nI ll) (nI np) (nI t) (nI j) wi (nI (rwL (rwX F lt))) (nI 0) fS fL fN fK (upd fF (rwL F) (nI lt)) fW fE fC fG fO)))) ∨ (¬ (∃ z : Nat, z < 26 ∧ nI z = x0) ∧ w = (MW g h a (nI (rwL SL)) (nI cnt) (nI ll) (nI np) tu la wi (nI (rwL F)) (nI 1) fS fL fN fK fF fW fE fC fG fO)) ∨ ((∃ z : Nat, z < 26 ∧ nI z = x0) ∧ (¬ (0 < np ∧ wi = -1) ∨ 10 ≤ rwL F) ∧ w = (MW g h a (nI (rwL SL)) (nI cnt) (nI ll) (nI np) tu la wi (nI (rwL F)) (nI 2) fS fL fN fK fF fW fE fC fG fO))) r2 w2) : OT g x h o rc r2 w w2 := by
  obtain ⟨hSL, hF, hk, hp, hf, hc, hll, hM, hfS, hfF, hK, hW, hG⟩ := L
  have hoff := hG.off hp
  rcases h1 with ⟨rfl, r, w1, ⟨a1, j1, ha, ea, emv, hj, hKj, hl, hcs⟩, rfl⟩ | ⟨E, hE, hrc, rfl⟩
  · have hgo : 0 < np ∧ wi = -1 := Classical.byContradiction (fun q9 => nI_nem1 (n := j1) (by omega) (emv.symm.trans (hoff.mpr q9)))
    rcases h2 with ⟨lt, j2, hlt, elt, _, etu, hj2, _, hl2, hcs2⟩ | ⟨hno, rfl⟩ | ⟨_, hno, rfl⟩
    · have e := nI_e ha hlt (by omega) ea elt
      subst e
      have e : j1 = j2 := (nI_eq (by omega) (by omega)).mp (emv.symm.trans ((hG.2.1 hgo.1 hgo.2).1.trans etu))
      subst e
      have hwh := hW.1.whole ll (rwX F a1)
      rcases hcs with ⟨hy, rfl, rfl⟩ | ⟨hn, rfl, rfl⟩
      · rcases hcs2 with ⟨hy2, rfl, rfl⟩ | ⟨hn2, _⟩
        · exact ⟨_, _, nI 0, rfl, IV.of (F := 0) rfl rfl rfl (by rw [rwL0]) ⟨hSL, RV.zero, hk.up hKj, hp, hf, hc, hll, hM, hfS, MRw.nil _, hK.up hKj, hW, hG.lost hgo hj hKj hp⟩, rfl, fun _ => rfl⟩
        · exact absurd (hwh.mp hy) hn2
      · rcases hcs2 with ⟨hy2, _⟩ | ⟨hn2, rfl, t, et, rfl⟩
        · exact absurd (hwh.mpr hy2) hn
        · rw [et]
          exact ⟨_, _, nI 0, rfl, IV.of rfl rfl rfl rfl ⟨hSL, hF.rx hl ha, hk, hp, hf, hc, hll, hM, hfS, hfF.put hF hl ha, hK, hW, hG.played hgo hj hKj et⟩, rfl, fun _ => rfl⟩
    · exact absurd ⟨a1, ha, ea⟩ hno
    · rcases hno with q9 | q9
      · exact absurd hgo q9
      · omega
  · rcases hE with ⟨rfl, hn⟩ | ⟨rfl, hy, ho⟩ <;> rcases hrc with ⟨e, rfl⟩ | ⟨e, rfl⟩
    · rcases h2 with ⟨lt, j2, hlt, elt, _⟩ | ⟨hno, rfl⟩ | ⟨hy, hno, rfl⟩
      · exact absurd ⟨lt, hlt, elt⟩ hn
      · exact ⟨fo, _, nI 1, rfl, IV.of rfl rfl rfl rfl ⟨hSL, hF, hk, hp, hf, hc, hll, hM, hfS, hfF, hK, hW, hG⟩, rfl, fun e => absurd e (by decide)⟩
      · exact absurd hy hn
    · exact absurd e (by decide)
    · exact absurd e (by decide)
    · rcases h2 with ⟨lt, j2, hlt, elt, hgo, etu, hj2, _, hl2, _⟩ | ⟨hno, rfl⟩ | ⟨_, hno, rfl⟩
      · rcases ho with q9 | q9
        · exact absurd hgo (hoff.mp q9)
        · omega
      · exact absurd hy hno
      · exact ⟨fo, _, nI 2, rfl, IV.of rfl rfl rfl rfl ⟨hSL, hF, hk, hp, hf, hc, hll, hM, hfS, hfF, hK, hW, hG⟩, rfl, fun e => absurd e (by decide)⟩
theorem o_challenge (L : LI SL k K np mv lm ch F f S cnt ll tu la wi fS fL fN fK fF D) (h1 : (fun rc w => (rc = nI 0 ∧ ∃ (r : Int32) (w1 : va_W), (fun r w => ∃ j j2 : Nat, mv = nI j ∧ lm = nI j2 ∧ j < np ∧ K j < 5 ∧ j2 < np ∧ K j2 < 5 ∧ 0 < rwL F ∧ (((∃ i, i < cnt ∧ ll ≤ rwL (S i) ∧ bgP (S i) F) ∧ r = nI j ∧ w = (FW g x (lN SL) q u (upd k j (nI (K j + 1))) (nI np) (erM K np j) (nI j2) (erC K np j ch) (lN 0) d v f (nI cnt) (nI ll))) ∨ (¬ (∃ i, i < cnt ∧ ll ≤ rwL (S i) ∧ bgP (S i) F) ∧ r = nI j2 ∧ w = (FW g x (lN SL) q u (upd k j2 (nI (K j2 + 1))) (nI np) (erM K np j2) (nI j2) (erC K np j2 ch) (lN 0) d v f (nI cnt) (nI ll))))) r w1 ∧ w = OC g o (vp_updL fo 0 r.toInt64) :: w1) ∨ (∃ E, (fun E => E = "java/lang/IllegalStateException" ∧ (mv = -1 ∨ rwL F = 0)) E ∧ ((E = "java/lang/IllegalStateException" ∧ rc = nI 1)) ∧ w = OC g o fo :: (FW g x (lN SL) q u k (nI np) mv lm ch (lN F) d v f (nI cnt) (nI ll)))) rc w) (h2 : (fun r w => (∃ j j2 : Nat, (0 < np ∧ wi = -1) ∧ 0 < rwL F ∧ tu = nI j ∧ la = nI j2 ∧ j < np ∧ K j < 5 ∧ j2 < np ∧ K j2 < 5 ∧ (((∃ k, k < cnt ∧ hwM D cnt ll F k false) ∧ r = nI j ∧ w = (MW g h a (nI (rwL SL)) (nI cnt) (nI ll) (nI np) (lsT K np j) (nI j2) (lsW K np j) (nI 0) (nI 0) fS fL fN (upd fK j (nI ((K j) + 1))) fF fW fE fC fG fO)) ∨ (¬ (∃ k, k < cnt ∧ hwM D cnt ll F k false) ∧ r = nI j2 ∧ w = (MW g h a (nI (rwL SL)) (nI cnt) (nI ll) (nI np) (lsT K np j2) (nI j2) (lsW K np j2) (nI 0) (nI 0) fS fL fN (upd fK j2 (nI ((K j2) + 1))) fF fW fE fC fG fO)))) ∨ (¬ ((0 < np ∧ wi = -1) ∧ 0 < rwL F) ∧ w = (MW g h a (nI (rwL SL)) (nI cnt) (nI ll) (nI np) tu la wi (nI (rwL F)) (nI 1) fS fL fN fK fF fW fE fC fG fO))) r2 w2) : OT g x h o rc r2 w w2 := by
  obtain ⟨hSL, hF, hk, hp, hf, hc, hll, hM, hfS, hfF, hK, hW, hG⟩ := L
  have hoff := hG.off hp
  rcases h1 with ⟨rfl, r, w1, ⟨j1, i1, emv, elm, hj, hKj, hi, hKi, hl, hcs⟩, rfl⟩ | ⟨E, ⟨rfl, ho⟩, ⟨e, rfl⟩, rfl⟩
  · have hgo : 0 < np ∧ wi = -1 := Classical.byContradiction (fun q9 => nI_nem1 (n := j1) (by omega) (emv.symm.trans (hoff.mpr q9)))
    rcases h2 with ⟨j2, i2, _, _, etu, ela, hj2, _, hi2, _, hcs2⟩ | ⟨hno, rfl⟩
    · have e : j1 = j2 := (nI_eq (by omega) (by omega)).mp (emv.symm.trans ((hG.2.1 hgo.1 hgo.2).1.trans etu))
      subst e
      have e : i1 = i2 := (nI_eq (by omega) (by omega)).mp (elm.symm.trans ((hG.2.2.2 hl).1.trans ela))
      subst e
      have hwh := hW.1.from ll F
      rcases hcs with ⟨hy, rfl, rfl⟩ | ⟨hn, rfl, rfl⟩
      · rcases hcs2 with ⟨hy2, rfl, rfl⟩ | ⟨hn2, _⟩
        · exact ⟨_, _, nI 0, rfl, IV.of (F := 0) rfl rfl rfl (by rw [rwL0]) ⟨hSL, RV.zero, hk.up hKj, hp, hf, hc, hll, hM, hfS, MRw.nil _, hK.up hKj, hW, hG.lost hgo hj hKj hp⟩, rfl, fun _ => rfl⟩
        · exact absurd (hwh.mp hy) hn2
      · rcases hcs2 with ⟨hy2, _⟩ | ⟨hn2, rfl, rfl⟩
        · exact absurd (hwh.mpr hy2) hn
        · exact ⟨_, _, nI 0, rfl, IV.of (F := 0) rfl rfl rfl (by rw [rwL0]) ⟨hSL, RV.zero, hk.up hKi, hp, hf, hc, hll, hM, hfS, MRw.nil _, hK.up hKi, hW, hG.lost hgo hi hKi hp⟩, rfl, fun _ => rfl⟩
    · exact absurd ⟨hgo, hl⟩ hno
  · rcases h2 with ⟨j2, i2, hgo, hl, _⟩ | ⟨hno, rfl⟩
    · rcases ho with q9 | q9
      · exact absurd hgo (hoff.mp q9)
      · omega
    · exact ⟨fo, _, nI 1, rfl, IV.of rfl rfl rfl rfl ⟨hSL, hF, hk, hp, hf, hc, hll, hM, hfS, hfF, hK, hW, hG⟩, rfl, fun e => absurd e (by decide)⟩
end COMB
