section LAWC
/-- what both games' values keep: b's letters are a's, moved on by m -/
def AI (m SL SL' : Nat) (k k' : Nat → Int32) (K : Nat → Nat) (np : Nat) (mv lm : Int32) (F F' : Nat) (f f' : Nat → Int64) (S S' : Nat → Nat) (cnt ll : Nat) : Prop := SR m SL SL' ∧ SR m F F' ∧ GK k K ∧ GK k' K ∧ np ≤ 4 ∧ DR f S cnt ∧ DR f' S' cnt ∧ cnt ≤ 50 ∧ ll ≤ 10 ∧ WS m S S' cnt ∧ SI S cnt ∧ (∀ i, i < cnt → 2 ≤ rwL (S i)) ∧ GS K np F mv lm ∧ m ≤ 21
/-- both games' cells -/
def AB (g : GG) (m x y : Nat) (wa wb : va_W) : Prop := ∃ (q u d v q' u' d' v' SL SL' : Nat) (k k' : Nat → Int32) (K : Nat → Nat) (np : Nat) (mv lm ch : Int32) (F F' : Nat) (f f' : Nat → Int64) (S S' : Nat → Nat) (cnt ll : Nat), wa = (FW g x (lN SL) q u k (nI np) mv lm ch (lN F) d v f (nI cnt) (nI ll)) ∧ wb = (FW g y (lN SL') q' u' k' (nI np) mv lm ch (lN F') d' v' f' (nI cnt) (nI ll)) ∧ AI m SL SL' k k' K np mv lm F F' f f' S S' cnt ll
variable {g : GG} {m x y q u d v q' u' d' v' SL SL' : Nat} {k k' : Nat → Int32} {K : Nat → Nat} {np : Nat} {mv lm ch : Int32} {F F' : Nat} {f f' : Nat → Int64} {S S' : Nat → Nat} {cnt ll : Nat} {r1 r2 : Int32} {w1 w2 : va_W}
theorem AB.of (e1 : w1 = (FW g x (lN SL) q u k (nI np) mv lm ch (lN F) d v f (nI cnt) (nI ll))) (e2 : w2 = (FW g y (lN SL') q' u' k' (nI np) mv lm ch (lN F') d' v' f' (nI cnt) (nI ll))) (h : AI m SL SL' k k' K np mv lm F F' f f' S S' cnt ll) : AB g m x y w1 w2 := ⟨_, _, _, _, _, _, _, _, _, _, _, _, _, _, _, _, _, _, _, _, _, _, _, _, _, e1, e2, h⟩
theorem GS.mov (h : GS K np F mv lm) (e : SR m F F') : GS K np F' mv lm := h.len e.2.2.1 (fun z => ((SR.zero m).eqi e).mp z.symm |>.symm)
theorem nI_q {i j b : Nat} (hi : i < b) (hj : j < b) (hb : b ≤ 1000) (e : nI i = nI j) : i = j := (nI_eq (by omega) (by omega)).mp e
theorem Bv.eq {P Q : Prop} (h1 : Bv r1 P) (h2 : Bv r2 Q) (e : P ↔ Q) : r1 = r2 := by
  rcases h1 with ⟨rfl, p⟩ | ⟨rfl, p⟩ <;> rcases h2 with ⟨rfl, q⟩ | ⟨rfl, q⟩
  · rfl
  · exact absurd (e.mp p) q
  · exact absurd (e.mpr q) p
  · rfl
set_option maxHeartbeats 4000000 in
theorem o_write (L : AI m SL SL' k k' K np mv lm F F' f f' S S' cnt ll) {c : Nat} (hc4 : c < 4) (h1 : (fun rc w => (fun r w => ∃ a : Nat, a < 26 ∧ nI a = (nI c) ∧ rwL SL < 10 ∧ r = nI (rwL SL + 1) ∧ w = (FW g x (lN (rwX SL a)) q u k (nI np) mv lm ch (lN F) d v f (nI cnt) (nI ll))) rc w ∨ (∃ E, (fun E => (E = "java/lang/IllegalArgumentException" ∧ ¬ (∃ a : Nat, a < 26 ∧ nI a = (nI c))) ∨ (E = "java/lang/IllegalStateException" ∧ (∃ a : Nat, a < 26 ∧ nI a = (nI c)) ∧ 10 ≤ rwL SL)) E ∧ rc = -5 ∧ w = (FW g x (lN SL) q u k (nI np) mv lm ch (lN F) d v f (nI cnt) (nI ll)))) r1 w1) (h2 : (fun rc w => (fun r w => ∃ a : Nat, a < 26 ∧ nI a = (nI (c + m)) ∧ rwL SL' < 10 ∧ r = nI (rwL SL' + 1) ∧ w = (FW g y (lN (rwX SL' a)) q' u' k' (nI np) mv lm ch (lN F') d' v' f' (nI cnt) (nI ll))) rc w ∨ (∃ E, (fun E => (E = "java/lang/IllegalArgumentException" ∧ ¬ (∃ a : Nat, a < 26 ∧ nI a = (nI (c + m)))) ∨ (E = "java/lang/IllegalStateException" ∧ (∃ a : Nat, a < 26 ∧ nI a = (nI (c + m))) ∧ 10 ≤ rwL SL')) E ∧ rc = -5 ∧ w = (FW g y (lN SL') q' u' k' (nI np) mv lm ch (lN F') d' v' f' (nI cnt) (nI ll)))) r2 w2) : AB g m x y w1 w2 ∧ r1 = r2 := by
  have L9 := L
  obtain ⟨hSL, hF, hk, hk2, hp, hf, hf2, hc, hll, hW, hI, h2l, hG, hm⟩ := L9
  rcases h1 with ⟨a, ha, ea, hl, rfl, rfl⟩ | ⟨E, hE, rfl, rfl⟩ <;> rcases h2 with ⟨b, hb, eb, hl2, rfl, rfl⟩ | ⟨E2, hE2, rfl, rfl⟩
  · have e1 := nI_q (b := 100) (by omega) (by omega) (by decide) ea.symm
    have e2 := nI_q (b := 100) (by omega) (by omega) (by decide) eb.symm
    subst e1 e2
    exact ⟨AB.of rfl rfl ⟨hSL.rx hl hc4 hm, hF, hk, hk2, hp, hf, hf2, hc, hll, hW, hI, h2l, hG, hm⟩, by rw [hSL.2.2.1]⟩
  · rcases hE2 with ⟨-, q⟩ | ⟨-, -, q⟩
    · exact absurd ⟨c + m, by omega, rfl⟩ q
    · rw [hSL.2.2.1] at q; omega
  · rcases hE with ⟨-, q⟩ | ⟨-, -, q⟩
    · exact absurd ⟨c, by omega, rfl⟩ q
    · rw [← hSL.2.2.1] at q; omega
  · exact ⟨AB.of rfl rfl L, rfl⟩
set_option maxHeartbeats 4000000 in
theorem o_wipe (L : AI m SL SL' k k' K np mv lm F F' f f' S S' cnt ll) (h1 : (fun r w => w = (FW g x (lN 0) q u k (nI np) mv lm ch (lN F) d v f (nI cnt) (nI ll)) ∧ r = nI (rwL SL)) r1 w1) (h2 : (fun r w => w = (FW g y (lN 0) q' u' k' (nI np) mv lm ch (lN F') d' v' f' (nI cnt) (nI ll)) ∧ r = nI (rwL SL')) r2 w2) : AB g m x y w1 w2 ∧ r1 = r2 := by
  have L9 := L
  obtain ⟨hSL, hF, hk, hk2, hp, hf, hf2, hc, hll, hW, hI, h2l, hG, hm⟩ := L9
  obtain ⟨rfl, rfl⟩ := h1
  obtain ⟨rfl, rfl⟩ := h2
  exact ⟨AB.of (SL := 0) (SL' := 0) rfl rfl ⟨SR.zero m, hF, hk, hk2, hp, hf, hf2, hc, hll, hW, hI, h2l, hG, hm⟩, by rw [hSL.2.2.1]⟩
set_option maxHeartbeats 4000000 in
theorem o_addWord (L : AI m SL SL' k k' K np mv lm F F' f f' S S' cnt ll) (h1 : (fun rc w => (fun r w => 2 ≤ rwL SL ∧ cnt < 50 ∧ ¬ inS S cnt SL ∧ r = nI (cnt + 1) ∧ ∃ (f9 : Nat → Int64) (S9 : Nat → Nat) (t : Nat), w = FW g x (lN SL) q u k (nI np) mv lm ch (lN F) d v f9 (nI (cnt + 1)) (nI ll) ∧ DR f9 S9 (cnt + 1) ∧ InsAt S cnt t SL S9) rc w ∨ (∃ E, (fun E => (E = "java/lang/IllegalArgumentException" ∧ ¬ 2 ≤ rwL SL) ∨ (E = "java/lang/IllegalStateException" ∧ 2 ≤ rwL SL ∧ (50 ≤ cnt ∨ inS S cnt SL))) E ∧ rc = -5 ∧ w = (FW g x (lN SL) q u k (nI np) mv lm ch (lN F) d v f (nI cnt) (nI ll)))) r1 w1) (h2 : (fun rc w => (fun r w => 2 ≤ rwL SL' ∧ cnt < 50 ∧ ¬ inS S' cnt SL' ∧ r = nI (cnt + 1) ∧ ∃ (f9 : Nat → Int64) (S9 : Nat → Nat) (t : Nat), w = FW g y (lN SL') q' u' k' (nI np) mv lm ch (lN F') d' v' f9 (nI (cnt + 1)) (nI ll) ∧ DR f9 S9 (cnt + 1) ∧ InsAt S' cnt t SL' S9) rc w ∨ (∃ E, (fun E => (E = "java/lang/IllegalArgumentException" ∧ ¬ 2 ≤ rwL SL') ∨ (E = "java/lang/IllegalStateException" ∧ 2 ≤ rwL SL' ∧ (50 ≤ cnt ∨ inS S' cnt SL'))) E ∧ rc = -5 ∧ w = (FW g y (lN SL') q' u' k' (nI np) mv lm ch (lN F') d' v' f' (nI cnt) (nI ll)))) r2 w2) : AB g m x y w1 w2 ∧ r1 = r2 := by
  have L9 := L
  obtain ⟨hSL, hF, hk, hk2, hp, hf, hf2, hc, hll, hW, hI, h2l, hG, hm⟩ := L9
  have hin := hW.ins hSL
  rcases h1 with ⟨a1, a2, a3, rfl, f9, S9, t, rfl, hf9, hi9⟩ | ⟨E, hE, rfl, rfl⟩ <;> rcases h2 with ⟨b1, b2, b3, rfl, f8, S8, t8, rfl, hf8, hi8⟩ | ⟨E2, hE2, rfl, rfl⟩
  · exact ⟨AB.of rfl rfl ⟨hSL, hF, hk, hk2, hp, hf9, hf8, by omega, hll, hW.add hSL hm hi9 hi8, hi9.SI hI a3, hi9.by (fun z => 2 ≤ rwL z) h2l a1, hG, hm⟩, rfl⟩
  · rcases hE2 with ⟨-, q⟩ | ⟨-, -, q | q⟩
    · rw [hSL.2.2.1] at q; omega
    · omega
    · exact absurd (hin.mpr q) a3
  · rcases hE with ⟨-, q⟩ | ⟨-, -, q | q⟩
    · rw [← hSL.2.2.1] at q; omega
    · omega
    · exact absurd (hin.mp q) b3
  · exact ⟨AB.of rfl rfl L, rfl⟩
set_option maxHeartbeats 4000000 in
theorem o_removeWord (L : AI m SL SL' k k' K np mv lm F F' f f' S S' cnt ll) (h1 : (fun rc w => (fun r w => r = nI (cnt - 1) ∧ ∃ (f9 : Nat → Int64) (S9 : Nat → Nat) (t : Nat), w = FW g x (lN SL) q u k (nI np) mv lm ch (lN F) d v f9 (nI (cnt - 1)) (nI ll) ∧ S t = SL ∧ DR f9 S9 (cnt - 1) ∧ RemAt S cnt t S9) rc w ∨ (∃ E, (fun E => E = "java/lang/IllegalStateException" ∧ ¬ inS S cnt SL) E ∧ rc = -5 ∧ w = (FW g x (lN SL) q u k (nI np) mv lm ch (lN F) d v f (nI cnt) (nI ll)))) r1 w1) (h2 : (fun rc w => (fun r w => r = nI (cnt - 1) ∧ ∃ (f9 : Nat → Int64) (S9 : Nat → Nat) (t : Nat), w = FW g y (lN SL') q' u' k' (nI np) mv lm ch (lN F') d' v' f9 (nI (cnt - 1)) (nI ll) ∧ S' t = SL' ∧ DR f9 S9 (cnt - 1) ∧ RemAt S' cnt t S9) rc w ∨ (∃ E, (fun E => E = "java/lang/IllegalStateException" ∧ ¬ inS S' cnt SL') E ∧ rc = -5 ∧ w = (FW g y (lN SL') q' u' k' (nI np) mv lm ch (lN F') d' v' f' (nI cnt) (nI ll)))) r2 w2) : AB g m x y w1 w2 ∧ r1 = r2 := by
  have L9 := L
  obtain ⟨hSL, hF, hk, hk2, hp, hf, hf2, hc, hll, hW, hI, h2l, hG, hm⟩ := L9
  have hin := hW.ins hSL
  rcases h1 with ⟨rfl, f9, S9, t, rfl, et, hf9, hr9⟩ | ⟨E, hE, rfl, rfl⟩ <;> rcases h2 with ⟨rfl, f8, S8, t8, rfl, et8, hf8, hr8⟩ | ⟨E2, hE2, rfl, rfl⟩
  · exact ⟨AB.of rfl rfl ⟨hSL, hF, hk, hk2, hp, hf9, hf8, by omega, hll, hW.rem hSL hI et et8 hr9 hr8, hr9.SI hI, hr9.by (fun z => 2 ≤ rwL z) h2l, hG, hm⟩, rfl⟩
  · exact absurd (hin.mp ⟨t, hr9.1, et⟩) hE2.2
  · exact absurd (hin.mpr ⟨t8, hr8.1, et8⟩) hE.2
  · exact ⟨AB.of rfl rfl L, rfl⟩
set_option maxHeartbeats 4000000 in
theorem o_copyWord (L : AI m SL SL' k k' K np mv lm F F' f f' S S' cnt ll) {c : Nat} (hc12 : c < 12) (h1 : (fun rc w => (fun r w => ∃ j : Nat, j < cnt ∧ nI j = (nI c) ∧ r = nI (rwL (S j)) ∧ w = (FW g x (lN (S j)) q u k (nI np) mv lm ch (lN F) d v f (nI cnt) (nI ll))) rc w ∨ (∃ E, (fun E => E = "java/lang/IndexOutOfBoundsException" ∧ ¬ ∃ j : Nat, j < cnt ∧ nI j = (nI c)) E ∧ rc = -5 ∧ w = (FW g x (lN SL) q u k (nI np) mv lm ch (lN F) d v f (nI cnt) (nI ll)))) r1 w1) (h2 : (fun rc w => (fun r w => ∃ j : Nat, j < cnt ∧ nI j = (nI c) ∧ r = nI (rwL (S' j)) ∧ w = (FW g y (lN (S' j)) q' u' k' (nI np) mv lm ch (lN F') d' v' f' (nI cnt) (nI ll))) rc w ∨ (∃ E, (fun E => E = "java/lang/IndexOutOfBoundsException" ∧ ¬ ∃ j : Nat, j < cnt ∧ nI j = (nI c)) E ∧ rc = -5 ∧ w = (FW g y (lN SL') q' u' k' (nI np) mv lm ch (lN F') d' v' f' (nI cnt) (nI ll)))) r2 w2) : AB g m x y w1 w2 ∧ r1 = r2 := by
  have L9 := L
  obtain ⟨hSL, hF, hk, hk2, hp, hf, hf2, hc, hll, hW, hI, h2l, hG, hm⟩ := L9
  rcases h1 with ⟨j, hj, ej, rfl, rfl⟩ | ⟨E, hE, rfl, rfl⟩ <;> rcases h2 with ⟨i, hi, ei, rfl, rfl⟩ | ⟨E2, hE2, rfl, rfl⟩
  · have e1 := nI_q (b := 100) (by omega) (by omega) (by decide) ej.symm
    have e2 := nI_q (b := 100) (by omega) (by omega) (by decide) ei.symm
    subst e1 e2
    exact ⟨AB.of rfl rfl ⟨hW c hj, hF, hk, hk2, hp, hf, hf2, hc, hll, hW, hI, h2l, hG, hm⟩, by rw [(hW c hj).2.2.1]⟩
  · exact absurd ⟨j, hj, ej⟩ hE2.2
  · exact absurd ⟨i, hi, ei⟩ hE.2
  · exact ⟨AB.of rfl rfl L, rfl⟩
set_option maxHeartbeats 4000000 in
theorem o_setLeastLength (L : AI m SL SL' k k' K np mv lm F F' f f' S S' cnt ll) {c : Nat} (hc6 : c < 100) (h1 : (fun rc w => (fun r w => ∃ n0 : Nat, 2 ≤ n0 ∧ n0 ≤ 10 ∧ nI n0 = (nI c) ∧ r = nI ll ∧ w = (FW g x (lN SL) q u k (nI np) mv lm ch (lN F) d v f (nI cnt) (nI n0))) rc w ∨ (∃ E, (fun E => E = "java/lang/IllegalArgumentException" ∧ ¬ (∃ n0 : Nat, 2 ≤ n0 ∧ n0 ≤ 10 ∧ nI n0 = (nI c))) E ∧ rc = -5 ∧ w = (FW g x (lN SL) q u k (nI np) mv lm ch (lN F) d v f (nI cnt) (nI ll)))) r1 w1) (h2 : (fun rc w => (fun r w => ∃ n0 : Nat, 2 ≤ n0 ∧ n0 ≤ 10 ∧ nI n0 = (nI c) ∧ r = nI ll ∧ w = (FW g y (lN SL') q' u' k' (nI np) mv lm ch (lN F') d' v' f' (nI cnt) (nI n0))) rc w ∨ (∃ E, (fun E => E = "java/lang/IllegalArgumentException" ∧ ¬ (∃ n0 : Nat, 2 ≤ n0 ∧ n0 ≤ 10 ∧ nI n0 = (nI c))) E ∧ rc = -5 ∧ w = (FW g y (lN SL') q' u' k' (nI np) mv lm ch (lN F') d' v' f' (nI cnt) (nI ll)))) r2 w2) : AB g m x y w1 w2 ∧ r1 = r2 := by
  have L9 := L
  obtain ⟨hSL, hF, hk, hk2, hp, hf, hf2, hc, hll, hW, hI, h2l, hG, hm⟩ := L9
  rcases h1 with ⟨j, hj, hj2, ej, rfl, rfl⟩ | ⟨E, hE, rfl, rfl⟩ <;> rcases h2 with ⟨i, hi, hi2, ei, rfl, rfl⟩ | ⟨E2, hE2, rfl, rfl⟩
  · have e1 := nI_q (b := 100) (by omega) (by omega) (by decide) ej.symm
    have e2 := nI_q (b := 100) (by omega) (by omega) (by decide) ei.symm
    subst e1 e2
    exact ⟨AB.of rfl rfl ⟨hSL, hF, hk, hk2, hp, hf, hf2, hc, by omega, hW, hI, h2l, hG, hm⟩, rfl⟩
  · exact absurd ⟨j, hj, hj2, ej⟩ hE2.2
  · exact absurd ⟨i, hi, hi2, ei⟩ hE.2
  · exact ⟨AB.of rfl rfl L, rfl⟩
set_option maxHeartbeats 4000000 in
theorem o_start (L : AI m SL SL' k k' K np mv lm F F' f f' S S' cnt ll) {c : Nat} (hc5 : 2 ≤ c) (hc6 : c ≤ 4) (h1 : (fun rc w => (rc = nI 1 ∧ (fun w => ∃ (n0 : Nat) (k9 : Nat → Int32), 2 ≤ n0 ∧ n0 ≤ 4 ∧ nI n0 = (nI c) ∧ GK k9 (fun _ => 0) ∧ w = (FW g x (lN SL) q u k9 (nI n0) (nI 0) (-1) (-1) (lN 0) d v f (nI cnt) (nI ll))) w) ∨ (∃ E, (fun E => E = "java/lang/IllegalArgumentException" ∧ ¬ (∃ n0 : Nat, 2 ≤ n0 ∧ n0 ≤ 4 ∧ nI n0 = (nI c))) E ∧ rc = nI 0 ∧ w = (FW g x (lN SL) q u k (nI np) mv lm ch (lN F) d v f (nI cnt) (nI ll)))) r1 w1) (h2 : (fun rc w => (rc = nI 1 ∧ (fun w => ∃ (n0 : Nat) (k9 : Nat → Int32), 2 ≤ n0 ∧ n0 ≤ 4 ∧ nI n0 = (nI c) ∧ GK k9 (fun _ => 0) ∧ w = (FW g y (lN SL') q' u' k9 (nI n0) (nI 0) (-1) (-1) (lN 0) d' v' f' (nI cnt) (nI ll))) w) ∨ (∃ E, (fun E => E = "java/lang/IllegalArgumentException" ∧ ¬ (∃ n0 : Nat, 2 ≤ n0 ∧ n0 ≤ 4 ∧ nI n0 = (nI c))) E ∧ rc = nI 0 ∧ w = (FW g y (lN SL') q' u' k' (nI np) mv lm ch (lN F') d' v' f' (nI cnt) (nI ll)))) r2 w2) : AB g m x y w1 w2 ∧ r1 = r2 := by
  have L9 := L
  obtain ⟨hSL, hF, hk, hk2, hp, hf, hf2, hc, hll, hW, hI, h2l, hG, hm⟩ := L9
  rcases h1 with ⟨rfl, j, k9, hj, hj2, ej, hk9, rfl⟩ | ⟨E, hE, rfl, rfl⟩
  · rcases h2 with ⟨rfl, i, k8, hi, hi2, ei, hk8, rfl⟩ | ⟨E2, hE2, rfl, rfl⟩
    · have e1 := nI_q (b := 100) (by omega) (by omega) (by decide) ej.symm
      have e2 := nI_q (b := 100) (by omega) (by omega) (by decide) ei.symm
      subst e1 e2
      exact ⟨AB.of (F := 0) (F' := 0) rfl rfl ⟨hSL, SR.zero m, hk9, hk8, by omega, hf, hf2, hc, hll, hW, hI, h2l, GS.begun hj, hm⟩, rfl⟩
    · exact absurd ⟨j, hj, hj2, ej⟩ hE2.2
  · exact absurd ⟨c, hc5, hc6, rfl⟩ hE.2
set_option maxHeartbeats 4000000 in
theorem o_play (L : AI m SL SL' k k' K np mv lm F F' f f' S S' cnt ll) {c : Nat} (hc4 : c < 4) (h1 : (fun rc w => (fun r w => ∃ a j : Nat, a < 26 ∧ nI a = (nI c) ∧ mv = nI j ∧ j < np ∧ K j < 5 ∧ rwL F < 10 ∧ (((ll ≤ rwL (rwX F a) ∧ inS S cnt (rwX F a)) ∧ r = nI j ∧ w = (FW g x (lN SL) q u (upd k j (nI (K j + 1))) (nI np) (erM K np j) lm (erC K np j ch) (lN 0) d v f (nI cnt) (nI ll))) ∨ (¬ (ll ≤ rwL (rwX F a) ∧ inS S cnt (rwX F a)) ∧ r = -1 ∧ w = (FW g x (lN SL) q u k (nI np) (oI (nxF K np np j)) (nI j) ch (lN (rwX F a)) d v f (nI cnt) (nI ll))))) rc w ∨ (∃ E, (fun E => (E = "java/lang/IllegalArgumentException" ∧ ¬ (∃ a : Nat, a < 26 ∧ nI a = (nI c))) ∨ (E = "java/lang/IllegalStateException" ∧ (∃ a : Nat, a < 26 ∧ nI a = (nI c)) ∧ (mv = -1 ∨ 10 ≤ rwL F))) E ∧ rc = -5 ∧ w = (FW g x (lN SL) q u k (nI np) mv lm ch (lN F) d v f (nI cnt) (nI ll)))) r1 w1) (h2 : (fun rc w => (fun r w => ∃ a j : Nat, a < 26 ∧ nI a = (nI (c + m)) ∧ mv = nI j ∧ j < np ∧ K j < 5 ∧ rwL F' < 10 ∧ (((ll ≤ rwL (rwX F' a) ∧ inS S' cnt (rwX F' a)) ∧ r = nI j ∧ w = (FW g y (lN SL') q' u' (upd k' j (nI (K j + 1))) (nI np) (erM K np j) lm (erC K np j ch) (lN 0) d' v' f' (nI cnt) (nI ll))) ∨ (¬ (ll ≤ rwL (rwX F' a) ∧ inS S' cnt (rwX F' a)) ∧ r = -1 ∧ w = (FW g y (lN SL') q' u' k' (nI np) (oI (nxF K np np j)) (nI j) ch (lN (rwX F' a)) d' v' f' (nI cnt) (nI ll))))) rc w ∨ (∃ E, (fun E => (E = "java/lang/IllegalArgumentException" ∧ ¬ (∃ a : Nat, a < 26 ∧ nI a = (nI (c + m)))) ∨ (E = "java/lang/IllegalStateException" ∧ (∃ a : Nat, a < 26 ∧ nI a = (nI (c + m))) ∧ (mv = -1 ∨ 10 ≤ rwL F'))) E ∧ rc = -5 ∧ w = (FW g y (lN SL') q' u' k' (nI np) mv lm ch (lN F') d' v' f' (nI cnt) (nI ll)))) r2 w2) : AB g m x y w1 w2 ∧ r1 = r2 := by
  have L9 := L
  obtain ⟨hSL, hF, hk, hk2, hp, hf, hf2, hc, hll, hW, hI, h2l, hG, hm⟩ := L9
  have hG2 := hG.mov hF
  rcases h1 with ⟨a, j, ha, ea, emv, hj, hKj, hl, hcs⟩ | ⟨E, hE, rfl, rfl⟩ <;> rcases h2 with ⟨b, j2, hb, eb, emv2, hj2, hKj2, hl2, hcs2⟩ | ⟨E2, hE2, rfl, rfl⟩
  · have e1 := nI_q (b := 100) (by omega) (by omega) (by decide) ea.symm
    have e2 := nI_q (b := 100) (by omega) (by omega) (by decide) eb.symm
    subst e1 e2
    have e3 := nI_q (b := 100) (by omega) (by omega) (by decide) (emv.symm.trans emv2)
    subst e3
    have hx := hF.rx hl hc4 hm
    have hwh := hW.whole (ll := ll) hx
    have hl2 := hG.on emv (by omega)
    rcases hcs with ⟨hy, rfl, rfl⟩ | ⟨hn, rfl, rfl⟩ <;> rcases hcs2 with ⟨hy2, rfl, rfl⟩ | ⟨hn2, rfl, rfl⟩
    · exact ⟨AB.of (F := 0) (F' := 0) rfl rfl ⟨hSL, SR.zero m, hk.up hKj, hk2.up hKj, hp, hf, hf2, hc, hll, hW, hI, h2l, GS.lost hl2 hj hKj, hm⟩, rfl⟩
    · exact absurd (hwh.mp hy) hn2
    · exact absurd (hwh.mpr hy2) hn
    · exact ⟨AB.of rfl rfl ⟨hSL, hx, hk, hk2, hp, hf, hf2, hc, hll, hW, hI, h2l, GS.played hl2 hj hKj, hm⟩, rfl⟩
  · rcases hE2 with ⟨-, q⟩ | ⟨-, -, q | q⟩
    · exact absurd ⟨c + m, by omega, rfl⟩ q
    · exact absurd (emv.symm.trans q) (nI_nem1 (by omega))
    · rw [hF.2.2.1] at q; omega
  · rcases hE with ⟨-, q⟩ | ⟨-, -, q | q⟩
    · exact absurd ⟨c, by omega, rfl⟩ q
    · exact absurd (emv2.symm.trans q) (nI_nem1 (by omega))
    · rw [← hF.2.2.1] at q; omega
  · exact ⟨AB.of rfl rfl L, rfl⟩
set_option maxHeartbeats 4000000 in
theorem o_challenge (L : AI m SL SL' k k' K np mv lm F F' f f' S S' cnt ll) (h1 : (fun rc w => (fun r w => ∃ j j2 : Nat, mv = nI j ∧ lm = nI j2 ∧ j < np ∧ K j < 5 ∧ j2 < np ∧ K j2 < 5 ∧ 0 < rwL F ∧ (((∃ i, i < cnt ∧ ll ≤ rwL (S i) ∧ bgP (S i) F) ∧ r = nI j ∧ w = (FW g x (lN SL) q u (upd k j (nI (K j + 1))) (nI np) (erM K np j) (nI j2) (erC K np j ch) (lN 0) d v f (nI cnt) (nI ll))) ∨ (¬ (∃ i, i < cnt ∧ ll ≤ rwL (S i) ∧ bgP (S i) F) ∧ r = nI j2 ∧ w = (FW g x (lN SL) q u (upd k j2 (nI (K j2 + 1))) (nI np) (erM K np j2) (nI j2) (erC K np j2 ch) (lN 0) d v f (nI cnt) (nI ll))))) rc w ∨ (∃ E, (fun E => E = "java/lang/IllegalStateException" ∧ (mv = -1 ∨ rwL F = 0)) E ∧ rc = -5 ∧ w = (FW g x (lN SL) q u k (nI np) mv lm ch (lN F) d v f (nI cnt) (nI ll)))) r1 w1) (h2 : (fun rc w => (fun r w => ∃ j j2 : Nat, mv = nI j ∧ lm = nI j2 ∧ j < np ∧ K j < 5 ∧ j2 < np ∧ K j2 < 5 ∧ 0 < rwL F' ∧ (((∃ i, i < cnt ∧ ll ≤ rwL (S' i) ∧ bgP (S' i) F') ∧ r = nI j ∧ w = (FW g y (lN SL') q' u' (upd k' j (nI (K j + 1))) (nI np) (erM K np j) (nI j2) (erC K np j ch) (lN 0) d' v' f' (nI cnt) (nI ll))) ∨ (¬ (∃ i, i < cnt ∧ ll ≤ rwL (S' i) ∧ bgP (S' i) F') ∧ r = nI j2 ∧ w = (FW g y (lN SL') q' u' (upd k' j2 (nI (K j2 + 1))) (nI np) (erM K np j2) (nI j2) (erC K np j2 ch) (lN 0) d' v' f' (nI cnt) (nI ll))))) rc w ∨ (∃ E, (fun E => E = "java/lang/IllegalStateException" ∧ (mv = -1 ∨ rwL F' = 0)) E ∧ rc = -5 ∧ w = (FW g y (lN SL') q' u' k' (nI np) mv lm ch (lN F') d' v' f' (nI cnt) (nI ll)))) r2 w2) : AB g m x y w1 w2 ∧ r1 = r2 := by
  have L9 := L
  obtain ⟨hSL, hF, hk, hk2, hp, hf, hf2, hc, hll, hW, hI, h2l, hG, hm⟩ := L9
  have hG2 := hG.mov hF
  rcases h1 with ⟨j, i, emv, elm, hj, hKj, hi, hKi, hl, hcs⟩ | ⟨E, hE, rfl, rfl⟩ <;> rcases h2 with ⟨j2, i2, emv2, elm2, hj2, hKj2, hi2, hKi2, hl2, hcs2⟩ | ⟨E2, hE2, rfl, rfl⟩
  · have e3 := nI_q (b := 100) (by omega) (by omega) (by decide) (emv.symm.trans emv2)
    have e4 := nI_q (b := 100) (by omega) (by omega) (by decide) (elm.symm.trans elm2)
    subst e3 e4
    have hwh := hW.from (ll := ll) hF
    have hl2 := hG.on emv (by omega)
    rcases hcs with ⟨hy, rfl, rfl⟩ | ⟨hn, rfl, rfl⟩ <;> rcases hcs2 with ⟨hy2, rfl, rfl⟩ | ⟨hn2, rfl, rfl⟩
    · exact ⟨AB.of (F := 0) (F' := 0) rfl rfl ⟨hSL, SR.zero m, hk.up hKj, hk2.up hKj, hp, hf, hf2, hc, hll, hW, hI, h2l, GS.lost hl2 hj hKj, hm⟩, rfl⟩
    · exact absurd (hwh.mp hy) hn2
    · exact absurd (hwh.mpr hy2) hn
    · exact ⟨AB.of (F := 0) (F' := 0) rfl rfl ⟨hSL, SR.zero m, hk.up hKi, hk2.up hKi, hp, hf, hf2, hc, hll, hW, hI, h2l, GS.lost hl2 hi hKi, hm⟩, rfl⟩
  · rcases hE2.2 with q | q
    · exact absurd (emv.symm.trans q) (nI_nem1 (by omega))
    · rw [hF.2.2.1] at q; omega
  · rcases hE.2 with q | q
    · exact absurd (emv2.symm.trans q) (nI_nem1 (by omega))
    · rw [← hF.2.2.1] at q; omega
  · exact ⟨AB.of rfl rfl L, rfl⟩
/-- at a place: the letter, or -5 behind the last -/
theorem at_l {X c : Nat} {r : Int32} {w WW : va_W} (hX : rwL X ≤ 10) (hc : c < 100) (h : (w = WW ∧ ∃ j : Nat, j < rwL X ∧ nI j = nI c ∧ r = nI (rwA X j)) ∨ (∃ E, (E = "java/lang/IndexOutOfBoundsException" ∧ ¬ ∃ j : Nat, j < rwL X ∧ nI j = nI c) ∧ r = -5 ∧ w = WW)) : w = WW ∧ ((c < rwL X ∧ r = nI (rwA X c)) ∨ (rwL X ≤ c ∧ r = -5)) := by
  rcases h with ⟨rfl, j, hj, ej, rfl⟩ | ⟨E, ⟨-, q⟩, rfl, rfl⟩
  · have e1 := nI_q (b := 100) (by omega) (by omega) (by decide) ej.symm
    subst e1
    exact ⟨rfl, Or.inl ⟨hj, rfl⟩⟩
  · refine ⟨rfl, Or.inr ⟨?_, rfl⟩⟩
    rcases Nat.lt_or_ge c (rwL X) with z | z
    · exact absurd ⟨c, z, rfl⟩ q
    · exact z
theorem at_s {c : Nat} {r : Int32} {w WW : va_W} (hp : np ≤ 4) (hc : c < 100) (h : (w = WW ∧ ∃ j : Nat, j < np ∧ nI j = nI c ∧ r = nI (K j)) ∨ (∃ E, (E = "java/lang/IndexOutOfBoundsException" ∧ ¬ ∃ j : Nat, j < np ∧ nI j = nI c) ∧ r = -5 ∧ w = WW)) : w = WW ∧ ((c < np ∧ r = nI (K c)) ∨ (np ≤ c ∧ r = -5)) := by
  rcases h with ⟨rfl, j, hj, ej, rfl⟩ | ⟨E, ⟨-, q⟩, rfl, rfl⟩
  · have e1 := nI_q (b := 100) (by omega) (by omega) (by decide) ej.symm
    subst e1
    exact ⟨rfl, Or.inl ⟨hj, rfl⟩⟩
  · refine ⟨rfl, Or.inr ⟨?_, rfl⟩⟩
    rcases Nat.lt_or_ge c np with z | z
    · exact absurd ⟨c, z, rfl⟩ q
    · exact z
theorem nI_nem5 {n : Nat} (h : n < 2147483648) : ¬ nI n = -5 := fun q => by
  have h1 := nI_toInt (n := n) (by omega)
  rw [q] at h1
  have h2 : (-5 : Int32).toInt = -5 := by decide
  omega
theorem shl_I {n m : Nat} (h : n < 16) (hm : m ≤ 21) : nI n <<< (nI m &&& 31) = nI (n * 2 ^ m) := by
  refine pk_shlN (nI m &&& 31) m (sh_a m (by omega)) ?_
  have h1 : 2 ^ m ≤ 2 ^ 21 := Nat.pow_le_pow_right (by decide) hm
  have h2 : n * 2 ^ m ≤ 15 * 2 ^ 21 := Nat.mul_le_mul (by omega) h1
  omega
end LAWC
