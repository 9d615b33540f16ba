section COMB
variable {g : GG} {x q u d v : Nat} {SL : Nat} {k : Nat → Int32} {K : Nat → Nat} {np : Nat} {mv lm ch : Int32} {F : Nat} {f : Nat → Int64} {S : Nat → Nat} {cnt ll : Nat} {h : Nat} {a : Nat → Nat} {tu la wi th : Int32} {fS fL fN fK fF fW fE fC fG fO : Nat → Int32} {D : Nat → Nat} {o : Nat} {fo : Nat → Int64} {x0 r1 r2 rc : Int32} {w w2 : va_W}
theorem o_write (L : LI SL k K np mv lm ch F f S cnt ll tu la wi fS fL fN fK fF D) (h1 : (fun rc w => (rc = nI 0 ∧ ∃ (r : Int32) (w1 : va_W), (fun r w => ∃ a : Nat, a < 26 ∧ nI a = x0 ∧ rwL SL < 10 ∧ r = nI (rwL SL + 1) ∧ w = (FW g x (lN (rwX SL a)) q u k (nI np) mv lm ch (lN F) d v f (nI cnt) (nI ll))) r w1 ∧ w = OC g o (vp_updL fo 0 r.toInt64) :: w1) ∨ (∃ E, (fun E => (E = "java/lang/IllegalArgumentException" ∧ ¬ (∃ a : Nat, a < 26 ∧ nI a = x0)) ∨ (E = "java/lang/IllegalStateException" ∧ (∃ a : Nat, a < 26 ∧ nI a = x0) ∧ 10 ≤ rwL SL)) E ∧ ((E = "java/lang/IllegalArgumentException" ∧ rc = nI 1) ∨ (E = "java/lang/IllegalStateException" ∧ rc = nI 2)) ∧ w = OC g o fo :: (FW g x (lN SL) q u k (nI np) mv lm ch (lN F) d v f (nI cnt) (nI ll)))) rc w) (h2 : (fun r w => (∃ lt : Nat, lt < 26 ∧ nI lt = x0 ∧ rwL SL < 10 ∧ r = nI (rwL SL + 1) ∧ w = (MW g h a (nI (rwL SL + 1)) (nI cnt) (nI ll) (nI np) tu la wi (nI (rwL F)) (nI 0) (upd fS (rwL SL) (nI lt)) fL fN fK fF fW fE fC fG fO)) ∨ (¬ (∃ z : Nat, z < 26 ∧ nI z = x0) ∧ w = (MW g h a (nI (rwL SL)) (nI cnt) (nI ll) (nI np) tu la wi (nI (rwL F)) (nI 1) fS fL fN fK fF fW fE fC fG fO)) ∨ ((∃ z : Nat, z < 26 ∧ nI z = x0) ∧ 10 ≤ rwL SL ∧ w = (MW g h a (nI (rwL SL)) (nI cnt) (nI ll) (nI np) tu la wi (nI (rwL F)) (nI 2) fS fL fN fK fF fW fE fC fG fO))) r2 w2) : OT g x h o rc r2 w w2 := by
  obtain ⟨hSL, hF, hk, hp, hf, hc, hll, hM, hfS, hfF, hK, hW, hG⟩ := L
  rcases h1 with ⟨rfl, r, w1, ⟨a1, ha, ea, hl, rfl, rfl⟩, rfl⟩ | ⟨E, hE, hrc, rfl⟩
  · rcases h2 with ⟨lt, hlt, elt, hl2, rfl, rfl⟩ | ⟨hn, rfl⟩ | ⟨_, h10, rfl⟩
    · have e := nI_e ha hlt (by omega) ea elt
      subst e
      exact ⟨_, _, nI 0, rfl, IV.of rfl rfl (by rw [hSL.rxl hl (by omega)]) rfl ⟨hSL.rx hl ha, hF, hk, hp, hf, hc, hll, hM, hfS.put hSL hl ha, hfF, hK, hW, hG⟩, rfl, fun _ => rfl⟩
    · exact absurd ⟨a1, ha, ea⟩ hn
    · omega
  · rcases hE with ⟨rfl, hn⟩ | ⟨rfl, hy, h10⟩ <;> rcases hrc with ⟨e, rfl⟩ | ⟨e, rfl⟩
    · rcases h2 with ⟨lt, hlt, elt, hl2, rfl, rfl⟩ | ⟨hn2, rfl⟩ | ⟨hy, h10, rfl⟩
      · exact absurd ⟨lt, hlt, elt⟩ hn
      · exact ⟨fo, _, nI 1, rfl, IV.of rfl rfl rfl rfl ⟨hSL, hF, hk, hp, hf, hc, hll, hM, hfS, hfF, hK, hW, hG⟩, rfl, fun e => absurd e (by decide +kernel)⟩
      · exact absurd hy hn
    · exact absurd e (by decide +kernel)
    · exact absurd e (by decide +kernel)
    · rcases h2 with ⟨lt, hlt, elt, hl2, rfl, rfl⟩ | ⟨hn2, rfl⟩ | ⟨hy, h10, rfl⟩
      · omega
      · exact absurd hy hn2
      · exact ⟨fo, _, nI 2, rfl, IV.of rfl rfl rfl rfl ⟨hSL, hF, hk, hp, hf, hc, hll, hM, hfS, hfF, hK, hW, hG⟩, rfl, fun e => absurd e (by decide +kernel)⟩
theorem o_slipAt (L : LI SL k K np mv lm ch F f S cnt ll tu la wi fS fL fN fK fF D) (h1 : (fun rc w => (rc = nI 0 ∧ ∃ (r : Int32) (w1 : va_W), (fun r w => w = (FW g x (lN SL) q u k (nI np) mv lm ch (lN F) d v f (nI cnt) (nI ll)) ∧ ∃ j : Nat, j < rwL SL ∧ nI j = x0 ∧ r = nI (rwA SL j)) r w1 ∧ w = OC g o (vp_updL fo 0 r.toInt64) :: w1) ∨ (∃ E, (fun E => E = "java/lang/IndexOutOfBoundsException" ∧ ¬ ∃ j : Nat, j < rwL SL ∧ nI j = x0) E ∧ ((E = "java/lang/IndexOutOfBoundsException" ∧ rc = nI 1)) ∧ w = OC g o fo :: (FW g x (lN SL) q u k (nI np) mv lm ch (lN F) d v f (nI cnt) (nI ll)))) rc w) (h2 : (fun r w => (∃ j : Nat, j < rwL SL ∧ nI j = x0 ∧ r = nI (rwA SL j) ∧ w = (MW g h a (nI (rwL SL)) (nI cnt) (nI ll) (nI np) tu la wi (nI (rwL F)) (nI 0) fS fL fN fK fF fW fE fC fG fO)) ∨ ((¬ ∃ j : Nat, j < rwL SL ∧ nI j = x0) ∧ w = (MW g h a (nI (rwL SL)) (nI cnt) (nI ll) (nI np) tu la wi (nI (rwL F)) (nI 1) fS fL fN fK fF fW fE fC fG fO))) r2 w2) : OT g x h o rc r2 w w2 := by
  obtain ⟨hSL, hF, hk, hp, hf, hc, hll, hM, hfS, hfF, hK, hW, hG⟩ := L
  rcases h1 with ⟨rfl, r, w1, ⟨rfl, j1, hj, ej, rfl⟩, rfl⟩ | ⟨E, ⟨rfl, hn⟩, ⟨e, rfl⟩, rfl⟩
  · rcases h2 with ⟨j2, hj2, ej2, rfl, rfl⟩ | ⟨hn, rfl⟩
    · have e := nI_e hj hj2 (by have := hSL.1; omega) ej ej2
      subst e
      exact ⟨_, _, nI 0, rfl, IV.of rfl rfl rfl rfl ⟨hSL, hF, hk, hp, hf, hc, hll, hM, hfS, hfF, hK, hW, hG⟩, rfl, fun _ => rfl⟩
    · exact absurd ⟨j1, hj, ej⟩ hn
  · rcases h2 with ⟨j2, hj2, ej2, rfl, rfl⟩ | ⟨hn2, rfl⟩
    · exact absurd ⟨j2, hj2, ej2⟩ hn
    · exact ⟨fo, _, nI 1, rfl, IV.of rfl rfl rfl rfl ⟨hSL, hF, hk, hp, hf, hc, hll, hM, hfS, hfF, hK, hW, hG⟩, rfl, fun e => absurd e (by decide +kernel)⟩
theorem o_fragmentAt (L : LI SL k K np mv lm ch F f S cnt ll tu la wi fS fL fN fK fF D) (h1 : (fun rc w => (rc = nI 0 ∧ ∃ (r : Int32) (w1 : va_W), (fun r w => w = (FW g x (lN SL) q u k (nI np) mv lm ch (lN F) d v f (nI cnt) (nI ll)) ∧ ∃ j : Nat, j < rwL F ∧ nI j = x0 ∧ r = nI (rwA F j)) r w1 ∧ w = OC g o (vp_updL fo 0 r.toInt64) :: w1) ∨ (∃ E, (fun E => E = "java/lang/IndexOutOfBoundsException" ∧ ¬ ∃ j : Nat, j < rwL F ∧ nI j = x0) E ∧ ((E = "java/lang/IndexOutOfBoundsException" ∧ rc = nI 1)) ∧ w = OC g o fo :: (FW g x (lN SL) q u k (nI np) mv lm ch (lN F) d v f (nI cnt) (nI ll)))) rc w) (h2 : (fun r w => (∃ j : Nat, j < rwL F ∧ nI j = x0 ∧ r = nI (rwA F j) ∧ w = (MW g h a (nI (rwL SL)) (nI cnt) (nI ll) (nI np) tu la wi (nI (rwL F)) (nI 0) fS fL fN fK fF fW fE fC fG fO)) ∨ ((¬ ∃ j : Nat, j < rwL F ∧ nI j = x0) ∧ w = (MW g h a (nI (rwL SL)) (nI cnt) (nI ll) (nI np) tu la wi (nI (rwL F)) (nI 1) fS fL fN fK fF fW fE fC fG fO))) r2 w2) : OT g x h o rc r2 w w2 := by
  obtain ⟨hSL, hF, hk, hp, hf, hc, hll, hM, hfS, hfF, hK, hW, hG⟩ := L
  rcases h1 with ⟨rfl, r, w1, ⟨rfl, j1, hj, ej, rfl⟩, rfl⟩ | ⟨E, ⟨rfl, hn⟩, ⟨e, rfl⟩, rfl⟩
  · rcases h2 with ⟨j2, hj2, ej2, rfl, rfl⟩ | ⟨hn, rfl⟩
    · have e := nI_e hj hj2 (by have := hF.1; omega) ej ej2
      subst e
      exact ⟨_, _, nI 0, rfl, IV.of rfl rfl rfl rfl ⟨hSL, hF, hk, hp, hf, hc, hll, hM, hfS, hfF, hK, hW, hG⟩, rfl, fun _ => rfl⟩
    · exact absurd ⟨j1, hj, ej⟩ hn
  · rcases h2 with ⟨j2, hj2, ej2, rfl, rfl⟩ | ⟨hn2, rfl⟩
    · exact absurd ⟨j2, hj2, ej2⟩ hn
    · exact ⟨fo, _, nI 1, rfl, IV.of rfl rfl rfl rfl ⟨hSL, hF, hk, hp, hf, hc, hll, hM, hfS, hfF, hK, hW, hG⟩, rfl, fun e => absurd e (by decide +kernel)⟩
theorem o_strikes (L : LI SL k K np mv lm ch F f S cnt ll tu la wi fS fL fN fK fF D) (h1 : (fun rc w => (rc = nI 0 ∧ ∃ (r : Int32) (w1 : va_W), (fun r w => w = (FW g x (lN SL) q u k (nI np) mv lm ch (lN F) d v f (nI cnt) (nI ll)) ∧ ∃ j : Nat, j < np ∧ nI j = x0 ∧ r = nI (K j)) r w1 ∧ w = OC g o (vp_updL fo 0 r.toInt64) :: w1) ∨ (∃ E, (fun E => E = "java/lang/IndexOutOfBoundsException" ∧ ¬ ∃ j : Nat, j < np ∧ nI j = x0) E ∧ ((E = "java/lang/IndexOutOfBoundsException" ∧ rc = nI 1)) ∧ w = OC g o fo :: (FW g x (lN SL) q u k (nI np) mv lm ch (lN F) d v f (nI cnt) (nI ll)))) rc w) (h2 : (fun r w => (∃ j : Nat, j < np ∧ nI j = x0 ∧ r = nI (K j) ∧ w = (MW g h a (nI (rwL SL)) (nI cnt) (nI ll) (nI np) tu la wi (nI (rwL F)) (nI 0) fS fL fN fK fF fW fE fC fG fO)) ∨ ((¬ ∃ j : Nat, j < np ∧ nI j = x0) ∧ w = (MW g h a (nI (rwL SL)) (nI cnt) (nI ll) (nI np) tu la wi (nI (rwL F)) (nI 1) fS fL fN fK fF fW fE fC fG fO))) r2 w2) : OT g x h o rc r2 w w2 := by
  obtain ⟨hSL, hF, hk, hp, hf, hc, hll, hM, hfS, hfF, hK, hW, hG⟩ := L
  rcases h1 with ⟨rfl, r, w1, ⟨rfl, j1, hj, ej, rfl⟩, rfl⟩ | ⟨E, ⟨rfl, hn⟩, ⟨e, rfl⟩, rfl⟩
  · rcases h2 with ⟨j2, hj2, ej2, rfl, rfl⟩ | ⟨hn, rfl⟩
    · have e := nI_e hj hj2 (by omega) ej ej2
      subst e
      exact ⟨_, _, nI 0, rfl, IV.of rfl rfl rfl rfl ⟨hSL, hF, hk, hp, hf, hc, hll, hM, hfS, hfF, hK, hW, hG⟩, rfl, fun _ => rfl⟩
    · exact absurd ⟨j1, hj, ej⟩ hn
  · rcases h2 with ⟨j2, hj2, ej2, rfl, rfl⟩ | ⟨hn2, rfl⟩
    · exact absurd ⟨j2, hj2, ej2⟩ hn
    · exact ⟨fo, _, nI 1, rfl, IV.of rfl rfl rfl rfl ⟨hSL, hF, hk, hp, hf, hc, hll, hM, hfS, hfF, hK, hW, hG⟩, rfl, fun e => absurd e (by decide +kernel)⟩
theorem o_addWord (L : LI SL k K np mv lm ch F f S cnt ll tu la wi fS fL fN fK fF D) (h1 : (fun rc w => (rc = nI 0 ∧ ∃ (r : Int32) (w1 : va_W), (fun r w => 2 ≤ rwL SL ∧ cnt < 50 ∧ ¬ inS S cnt SL ∧ r = nI (cnt + 1) ∧ ∃ (f9 : Nat → Int64) (S9 : Nat → Nat) (t : Nat), w = FW g x (lN SL) q u k (nI np) mv lm ch (lN F) d v f9 (nI (cnt + 1)) (nI ll) ∧ DR f9 S9 (cnt + 1) ∧ InsAt S cnt t SL S9) r w1 ∧ w = OC g o (vp_updL fo 0 r.toInt64) :: w1) ∨ (∃ E, (fun E => (E = "java/lang/IllegalArgumentException" ∧ ¬ 2 ≤ rwL SL) ∨ (E = "java/lang/IllegalStateException" ∧ 2 ≤ rwL SL ∧ (50 ≤ cnt ∨ inS S cnt SL))) E ∧ ((E = "java/lang/IllegalArgumentException" ∧ rc = nI 1) ∨ (E = "java/lang/IllegalStateException" ∧ rc = nI 2)) ∧ w = OC g o fo :: (FW g x (lN SL) q u k (nI np) mv lm ch (lN F) d v f (nI cnt) (nI ll)))) rc w) (h2 : (fun r w => (2 ≤ rwL SL ∧ cnt < 50 ∧ (∀ j, j < cnt → D j ≠ SL) ∧ r = nI (cnt + 1) ∧ ∃ f9, w = (MW g h a (nI (rwL SL)) (nI (cnt + 1)) (nI ll) (nI np) tu la wi (nI (rwL F)) (nI 0) fS f9 (upd fN cnt (nI (rwL SL))) fK fF fW fE fC fG fO) ∧ MD f9 (upd fN cnt (nI (rwL SL))) (adD D cnt SL) (cnt + 1)) ∨ (¬ 2 ≤ rwL SL ∧ w = (MW g h a (nI (rwL SL)) (nI cnt) (nI ll) (nI np) tu la wi (nI (rwL F)) (nI 1) fS fL fN fK fF fW fE fC fG fO)) ∨ (2 ≤ rwL SL ∧ (50 ≤ cnt ∨ ∃ j, j < cnt ∧ D j = SL) ∧ w = (MW g h a (nI (rwL SL)) (nI cnt) (nI ll) (nI np) tu la wi (nI (rwL F)) (nI 2) fS fL fN fK fF fW fE fC fG fO))) r2 w2) : OT g x h o rc r2 w w2 := by
  obtain ⟨hSL, hF, hk, hp, hf, hc, hll, hM, hfS, hfF, hK, hW, hG⟩ := L
  rcases h1 with ⟨rfl, r, w1, ⟨h2l, h50, hn, rfl, f9, S9, t, rfl, hd9, hi9⟩, rfl⟩ | ⟨E, hE, hrc, rfl⟩
  · rcases h2 with ⟨_, _, hnD, rfl, f8, rfl, hm8⟩ | ⟨hno, rfl⟩ | ⟨_, hno, rfl⟩
    · exact ⟨_, _, nI 0, rfl, IV.of rfl rfl rfl rfl ⟨hSL, hF, hk, hp, hd9, by omega, hll, hm8, hfS, hfF, hK, hW.add hi9 hn h2l, hG⟩, rfl, fun _ => rfl⟩
    · exact absurd h2l hno
    · rcases hno with q9 | q9
      · omega
      · exact absurd ((hW.1.ins SL).mpr q9) hn
  · rcases hE with ⟨rfl, hn⟩ | ⟨rfl, hy, ho⟩ <;> rcases hrc with ⟨e, rfl⟩ | ⟨e, rfl⟩
    · rcases h2 with ⟨hy, _, _, _, _⟩ | ⟨hno, rfl⟩ | ⟨hy, hno, rfl⟩
      · exact absurd hy hn
      · exact ⟨fo, _, nI 1, rfl, IV.of rfl rfl rfl rfl ⟨hSL, hF, hk, hp, hf, hc, hll, hM, hfS, hfF, hK, hW, hG⟩, rfl, fun e => absurd e (by decide +kernel)⟩
      · exact absurd hy hn
    · exact absurd e (by decide +kernel)
    · exact absurd e (by decide +kernel)
    · rcases h2 with ⟨_, h50, hnD, _⟩ | ⟨hno, rfl⟩ | ⟨_, hno, rfl⟩
      · rcases ho with q9 | q9
        · omega
        · obtain ⟨i, hi, ei⟩ := (hW.1.ins SL).mp q9
          exact absurd ei (hnD i hi)
      · exact absurd hy hno
      · exact ⟨fo, _, nI 2, rfl, IV.of rfl rfl rfl rfl ⟨hSL, hF, hk, hp, hf, hc, hll, hM, hfS, hfF, hK, hW, hG⟩, rfl, fun e => absurd e (by decide +kernel)⟩
theorem o_removeWord (L : LI SL k K np mv lm ch F f S cnt ll tu la wi fS fL fN fK fF D) (h1 : (fun rc w => (rc = nI 0 ∧ ∃ (r : Int32) (w1 : va_W), (fun r w => r = nI (cnt - 1) ∧ ∃ (f9 : Nat → Int64) (S9 : Nat → Nat) (t : Nat), w = FW g x (lN SL) q u k (nI np) mv lm ch (lN F) d v f9 (nI (cnt - 1)) (nI ll) ∧ S t = SL ∧ DR f9 S9 (cnt - 1) ∧ RemAt S cnt t S9) r w1 ∧ w = OC g o (vp_updL fo 0 r.toInt64) :: w1) ∨ (∃ E, (fun E => E = "java/lang/IllegalStateException" ∧ ¬ inS S cnt SL) E ∧ ((E = "java/lang/IllegalStateException" ∧ rc = nI 1)) ∧ w = OC g o fo :: (FW g x (lN SL) q u k (nI np) mv lm ch (lN F) d v f (nI cnt) (nI ll)))) rc w) (h2 : (fun r w => (∃ t, t < cnt ∧ D t = SL ∧ r = nI (cnt - 1) ∧ ∃ f9, w = (MW g h a (nI (rwL SL)) (nI (cnt - 1)) (nI ll) (nI np) tu la wi (nI (rwL F)) (nI 0) fS f9 (upd fN t (nI (rwL (D (cnt - 1))))) fK fF fW fE fC fG fO) ∧ MD f9 (upd fN t (nI (rwL (D (cnt - 1))))) (rmD D cnt t) (cnt - 1)) ∨ ((∀ j, j < cnt → D j ≠ SL) ∧ w = (MW g h a (nI (rwL SL)) (nI cnt) (nI ll) (nI np) tu la wi (nI (rwL F)) (nI 1) fS fL fN fK fF fW fE fC fG fO))) r2 w2) : OT g x h o rc r2 w w2 := by
  obtain ⟨hSL, hF, hk, hp, hf, hc, hll, hM, hfS, hfF, hK, hW, hG⟩ := L
  rcases h1 with ⟨rfl, r, w1, ⟨rfl, f9, S9, t, rfl, et, hd9, hr9⟩, rfl⟩ | ⟨E, ⟨rfl, hn⟩, ⟨e, rfl⟩, rfl⟩
  · rcases h2 with ⟨t2, ht2, et2, rfl, f8, rfl, hm8⟩ | ⟨hno, rfl⟩
    · exact ⟨_, _, nI 0, rfl, IV.of rfl rfl rfl rfl ⟨hSL, hF, hk, hp, hd9, by omega, hll, hm8, hfS, hfF, hK, hW.rem hr9 ht2 (et.trans et2.symm), hG⟩, rfl, fun _ => rfl⟩
    · obtain ⟨i, hi, ei⟩ := (hW.1.ins SL).mp ⟨t, hr9.1, et⟩
      exact absurd ei (hno i hi)
  · rcases h2 with ⟨t2, ht2, et2, _⟩ | ⟨hno, rfl⟩
    · exact absurd ((hW.1.ins SL).mpr ⟨t2, ht2, et2⟩) hn
    · exact ⟨fo, _, nI 1, rfl, IV.of rfl rfl rfl rfl ⟨hSL, hF, hk, hp, hf, hc, hll, hM, hfS, hfF, hK, hW, hG⟩, rfl, fun e => absurd e (by decide +kernel)⟩
theorem o_copyWord (L : LI SL k K np mv lm ch F f S cnt ll tu la wi fS fL fN fK fF D) (h1 : (fun rc w => (rc = nI 0 ∧ ∃ (r : Int32) (w1 : va_W), (fun r w => ∃ j : Nat, j < cnt ∧ nI j = x0 ∧ r = nI (rwL (S j)) ∧ w = (FW g x (lN (S j)) q u k (nI np) mv lm ch (lN F) d v f (nI cnt) (nI ll))) r w1 ∧ w = OC g o (vp_updL fo 0 r.toInt64) :: w1) ∨ (∃ E, (fun E => E = "java/lang/IndexOutOfBoundsException" ∧ ¬ ∃ j : Nat, j < cnt ∧ nI j = x0) E ∧ ((E = "java/lang/IndexOutOfBoundsException" ∧ rc = nI 1)) ∧ w = OC g o fo :: (FW g x (lN SL) q u k (nI np) mv lm ch (lN F) d v f (nI cnt) (nI ll)))) rc w) (h2 : (fun r w => (∃ j t : Nat, j < cnt ∧ nI j = x0 ∧ t < cnt ∧ rankD D cnt t = j ∧ r = nI (rwL (D t)) ∧ ∃ f9, w = (MW g h a (nI (rwL (D t))) (nI cnt) (nI ll) (nI np) tu la wi (nI (rwL F)) (nI 0) f9 fL fN fK fF fW fE fC fG fO) ∧ MRw f9 (D t)) ∨ ((¬ ∃ j : Nat, j < cnt ∧ nI j = x0) ∧ w = (MW g h a (nI (rwL SL)) (nI cnt) (nI ll) (nI np) tu la wi (nI (rwL F)) (nI 1) fS fL fN fK fF fW fE fC fG fO))) r2 w2) : OT g x h o rc r2 w w2 := by
  obtain ⟨hSL, hF, hk, hp, hf, hc, hll, hM, hfS, hfF, hK, hW, hG⟩ := L
  rcases h1 with ⟨rfl, r, w1, ⟨j1, hj, ej, rfl, rfl⟩, rfl⟩ | ⟨E, ⟨rfl, hn⟩, ⟨e, rfl⟩, rfl⟩
  · rcases h2 with ⟨j2, t, hj2, ej2, ht, hr, rfl, f9, rfl, hm9⟩ | ⟨hno, rfl⟩
    · have e := nI_e hj hj2 (by omega) ej ej2
      subst e
      have eD := hW.rank hj ht hr
      rw [eD] at hm9 ⊢
      exact ⟨_, _, nI 0, rfl, IV.of rfl rfl rfl rfl ⟨(hf _ hj).2, hF, hk, hp, hf, hc, hll, hM, hm9, hfF, hK, hW, hG⟩, rfl, fun _ => rfl⟩
    · exact absurd ⟨j1, hj, ej⟩ hno
  · rcases h2 with ⟨j2, t, hj2, ej2, _⟩ | ⟨hno, rfl⟩
    · exact absurd ⟨j2, hj2, ej2⟩ hn
    · exact ⟨fo, _, nI 1, rfl, IV.of rfl rfl rfl rfl ⟨hSL, hF, hk, hp, hf, hc, hll, hM, hfS, hfF, hK, hW, hG⟩, rfl, fun e => absurd e (by decide +kernel)⟩
theorem o_setLeastLength (L : LI SL k K np mv lm ch F f S cnt ll tu la wi fS fL fN fK fF D) (h1 : (fun rc w => (rc = nI 0 ∧ ∃ (r : Int32) (w1 : va_W), (fun r w => ∃ n0 : Nat, 2 ≤ n0 ∧ n0 ≤ 10 ∧ nI n0 = x0 ∧ r = nI ll ∧ w = (FW g x (lN SL) q u k (nI np) mv lm ch (lN F) d v f (nI cnt) (nI n0))) r w1 ∧ w = OC g o (vp_updL fo 0 r.toInt64) :: w1) ∨ (∃ E, (fun E => E = "java/lang/IllegalArgumentException" ∧ ¬ (∃ n0 : Nat, 2 ≤ n0 ∧ n0 ≤ 10 ∧ nI n0 = x0)) E ∧ ((E = "java/lang/IllegalArgumentException" ∧ rc = nI 1)) ∧ w = OC g o fo :: (FW g x (lN SL) q u k (nI np) mv lm ch (lN F) d v f (nI cnt) (nI ll)))) rc w) (h2 : (fun r w => (∃ n0 : Nat, 2 ≤ n0 ∧ n0 ≤ 10 ∧ nI n0 = x0 ∧ r = nI ll ∧ w = (MW g h a (nI (rwL SL)) (nI cnt) (nI n0) (nI np) tu la wi (nI (rwL F)) (nI 0) fS fL fN fK fF fW fE fC fG fO)) ∨ (¬ (∃ n0 : Nat, 2 ≤ n0 ∧ n0 ≤ 10 ∧ nI n0 = x0) ∧ w = (MW g h a (nI (rwL SL)) (nI cnt) (nI ll) (nI np) tu la wi (nI (rwL F)) (nI 1) fS fL fN fK fF fW fE fC fG fO))) r2 w2) : OT g x h o rc r2 w w2 := by
  obtain ⟨hSL, hF, hk, hp, hf, hc, hll, hM, hfS, hfF, hK, hW, hG⟩ := L
  rcases h1 with ⟨rfl, r, w1, ⟨n1, hl1, hu1, e1, rfl, rfl⟩, rfl⟩ | ⟨E, ⟨rfl, hn⟩, ⟨e, rfl⟩, rfl⟩
  · rcases h2 with ⟨n2, hl2, hu2, e2, rfl, rfl⟩ | ⟨hno, rfl⟩
    · have e := nI_e (b := 11) (by omega) (by omega) (by omega) e1 e2
      subst e
      exact ⟨_, _, nI 0, rfl, IV.of rfl rfl rfl rfl ⟨hSL, hF, hk, hp, hf, hc, hu1, hM, hfS, hfF, hK, hW, hG⟩, rfl, fun _ => rfl⟩
    · exact absurd ⟨n1, hl1, hu1, e1⟩ hno
  · rcases h2 with ⟨n2, hl2, hu2, e2, _⟩ | ⟨hno, rfl⟩
    · exact absurd ⟨n2, hl2, hu2, e2⟩ hn
    · exact ⟨fo, _, nI 1, rfl, IV.of rfl rfl rfl rfl ⟨hSL, hF, hk, hp, hf, hc, hll, hM, hfS, hfF, hK, hW, hG⟩, rfl, fun e => absurd e (by decide +kernel)⟩
theorem o_start (L : LI SL k K np mv lm ch F f S cnt ll tu la wi fS fL fN fK fF D) (h1 : (fun rc w => (rc = nI 0 ∧ (fun w => ∃ (n0 : Nat) (k9 : Nat → Int32), 2 ≤ n0 ∧ n0 ≤ 4 ∧ nI n0 = x0 ∧ GK k9 (fun _ => 0) ∧ w = (FW g x (lN SL) q u k9 (nI n0) (nI 0) (-1) (-1) (lN 0) d v f (nI cnt) (nI ll))) w) ∨ (∃ E, (fun E => E = "java/lang/IllegalArgumentException" ∧ ¬ (∃ n0 : Nat, 2 ≤ n0 ∧ n0 ≤ 4 ∧ nI n0 = x0)) E ∧ ((E = "java/lang/IllegalArgumentException" ∧ rc = nI 1)) ∧ w = (FW g x (lN SL) q u k (nI np) mv lm ch (lN F) d v f (nI cnt) (nI ll)))) rc w) (h2 : (fun w => (∃ (n0 : Nat) (k9 : Nat → Int32), 2 ≤ n0 ∧ n0 ≤ 4 ∧ nI n0 = x0 ∧ GK k9 (fun _ => 0) ∧ w = (MW g h a (nI (rwL SL)) (nI cnt) (nI ll) (nI n0) (nI 0) la (-1) (nI 0) (nI 0) fS fL fN k9 fF fW fE fC fG fO)) ∨ (¬ (∃ n0 : Nat, 2 ≤ n0 ∧ n0 ≤ 4 ∧ nI n0 = x0) ∧ w = (MW g h a (nI (rwL SL)) (nI cnt) (nI ll) (nI np) tu la wi (nI (rwL F)) (nI 1) fS fL fN fK fF fW fE fC fG fO))) w2) : OV g x h rc w w2 := by
  obtain ⟨hSL, hF, hk, hp, hf, hc, hll, hM, hfS, hfF, hK, hW, hG⟩ := L
  rcases h1 with ⟨rfl, n1, k1, hl1, hu1, e1, hk1, rfl⟩ | ⟨E, ⟨rfl, hn⟩, ⟨e, rfl⟩, rfl⟩
  · rcases h2 with ⟨n2, k2, hl2, hu2, e2, hk2, rfl⟩ | ⟨hno, rfl⟩
    · have e := nI_e (b := 11) (by omega) (by omega) (by omega) e1 e2
      subst e
      exact ⟨nI 0, IV.of (F := 0) rfl rfl rfl (by rw [rwL0]) ⟨hSL, RV.zero, hk1, hu1, hf, hc, hll, hM, hfS, MRw.nil _, hk2, hW, GR.begun hl1⟩, rfl⟩
    · exact absurd ⟨n1, hl1, hu1, e1⟩ hno
  · rcases h2 with ⟨n2, k2, hl2, hu2, e2, _⟩ | ⟨hno, rfl⟩
    · exact absurd ⟨n2, hl2, hu2, e2⟩ hn
    · exact ⟨nI 1, IV.of rfl rfl rfl rfl ⟨hSL, hF, hk, hp, hf, hc, hll, hM, hfS, hfF, hK, hW, hG⟩, rfl⟩
theorem o_play (L : LI SL k K np mv lm ch F f S cnt ll tu la wi fS fL fN fK fF D) (h1 : (fun rc w => (rc = nI 0 ∧ ∃ (r : Int32) (w1 : va_W), (fun r w => ∃ a j : Nat, a < 26 ∧ nI a = x0 ∧ mv = nI j ∧ j < np ∧ K j < 5 ∧ rwL F < 10 ∧ (((ll ≤ rwL (rwX F a) ∧ inS S cnt (rwX F a)) ∧ r = nI j ∧ w = (FW g x (lN SL) q u (upd k j (nI (K j + 1))) (nI np) (erM K np j) lm (erC K np j ch) (lN 0) d v f (nI cnt) (nI ll))) ∨ (¬ (ll ≤ rwL (rwX F a) ∧ inS S cnt (rwX F a)) ∧ r = -1 ∧ w = (FW g x (lN SL) q u k (nI np) (oI (nxF K np np j)) (nI j) ch (lN (rwX F a)) d v f (nI cnt) (nI ll))))) r w1 ∧ w = OC g o (vp_updL fo 0 r.toInt64) :: w1) ∨ (∃ E, (fun E => (E = "java/lang/IllegalArgumentException" ∧ ¬ (∃ a : Nat, a < 26 ∧ nI a = x0)) ∨ (E = "java/lang/IllegalStateException" ∧ (∃ a : Nat, a < 26 ∧ nI a = x0) ∧ (mv = -1 ∨ 10 ≤ rwL F))) E ∧ ((E = "java/lang/IllegalArgumentException" ∧ rc = nI 1) ∨ (E = "java/lang/IllegalStateException" ∧ rc = nI 2)) ∧ w = OC g o fo :: (FW g x (lN SL) q u k (nI np) mv lm ch (lN F) d v f (nI cnt) (nI ll)))) rc w) (h2 : (fun r w => (∃ lt j : Nat, lt < 26 ∧ nI lt = x0 ∧ (0 < np ∧ wi = -1) ∧ tu = nI j ∧ j < np ∧ K j < 5 ∧ rwL F < 10 ∧ (((∃ k, k < cnt ∧ hwM D cnt ll (rwX F lt) k true) ∧ r = nI j ∧ w = (MW g h a (nI (rwL SL)) (nI cnt) (nI ll) (nI np) (lsT K np j) la (lsW K np j) (nI 0) (nI 0) fS fL fN (upd fK j (nI ((K j) + 1))) (upd fF (rwL F) (nI lt)) fW fE fC fG fO)) ∨ (¬ (∃ k, k < cnt ∧ hwM D cnt ll (rwX F lt) k true) ∧ r = -1 ∧ ∃ t, nxF K np np j = some t ∧ w = (MW g h a (nI (rwL SL)) (nI cnt) (nI ll) (nI np) (nI t) (nI j) wi (nI (rwL (rwX F lt))) (nI 0) fS fL fN fK (upd fF (rwL F) (nI lt)) fW fE fC fG fO)))) ∨ (¬ (∃ z : Nat, z < 26 ∧ nI z = x0) ∧ w = (MW g h a (nI (rwL SL)) (nI cnt) (nI ll) (nI np) tu la wi (nI (rwL F)) (nI 1) fS fL fN fK fF fW fE fC fG fO)) ∨ ((∃ z : Nat, z < 26 ∧ nI z = x0) ∧ (¬ (0 < np ∧ wi = -1) ∨ 10 ≤ rwL F) ∧ w = (MW g h a (nI (rwL SL)) (nI cnt) (nI ll) (nI np) tu la wi (nI (rwL F)) (nI 2) fS fL fN fK fF fW fE fC fG fO))) r2 w2) : OT g x h o rc r2 w w2 := by
  obtain ⟨hSL, hF, hk, hp, hf, hc, hll, hM, hfS, hfF, hK, hW, hG⟩ := L
  have hoff := hG.off hp
  rcases h1 with ⟨rfl, r, w1, ⟨a1, j1, ha, ea, emv, hj, hKj, hl, hcs⟩, rfl⟩ | ⟨E, hE, hrc, rfl⟩
  · have hgo : 0 < np ∧ wi = -1 := Classical.byContradiction (fun q9 => nI_nem1 (n := j1) (by omega) (emv.symm.trans (hoff.mpr q9)))
    rcases h2 with ⟨lt, j2, hlt, elt, _, etu, hj2, _, hl2, hcs2⟩ | ⟨hno, rfl⟩ | ⟨_, hno, rfl⟩
    · have e := nI_e ha hlt (by omega) ea elt
      subst e
      have e : j1 = j2 := (nI_eq (by omega) (by omega)).mp (emv.symm.trans ((hG.2.1 hgo.1 hgo.2).1.trans etu))
      subst e
      have hwh := hW.1.whole ll (rwX F a1)
      rcases hcs with ⟨hy, rfl, rfl⟩ | ⟨hn, rfl, rfl⟩
      · rcases hcs2 with ⟨hy2, rfl, rfl⟩ | ⟨hn2, _⟩
        · exact ⟨_, _, nI 0, rfl, IV.of (F := 0) rfl rfl rfl (by rw [rwL0]) ⟨hSL, RV.zero, hk.up hKj, hp, hf, hc, hll, hM, hfS, MRw.nil _, hK.up hKj, hW, hG.lost hgo hj hKj hp⟩, rfl, fun _ => rfl⟩
        · exact absurd (hwh.mp hy) hn2
      · rcases hcs2 with ⟨hy2, _⟩ | ⟨hn2, rfl, t, et, rfl⟩
        · exact absurd (hwh.mpr hy2) hn
        · rw [et]
          exact ⟨_, _, nI 0, rfl, IV.of rfl rfl rfl rfl ⟨hSL, hF.rx hl ha, hk, hp, hf, hc, hll, hM, hfS, hfF.put hF hl ha, hK, hW, hG.played hgo hj hKj et⟩, rfl, fun _ => rfl⟩
    · exact absurd ⟨a1, ha, ea⟩ hno
    · rcases hno with q9 | q9
      · exact absurd hgo q9
      · omega
  · rcases hE with ⟨rfl, hn⟩ | ⟨rfl, hy, ho⟩ <;> rcases hrc with ⟨e, rfl⟩ | ⟨e, rfl⟩
    · rcases h2 with ⟨lt, j2, hlt, elt, _⟩ | ⟨hno, rfl⟩ | ⟨hy, hno, rfl⟩
      · exact absurd ⟨lt, hlt, elt⟩ hn
      · exact ⟨fo, _, nI 1, rfl, IV.of rfl rfl rfl rfl ⟨hSL, hF, hk, hp, hf, hc, hll, hM, hfS, hfF, hK, hW, hG⟩, rfl, fun e => absurd e (by decide +kernel)⟩
      · exact absurd hy hn
    · exact absurd e (by decide +kernel)
    · exact absurd e (by decide +kernel)
    · rcases h2 with ⟨lt, j2, hlt, elt, hgo, etu, hj2, _, hl2, _⟩ | ⟨hno, rfl⟩ | ⟨_, hno, rfl⟩
      · rcases ho with q9 | q9
        · exact absurd hgo (hoff.mp q9)
        · omega
      · exact absurd hy hno
      · exact ⟨fo, _, nI 2, rfl, IV.of rfl rfl rfl rfl ⟨hSL, hF, hk, hp, hf, hc, hll, hM, hfS, hfF, hK, hW, hG⟩, rfl, fun e => absurd e (by decide +kernel)⟩
theorem o_challenge (L : LI SL k K np mv lm ch F f S cnt ll tu la wi fS fL fN fK fF D) (h1 : (fun rc w => (rc = nI 0 ∧ ∃ (r : Int32) (w1 : va_W), (fun r w => ∃ j j2 : Nat, mv = nI j ∧ lm = nI j2 ∧ j < np ∧ K j < 5 ∧ j2 < np ∧ K j2 < 5 ∧ 0 < rwL F ∧ (((∃ i, i < cnt ∧ ll ≤ rwL (S i) ∧ bgP (S i) F) ∧ r = nI j ∧ w = (FW g x (lN SL) q u (upd k j (nI (K j + 1))) (nI np) (erM K np j) (nI j2) (erC K np j ch) (lN 0) d v f (nI cnt) (nI ll))) ∨ (¬ (∃ i, i < cnt ∧ ll ≤ rwL (S i) ∧ bgP (S i) F) ∧ r = nI j2 ∧ w = (FW g x (lN SL) q u (upd k j2 (nI (K j2 + 1))) (nI np) (erM K np j2) (nI j2) (erC K np j2 ch) (lN 0) d v f (nI cnt) (nI ll))))) r w1 ∧ w = OC g o (vp_updL fo 0 r.toInt64) :: w1) ∨ (∃ E, (fun E => E = "java/lang/IllegalStateException" ∧ (mv = -1 ∨ rwL F = 0)) E ∧ ((E = "java/lang/IllegalStateException" ∧ rc = nI 1)) ∧ w = OC g o fo :: (FW g x (lN SL) q u k (nI np) mv lm ch (lN F) d v f (nI cnt) (nI ll)))) rc w) (h2 : (fun r w => (∃ j j2 : Nat, (0 < np ∧ wi = -1) ∧ 0 < rwL F ∧ tu = nI j ∧ la = nI j2 ∧ j < np ∧ K j < 5 ∧ j2 < np ∧ K j2 < 5 ∧ (((∃ k, k < cnt ∧ hwM D cnt ll F k false) ∧ r = nI j ∧ w = (MW g h a (nI (rwL SL)) (nI cnt) (nI ll) (nI np) (lsT K np j) (nI j2) (lsW K np j) (nI 0) (nI 0) fS fL fN (upd fK j (nI ((K j) + 1))) fF fW fE fC fG fO)) ∨ (¬ (∃ k, k < cnt ∧ hwM D cnt ll F k false) ∧ r = nI j2 ∧ w = (MW g h a (nI (rwL SL)) (nI cnt) (nI ll) (nI np) (lsT K np j2) (nI j2) (lsW K np j2) (nI 0) (nI 0) fS fL fN (upd fK j2 (nI ((K j2) + 1))) fF fW fE fC fG fO)))) ∨ (¬ ((0 < np ∧ wi = -1) ∧ 0 < rwL F) ∧ w = (MW g h a (nI (rwL SL)) (nI cnt) (nI ll) (nI np) tu la wi (nI (rwL F)) (nI 1) fS fL fN fK fF fW fE fC fG fO))) r2 w2) : OT g x h o rc r2 w w2 := by
  obtain ⟨hSL, hF, hk, hp, hf, hc, hll, hM, hfS, hfF, hK, hW, hG⟩ := L
  have hoff := hG.off hp
  rcases h1 with ⟨rfl, r, w1, ⟨j1, i1, emv, elm, hj, hKj, hi, hKi, hl, hcs⟩, rfl⟩ | ⟨E, ⟨rfl, ho⟩, ⟨e, rfl⟩, rfl⟩
  · have hgo : 0 < np ∧ wi = -1 := Classical.byContradiction (fun q9 => nI_nem1 (n := j1) (by omega) (emv.symm.trans (hoff.mpr q9)))
    rcases h2 with ⟨j2, i2, _, _, etu, ela, hj2, _, hi2, _, hcs2⟩ | ⟨hno, rfl⟩
    · have e : j1 = j2 := (nI_eq (by omega) (by omega)).mp (emv.symm.trans ((hG.2.1 hgo.1 hgo.2).1.trans etu))
      subst e
      have e : i1 = i2 := (nI_eq (by omega) (by omega)).mp (elm.symm.trans ((hG.2.2.2 hl).1.trans ela))
      subst e
      have hwh := hW.1.from ll F
      rcases hcs with ⟨hy, rfl, rfl⟩ | ⟨hn, rfl, rfl⟩
      · rcases hcs2 with ⟨hy2, rfl, rfl⟩ | ⟨hn2, _⟩
        · exact ⟨_, _, nI 0, rfl, IV.of (F := 0) rfl rfl rfl (by rw [rwL0]) ⟨hSL, RV.zero, hk.up hKj, hp, hf, hc, hll, hM, hfS, MRw.nil _, hK.up hKj, hW, hG.lost hgo hj hKj hp⟩, rfl, fun _ => rfl⟩
        · exact absurd (hwh.mp hy) hn2
      · rcases hcs2 with ⟨hy2, _⟩ | ⟨hn2, rfl, rfl⟩
        · exact absurd (hwh.mpr hy2) hn
        · exact ⟨_, _, nI 0, rfl, IV.of (F := 0) rfl rfl rfl (by rw [rwL0]) ⟨hSL, RV.zero, hk.up hKi, hp, hf, hc, hll, hM, hfS, MRw.nil _, hK.up hKi, hW, hG.lost hgo hi hKi hp⟩, rfl, fun _ => rfl⟩
    · exact absurd ⟨hgo, hl⟩ hno
  · rcases h2 with ⟨j2, i2, hgo, hl, _⟩ | ⟨hno, rfl⟩
    · rcases ho with q9 | q9
      · exact absurd hgo (hoff.mp q9)
      · omega
    · exact ⟨fo, _, nI 1, rfl, IV.of rfl rfl rfl rfl ⟨hSL, hF, hk, hp, hf, hc, hll, hM, hfS, hfF, hK, hW, hG⟩, rfl, fun e => absurd e (by decide +kernel)⟩
end COMB
