theorem raw_raw {b : Nat} {I K : GI} (h : Raw b I) (e : ∀ k f, rawC k f → K (b + k) f = I (b + k) f) : Raw b K := by
  refine ⟨fun i hi => ?_, fun t hi => ?_⟩
  · have e1 : ∀ f, f < 3 → K (wP b i) f = I (wP b i) f := fun f hf => by
      have := e (5 + 2 * i) f (by unfold rawC; omega)
      rw [show b + (5 + 2 * i) = wP b i by unfold wP; omega] at this
      exact this
    have e2 : ∀ f, f < 9 → K (wP b i + 1) f = I (wP b i + 1) f := fun f hf => by
      have := e (6 + 2 * i) f (by unfold rawC; omega)
      rw [show b + (6 + 2 * i) = wP b i + 1 by unfold wP; omega] at this
      exact this
    have hw := h.1 i hi
    unfold wOk
    rw [e1 0 (by decide), e1 1 (by decide), e1 2 (by decide)]
    exact ⟨hw.1, hw.2.1, fun k hk => by rw [e2 k hk]; exact hw.2.2 k hk⟩
  · refine tOk_c (h.2 t hi) ⟨⟨?_, ?_⟩, ⟨?_, ?_⟩, fun k hk => ?_, fun k hk => ?_⟩
    · have := e (21 + 6 * t) 0 (by unfold rawC; omega)
      rw [show b + (21 + 6 * t) = tP b t by unfold tP; omega] at this
      exact this
    · have := e (21 + 6 * t) 1 (by unfold rawC; omega)
      rw [show b + (21 + 6 * t) = tP b t by unfold tP; omega] at this
      exact this
    · have := e (21 + 6 * t) 2 (by unfold rawC; omega)
      rw [show b + (21 + 6 * t) = tP b t by unfold tP; omega] at this
      exact this
    · have := e (21 + 6 * t) 4 (by unfold rawC; omega)
      rw [show b + (21 + 6 * t) = tP b t by unfold tP; omega] at this
      exact this
    · have := e (22 + 6 * t) k (by unfold rawC; omega)
      rw [show b + (22 + 6 * t) = tP b t + 1 by unfold tP; omega] at this
      exact this
    · have := e (23 + 6 * t) k (by unfold rawC; omega)
      rw [show b + (23 + 6 * t) = tP b t + 2 by unfold tP; omega] at this
      exact this
theorem raw_fr {b : Nat} {I K : GI} (h : Raw b I) (e : frD b I K) : Raw b K := raw_raw h (fun k f hr => fr_raw e hr)
theorem rel_jOk {b j : Nat} {I : GI} {S : Nat → Int} (h : Rel b I S) (ho : Oks S) (hj : (j : Int) < S 4) : jOk I (jP b j) := by
  have hw := h.2.2.2.1 j hj
  have ho2 := ho.2.2.2.1 j hj
  have h3 := ho.2.1.1
  unfold jOk
  rw [hw.1.1, hw.1.2.1, hw.1.2.2, hw.2.1, hw.2.2.1, hw.2.2.2]
  omega
