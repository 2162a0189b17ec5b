def derC (k f : Nat) : Prop := (5 ≤ k ∧ k < 17 ∧ (k - 5) % 2 = 0 ∧ 3 ≤ f ∧ f ≤ 5) ∨ (17 ≤ k ∧ k < 21 ∧ ((3 ≤ f ∧ f ≤ 7) ∨ f = 11)) ∨ (21 ≤ k ∧ k < 45 ∧ (((k - 21) % 6 = 0 ∧ (f = 3 ∨ (5 ≤ f ∧ f ≤ 9))) ∨ (k - 21) % 6 = 3 ∨ (k - 21) % 6 = 4 ∨ (k - 21) % 6 = 5))
def frD (b : Nat) (I K : GI) : Prop := ∀ q f, ¬ (b ≤ q ∧ derC (q - b) f) → K q f = I q f
theorem frD_refl (b : Nat) (I : GI) : frD b I I := fun _ _ _ => rfl
theorem frD_trans {b : Nat} {I K L : GI} (h : frD b I K) (g : frD b K L) : frD b I L := fun q f hn => by rw [g q f hn, h q f hn]
theorem fr_raw {b k f : Nat} {I K : GI} (h : frD b I K) (hr : rawC k f) : K (b + k) f = I (b + k) f := h _ _ (fun hh => by
  have h2 := hh.2
  rw [show b + k - b = k by omega] at h2
  unfold derC at h2
  unfold rawC at hr
  omega)
theorem rel_raw {b : Nat} {I K : GI} {S : Nat → Int} (h : Rel b I S) (ho : Oks S) (e : ∀ k f, rawC k f → K (b + k) f = I (b + k) f) : Rel b K S := by
  have h3 := ho.2.1
  refine ⟨fun k hk => ?_, ⟨?_, ?_, ?_⟩, fun i hi => ?_, fun j hj => ?_, fun t hi => ?_⟩
  · rw [e 1 k (by unfold rawC; omega)]; exact h.1 k hk
  · have := e 0 1 (by unfold rawC; omega); rw [Nat.add_zero] at this; rw [this]; exact h.2.1.1
  · have := e 0 2 (by unfold rawC; omega); rw [Nat.add_zero] at this; rw [this]; exact h.2.1.2.1
  · have := e 0 3 (by unfold rawC; omega); rw [Nat.add_zero] at this; rw [this]; exact h.2.1.2.2
  · have hw := h.2.2.1 i hi
    have hc := (ho.2.2.1 i hi).1.2.2
    have e1 : ∀ f, f < 3 → K (wP b i) f = I (wP b i) f := fun f hf => by
      have := e (5 + 2 * i) f (by unfold rawC; omega)
      rw [show b + (5 + 2 * i) = wP b i by unfold wP; omega] at this
      exact this
    have e2 : ∀ f, f < 9 → K (wP b i + 1) f = I (wP b i + 1) f := fun f hf => by
      have := e (6 + 2 * i) f (by unfold rawC; omega)
      rw [show b + (6 + 2 * i) = wP b i + 1 by unfold wP; omega] at this
      exact this
    rw [e1 0 (by decide), e1 1 (by decide), e1 2 (by decide)]
    exact ⟨hw.1, fun k hk => by rw [e2 k (by omega)]; exact hw.2 k hk⟩
  · have hw := h.2.2.2.1 j hj
    have e1 : ∀ f, (f < 3 ∨ (8 ≤ f ∧ f ≤ 10)) → K (jP b j) f = I (jP b j) f := fun f hf => by
      have := e (17 + j) f (by unfold rawC; omega)
      rw [show b + (17 + j) = jP b j by unfold jP; omega] at this
      exact this
    rw [e1 0 (by omega), e1 1 (by omega), e1 2 (by omega), e1 8 (by omega), e1 9 (by omega), e1 10 (by omega)]
    exact hw
  · have hw := h.2.2.2.2 t hi
    have hc := (ho.2.2.2.2 t hi).1.2.1
    have e1 : ∀ f, (f < 3 ∨ f = 4) → K (tP b t) f = I (tP b t) f := fun f hf => by
      have := e (21 + 6 * t) f (by unfold rawC; omega)
      rw [show b + (21 + 6 * t) = tP b t by unfold tP; omega] at this
      exact this
    have e2 : ∀ f, f < 12 → K (tP b t + 1) f = I (tP b t + 1) f := fun f hf => by
      have := e (22 + 6 * t) f (by unfold rawC; omega)
      rw [show b + (22 + 6 * t) = tP b t + 1 by unfold tP; omega] at this
      exact this
    have e3 : ∀ f, f < 12 → K (tP b t + 2) f = I (tP b t + 2) f := fun f hf => by
      have := e (23 + 6 * t) f (by unfold rawC; omega)
      rw [show b + (23 + 6 * t) = tP b t + 2 by unfold tP; omega] at this
      exact this
    rw [e1 0 (by omega), e1 1 (by omega), e1 2 (by omega), e1 4 (by omega)]
    exact ⟨hw.1, hw.2.1, fun k hk => by rw [e2 k (by omega), e3 k (by omega)]; exact hw.2.2 k hk⟩
theorem rel_fr {b : Nat} {I K : GI} {S : Nat → Int} (h : Rel b I S) (ho : Oks S) (e : frD b I K) : Rel b K S := rel_raw h ho (fun k f hr => fr_raw e hr)
