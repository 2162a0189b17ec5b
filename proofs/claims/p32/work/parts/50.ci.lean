def Ring (I : GI) (D : Nat → Nat → Int) (c : Nat) : Prop := ((0 ≤ I 46 1 ∧ I 46 1 ≤ 3) ∧ (I 46 0 = (c : Int) ∧ c ≤ 4)) ∧ (∀ q, q < 4 → Raw (48 + 45 * q) I) ∧ ∀ d, d < c → Rel (48 + 45 * (((I 46 1).toNat + 4 - d) % 4)) I (D d) ∧ Oks (D d)
def CK (I : GI) (S : Nat → Int) (D : Nat → Nat → Int) (c : Nat) : Prop := (Rel 1 I S ∧ Oks S ∧ Raw 1 I) ∧ Ring I D c
def CI (I : GI) (S : Nat → Int) (D : Nat → Nat → Int) (c : Nat) : Prop := CK I S D c ∧ Jdg 1 I S
def psh (S : Nat → Int) (D : Nat → Nat → Int) : Nat → Nat → Int
  | 0 => S
  | d + 1 => D d
def cN (c : Nat) : Nat := if c < 4 then c + 1 else 4
def frC (I K : GI) : Prop := ∀ q f, 228 ≤ q → K q f = I q f
theorem frC_refl (I : GI) : frC I I := fun _ _ _ => rfl
theorem frC_trans {I K L : GI} (h : frC I K) (g : frC K L) : frC I L := fun q f hq => by rw [g q f hq, h q f hq]
theorem ring_eq {I K : GI} {D : Nat → Nat → Int} {c : Nat} (h : Ring I D c) (e : ∀ q f, 46 ≤ q → q < 228 → K q f = I q f) : Ring K D c := by
  obtain ⟨h1, h2, h3⟩ := h
  refine ⟨by rw [e 46 1 (by decide) (by decide), e 46 0 (by decide) (by decide)]; exact h1, fun q hq => raw_raw (h2 q hq) (fun k f hk => by have := rawC_lt hk; exact e _ _ (by omega) (by omega)), fun d hd => ?_⟩
  rw [e 46 1 (by decide) (by decide)]
  exact ⟨rel_raw (h3 d hd).1 (h3 d hd).2 (fun k f hk => by have := rawC_lt hk; exact e _ _ (by omega) (by omega)), (h3 d hd).2⟩
theorem jdg_eq {b : Nat} {I K : GI} {S : Nat → Int} (h : Jdg b I S) (ho : Oks S) (e : ∀ k f, k < 45 → K (b + k) f = I (b + k) f) : Jdg b K S := by
  obtain ⟨h1, h2, h3⟩ := h
  have o3 := ho.2.1
  refine ⟨fun i hi => ?_, fun j hj => ?_, fun t ht9 => ?_⟩
  · have a : ∀ f, K (wP b i) f = I (wP b i) f := fun f => by
      have := e (5 + 2 * i) f (by omega)
      rw [show b + (5 + 2 * i) = wP b i by unfold wP; omega] at this
      exact this
    rw [a, a, a]
    exact h1 i hi
  · have a : ∀ f, K (jP b j) f = I (jP b j) f := fun f => by
      have := e (17 + j) f (by omega)
      rw [show b + (17 + j) = jP b j by unfold jP; omega] at this
      exact this
    rw [a, a, a, a, a, a]
    exact h2 j hj
  · have a0 : ∀ f, K (tP b t) f = I (tP b t) f := fun f => by
      have := e (21 + 6 * t) f (by omega)
      rw [show b + (21 + 6 * t) = tP b t by unfold tP; omega] at this
      exact this
    have a3 : ∀ f, K (tP b t + 3) f = I (tP b t + 3) f := fun f => by
      have := e (24 + 6 * t) f (by omega)
      rw [show b + (24 + 6 * t) = tP b t + 3 by unfold tP; omega] at this
      exact this
    have a4 : ∀ f, K (tP b t + 4) f = I (tP b t + 4) f := fun f => by
      have := e (25 + 6 * t) f (by omega)
      rw [show b + (25 + 6 * t) = tP b t + 4 by unfold tP; omega] at this
      exact this
    have a5 : ∀ f, K (tP b t + 5) f = I (tP b t + 5) f := fun f => by
      have := e (26 + 6 * t) f (by omega)
      rw [show b + (26 + 6 * t) = tP b t + 5 by unfold tP; omega] at this
      exact this
    have hh := h3 t ht9
    rw [a0, a0, a0, a0, a0, a0]
    exact ⟨hh.1, fun c => ⟨(hh.2.1 c).1, fun k hk => by rw [a3, a4, a5]; exact (hh.2.1 c).2 k hk⟩, hh.2.2⟩
theorem ck_eq {I K : GI} {S : Nat → Int} {D : Nat → Nat → Int} {c : Nat} (h : CK I S D c) (e : ∀ q f, q < 228 → K q f = I q f) : CK K S D c :=
  ⟨⟨rel_raw h.1.1 h.1.2.1 (fun k f hk => by have := rawC_lt hk; exact e _ _ (by omega)), h.1.2.1, raw_raw h.1.2.2 (fun k f hk => by have := rawC_lt hk; exact e _ _ (by omega))⟩, ring_eq h.2 (fun q f _ h2 => e q f h2)⟩
theorem ci_eq {I K : GI} {S : Nat → Int} {D : Nat → Nat → Int} {c : Nat} (h : CI I S D c) (e : ∀ q f, q < 228 → K q f = I q f) : CI K S D c :=
  ⟨ck_eq h.1 e, jdg_eq h.2 h.1.1.2.1 (fun k f hk => e _ _ (by omega))⟩
theorem lNx_b {x : Int} (h : 0 ≤ x ∧ x ≤ 3) : lNx x = (x.toNat + 1) % 4 := by
  unfold lNx
  split <;> omega
theorem ck_keep {I K : GI} {S : Nat → Int} {D : Nat → Nat → Int} {c : Nat} (h : CI I S D c) (hk : kpR I K (lNx (I 46 1)) (if I 46 0 < 4 then I 46 0 + 1 else 4)) : CI K S (psh S D) (cN c) ∧ frC I K := by
  obtain ⟨⟨⟨hR, ho, hw⟩, ⟨⟨hl, hc⟩, hq, hd⟩⟩, hj⟩ := h
  obtain ⟨⟨k1, k2⟩, k3, k4⟩ := hk
  have eN := lNx_b hl
  have n4 : lNx (I 46 1) < 4 := by omega
  have live : ∀ k f, k < 45 → K (1 + k) f = I (1 + k) f := fun k f hk => k3 _ _ (by omega) (by omega)
  refine ⟨⟨⟨⟨rel_raw hR ho (fun k f hk => live k f (rawC_lt hk)), ho, raw_raw hw (fun k f hk => live k f (rawC_lt hk))⟩, ⟨⟨by omega, ?_, ?_⟩, fun q hq4 => ?_, fun d hdc => ?_⟩⟩, jdg_eq hj ho live⟩, fun q f hq9 => k3 q f (by omega) (fun hh => by have := rawC_lt hh.2; omega)⟩
  · rw [k2]; unfold cN; split <;> split <;> omega
  · unfold cN; split <;> omega
  · by_cases e : q = lNx (I 46 1)
    · rw [e]; exact raw_sh hw k4
    · exact raw_raw (hq q hq4) (fun k f hk => k3 _ _ (by omega) (fun hh => by have := rawC_lt hk; have := rawC_lt hh.2; omega))
  · rw [k1, show ((lNx (I 46 1) : Nat) : Int).toNat = lNx (I 46 1) from rfl]
    rcases d with _ | d
    · rw [show (lNx (I 46 1) + 4 - 0) % 4 = lNx (I 46 1) by omega]
      exact ⟨rel_sh hR ho k4, ho⟩
    · have hdc2 : d < c ∧ d < 3 := by
        unfold cN at hdc
        split at hdc <;> omega
      have h9 := hd d hdc2.1
      rw [show (lNx (I 46 1) + 4 - (d + 1)) % 4 = ((I 46 1).toNat + 4 - d) % 4 by omega]
      exact ⟨rel_raw h9.1 h9.2 (fun k f hk => k3 _ _ (by omega) (fun hh => by have := rawC_lt hk; have := rawC_lt hh.2; omega)), h9.2⟩
theorem ck_back {I K : GI} {S : Nat → Int} {D : Nat → Nat → Int} {c : Nat} (h : CI I S D (c + 1)) (hk : gbR I K (I 46 1).toNat (if I 46 1 = 0 then 3 else I 46 1 - 1) (I 46 0 - 1)) : CK K (D 0) (fun d => D (d + 1)) c ∧ frC I K := by
  obtain ⟨⟨⟨hR, ho, hw⟩, ⟨⟨hl, hc⟩, hq, hd⟩⟩, hj⟩ := h
  obtain ⟨⟨k1, k2⟩, k3, k4⟩ := hk
  have h0 := hd 0 (by omega)
  rw [show ((I 46 1).toNat + 4 - 0) % 4 = (I 46 1).toNat by omega] at h0
  have far : ∀ q f, 48 ≤ q → K q f = I q f := fun q f hq9 => k3 q f (by omega) (fun hh => by have := rawC_lt hh.2; omega)
  refine ⟨⟨⟨rel_sh h0.1 h0.2 k4, h0.2, raw_sh (hq _ (by omega)) k4⟩, ⟨⟨?_, ?_, by omega⟩, fun q hq4 => raw_raw (hq q hq4) (fun k f hk => far _ _ (by omega)), fun d hdc => ?_⟩⟩, fun q f hq9 => far q f (by omega)⟩
  · rw [k1]; split <;> omega
  · rw [k2]; omega
  · have h9 := hd (d + 1) (by omega)
    rw [k1, show ((if I 46 1 = 0 then (3 : Int) else I 46 1 - 1).toNat + 4 - d) % 4 = ((I 46 1).toNat + 4 - (d + 1)) % 4 by split <;> omega]
    exact ⟨rel_raw h9.1 h9.2 (fun k f hk => far _ _ (by omega)), h9.2⟩
theorem ck_op {I K : GI} {S S' : Nat → Int} {D : Nat → Nat → Int} {c : Nat} (h : CK I S D c) (e : ∀ q f, 46 ≤ q → K q f = I q f) (hR : Rel 1 K S') (ho : Oks S') (hw : Raw 1 K) : CK K S' D c ∧ frC I K :=
  ⟨⟨⟨hR, ho, hw⟩, ring_eq h.2 (fun q f h1 _ => e q f h1)⟩, fun q f h1 => e q f (by omega)⟩
theorem ck_judge {I K : GI} {S : Nat → Int} {D : Nat → Nat → Int} {c : Nat} (h : CK I S D c) (hf : frD 1 I K) (hj : Jdg 1 K S) : CI K S D c ∧ frC I K := by
  have e : ∀ q f, 46 ≤ q → K q f = I q f := fun q f hq => hf q f (fun hh => by have := hh.2; unfold derC at this; omega)
  exact ⟨⟨⟨⟨rel_fr h.1.1 h.1.2.1 hf, h.1.2.1, raw_fr h.1.2.2 hf⟩, ring_eq h.2 (fun q f h1 _ => e q f h1)⟩, hj⟩, fun q f h1 => e q f (by omega)⟩
