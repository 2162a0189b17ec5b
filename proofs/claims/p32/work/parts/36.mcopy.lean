def cpd (b q : Nat) (D : Nat → Nat → Prop) (I K : GI) : Prop := (∀ p f, ¬ (b ≤ p ∧ D (p - b) f) → K p f = I p f) ∧ ∀ k f, D k f → K (b + k) f = I (q + k) f
theorem cpd_step {b q : Nat} {D E D' : Nat → Nat → Prop} {I K K' : GI} (h : cpd b q D I K) (hd : b + 45 ≤ q ∨ q + 45 ≤ b) (hD : ∀ k f, D' k f ↔ D k f ∨ E k f) (hDk : ∀ k f, D k f → k < 45) (hE : ∀ k f, E k f → k < 45) (h1 : ∀ p f, ¬ (b ≤ p ∧ E (p - b) f) → K' p f = K p f) (h2 : ∀ k f, E k f → K' (b + k) f = K (q + k) f) : cpd b q D' I K' := by
  refine ⟨fun p f hn => ?_, fun k f hk => ?_⟩
  · rw [h1 p f (fun hh => hn ⟨hh.1, (hD _ _).mpr (Or.inr hh.2)⟩), h.1 p f (fun hh => hn ⟨hh.1, (hD _ _).mpr (Or.inl hh.2)⟩)]
  · by_cases he : E k f
    · have hk5 := hE k f he
      rw [h2 k f he, h.1 (q + k) f (fun hh => by have := hDk _ _ hh.2; omega)]
    · have hk0 : D k f := ((hD k f).mp hk).resolve_right he
      rw [h1 (b + k) f (fun hh => he (by rw [show k = b + k - b by omega]; exact hh.2)), h.2 k f hk0]
def wcI (K : GI) (r q : Nat) : GI := cpI (up (up (up K r 0 (K q 0)) r 1 (K q 1)) r 2 (K q 2)) (q + 1) (r + 1) 9
def jcI (K : GI) (r q : Nat) : GI := up (up (up (up (up (up K r 0 (K q 0)) r 1 (K q 1)) r 8 (K q 8)) r 9 (K q 9)) r 10 (K q 10)) r 2 (K q 2)
def tcI (K : GI) (r q : Nat) : GI := cpI (cpI (up (up (up (up K r 0 (K q 0)) r 1 (K q 1)) r 4 (K q 4)) r 2 (K q 2)) (q + 1) (r + 1) 12) (q + 2) (r + 2) 12
theorem wc_1 {K : GI} {r q p f : Nat} (h : ¬ ((p = r ∧ f < 3) ∨ (p = r + 1 ∧ f < 9))) : wcI K r q p f = K p f := by
  unfold wcI cpI up
  (repeat' split) <;> first | rfl | (exfalso; omega) | (subst_vars; rfl)
theorem wc_2 {K : GI} {r q f : Nat} (hf : f < 3) : wcI K r q r f = K q f := by
  unfold wcI cpI up
  rcases f with _ | _ | _ | f
  · simp
  · simp
  · simp
  · omega
theorem wc_3 {K : GI} {r q f : Nat} (hq : q + 1 ≠ r) (hf : f < 9) : wcI K r q (r + 1) f = K (q + 1) f := by
  unfold wcI cpI up
  simp [hf, hq]
theorem jc_1 {K : GI} {r q p f : Nat} (h : ¬ (p = r ∧ (f < 3 ∨ (8 ≤ f ∧ f ≤ 10)))) : jcI K r q p f = K p f := by
  unfold jcI up
  (repeat' split) <;> first | rfl | (exfalso; omega)
theorem jc_2 {K : GI} {r q f : Nat} (hf : f < 3 ∨ (8 ≤ f ∧ f ≤ 10)) : jcI K r q r f = K q f := by
  unfold jcI up
  rcases (show f = 0 ∨ f = 1 ∨ f = 2 ∨ f = 8 ∨ f = 9 ∨ f = 10 by omega) with e | e | e | e | e | e <;> subst e <;> simp
theorem cpI_ne {I : GI} {a b u p f : Nat} (h : ¬ (p = b ∧ f < u)) : cpI I a b u p f = I p f := by
  unfold cpI
  split
  · split
    · exfalso; omega
    · subst_vars; rfl
  · rfl
theorem up_nn {I : GI} {r j p f : Nat} {x : Int} (h : ¬ (p = r ∧ f = j)) : up I r j x p f = I p f := by
  unfold up
  split
  · split
    · exfalso; omega
    · rfl
  · rfl
theorem tc_1 {K : GI} {r q p f : Nat} (h : ¬ ((p = r ∧ (f < 3 ∨ f = 4)) ∨ ((p = r + 1 ∨ p = r + 2) ∧ f < 12))) : tcI K r q p f = K p f := by
  unfold tcI
  rw [cpI_ne (by omega), cpI_ne (by omega), up_nn (by omega), up_nn (by omega), up_nn (by omega), up_nn (by omega)]
theorem tc_2 {K : GI} {r q f : Nat} (hf : f < 3 ∨ f = 4) : tcI K r q r f = K q f := by
  unfold tcI cpI up
  rcases (show f = 0 ∨ f = 1 ∨ f = 2 ∨ f = 4 by omega) with e | e | e | e <;> subst e <;> simp
theorem tc_3 {K : GI} {r q f : Nat} (hq : q + 1 ≠ r) (hf : f < 12) : tcI K r q (r + 1) f = K (q + 1) f := by
  unfold tcI cpI up
  simp [hf, hq]
theorem tc_4 {K : GI} {r q f : Nat} (hq : q + 2 ≠ r ∧ q + 2 ≠ r + 1) (hf : f < 12) : tcI K r q (r + 2) f = K (q + 2) f := by
  unfold tcI cpI up
  simp [hf, hq]
def D0 (k f : Nat) : Prop := (k = 0 ∧ 1 ≤ f ∧ f ≤ 3) ∨ (k = 1 ∧ f < 3)
def D1 (i k f : Nat) : Prop := D0 k f ∨ (5 ≤ k ∧ k < 5 + 2 * i ∧ (((k - 5) % 2 = 0 ∧ f < 3) ∨ ((k - 5) % 2 = 1 ∧ f < 9)))
def D2 (j k f : Nat) : Prop := D1 6 k f ∨ (17 ≤ k ∧ k < 17 + j ∧ (f < 3 ∨ (8 ≤ f ∧ f ≤ 10)))
def D3 (t k f : Nat) : Prop := D2 4 k f ∨ (21 ≤ k ∧ k < 21 + 6 * t ∧ (((k - 21) % 6 = 0 ∧ (f < 3 ∨ f = 4)) ∨ (((k - 21) % 6 = 1 ∨ (k - 21) % 6 = 2) ∧ f < 12)))
theorem D3_raw (k f : Nat) : D3 4 k f ↔ rawC k f := by
  unfold D3 D2 D1 D0 rawC
  omega
theorem cp_w {b q i : Nat} {I K : GI} (hd : b + 45 ≤ q ∨ q + 45 ≤ b) (hi : i < 6) (h : cpd b q (D1 i) I K) : cpd b q (D1 (i + 1)) I (wcI K (b + 5 + 2 * i) (q + 5 + 2 * i)) := by
  refine cpd_step (E := fun k f => (k = 5 + 2 * i ∧ f < 3) ∨ (k = 6 + 2 * i ∧ f < 9)) h hd (fun k f => by unfold D1 D0; omega) (fun k f hk => by unfold D1 D0 at hk; omega) (fun k f hk => by omega) (fun p f hn => wc_1 (by omega)) (fun k f hk => ?_)
  rcases hk with ⟨e, hf⟩ | ⟨e, hf⟩
  · rw [show b + k = b + 5 + 2 * i by omega, show q + k = q + 5 + 2 * i by omega]; exact wc_2 hf
  · rw [show b + k = b + 5 + 2 * i + 1 by omega, show q + k = q + 5 + 2 * i + 1 by omega]; exact wc_3 (by omega) hf
theorem cp_j {b q i : Nat} {I K : GI} (hd : b + 45 ≤ q ∨ q + 45 ≤ b) (hi : i < 4) (h : cpd b q (D2 i) I K) : cpd b q (D2 (i + 1)) I (jcI K (b + 17 + i) (q + 17 + i)) := by
  refine cpd_step (E := fun k f => k = 17 + i ∧ (f < 3 ∨ (8 ≤ f ∧ f ≤ 10))) h hd (fun k f => by unfold D2; rw [or_assoc]; exact or_congr_right (by omega)) (fun k f hk => by unfold D2 D1 D0 at hk; omega) (fun k f hk => by omega) (fun p f hn => jc_1 (by omega)) (fun k f hk => ?_)
  rw [show b + k = b + 17 + i by omega, show q + k = q + 17 + i by omega]; exact jc_2 hk.2
theorem cp_t {b q i : Nat} {I K : GI} (hd : b + 45 ≤ q ∨ q + 45 ≤ b) (hi : i < 4) (h : cpd b q (D3 i) I K) : cpd b q (D3 (i + 1)) I (tcI K (b + 21 + 6 * i) (q + 21 + 6 * i)) := by
  refine cpd_step (E := fun k f => (k = 21 + 6 * i ∧ (f < 3 ∨ f = 4)) ∨ ((k = 22 + 6 * i ∨ k = 23 + 6 * i) ∧ f < 12)) h hd (fun k f => by unfold D3; rw [or_assoc]; exact or_congr_right (by omega)) (fun k f hk => by unfold D3 D2 D1 D0 at hk; omega) (fun k f hk => by omega) (fun p f hn => tc_1 (by omega)) (fun k f hk => ?_)
  rcases hk with ⟨e, hf⟩ | ⟨e | e, hf⟩
  · rw [show b + k = b + 21 + 6 * i by omega, show q + k = q + 21 + 6 * i by omega]; exact tc_2 hf
  · rw [show b + k = b + 21 + 6 * i + 1 by omega, show q + k = q + 21 + 6 * i + 1 by omega]; exact tc_3 (by omega) hf
  · rw [show b + k = b + 21 + 6 * i + 2 by omega, show q + k = q + 21 + 6 * i + 2 by omega]; exact tc_4 (by omega) hf
theorem cp_0 {b q : Nat} {I : GI} (hd : b + 45 ≤ q ∨ q + 45 ≤ b) : cpd b q (D1 0) I (up (up (up (cpI I (q + 1) (b + 1) 3) b 1 (I q 1)) b 2 (I q 2)) b 3 (I q 3)) := by
  refine ⟨fun p f hn => ?_, fun k f hk => ?_⟩
  · have hn2 : ¬ ((p = b ∧ 1 ≤ f ∧ f ≤ 3) ∨ (p = b + 1 ∧ f < 3)) := fun hh => hn ⟨by omega, by unfold D1 D0; omega⟩
    unfold up cpI
    (repeat' split) <;> first | rfl | (exfalso; omega) | (subst_vars; rfl)
  · rcases (show (k = 0 ∧ (f = 1 ∨ f = 2 ∨ f = 3)) ∨ (k = 1 ∧ f < 3) by unfold D1 D0 at hk; omega) with ⟨e, e1 | e1 | e1⟩ | ⟨e, hf⟩
    · subst e; subst e1; simp [up]
    · subst e; subst e1; simp [up]
    · subst e; subst e1; simp [up]
    · subst e; simp [up, cpI, hf]
