def drF : Nat → (Nat → Int) → Int
  | 0, _ => 0
  | n + 1, t => if n < 2 then 0 else if drF n t < ((t n - t (n - 2)).natAbs : Int) then ((t n - t (n - 2)).natAbs : Int) else drF n t
theorem drF_s {n : Nat} {t : Nat → Int} (h : 2 ≤ n) : drF (n + 1) t = if drF n t < ((t n - t (n - 2)).natAbs : Int) then ((t n - t (n - 2)).natAbs : Int) else drF n t := by
  rw [drF, if_neg (by omega)]
theorem drF_lo {n : Nat} {t : Nat → Int} (h : n ≤ 2) : drF n t = 0 := by
  rcases n with _ | n
  · rfl
  · rw [drF, if_pos (by omega)]
theorem drF_b {m : Nat} {t : Nat → Int} (ht : ∀ k, k < m → 0 ≤ t k ∧ t k ≤ 999) : ∀ n : Nat, n ≤ m → 0 ≤ drF n t ∧ drF n t ≤ 999 := by
  intro n
  induction n with
  | zero => intro _; rw [drF]; omega
  | succ n ih =>
    intro hn
    have h1 := ih (by omega)
    rw [drF]
    split
    · exact ⟨by decide, by decide⟩
    · have a := ht n (by omega)
      have b := ht (n - 2) (by omega)
      split <;> omega
theorem drF_c {t t' : Nat → Int} : ∀ n : Nat, (∀ k, k < n → t k = t' k) → drF n t = drF n t' := by
  intro n
  induction n with
  | zero => intro _; rfl
  | succ n ih =>
    intro h
    rw [drF, drF, ih (fun k hk => h k (by omega)), h n (by omega), h (n - 2) (by omega)]
def smF : Nat → (Nat → Int) → Int
  | 0, _ => 0
  | n + 1, t => smF n t + t n
theorem smF_s {n : Nat} {t : Nat → Int} : smF (n + 1) t = smF n t + t n := rfl
theorem smF_b {m : Nat} {M : Int} {t : Nat → Int} (ht : ∀ k, k < m → 0 ≤ t k ∧ t k ≤ M) : ∀ n : Nat, n ≤ m → 0 ≤ smF n t ∧ smF n t ≤ M * (n : Int) := by
  intro n
  induction n with
  | zero => intro _; rw [smF, show ((0 : Nat) : Int) = 0 by omega, Int.mul_zero]; omega
  | succ n ih =>
    intro hn
    have h1 := ih (by omega)
    have h2 := ht n (by omega)
    rw [smF_s, show ((n + 1 : Nat) : Int) = (n : Int) + 1 by omega, Int.mul_add, Int.mul_one]
    omega
theorem smF_c {t t' : Nat → Int} : ∀ n : Nat, (∀ k, k < n → t k = t' k) → smF n t = smF n t' := by
  intro n
  induction n with
  | zero => intro _; rfl
  | succ n ih =>
    intro h
    rw [smF_s, smF_s, ih (fun k hk => h k (by omega)), h n (by omega)]
def restF (n : Nat) (t : Nat → Int) : Int := if n < 3 then -2000000000 else (t 0 + t (n - 1) + 2 * (smF (n - 1) t - t 0)).tdiv (2 * ((n : Int) - 1))
theorem restF_c {t t' : Nat → Int} (n : Nat) (h : ∀ k, k < n → t k = t' k) : restF n t = restF n t' := by
  unfold restF
  split
  · rfl
  · rw [h 0 (by omega), h (n - 1) (by omega), smF_c (n - 1) (fun k hk => h k (by omega))]
theorem smF_lo {m : Nat} {t : Nat → Int} (ht : ∀ k, k < m → 0 ≤ t k ∧ t k ≤ 999) : ∀ n : Nat, n + 1 ≤ m → t 0 ≤ smF (n + 1) t ∧ smF (n + 1) t ≤ t 0 + 999 * (n : Int) := by
  intro n
  induction n with
  | zero => intro _; rw [smF_s, smF]; omega
  | succ n ih =>
    intro hn
    have h1 := ih (by omega)
    have h2 := ht (n + 1) (by omega)
    rw [smF_s]
    omega
theorem restF_b {n : Nat} {t : Nat → Int} (ht : ∀ k, k < 9 → 0 ≤ t k ∧ t k ≤ 999) (hn : n ≤ 9) (h3 : 3 ≤ n) : 0 ≤ restF n t ∧ restF n t ≤ 999 := by
  unfold restF
  rw [if_neg (by omega)]
  have h1 := smF_lo ht (n - 2) (by omega)
  have h0 := ht 0 (by omega)
  have hl := ht (n - 1) (by omega)
  rw [show n - 2 + 1 = n - 1 by omega] at h1
  have hb : (0 : Int) ≤ t 0 + t (n - 1) + 2 * (smF (n - 1) t - t 0) := by omega
  have hc : t 0 + t (n - 1) + 2 * (smF (n - 1) t - t 0) < (2 * ((n : Int) - 1)) * 1000 := by omega
  rw [Int.tdiv_eq_ediv_of_nonneg hb]
  refine ⟨Int.ediv_nonneg hb (by omega), ?_⟩
  have := Int.ediv_lt_of_lt_mul (a := t 0 + t (n - 1) + 2 * (smF (n - 1) t - t 0)) (b := 1000) (c := 2 * ((n : Int) - 1)) (by omega) (by omega)
  omega
def wtF (n : Nat) (t : Nat → Int) (d : Int) : Int := if n < 3 then 1 else if d < drF n t then 2 else 0
theorem wtF_c {t t' : Nat → Int} {d : Int} (n : Nat) (h : ∀ k, k < n → t k = t' k) : wtF n t d = wtF n t' d := by
  unfold wtF
  rw [drF_c n h]
def wOk (I : GI) (r : Nat) : Prop := ((-1000000 ≤ I r 0 ∧ I r 0 ≤ 1000000) ∧ (-1000000 ≤ I r 1 ∧ I r 1 ≤ 1000000)) ∧ (0 ≤ I r 2 ∧ I r 2 ≤ 9) ∧ ∀ k, k < 9 → 0 ≤ I (r + 1) k ∧ I (r + 1) k ≤ 999
def wR (I : GI) (r : Nat) : Int := restF (I r 2).toNat (I (r + 1))
def wD (I : GI) (r : Nat) : Int := drF (I r 2).toNat (I (r + 1))
def wT (I : GI) (r : Nat) (d : Int) : Int := wtF (I r 2).toNat (I (r + 1)) d
theorem wR_b {I : GI} {r : Nat} (h : wOk I r) : (I r 2 < 3 → wR I r = -2000000000) ∧ (3 ≤ I r 2 → 0 ≤ wR I r ∧ wR I r ≤ 999) := by
  have h2 := h.2.1
  refine ⟨fun h3 => ?_, fun h3 => restF_b h.2.2 (by omega) (by omega)⟩
  unfold wR restF
  rw [if_pos (by omega)]
theorem wR_i {I : GI} {r : Nat} (h : wOk I r) : inI (wR I r) := by
  have := wR_b h
  constructor <;> omega
theorem wD_b {I : GI} {r : Nat} (h : wOk I r) : 0 ≤ wD I r ∧ wD I r ≤ 999 := drF_b h.2.2 _ (by have := h.2.1; omega)
theorem wD_i {I : GI} {r : Nat} (h : wOk I r) : inI (wD I r) := by
  have := wD_b h
  constructor <;> omega
theorem wOk_up {I : GI} {r j : Nat} {x : Int} (h : wOk I r) (hj : 3 ≤ j) : wOk (up I r j x) r := by
  unfold wOk at *
  rw [up_ne2 (by omega), up_ne2 (by omega), up_ne2 (by omega), up_ne (by omega)]
  exact h
theorem wD_up {I : GI} {r j : Nat} {x : Int} (hj : 3 ≤ j) : wD (up I r j x) r = wD I r := by
  unfold wD
  rw [up_ne2 (by omega), up_ne (by omega)]
def jW (I : GI) (r : Nat) (d : Int) : GI := up (up (up I r 3 (wR I r)) r 4 (wD I r)) r 5 (wT I r d)
