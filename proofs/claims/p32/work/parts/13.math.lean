/-! Plain arithmetic: quotients and remainders toward 0, norms, sines, roots. -/
theorem tmod_c (x : Int) {c : Int} (hc : 0 < c) : (0 ≤ x ∧ x.tmod c = x % c) ∨ (x < 0 ∧ x.tmod c = -((-x) % c)) := by
  rcases (show x < 0 ∨ 0 ≤ x by omega) with h | h
  · refine Or.inr ⟨h, ?_⟩
    have e : x.tmod c = -((-x).tmod c) := by rw [Int.neg_tmod, Int.neg_neg]
    rw [e, Int.tmod_eq_emod_of_nonneg (by omega)]
  · exact Or.inl ⟨h, Int.tmod_eq_emod_of_nonneg h⟩
theorem tdiv_c (x : Int) {c : Int} (hc : 0 < c) : (0 ≤ x ∧ x.tdiv c = x / c) ∨ (x < 0 ∧ x.tdiv c = -((-x) / c)) := by
  rcases (show x < 0 ∨ 0 ≤ x by omega) with h | h
  · refine Or.inr ⟨h, ?_⟩
    have e : x.tdiv c = -((-x).tdiv c) := by rw [Int.neg_tdiv, Int.neg_neg]
    rw [e, Int.tdiv_eq_ediv_of_nonneg (by omega)]
  · exact Or.inl ⟨h, Int.tdiv_eq_ediv_of_nonneg h⟩
/-- a quotient isn't larger than its dividend -/
theorem tdiv_b (x : Int) {c : Int} (hc : 0 < c) : (0 ≤ x → 0 ≤ x.tdiv c ∧ x.tdiv c ≤ x) ∧ (x ≤ 0 → x ≤ x.tdiv c ∧ x.tdiv c ≤ 0) := by
  have key : ∀ y : Int, 0 ≤ y → 0 ≤ y / c ∧ y / c ≤ y := fun y hy =>
    ⟨Int.ediv_nonneg hy (by omega), by
      have h1 := Int.ediv_mul_le y (show c ≠ 0 by omega)
      have h2 := Int.ediv_nonneg hy (show 0 ≤ c by omega)
      have h3 : y / c * 1 ≤ y / c * c := Int.mul_le_mul_of_nonneg_left (by omega) h2
      omega⟩
  refine ⟨fun h => ?_, fun h => ?_⟩
  · rw [Int.tdiv_eq_ediv_of_nonneg h]; exact key x h
  · have e : x.tdiv c = -((-x).tdiv c) := by rw [Int.neg_tdiv, Int.neg_neg]
    rw [e, Int.tdiv_eq_ediv_of_nonneg (by omega)]
    have := key (-x) (by omega)
    omega
/-- a quotient whose dividend is less than m divisors -/
theorem tdiv_lt {x c m : Int} (hc : 0 < c) (h1 : -(m * c) < x) (h2 : x < m * c) : -m < x.tdiv c ∧ x.tdiv c < m := by
  have key : ∀ y : Int, y < m * c → y / c < m := fun y hy => Int.ediv_lt_of_lt_mul hc hy
  rcases tdiv_c x hc with ⟨h, e⟩ | ⟨h, e⟩
  · rw [e]
    have a := key x h2
    have b := Int.ediv_nonneg h (show 0 ≤ c by omega)
    constructor <;> omega
  · rw [e]
    have a := key (-x) (by omega)
    have b := Int.ediv_nonneg (show 0 ≤ -x by omega) (show 0 ≤ c by omega)
    constructor <;> omega
theorem mul_b {a b m k : Int} (ha : -m ≤ a ∧ a ≤ m) (hb : -k ≤ b ∧ b ≤ k) : -(m * k) ≤ a * b ∧ a * b ≤ m * k := by
  have hm : 0 ≤ m := by omega
  have hk : 0 ≤ k := by omega
  have h := Int.natAbs_mul a b
  have h1 : a.natAbs ≤ m.toNat := by omega
  have h2 : b.natAbs ≤ k.toNat := by omega
  have h3 : (a * b).natAbs ≤ m.toNat * k.toNat := by rw [h]; exact Nat.mul_le_mul h1 h2
  have h4 : ((m.toNat * k.toNat : Nat) : Int) = m * k := by
    rw [Int.natCast_mul, Int.toNat_of_nonneg hm, Int.toNat_of_nonneg hk]
  generalize a * b = x at *
  generalize m * k = y at *
  generalize m.toNat * k.toNat = q at *
  omega
def normZ (x : Int) : Int := x % 1296000
def centZ (x : Int) : Int := normZ (x + 648000) - 648000
theorem normZ_b (x : Int) : 0 ≤ normZ x ∧ normZ x < 1296000 := by unfold normZ; omega
theorem centZ_b (x : Int) : -648000 ≤ centZ x ∧ centZ x < 648000 := by
  have := normZ_b (x + 648000)
  unfold centZ; omega
theorem normZ_id {x : Int} (h : 0 ≤ x ∧ x < 1296000) : normZ x = x := by unfold normZ; omega
/-- the sine of half a circle's angle -/
def sinH (b : Int) : Int := (40000 * (b * (648000 - b))).tdiv (524880000000 - b * (648000 - b))
def sinZ (x : Int) : Int := if normZ x < 648000 then sinH (normZ x) else -sinH (normZ x - 648000)
theorem half_b {b : Int} (h : 0 ≤ b ∧ b ≤ 648000) : 0 ≤ b * (648000 - b) ∧ b * (648000 - b) ≤ 104976000000 := by
  refine ⟨Int.mul_nonneg h.1 (by omega), ?_⟩
  have h1 : 0 ≤ (b - 324000) * (b - 324000) := by
    rcases Int.le_total 0 (b - 324000) with q | q
    · exact Int.mul_nonneg q q
    · exact Int.mul_nonneg_of_nonpos_of_nonpos q q
  have e : (b - 324000) * (b - 324000) = 104976000000 - b * (648000 - b) := by
    rw [Int.sub_mul, Int.mul_sub, Int.mul_sub, Int.mul_sub]; omega
  omega
theorem sinH_b {b : Int} (h : 0 ≤ b ∧ b ≤ 648000) : 0 ≤ sinH b ∧ sinH b ≤ 10000 := by
  have hp := half_b h
  unfold sinH
  generalize b * (648000 - b) = p at hp ⊢
  rw [Int.tdiv_eq_ediv_of_nonneg (by omega)]
  refine ⟨Int.ediv_nonneg (by omega) (by omega), ?_⟩
  have : 40000 * p / (524880000000 - p) < 10001 := Int.ediv_lt_of_lt_mul (by omega) (by omega)
  omega
theorem sinZ_b (x : Int) : -10000 ≤ sinZ x ∧ sinZ x ≤ 10000 := by
  have h := normZ_b x
  unfold sinZ
  split
  · have := sinH_b (b := normZ x) (by omega); omega
  · have := sinH_b (b := normZ x - 648000) (by omega); omega
theorem sinZ_norm (x : Int) : sinZ (normZ x) = sinZ x := by
  have : normZ (normZ x) = normZ x := by unfold normZ; omega
  unfold sinZ; rw [this]
theorem sinZ_mod (x y : Int) (h : normZ x = normZ y) : sinZ x = sinZ y := by unfold sinZ; rw [h]
/-- roots -/
def rootN : Nat → Nat
  | 0 => 0
  | v + 1 => if (rootN v + 1) * (rootN v + 1) ≤ v + 1 then rootN v + 1 else rootN v
theorem rootN_s : ∀ v : Nat, rootN v * rootN v ≤ v ∧ v < (rootN v + 1) * (rootN v + 1)
  | 0 => by decide
  | v + 1 => by
    have h := rootN_s v
    show (if (rootN v + 1) * (rootN v + 1) ≤ v + 1 then rootN v + 1 else rootN v) * (if (rootN v + 1) * (rootN v + 1) ≤ v + 1 then rootN v + 1 else rootN v) ≤ v + 1 ∧ v + 1 < ((if (rootN v + 1) * (rootN v + 1) ≤ v + 1 then rootN v + 1 else rootN v) + 1) * ((if (rootN v + 1) * (rootN v + 1) ≤ v + 1 then rootN v + 1 else rootN v) + 1)
    split
    · rename_i q
      refine ⟨q, ?_⟩
      have : (rootN v + 1) * (rootN v + 1) < (rootN v + 1 + 1) * (rootN v + 1 + 1) := Nat.mul_lt_mul_of_lt_of_le (by omega) (by omega) (by omega)
      omega
    · rename_i q
      omega
def rootZ (v : Int) : Int := (rootN v.toNat : Int)
theorem rootZ_s {v : Int} (h : 0 ≤ v) : 0 ≤ rootZ v ∧ rootZ v * rootZ v ≤ v ∧ v < (rootZ v + 1) * (rootZ v + 1) := by
  obtain ⟨k, rfl⟩ := Int.eq_ofNat_of_zero_le h
  have := rootN_s k
  unfold rootZ
  rw [show ((k : Int)).toNat = k from rfl]
  refine ⟨by omega, by exact_mod_cast this.1, by exact_mod_cast this.2⟩
theorem sq_lt {a b : Int} (ha : 0 ≤ a) (h : a < b) : a * a < b * b := by
  have h1 : a * a ≤ a * b := Int.mul_le_mul_of_nonneg_left (by omega) ha
  have h2 : a * b < b * b := Int.mul_lt_mul_of_pos_right h (by omega)
  omega
theorem sq_le {a b : Int} (ha : 0 ≤ a) (h : a ≤ b) : a * a ≤ b * b := by
  rcases Int.lt_or_eq_of_le h with q | rfl
  · exact Int.le_of_lt (sq_lt ha q)
  · exact Int.le_refl _
theorem rootZ_u {v r : Int} (h0 : 0 ≤ r) (h1 : r * r ≤ v) (h2 : v < (r + 1) * (r + 1)) : r = rootZ v := by
  have hv : 0 ≤ v := Int.le_trans (Int.mul_nonneg h0 h0) h1
  obtain ⟨g0, g1, g2⟩ := rootZ_s hv
  rcases Int.lt_trichotomy r (rootZ v) with q | q | q
  · have := sq_le (a := r + 1) (b := rootZ v) (by omega) (by omega); omega
  · exact q
  · have := sq_le (a := rootZ v + 1) (b := r) (by omega) (by omega); omega
theorem rootZ_le {v m : Int} (hv : 0 ≤ v) (hm : 0 ≤ m) (h : v < (m + 1) * (m + 1)) : rootZ v ≤ m := by
  obtain ⟨g0, g1, g2⟩ := rootZ_s hv
  rcases (show m < rootZ v ∨ rootZ v ≤ m by omega) with q | q
  · have := sq_le (a := m + 1) (b := rootZ v) (by omega) (by omega); omega
  · exact q
