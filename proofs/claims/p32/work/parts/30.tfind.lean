def agK (key v : Nat → Int) : Nat → Int × Int
  | 0 => (-2000000000, 0)
  | i + 1 => if (agK key v i).1 = -2000000000 ∨ v i < (agK key v i).2 then (key i, v i) else agK key v i
theorem agK_s {key v : Nat → Int} {i : Nat} : agK key v (i + 1) = if (agK key v i).1 = -2000000000 ∨ v i < (agK key v i).2 then (key i, v i) else agK key v i := rfl
theorem agK_t {key v : Nat → Int} {i : Nat} {a b : Int} (h : agK key v i = (a, b)) (hc : a = -2000000000 ∨ v i < b) : agK key v (i + 1) = (key i, v i) := by
  rw [agK_s, h, if_pos hc]
theorem agK_f {key v : Nat → Int} {i : Nat} {a b : Int} (h : agK key v i = (a, b)) (hc : ¬ (a = -2000000000 ∨ v i < b)) : agK key v (i + 1) = (a, b) := by
  rw [agK_s, h, if_neg hc]
theorem agK_c {key v v' : Nat → Int} : ∀ i : Nat, (∀ k, k < i → v k = v' k) → agK key v i = agK key v' i := by
  intro i
  induction i with
  | zero => intro _; rfl
  | succ i ih => intro h; rw [agK_s, agK_s, ih (fun k hk => h k (by omega)), h i (by omega)]
def suV (I : GI) (r k : Nat) : Int := ((I r 8 * sinZ (I (r + 3) k + 324000) - I r 9 * sinZ (I (r + 3) k)).natAbs : Int)
theorem root_lt {v m : Int} (hv : 0 ≤ v) (hm : 0 ≤ m) : rootZ v < m ↔ v < m * m := by
  have h := rootZ_s hv
  constructor
  · intro g
    have := sq_le (a := rootZ v + 1) (b := m) (by omega) (by omega)
    omega
  · intro g
    rcases Int.lt_or_le (rootZ v) m with e | e
    · exact e
    · have := sq_le hm e
      omega
def fsF (P : Int → Bool) : Nat → Int
  | 0 => -2000000000
  | m + 1 => if P (3600 - (m : Int)) = true then 3600 - (m : Int) else fsF P m
def sgF (x a b : Int) : Int := if x = a then 1 else if x = b then -1 else 0
def aP (I : GI) (r q : Nat) (x y g : Int) : Bool := decide (((centZ (I r 5 + sgF x (I r 0) (I r 1) * (sB I q g - I q 7))).natAbs : Int) ≤ y)
theorem fs_t {P : Int → Bool} {w : Int} (hw : -3600 ≤ w ∧ w ≤ 3600) (h : P w = true) : fsF P (3601 - w).toNat = w := by
  rw [show (3601 - w).toNat = (3600 - w).toNat + 1 by omega, fsF, show (3600 : Int) - ((3600 - w).toNat : Int) = w by omega, if_pos h]
theorem fs_f {P : Int → Bool} {w : Int} (hw : -3600 ≤ w ∧ w ≤ 3600) (h : ¬ P w = true) : fsF P (3601 - w).toNat = fsF P (3601 - (w + 1)).toNat := by
  rw [show (3601 - w).toNat = (3600 - w).toNat + 1 by omega, fsF, show (3600 : Int) - ((3600 - w).toNat : Int) = w by omega, if_neg h, show (3601 - (w + 1)).toNat = (3600 - w).toNat by omega]
def exF (e d u : Int) (k : Nat) : Int := e + (1000 * ((k : Int) + 1) * u).tdiv 10000 - d
def ltB (I : GI) (r : Nat) (x : Int) : Int := I (r + 3) ((I r 2).toNat - 1) + x + 648000
def ltV (I : GI) (r q : Nat) (x : Int) (k : Nat) : Int := rootZ (exF (I r 6) (I q 6) (sinZ (ltB I r x)) k * exF (I r 6) (I q 6) (sinZ (ltB I r x)) k + exF (I r 7) (I q 7) (sinZ (ltB I r x + 324000)) k * exF (I r 7) (I q 7) (sinZ (ltB I r x + 324000)) k)
