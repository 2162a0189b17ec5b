def ffF (T : Nat → Int) : Nat → Nat → Int → Int → Int
  | 0, i, d, _ => if d = 0 then -2000000000 else (i : Int)
  | r + 1, i, d, g => if d = 0 then (if numZ (T i) = 0 then (i : Int) else ffF T r (i + 1) (numZ (T i)) g) else if 48 ≤ T i ∧ T i ≤ 57 then (if 7 < g + 1 then (i : Int) else ffF T r (i + 1) d (g + 1)) else if g = 0 ∨ ¬ ((1 < d ∧ T i = 44) ∨ (d ≤ 1 ∧ T i = 59)) then (i : Int) else ffF T r (i + 1) (d + (-1)) 0
theorem ffF_0 {T : Nat → Int} {i : Nat} {d g : Int} : ffF T 0 i d g = if d = 0 then -2000000000 else (i : Int) := rfl
theorem ffF_s {T : Nat → Int} {r i : Nat} {d g : Int} : ffF T (r + 1) i d g = if d = 0 then (if numZ (T i) = 0 then (i : Int) else ffF T r (i + 1) (numZ (T i)) g) else if 48 ≤ T i ∧ T i ≤ 57 then (if 7 < g + 1 then (i : Int) else ffF T r (i + 1) d (g + 1)) else if g = 0 ∨ ¬ ((1 < d ∧ T i = 44) ∨ (d ≤ 1 ∧ T i = 59)) then (i : Int) else ffF T r (i + 1) (d + (-1)) 0 := rfl
theorem numZ_b (c : Int) : 0 ≤ numZ c ∧ numZ c ≤ 3 := by
  unfold numZ
  split
  · omega
  · split
    · omega
    · split <;> omega
def stF (I : GI) (c : Int) : GI := up (up (up (up (up I 228 1 c) 228 3 0) 229 0 0) 229 1 0) 229 2 0
def ecF (I : GI) (k : Nat) : GI := if I 230 k = 44 then up I 228 3 (I 228 3 + 1) else if 48 ≤ I 230 k ∧ I 230 k ≤ 57 then (if 0 ≤ I 228 3 ∧ I 228 3 < 3 then up I 229 (I 228 3).toNat (10 * I 229 (I 228 3).toNat + (I 230 k - 48)) else I) else if I 230 k ≠ 59 then stF I (I 230 k) else I
