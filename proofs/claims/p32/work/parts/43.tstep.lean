theorem tF0_s {b t : Nat} {K : GI} {S : Nat → Int} (hR : Rel b K S) (ho : Oks S) (hT9 : (t : Int) < S 5) (hJ : JJ b S 4 K) : tF0 (K (tP b t) 2) (K (jP b (sFi S t)) 6) = if S (103 + 28 * t) = 0 then 5 else if sJ S (sFi S t) ≠ 0 then 6 else 0 := by
  have h := (ho.2.2.2.2 t hT9).1
  have h4 := ho.2.1.2.1
  have hf : sFi S t < 4 ∧ (sFi S t : Int) < S 4 := by unfold sFi; omega
  unfold tF0
  rw [(rel_tr hR hT9).1.2, (hJ (sFi S t) hf.1 hf.2).2.1.2]
theorem sTT_5 {S : Nat → Int} {t : Nat} : (sTT S t ≠ 5 ∧ sTT S t ≠ 6) ↔ (S (103 + 28 * t) ≠ 0 ∧ sJ S (sFi S t) = 0) := by
  unfold sTT
  by_cases a : S (103 + 28 * t) = 0
  · rw [if_pos a]; omega
  · rw [if_neg a]
    by_cases c : sJ S (sFi S t) = 0
    · rw [if_neg (by omega)]
      constructor
      · intro _; exact ⟨a, c⟩
      · intro _
        split
        · omega
        · split
          · omega
          · split <;> omega
    · rw [if_pos c]; omega
