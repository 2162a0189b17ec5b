theorem rk_done {l : Nat → Int} {m n : Nat} (hn : n < m) (hC : ctF (dnF l m (n : Int)) m = n) : ∃ j : Nat, j < m ∧ rkF l j m = (n : Int) := by
  have key : ∀ k : Nat, k ≤ m → (∀ i, i < k → rkF l i m < (n : Int)) ∨ ∃ j : Nat, j < k ∧ (n : Int) ≤ rkF l j m ∧ ∀ i, i < k → (n : Int) ≤ rkF l i m → rkF l j m ≤ rkF l i m := by
    intro k
    induction k with
    | zero => intro _; exact Or.inl (fun i hi => absurd hi (Nat.not_lt_zero _))
    | succ k ih =>
      intro hk
      rcases ih (by omega) with h | ⟨j, hj, hr, hm⟩
      · rcases Int.lt_or_le (rkF l k m) (n : Int) with w | w
        · exact Or.inl (fun i hi => by
            rcases (show i < k ∨ i = k by omega) with q | q
            · exact h i q
            · subst q; exact w)
        · exact Or.inr ⟨k, by omega, w, fun i hi hr => by
            rcases (show i < k ∨ i = k by omega) with q | q
            · have := h i q; omega
            · subst q; exact Int.le_refl _⟩
      · rcases Int.lt_or_le (rkF l k m) (rkF l j m) with w | w
        · rcases Int.lt_or_le (rkF l k m) (n : Int) with x | x
          · exact Or.inr ⟨j, by omega, hr, fun i hi hr2 => by
              rcases (show i < k ∨ i = k by omega) with q | q
              · exact hm i q hr2
              · subst q; omega⟩
          · exact Or.inr ⟨k, by omega, x, fun i hi hr2 => by
              rcases (show i < k ∨ i = k by omega) with q | q
              · have := hm i q hr2; omega
              · subst q; exact Int.le_refl _⟩
        · exact Or.inr ⟨j, by omega, hr, fun i hi hr2 => by
            rcases (show i < k ∨ i = k by omega) with q | q
            · exact hm i q hr2
            · subst q; exact w⟩
  rcases key m (Nat.le_refl _) with h | ⟨j, hj, hr, hm⟩
  · rw [ct_all m (fun i hi => dn_iff.mpr (h i hi))] at hC
    omega
  · obtain ⟨j2, e, h2, h3⟩ := rk_pick (l := l) (m := m) (n := n) (f := (j : Int)) hn hC (Or.inr ⟨j, rfl, hj, hr, hm⟩)
    exact ⟨j2, h2, h3⟩
theorem ct_dn {l : Nat → Int} {m : Nat} : ∀ n : Nat, n ≤ m → ctF (dnF l m (n : Int)) m = n := by
  intro n
  induction n with
  | zero => intro _; exact ct_zero
  | succ n ih =>
    intro hn
    have hC := ih (by omega)
    obtain ⟨j, hj, hr⟩ := rk_done (l := l) (m := m) (n := n) (by omega) hC
    exact ct_next hC hj hr
theorem mo_sum {l : Nat → Int} {m : Nat} {d : Int} : ∀ k : Nat, smF k (fun i => moF (rkF l i m) d) = (if d < 0 then -1 else 1) * (ctF (dnF l m (d.natAbs : Int)) k : Int) := by
  intro k
  induction k with
  | zero => rw [smF]; show (0 : Int) = _ * ((0 : Nat) : Int); omega
  | succ k ih =>
    rw [smF_s, ih, ct_s]
    unfold moF
    by_cases h : rkF l k m < (d.natAbs : Int)
    · rw [if_pos h, if_pos (dn_iff.mpr h)]
      split <;> omega
    · rw [if_neg h, if_neg (fun q => h (dn_iff.mp q))]
      split <;> omega
theorem mo_all {l : Nat → Int} {m : Nat} {d : Int} (h : d.natAbs ≤ m) : smF m (fun i => moF (rkF l i m) d) = d := by
  rw [mo_sum, ct_dn d.natAbs h]
  split <;> omega
theorem ad_sum {a a' mo : Nat → Int} {sh : Int} : ∀ k : Nat, (∀ i, i < k → a' i = normZ (a i - (sh + mo i))) → (smF k a' - (smF k a - sh * (k : Int) - smF k mo)) % 1296000 = 0 := by
  intro k
  induction k with
  | zero => intro _; rw [smF, smF, smF, show sh * ((0 : Nat) : Int) = 0 from Int.mul_zero _]; decide
  | succ k ih =>
    intro h
    have h1 := ih (fun i hi => h i (by omega))
    have h2 := h k (by omega)
    have e : sh * ((k + 1 : Nat) : Int) = sh * (k : Int) + sh := by
      rw [show ((k + 1 : Nat) : Int) = (k : Int) + 1 by omega, Int.mul_add, Int.mul_one]
    rw [smF_s, smF_s, smF_s, e, h2]
    unfold normZ
    omega
theorem sR_a {S T : Nat → Int} {i : Nat} (h : ∀ q, q < 102 → T q = S q) (hi : i < 6) (hn : S (8 + 12 * i) ≤ 9) : sR T i = sR S i := by
  unfold sR
  rw [h (8 + 12 * i) (by omega)]
  exact restF_c _ (fun k hk => h _ (by omega))
theorem sS0_a {S T : Nat → Int} {j : Nat} (ho : Oks S) (h : ∀ q, q < 102 → T q = S q) (hj : (j : Int) < S 4) : sS0 T j = sS0 S j := by
  have h3 := ho.2.1
  have hj9 := ho.2.2.2.1 j hj
  have ha := (ho.2.2.1 (S (78 + 6 * j)).toNat (by omega)).1.2.2
  have hb := (ho.2.2.1 (S (79 + 6 * j)).toNat (by omega)).1.2.2
  unfold sS0 sSt sSw sNear sFar
  rw [h (78 + 6 * j) (by omega), h (79 + 6 * j) (by omega), h (80 + 6 * j) (by omega), h (81 + 6 * j) (by omega), h (82 + 6 * j) (by omega), h (83 + 6 * j) (by omega), sR_a h (by omega) ha.2, sR_a h (by omega) hb.2]
theorem adj_gap {S : Nat → Int} {t : Nat} (ho : Oks S) (htt : (t : Int) < S 5) (hc : 0 ≤ S (104 + 28 * t)) : sG (oAdj S t) t = 0 := by
  have h3 := ho.2.1
  have ht9 := okT ho htt
  have hlg := ht9.2.1 hc
  have lo : ∀ q, q ≤ 104 + 28 * t → oAdj S t q = S q := fun q hq => adj_o ht9.1.2.1.2 (by omega)
  have e0 : ∀ q, q < 102 → oAdj S t q = S q := fun q hq => lo q (by omega)
  have el : sLg (oAdj S t) t = (S (103 + 28 * t)).toNat := by unfold sLg; rw [lo _ (by omega)]
  have ef : sS0 (oAdj S t) (sFi (oAdj S t) t) = sS0 S (S (102 + 28 * t)).toNat := by
    unfold sFi
    rw [lo (102 + 28 * t) (by omega), sS0_a ho e0 (by omega)]
  have eL : sS0 (oAdj S t) (sLa (oAdj S t) t) = sS0 S (S (104 + 28 * t)).toNat := by
    unfold sLa
    rw [lo (104 + 28 * t) (by omega), sS0_a ho e0 (by omega)]
  obtain ⟨m, hm⟩ : ∃ m : Nat, (S (103 + 28 * t)).toNat = m := ⟨_, rfl⟩
  have hm9 : S (103 + 28 * t) = (m : Int) := by omega
  have b1 := bF_sum (s0 := sS0 S (S (102 + 28 * t)).toNat) (a := sAn (oAdj S t) t) m
  have b0 := bF_sum (s0 := sS0 S (S (102 + 28 * t)).toNat) (a := sAn S t) m
  have ang : ∀ i, i < m → sAn (oAdj S t) t i = normZ (sAn S t i - (shZ S t + (fun i => moF (rkF (sLe S t) i m) (lfZ S t)) i)) := by
    intro i hi
    show oAdj S t (106 + 28 * t + 2 * i) = _
    unfold oAdj
    rw [adS_a _ i (by unfold sLg; omega)]
    unfold sLg
    rw [hm]
    rfl
  have s1 := ad_sum m ang
  have hlf9 := lf_b (sG S t) (c := S (103 + 28 * t) + 1) (by omega)
  have hlf : lfZ S t = sG S t - (shZ S t * (m : Int) + shZ S t) := by
    unfold lfZ
    rw [hm9, Int.mul_add, Int.mul_one]
  have hlf2 : lfZ S t = sG S t - (S (103 + 28 * t) + 1) * (sG S t).tdiv (S (103 + 28 * t) + 1) := by unfold lfZ shZ; rw [Int.mul_comm]
  have s2 := mo_all (l := sLe S t) (m := m) (d := lfZ S t) (by omega)
  rw [s2] at s1
  have cl : oAdj S t (105 + 28 * t) = normZ (S (105 + 28 * t) - shZ S t) := by unfold oAdj; exact adS_c _
  have g0 : sG S t = centZ (bF (sS0 S (S (102 + 28 * t)).toNat) (sAn S t) m + S (105 + 28 * t) + 648000 - sS0 S (S (104 + 28 * t)).toNat) := by
    unfold sG sBr sLg
    rw [hm]
  have g1 : sG (oAdj S t) t = centZ (bF (sS0 S (S (102 + 28 * t)).toNat) (sAn (oAdj S t) t) m + oAdj S t (105 + 28 * t) + 648000 - sS0 S (S (104 + 28 * t)).toNat) := by
    unfold sG sBr
    rw [ef, eL, el, hm]
  rw [g1, cl]
  unfold centZ normZ at *
  omega
def LI (I : GI) : Prop := ∃ D c, CI I (rowL I) D c
def liQ (J : GI) : Option GV → Nat → GI → GI → Prop := fun v _ I' J' => v = some (vI 1) ∧ LI I' ∧ J' = J
theorem tm_nat {v n : Int} (hv : 0 ≤ v) (hn : 0 < n) : ∃ w : Nat, v.tmod n = (w : Int) ∧ (w : Int) < n := by
  have a := Int.emod_nonneg v (show n ≠ 0 by omega)
  have b := Int.emod_lt_of_pos v hn
  refine ⟨(v % n).toNat, ?_, ?_⟩
  · rw [Int.tmod_eq_emod_of_nonneg hv]; omega
  · omega
