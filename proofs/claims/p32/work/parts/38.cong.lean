theorem rel_w {b i : Nat} {I : GI} {S : Nat → Int} (h : Rel b I S) (hi : (i : Int) < S 3) : (I (wP b i) 0 = S (6 + 12 * i) ∧ I (wP b i) 1 = S (7 + 12 * i) ∧ I (wP b i) 2 = S (8 + 12 * i)) ∧ ∀ k : Nat, (k : Int) < S (8 + 12 * i) → I (wP b i + 1) k = S (9 + 12 * i + k) := h.2.2.1 i hi
theorem rel_tu {b i : Nat} {I : GI} {S : Nat → Int} (h : Rel b I S) (hi : (i : Int) < S 3) : ∀ k, k < (S (8 + 12 * i)).toNat → I (wP b i + 1) k = sTu S i k := fun k hk => (rel_w h hi).2 k (by omega)
theorem rel_wR {b i : Nat} {I : GI} {S : Nat → Int} (h : Rel b I S) (hi : (i : Int) < S 3) : wR I (wP b i) = sR S i := by
  unfold wR sR
  rw [(rel_w h hi).1.2.2]
  exact restF_c _ (rel_tu h hi)
theorem rel_wD {b i : Nat} {I : GI} {S : Nat → Int} (h : Rel b I S) (hi : (i : Int) < S 3) : wD I (wP b i) = sD S i := by
  unfold wD sD
  rw [(rel_w h hi).1.2.2]
  exact drF_c _ (rel_tu h hi)
theorem rel_wT {b i : Nat} {I : GI} {S : Nat → Int} (h : Rel b I S) (hi : (i : Int) < S 3) : wT I (wP b i) (S 0) = sT S i := by
  unfold wT sT
  rw [(rel_w h hi).1.2.2]
  exact wtF_c _ (rel_tu h hi)
theorem sD_b {i : Nat} {S : Nat → Int} (h : Oks S) (hi : (i : Int) < S 3) : 0 ≤ sD S i ∧ sD S i ≤ 999 := by
  have hw := h.2.2.1 i hi
  exact drF_b (m := (S (8 + 12 * i)).toNat) (fun k hk => hw.2 k (by omega)) _ (Nat.le_refl _)
theorem sT_v (S : Nat → Int) (i : Nat) : sT S i = 0 ∨ sT S i = 1 ∨ sT S i = 2 := by
  unfold sT wtF
  split
  · omega
  · split <;> omega
theorem sT_n {S : Nat → Int} {i : Nat} (h : sT S i = 0) : 3 ≤ S (8 + 12 * i) := by
  unfold sT wtF at h
  split at h
  · omega
  · omega
theorem sC_v (S : Nat → Int) (j : Nat) : sC S j = 0 ∨ sC S j = 1 ∨ sC S j = 2 := by
  have a := sT_v S (sNear S j)
  have c := sT_v S (sFar S j)
  unfold sC
  split <;> omega
theorem sC_0 {S : Nat → Int} {j : Nat} (h : sC S j = 0) : sT S (sNear S j) = 0 ∧ sT S (sFar S j) = 0 := by
  unfold sC at h
  split at h <;> omega
theorem sJ_v (S : Nat → Int) (j : Nat) : sJ S j = 0 ∨ sJ S j = 3 ∨ sJ S j = 4 := by
  unfold sJ
  split
  · omega
  · split <;> omega
theorem sJ_c {S : Nat → Int} {j : Nat} (h : sJ S j = 0) : sC S j = 0 := by
  unfold sJ at h
  split at h <;> omega
theorem sS0_b (S : Nat → Int) (j : Nat) : 0 ≤ sS0 S j ∧ sS0 S j < 1296000 := normZ_b _
theorem rel_tr {b t : Nat} {I : GI} {S : Nat → Int} (h : Rel b I S) (ht9 : (t : Int) < S 5) : (I (tP b t) 0 = S (102 + 28 * t) ∧ I (tP b t) 2 = S (103 + 28 * t)) ∧ ((0 ≤ S (104 + 28 * t) → I (tP b t) 1 = S (104 + 28 * t) ∧ I (tP b t) 4 = S (105 + 28 * t)) ∧ (S (104 + 28 * t) < 0 → I (tP b t) 1 = -2000000000 ∧ I (tP b t) 4 = -2000000000)) ∧
    ∀ k : Nat, (k : Int) < S (103 + 28 * t) → I (tP b t + 1) k = S (106 + 28 * t + 2 * k) ∧ I (tP b t + 2) k = S (107 + 28 * t + 2 * k) := h.2.2.2.2 t ht9
theorem rel_bF {b t : Nat} {I : GI} {S : Nat → Int} {s0 : Int} (h : Rel b I S) (ht9 : (t : Int) < S 5) (k : Nat) (hk : (k : Int) ≤ S (103 + 28 * t)) : bF s0 (I (tP b t + 1)) k = bF s0 (sAn S t) k := bF_c k (fun j hj => ((rel_tr h ht9).2.2 j (by omega)).1)
theorem rel_pF {b t : Nat} {I : GI} {S : Nat → Int} {q e0 s0 : Int} (h : Rel b I S) (ht9 : (t : Int) < S 5) (k : Nat) (hk : (k : Int) ≤ S (103 + 28 * t)) : pF q e0 s0 (I (tP b t + 1)) (I (tP b t + 2)) k = pF q e0 s0 (sAn S t) (sLe S t) k := pF_c k (fun j hj => ((rel_tr h ht9).2.2 j (by omega)).1) (fun j hj => ((rel_tr h ht9).2.2 j (by omega)).2)
