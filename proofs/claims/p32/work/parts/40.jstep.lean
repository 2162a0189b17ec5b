def JW (b : Nat) (S : Nat → Int) (i : Nat) (K : GI) : Prop := ∀ i' : Nat, i' < i → (i' : Int) < S 3 → K (wP b i') 3 = sR S i' ∧ K (wP b i') 4 = sD S i' ∧ K (wP b i') 5 = sT S i'
theorem jw_at {K : GI} {r : Nat} {d : Int} : jW K r d r 3 = wR K r ∧ jW K r d r 4 = wD K r ∧ jW K r d r 5 = wT K r d := by
  unfold jW
  refine ⟨?_, ?_, ?_⟩ <;> simp [up]
theorem jw_fr {K : GI} {r q f : Nat} {d : Int} (h : ¬ (q = r ∧ 3 ≤ f ∧ f ≤ 5)) : jW K r d q f = K q f := by
  unfold jW
  rw [up_nn (by omega), up_nn (by omega), up_nn (by omega)]
theorem jw_step {b i : Nat} {I K : GI} {S : Nat → Int} (hR : Rel b K S) (hi : (i : Int) < S 3) (h6 : i < 6) (h : JW b S i K) (hf : frD b I K) : JW b S (i + 1) (jW K (wP b i) (S 0)) ∧ frD b I (jW K (wP b i) (S 0)) := by
  refine ⟨fun k hk hk3 => ?_, fun q f hn => ?_⟩
  · by_cases e : k = i
    · subst e
      have a := jw_at (K := K) (r := wP b k) (d := S 0)
      rw [a.1, a.2.1, a.2.2, rel_wR hR hk3, rel_wD hR hk3, rel_wT hR hk3]
      exact ⟨rfl, rfl, rfl⟩
    · have ne : wP b k ≠ wP b i := by unfold wP; omega
      rw [jw_fr (fun hh => ne hh.1), jw_fr (fun hh => ne hh.1), jw_fr (fun hh => ne hh.1)]
      exact h k (by omega) hk3
  · rw [jw_fr (fun hh => hn ⟨by unfold wP at hh; omega, by unfold derC; unfold wP at hh; omega⟩)]
    exact hf q f hn
theorem jj_at {K : GI} {r a c : Nat} : (jJ K r a c r 3 = K a 0 ∧ jJ K r a c r 4 = K a 1) ∧ (jJ K r a c r 5 = jC K a c ∧ jJ K r a c r 6 = jT K r a c) ∧ jJ K r a c r 11 = jS K r a c ∧ jJ K r a c r 7 = jB K r a c := by
  unfold jJ
  refine ⟨⟨?_, ?_⟩, ⟨?_, ?_⟩, ?_, ?_⟩ <;> simp [up]
theorem jj_fr {K : GI} {r a c q f : Nat} (h : ¬ (q = r ∧ ((3 ≤ f ∧ f ≤ 7) ∨ f = 11))) : jJ K r a c q f = K q f := by
  unfold jJ
  rw [up_nn (by omega), up_nn (by omega), up_nn (by omega), up_nn (by omega), up_nn (by omega), up_nn (by omega)]
def JJ (b : Nat) (S : Nat → Int) (i : Nat) (K : GI) : Prop := ∀ j : Nat, j < i → (j : Int) < S 4 → (K (jP b j) 3 = S (6 + 12 * sNear S j) ∧ K (jP b j) 4 = S (7 + 12 * sNear S j)) ∧ (K (jP b j) 5 = sC S j ∧ K (jP b j) 6 = sJ S j) ∧ (K (jP b j) 11 = if sC S j ≠ 0 then 0 else sSw S j) ∧ K (jP b j) 7 = if sJ S j ≠ 0 then -2000000000 else sS0 S j
theorem near_b {j : Nat} {S : Nat → Int} (ho : Oks S) (hj : (j : Int) < S 4) : (sNear S j < 6 ∧ (sNear S j : Int) < S 3) ∧ (sFar S j < 6 ∧ (sFar S j : Int) < S 3) := by
  have h := (ho.2.2.2.1 j hj).1
  have h3 := ho.2.1.1
  unfold sNear sFar
  omega
theorem jj_c {b j : Nat} {K : GI} {S : Nat → Int} (hR : Rel b K S) (ho : Oks S) (hj : (j : Int) < S 4) (hW : JW b S 6 K) : jC K (wP b (sNear S j)) (wP b (sFar S j)) = sC S j := by
  have h := near_b ho hj
  unfold jC sC
  rw [(hW (sNear S j) h.1.1 h.1.2).2.2, (hW (sFar S j) h.2.1 h.2.2).2.2]
theorem jj_t {b j : Nat} {K : GI} {S : Nat → Int} (hR : Rel b K S) (ho : Oks S) (hj : (j : Int) < S 4) (hW : JW b S 6 K) : jT K (jP b j) (wP b (sNear S j)) (wP b (sFar S j)) = sJ S j := by
  have hw := hR.2.2.2.1 j hj
  unfold jT sJ
  rw [jj_c hR ho hj hW, hw.2.1, hw.2.2.1]
theorem jj_s {b j : Nat} {K : GI} {S : Nat → Int} (hR : Rel b K S) (ho : Oks S) (hj : (j : Int) < S 4) (hW : JW b S 6 K) : jS K (jP b j) (wP b (sNear S j)) (wP b (sFar S j)) = if sC S j ≠ 0 then 0 else sSw S j := by
  have h := near_b ho hj
  have hw := hR.2.2.2.1 j hj
  unfold jS sSw
  rw [jj_c hR ho hj hW, hw.2.1, (hW (sNear S j) h.1.1 h.1.2).1, (hW (sFar S j) h.2.1 h.2.2).1]
theorem jj_b {b j : Nat} {K : GI} {S : Nat → Int} (hR : Rel b K S) (ho : Oks S) (hj : (j : Int) < S 4) (hW : JW b S 6 K) : jB K (jP b j) (wP b (sNear S j)) (wP b (sFar S j)) = if sJ S j ≠ 0 then -2000000000 else sS0 S j := by
  have hw := hR.2.2.2.1 j hj
  unfold jB
  rw [jj_t hR ho hj hW]
  by_cases e : sJ S j ≠ 0
  · rw [if_pos e, if_pos e]
  · rw [if_neg e, if_neg e, jj_s hR ho hj hW, if_neg (by have := sJ_c (S := S) (j := j) (by omega); omega)]
    unfold sS0 sSt
    rw [hw.1.2.2, hw.2.1, hw.2.2.1, hw.2.2.2]
