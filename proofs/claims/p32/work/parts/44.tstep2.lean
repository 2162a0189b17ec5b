theorem first_v {b t : Nat} {K : GI} {S : Nat → Int} (ho : Oks S) (hT9 : (t : Int) < S 5) (hJ : JJ b S 4 K) (h0 : sJ S (sFi S t) = 0) : K (jP b (sFi S t)) 7 = sS0 S (sFi S t) ∧ K (jP b (sFi S t)) 3 = S (6 + 12 * sNear S (sFi S t)) ∧ K (jP b (sFi S t)) 4 = S (7 + 12 * sNear S (sFi S t)) := by
  have h := (ho.2.2.2.2 t hT9).1
  have h4 := ho.2.1.2.1
  have hf : sFi S t < 4 ∧ (sFi S t : Int) < S 4 := by unfold sFi; omega
  have j := hJ (sFi S t) hf.1 hf.2
  refine ⟨?_, j.1.1, j.1.2⟩
  rw [j.2.2.2, if_neg (by omega)]
theorem ly_v {b t : Nat} {K : GI} {S : Nat → Int} (hR : Rel b K S) (ho : Oks S) (hT9 : (t : Int) < S 5) (hJ : JJ b S 4 K) (h0 : sJ S (sFi S t) = 0) :
    (lyF K (tP b t) (jP b (sFi S t)) (tP b t) 6 = sEa S t (sLg S t) ∧ lyF K (tP b t) (jP b (sFi S t)) (tP b t) 7 = sNo S t (sLg S t)) ∧ ∀ k : Nat, (k : Int) < S (103 + 28 * t) → lyF K (tP b t) (jP b (sFi S t)) (tP b t + 3) k = sBr S t (k + 1) ∧ lyF K (tP b t) (jP b (sFi S t)) (tP b t + 4) k = sEa S t (k + 1) ∧ lyF K (tP b t) (jP b (sFi S t)) (tP b t + 5) k = sNo S t (k + 1) := by
  have f := first_v ho hT9 hJ h0
  have hl := (ho.2.2.2.2 t hT9).1.2.1
  unfold lyF
  rw [f.1, f.2.1, f.2.2, (rel_tr hR hT9).1.2]
  refine ⟨⟨?_, ?_⟩, fun k hk => ?_⟩
  · rw [lay_6, up_ne (by omega), up_ne (by omega)]
    exact rel_pF hR hT9 _ (by omega)
  · rw [lay_7, up_ne (by omega), up_ne (by omega)]
    exact rel_pF hR hT9 _ (by omega)
  · have a := lay_3 (I := up K (tP b t) 3 0) (r := tP b t) (s0 := sS0 S (sFi S t)) (e0 := S (6 + 12 * sNear S (sFi S t))) (n0 := S (7 + 12 * sNear S (sFi S t))) (S (103 + 28 * t)).toNat k (by omega)
    rw [a.1, a.2.1, a.2.2, up_ne (by omega), up_ne (by omega)]
    exact ⟨rel_bF hR hT9 _ (by omega), rel_pF hR hT9 _ (by omega), rel_pF hR hT9 _ (by omega)⟩
