theorem last_b {t : Nat} {S : Nat → Int} (ho : Oks S) (hT9 : (t : Int) < S 5) (hc : 0 ≤ S (104 + 28 * t)) : sLa S t < 4 ∧ (sLa S t : Int) < S 4 ∧ S (104 + 28 * t) = (sLa S t : Int) := by
  have h := (ho.2.2.2.2 t hT9).1
  have h4 := ho.2.1.2.1
  unfold sLa
  omega
theorem first_b {t : Nat} {S : Nat → Int} (ho : Oks S) (hT9 : (t : Int) < S 5) : sFi S t < 4 ∧ (sFi S t : Int) < S 4 ∧ S (102 + 28 * t) = (sFi S t : Int) := by
  have h := (ho.2.2.2.2 t hT9).1
  have h4 := ho.2.1.2.1
  unfold sFi
  omega
theorem gp_v {b t : Nat} {K : GI} {S : Nat → Int} (hR : Rel b K S) (ho : Oks S) (hT9 : (t : Int) < S 5) (hJ : JJ b S 4 K) (h0 : sJ S (sFi S t) = 0) (hc : 0 ≤ S (104 + 28 * t)) (h1 : sJ S (sLa S t) = 0) : gpF K (tP b t) (jP b (sFi S t)) (jP b (sLa S t)) = sG S t := by
  have f := first_v ho hT9 hJ h0
  have lb := last_b ho hT9 hc
  have l7 := (hJ (sLa S t) lb.1 lb.2.1).2.2.2
  rw [if_neg (by omega)] at l7
  have hl := (ho.2.2.2.2 t hT9).1.2.1
  unfold gpF sG sBr
  rw [f.1, l7, (rel_tr hR hT9).1.2, ((rel_tr hR hT9).2.1.1 hc).2, rel_bF hR hT9 _ (by omega)]
theorem ea_v {b t : Nat} {K : GI} {S : Nat → Int} (hR : Rel b K S) (ho : Oks S) (hT9 : (t : Int) < S 5) (hJ : JJ b S 4 K) (h0 : sJ S (sFi S t) = 0) : eaF K (tP b t) (jP b (sFi S t)) = sEa S t (sLg S t) ∧ noF K (tP b t) (jP b (sFi S t)) = sNo S t (sLg S t) := by
  have f := first_v ho hT9 hJ h0
  have hl := (ho.2.2.2.2 t hT9).1.2.1
  unfold eaF noF sEa sNo
  rw [f.1, f.2.1, f.2.2, (rel_tr hR hT9).1.2, rel_pF hR hT9 _ (by omega), rel_pF hR hT9 _ (by omega)]
  exact ⟨rfl, rfl⟩
theorem t8_v {b t : Nat} {K : GI} {S : Nat → Int} (hR : Rel b K S) (ho : Oks S) (hT9 : (t : Int) < S 5) (hJ : JJ b S 4 K) (h0 : sJ S (sFi S t) = 0) (hc : 0 ≤ S (104 + 28 * t)) (h1 : sJ S (sLa S t) = 0) (hn : S (103 + 28 * t) ≠ 0) : t8F K (tP b t) (jP b (sFi S t)) (jP b (sLa S t)) (S 1) = sTT S t := by
  unfold t8F sTT
  rw [gp_v hR ho hT9 hJ h0 hc h1, (rel_tr hR hT9).1.2, if_neg hn, if_neg (show ¬ sJ S (sFi S t) ≠ 0 by omega), if_neg (show ¬ S (104 + 28 * t) < 0 by omega), if_neg (show ¬ sJ S (sLa S t) ≠ 0 by omega)]
