theorem jj_step {b j : Nat} {I K : GI} {S : Nat → Int} (hR : Rel b K S) (ho : Oks S) (hj : (j : Int) < S 4) (h4 : j < 4) (hW : JW b S 6 K) (h : JJ b S j K) (hf : frD b I K) : JW b S 6 (jJ K (jP b j) (wP b (sNear S j)) (wP b (sFar S j))) ∧ JJ b S (j + 1) (jJ K (jP b j) (wP b (sNear S j)) (wP b (sFar S j))) ∧ frD b I (jJ K (jP b j) (wP b (sNear S j)) (wP b (sFar S j))) := by
  have hn := near_b ho hj
  refine ⟨fun k hk hk3 => ?_, fun k hk hk3 => ?_, fun q f hq => ?_⟩
  · have ne : wP b k ≠ jP b j := by unfold wP jP; omega
    rw [jj_fr (fun hh => ne hh.1), jj_fr (fun hh => ne hh.1), jj_fr (fun hh => ne hh.1)]
    exact hW k hk hk3
  · by_cases e : k = j
    · subst e
      have a := jj_at (K := K) (r := jP b k) (a := wP b (sNear S k)) (c := wP b (sFar S k))
      have w := rel_w hR hn.1.2
      rw [a.1.1, a.1.2, a.2.1.1, a.2.1.2, a.2.2.1, a.2.2.2, jj_c hR ho hk3 hW, jj_t hR ho hk3 hW, jj_s hR ho hk3 hW, jj_b hR ho hk3 hW, w.1.1, w.1.2.1]
      exact ⟨⟨rfl, rfl⟩, ⟨rfl, rfl⟩, rfl, rfl⟩
    · have ne : jP b k ≠ jP b j := by unfold jP; omega
      rw [jj_fr (fun hh => ne hh.1), jj_fr (fun hh => ne hh.1), jj_fr (fun hh => ne hh.1), jj_fr (fun hh => ne hh.1), jj_fr (fun hh => ne hh.1), jj_fr (fun hh => ne hh.1)]
      exact h k (by omega) hk3
  · rw [jj_fr (fun hh => hq ⟨by unfold jP at hh; omega, by unfold derC; unfold jP at hh; omega⟩)]
    exact hf q f hq
