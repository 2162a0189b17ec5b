def adS (S : Nat → Int) (t : Nat) (sh lf : Int) : Nat → Nat → Int
  | 0 => us S (105 + 28 * t) (normZ (S (105 + 28 * t) - sh))
  | k + 1 => us (adS S t sh lf k) (106 + 28 * t + 2 * k) (normZ (S (106 + 28 * t + 2 * k) - (sh + moF (rkF (sLe S t) k (sLg S t)) lf)))
theorem adS_s {S : Nat → Int} {t : Nat} {sh lf : Int} {k : Nat} : adS S t sh lf (k + 1) = us (adS S t sh lf k) (106 + 28 * t + 2 * k) (normZ (S (106 + 28 * t + 2 * k) - (sh + moF (rkF (sLe S t) k (sLg S t)) lf))) := rfl
theorem adS_o {S : Nat → Int} {t : Nat} {sh lf : Int} {q : Nat} (h : q ≠ 105 + 28 * t) : ∀ n : Nat, (∀ k, k < n → q ≠ 106 + 28 * t + 2 * k) → adS S t sh lf n q = S q := by
  intro n
  induction n with
  | zero => intro _; rw [adS, us_ne h]
  | succ n ih => intro g; rw [adS_s, us_ne (g n (by omega)), ih (fun k hk => g k (by omega))]
theorem adS_c {S : Nat → Int} {t : Nat} {sh lf : Int} : ∀ n : Nat, adS S t sh lf n (105 + 28 * t) = normZ (S (105 + 28 * t) - sh) := by
  intro n
  induction n with
  | zero => rw [adS, us_at rfl]
  | succ n ih => rw [adS_s, us_ne (by omega), ih]
theorem adS_a {S : Nat → Int} {t : Nat} {sh lf : Int} : ∀ n k : Nat, k < n → adS S t sh lf n (106 + 28 * t + 2 * k) = normZ (S (106 + 28 * t + 2 * k) - (sh + moF (rkF (sLe S t) k (sLg S t)) lf)) := by
  intro n
  induction n with
  | zero => intro k hk; omega
  | succ n ih =>
    intro k hk
    rw [adS_s]
    by_cases e : k = n
    · subst e; rw [us_at rfl]
    · rw [us_ne (by omega), ih k (by omega)]
def shZ (S : Nat → Int) (t : Nat) : Int := (sG S t).tdiv (S (103 + 28 * t) + 1)
def lfZ (S : Nat → Int) (t : Nat) : Int := sG S t - shZ S t * (S (103 + 28 * t) + 1)
def oAdj (S : Nat → Int) (t : Nat) : Nat → Int := adS S t (shZ S t) (lfZ S t) (sLg S t)
theorem adj_o {S : Nat → Int} {t q : Nat} (h12 : S (103 + 28 * t) ≤ 12) (h : q ≤ 104 + 28 * t ∨ 130 + 28 * t ≤ q ∨ (q = 105 + 28 * t + 2 * ((q - (105 + 28 * t)) / 2) ∧ q ≠ 105 + 28 * t)) : oAdj S t q = S q := adS_o (by omega) _ (fun k hk => by unfold sLg at hk; omega)
theorem tk_fr {I : GI} {r q f : Nat} (h : ¬ (q = r ∧ f = 4)) (h1 : q ≠ r + 1) : tkI I r q f = I q f := by
  unfold tkI
  rw [up_nn (by omega), gap_o h1]
theorem tk_v {I : GI} {r : Nat} : tkI I r r 4 = normZ (I r 4 - shF I r) ∧ ∀ k : Nat, k < (I r 2).toNat → tkI I r (r + 1) k = normZ (I (r + 1) k - shF I r - moF (rkF (I (r + 2)) k (I r 2).toNat) (lfF I r)) := by
  unfold tkI
  refine ⟨up_eq, fun k hk => ?_⟩
  rw [up_ne (by omega), gap_lo _ hk]
theorem tk_hi {I : GI} {r k : Nat} (h : (I r 2).toNat ≤ k) : tkI I r (r + 1) k = I (r + 1) k := by
  unfold tkI
  rw [up_ne (by omega), gap_hi _ h]
theorem rel_adj {b : Nat} {I : GI} {S : Nat → Int} {t : Nat} (h : Rel b I S) (ho : Oks S) (ht9 : (t : Int) < S 5) (hc : 0 ≤ S (104 + 28 * t)) (hg : I (tP b t) 5 = sG S t) : Rel b (tkI I (b + 21 + 6 * t)) (oAdj S t) := by
  have hT := rel_tr h ht9
  have o9 := (ho.2.2.2.2 t ht9).1.2.1
  have t4 : t < 4 := by have := ho.2.1; omega
  obtain ⟨h1, ⟨c1, c2, c3⟩, h3, h4, h5⟩ := h
  obtain ⟨o1, o2, o3, o4, o5⟩ := ho
  have esh : shF I (tP b t) = shZ S t := by unfold shF shZ; rw [hg, hT.1.2]
  have elf : lfF I (tP b t) = lfZ S t := by unfold lfF lfZ; rw [esh, hg, hT.1.2, Int.mul_comm]
  unfold tP at hT esh elf hg
  unfold wP at h3; unfold jP at h4; unfold tP at h5
  unfold Rel wP jP tP
  have eS : ∀ q, q ≤ 104 + 28 * t → oAdj S t q = S q := fun q hq => adj_o (by omega) (by omega)
  refine ⟨fun k hk => ?_, ⟨?_, ?_, ?_⟩, fun q hq => ?_, fun q hq => ?_, fun q hq => ?_⟩
  · rw [tk_fr (by omega) (by omega), eS _ (by omega)]; exact h1 k hk
  · rw [tk_fr (by omega) (by omega), eS _ (by omega)]; exact c1
  · rw [tk_fr (by omega) (by omega), eS _ (by omega)]; exact c2
  · rw [tk_fr (by omega) (by omega), eS _ (by omega)]; exact c3
  · rw [eS _ (by omega)] at hq
    have hw := h3 q hq
    have hb := (o3 q hq).1.2.2
    rw [tk_fr (by omega) (by omega), tk_fr (by omega) (by omega), tk_fr (by omega) (by omega), eS _ (by omega), eS _ (by omega), eS _ (by omega)]
    exact ⟨hw.1, fun k hk => by rw [tk_fr (by omega) (by omega), eS _ (by omega)]; exact hw.2 k hk⟩
  · rw [eS _ (by omega)] at hq
    have hw := h4 q hq
    rw [tk_fr (by omega) (by omega), tk_fr (by omega) (by omega), tk_fr (by omega) (by omega), tk_fr (by omega) (by omega), tk_fr (by omega) (by omega), tk_fr (by omega) (by omega), eS _ (by omega), eS _ (by omega), eS _ (by omega), eS _ (by omega), eS _ (by omega), eS _ (by omega)]
    exact hw
  · rw [eS _ (by omega)] at hq
    have hw := h5 q hq
    have hb := (o5 q hq).1.2.1
    by_cases e : q = t
    · subst q
      rw [eS _ (by omega), eS _ (by omega), eS _ (by omega), tk_fr (by omega) (by omega), tk_fr (by omega) (by omega), tk_fr (by omega) (by omega)]
      refine ⟨hw.1, ⟨fun _ => ⟨(hw.2.1.1 hc).1, ?_⟩, fun hn => by omega⟩, fun k hk => ⟨?_, ?_⟩⟩
      · rw [tk_v.1, esh, (hw.2.1.1 hc).2]
        exact (adS_c _).symm
      · have hk2 : k < (I (b + 21 + 6 * t) 2).toNat := by rw [hT.1.2]; omega
        rw [tk_v.2 k hk2, esh, elf, (hw.2.2 k hk).1, hT.1.2]
        unfold oAdj
        rw [adS_a _ k (by unfold sLg; omega)]
        rw [show rkF (I (b + 21 + 6 * t + 2)) k (S (103 + 28 * t)).toNat = rkF (sLe S t) k (sLg S t) from rkF_c _ (hw.2.2 k hk).2 (fun j hj => (hw.2.2 j (by omega)).2)]
        congr 1
        omega
      · rw [tk_fr (by omega) (by omega), adj_o (by omega) (by omega)]
        exact (hw.2.2 k hk).2
    · rw [adj_o (by omega) (by omega), adj_o (by omega) (by omega), adj_o (by omega) (by omega), adj_o (by omega) (by omega), tk_fr (by omega) (by omega), tk_fr (by omega) (by omega), tk_fr (by omega) (by omega), tk_fr (by omega) (by omega)]
      exact ⟨hw.1, hw.2.1, fun k hk => by rw [tk_fr (by omega) (by omega), tk_fr (by omega) (by omega), adj_o (by omega) (by omega), adj_o (by omega) (by omega)]; exact hw.2.2 k hk⟩
theorem oks_adj {S : Nat → Int} {t : Nat} (ho : Oks S) (ht9 : (t : Int) < S 5) : Oks (oAdj S t) := by
  have o9 := (ho.2.2.2.2 t ht9).1.2.1
  obtain ⟨o1, o2, o3, o4, o5⟩ := ho
  have eS : ∀ q, q ≤ 104 + 28 * t → oAdj S t q = S q := fun q hq => adj_o (by omega) (by omega)
  unfold Oks
  rw [eS 0 (by omega), eS 1 (by omega), eS 2 (by omega), eS 3 (by omega), eS 4 (by omega), eS 5 (by omega)]
  refine ⟨o1, o2, fun q hq => ?_, fun q hq => ?_, fun q hq => ?_⟩
  · have hw := o3 q hq
    rw [eS _ (by omega), eS _ (by omega), eS _ (by omega)]
    exact ⟨hw.1, fun k hk => by rw [eS _ (by omega)]; exact hw.2 k hk⟩
  · have hw := o4 q hq
    rw [eS _ (by omega), eS _ (by omega), eS _ (by omega), eS _ (by omega), eS _ (by omega), eS _ (by omega)]
    exact hw
  · have hw := o5 q hq
    have hb := hw.1.2.1
    by_cases e : q = t
    · subst q
      rw [eS _ (by omega), eS _ (by omega), eS _ (by omega)]
      refine ⟨hw.1, fun hc => ⟨?_, (hw.2.1 hc).2⟩, fun k hk => ⟨?_, ?_⟩⟩
      · unfold oAdj
        rw [adS_c]
        have := normZ_b (S (105 + 28 * t) - shZ S t)
        omega
      · unfold oAdj
        rw [adS_a _ k (by unfold sLg; omega)]
        have := normZ_b (S (106 + 28 * t + 2 * k) - (shZ S t + moF (rkF (sLe S t) k (sLg S t)) (lfZ S t)))
        omega
      · rw [adj_o (by omega) (by omega)]; exact (hw.2.2 k hk).2
    · rw [adj_o (by omega) (by omega), adj_o (by omega) (by omega), adj_o (by omega) (by omega), adj_o (by omega) (by omega)]
      exact ⟨hw.1, hw.2.1, fun k hk => by rw [adj_o (by omega) (by omega), adj_o (by omega) (by omega)]; exact hw.2.2 k hk⟩
theorem raw_adj {b t : Nat} {I : GI} (h : Raw b I) (h6 : t < 4) : Raw b (tkI I (b + 21 + 6 * t)) := by
  obtain ⟨h1, h2⟩ := h
  refine ⟨fun q hq => ?_, fun q hq => ?_⟩
  · have hw := h1 q hq
    unfold wOk wP at *
    rw [tk_fr (by omega) (by omega), tk_fr (by omega) (by omega), tk_fr (by omega) (by omega)]
    exact ⟨hw.1, hw.2.1, fun k hk => by rw [tk_fr (by omega) (by omega)]; exact hw.2.2 k hk⟩
  · have hw := h2 q hq
    unfold tOk tP at *
    by_cases e : q = t
    · subst q
      rw [tk_fr (by omega) (by omega), tk_fr (by omega) (by omega), tk_fr (by omega) (by omega)]
      refine ⟨hw.1, ⟨hw.2.1.1, ?_⟩, fun k hk => ?_, fun k hk => ?_⟩
      · rw [tk_v.1]
        have := normZ_b (I (b + 21 + 6 * t) 4 - shF I (b + 21 + 6 * t))
        omega
      · by_cases e2 : k < (I (b + 21 + 6 * t) 2).toNat
        · rw [tk_v.2 k e2]
          have := normZ_b (I (b + 21 + 6 * t + 1) k - shF I (b + 21 + 6 * t) - moF (rkF (I (b + 21 + 6 * t + 2)) k (I (b + 21 + 6 * t) 2).toNat) (lfF I (b + 21 + 6 * t)))
          omega
        · rw [tk_hi (by omega)]; exact hw.2.2.1 k hk
      · rw [tk_fr (by omega) (by omega)]; exact hw.2.2.2 k hk
    · rw [tk_fr (by omega) (by omega), tk_fr (by omega) (by omega), tk_fr (by omega) (by omega), tk_fr (by omega) (by omega)]
      exact ⟨hw.1, hw.2.1, fun k hk => by rw [tk_fr (by omega) (by omega)]; exact hw.2.2.1 k hk, fun k hk => by rw [tk_fr (by omega) (by omega)]; exact hw.2.2.2 k hk⟩
def rfT (S : Nat → Int) (a b : Int) : Int := if ¬ (0 ≤ a ∧ a < S 3) then 1 else if ¬ (0 ≤ b ∧ b ≤ 999) then 2 else if S (8 + 12 * a.toNat) = 9 then 3 else 0
def rfL (S : Nat → Int) (a b c : Int) : Int := if ¬ (0 ≤ a ∧ a < S 5) then 1 else if ¬ ((0 ≤ b ∧ b ≤ 1295999) ∧ 1 ≤ c ∧ c ≤ 200000) then 2 else if 0 ≤ S (104 + 28 * a.toNat) ∨ S (103 + 28 * a.toNat) = 12 then 3 else 0
def rfK (S : Nat → Int) (a : Int) : Int := if ¬ (0 ≤ a ∧ a < S 5) then 1 else if S (103 + 28 * a.toNat) = 0 then 3 else 0
def rfA (S : Nat → Int) (a : Int) : Int := if ¬ (0 ≤ a ∧ a < S 5) then 1 else if S (104 + 28 * a.toNat) < 0 ∨ sTT S a.toNat ≠ 0 then 3 else 0
def rfZ (S : Nat → Int) (l a b c : Int) : Int := if l = 116 then rfT S a b else if l = 108 then rfL S a b c else if l = 107 then rfK S a else rfA S a
def coR (S : Nat → Int) (l a : Int) : Int := if l = 116 then S (8 + 12 * a.toNat) + 1 else if l = 108 then S (103 + 28 * a.toNat) else if l = 107 then S (103 + 28 * a.toNat) - 1 else sG S a.toNat
def coS (S : Nat → Int) (l a b c : Int) : Nat → Int := if l = 116 then oSwing S a.toNat (S (8 + 12 * a.toNat)).toNat b else if l = 108 then oAdd S a.toNat (S (103 + 28 * a.toNat)).toNat b c else if l = 107 then oDrop S a.toNat else oAdj S a.toNat
def coQ (I J : GI) (S : Nat → Int) (l a b c : Int) : Option GV → Nat → GI → GI → Prop := fun v _ I' J' => v = some (vI (coR S l a)) ∧ ((∀ q f, 46 ≤ q → I' q f = I q f) ∧ Rel 1 I' (coS S l a b c) ∧ Oks (coS S l a b c) ∧ Raw 1 I') ∧ J' = J
