theorem okW {S : Nat → Int} (ho : Oks S) {i : Nat} (h : (i : Int) < S 3) : (0 ≤ S (8 + 12 * i) ∧ S (8 + 12 * i) ≤ 9) ∧ ∀ k : Nat, (k : Int) < S (8 + 12 * i) → 0 ≤ S (9 + 12 * i + k) ∧ S (9 + 12 * i + k) ≤ 999 := ⟨(ho.2.2.1 i h).1.2.2, (ho.2.2.1 i h).2⟩
theorem okT {S : Nat → Int} (ho : Oks S) {t : Nat} (h : (t : Int) < S 5) : ((0 ≤ S (102 + 28 * t) ∧ S (102 + 28 * t) < S 4) ∧ (0 ≤ S (103 + 28 * t) ∧ S (103 + 28 * t) ≤ 12) ∧ (-1 ≤ S (104 + 28 * t) ∧ S (104 + 28 * t) < S 4)) ∧ (0 ≤ S (104 + 28 * t) → (0 ≤ S (105 + 28 * t) ∧ S (105 + 28 * t) ≤ 1295999) ∧ 1 ≤ S (103 + 28 * t)) ∧ ∀ k : Nat, (k : Int) < S (103 + 28 * t) → (0 ≤ S (106 + 28 * t + 2 * k) ∧ S (106 + 28 * t + 2 * k) ≤ 1295999) ∧ 1 ≤ S (107 + 28 * t + 2 * k) ∧ S (107 + 28 * t + 2 * k) ≤ 200000 :=
  ⟨⟨(ho.2.2.2.2 t h).1.1, (ho.2.2.2.2 t h).1.2.1, (ho.2.2.2.2 t h).1.2.2.1, (ho.2.2.2.2 t h).1.2.2.2.1⟩, (ho.2.2.2.2 t h).2.1, (ho.2.2.2.2 t h).2.2⟩
theorem sG_b (S : Nat → Int) (t : Nat) : -648000 ≤ sG S t ∧ sG S t < 648000 := centZ_b _
theorem sME_c {S : Nat → Int} {t : Nat} (ho : Oks S) (h : (t : Int) < S 5) (hc : 0 ≤ S (104 + 28 * t)) : (-10000000 ≤ sME S t ∧ sME S t ≤ 10000000) ∧ -10000000 ≤ sMN S t ∧ sMN S t ≤ 10000000 := sME_b ho h hc
theorem sR_b {S : Nat → Int} {i : Nat} (ho : Oks S) (hi : (i : Int) < S 3) (h9 : sT S i = 0) : 0 ≤ sR S i ∧ sR S i ≤ 999 := by
  have h3 := sT_n h9
  have w := ho.2.2.1 i hi
  unfold sR
  have hl := smF_lo (t := sTu S i) (m := (S (8 + 12 * i)).toNat) (fun k hk => w.2 k (by omega)) ((S (8 + 12 * i)).toNat - 2) (by omega)
  have a0 : 0 ≤ sTu S i 0 ∧ sTu S i 0 ≤ 999 := by have := w.2 0 (by omega); exact this
  have a1 : 0 ≤ sTu S i ((S (8 + 12 * i)).toNat - 1) ∧ sTu S i ((S (8 + 12 * i)).toNat - 1) ≤ 999 := w.2 _ (by omega)
  rw [show (S (8 + 12 * i)).toNat - 2 + 1 = (S (8 + 12 * i)).toNat - 1 by omega] at hl
  unfold restF
  rw [if_neg (by omega)]
  have hb : (0 : Int) ≤ sTu S i 0 + sTu S i ((S (8 + 12 * i)).toNat - 1) + 2 * (smF ((S (8 + 12 * i)).toNat - 1) (sTu S i) - sTu S i 0) := by omega
  have hc : sTu S i 0 + sTu S i ((S (8 + 12 * i)).toNat - 1) + 2 * (smF ((S (8 + 12 * i)).toNat - 1) (sTu S i) - sTu S i 0) < (2 * (((S (8 + 12 * i)).toNat : Int) - 1)) * 1000 := by omega
  rw [Int.tdiv_eq_ediv_of_nonneg hb]
  refine ⟨Int.ediv_nonneg hb (by omega), ?_⟩
  have := Int.ediv_lt_of_lt_mul (a := sTu S i 0 + sTu S i ((S (8 + 12 * i)).toNat - 1) + 2 * (smF ((S (8 + 12 * i)).toNat - 1) (sTu S i) - sTu S i 0)) (b := 1000) (c := 2 * (((S (8 + 12 * i)).toNat : Int) - 1)) (by omega) (by omega)
  omega
theorem sJ_c9 (S : Nat → Int) (j : Nat) : (sJ S j = 3 ↔ sC S j ≠ 0) ∧ (sJ S j = 0 → sC S j = 0) := by
  unfold sJ
  split
  · omega
  · split <;> omega
theorem us_us {S : Nat → Int} {p : Nat} {a b : Int} : us (us S p a) p b = us S p b := by
  funext k
  unfold us
  split <;> rfl
def bgF (S : Nat → Int) (t k : Nat) : Int := if (k : Int) < S (103 + 28 * t) then sBr S t (k + 1) else normZ (sBr S t (sLg S t) + S (105 + 28 * t) + 648000)
theorem bg_1 {S : Nat → Int} {t k : Nat} (h : (k : Int) < S (103 + 28 * t)) : bgF S t k = sBr S t (k + 1) := by unfold bgF; rw [if_pos h]
theorem bg_2 {S : Nat → Int} {t k : Nat} (h : (k : Int) = S (103 + 28 * t)) : bgF S t k = normZ (sBr S t (sLg S t) + S (105 + 28 * t) + 648000) := by unfold bgF; rw [if_neg (by omega)]
theorem gp_9 {S : Nat → Int} {t k : Nat} (h : (k : Int) = S (103 + 28 * t)) : centZ (bgF S t k - sS0 S (sLa S t)) = sG S t := by
  rw [bg_2 h]
  unfold sG centZ normZ
  omega
theorem en_1 {S : Nat → Int} {t k : Nat} {v : Int} (h : v = sEa S t k) : v + (S (107 + 28 * t + 2 * k) * sinZ (sBr S t (k + 1))).tdiv 10000 = sEa S t (k + 1) := by
  rw [h]
  unfold sEa
  rw [pF_s, Int.add_zero]
  rfl
theorem en_0 {S : Nat → Int} {t k : Nat} {v : Int} (h : v = sNo S t k) : v + (S (107 + 28 * t + 2 * k) * sinZ (sBr S t (k + 1) + 324000)).tdiv 10000 = sNo S t (k + 1) := by
  rw [h]
  unfold sNo
  rw [pF_s]
  rfl
theorem sq2 {x y : Int} (hx : -20000000 ≤ x ∧ x ≤ 20000000) (hy : -20000000 ≤ y ∧ y ≤ 20000000) : 0 ≤ x * x + y * y ∧ x * x + y * y < 10000000000000000 := by
  have m1 := mul_b (a := x) (b := x) (m := 20000000) (k := 20000000) hx hx
  have m2 := mul_b (a := y) (b := y) (m := 20000000) (k := 20000000) hy hy
  have p : ∀ q : Int, 0 ≤ q * q := fun q => by
    rcases Int.le_total 0 q with h | h
    · exact Int.mul_nonneg h h
    · exact Int.mul_nonneg_of_nonpos_of_nonpos h h
  have s1 := p x
  have s2 := p y
  omega
theorem sR_i {S : Nat → Int} {i : Nat} (ho : Oks S) (hi : (i : Int) < S 3) : inI (sR S i) := by
  have w := ho.2.2.1 i hi
  by_cases h3 : S (8 + 12 * i) < 3
  · unfold sR restF
    rw [if_pos (by omega)]
    exact ⟨by decide, by decide⟩
  · have hl := smF_lo (t := sTu S i) (m := (S (8 + 12 * i)).toNat) (fun k hk => w.2 k (by omega)) ((S (8 + 12 * i)).toNat - 2) (by omega)
    have a0 : 0 ≤ sTu S i 0 ∧ sTu S i 0 ≤ 999 := by have := w.2 0 (by omega); exact this
    have a1 : 0 ≤ sTu S i ((S (8 + 12 * i)).toNat - 1) ∧ sTu S i ((S (8 + 12 * i)).toNat - 1) ≤ 999 := w.2 _ (by omega)
    rw [show (S (8 + 12 * i)).toNat - 2 + 1 = (S (8 + 12 * i)).toNat - 1 by omega] at hl
    unfold sR restF
    rw [if_neg (by omega)]
    have := tdiv_b (sTu S i 0 + sTu S i ((S (8 + 12 * i)).toNat - 1) + 2 * (smF ((S (8 + 12 * i)).toNat - 1) (sTu S i) - sTu S i 0)) (c := 2 * (((S (8 + 12 * i)).toNat : Int) - 1)) (by omega)
    have hb := this.1 (by omega)
    exact ⟨by omega, by omega⟩
theorem rInfo_i {S : Nat → Int} {w : Int} (ho : Oks S) (hw : 0 ≤ w ∧ w ≤ 7) : inI (rInfo S w) := by
  have o0 := ho.1
  have o3 := ho.2.1
  have a := smF_b (m := (S 5).toNat) (M := 12) (t := fun k => S (103 + 28 * k)) (fun k hk => (ho.2.2.2.2 k (by omega)).1.2.1) _ (Nat.le_refl _)
  have b := smF_b (m := (S 3).toNat) (M := 9) (t := fun k => S (8 + 12 * k)) (fun k hk => (ho.2.2.1 k (by omega)).1.2.2) _ (Nat.le_refl _)
  have c : inI (S w.toNat) ∨ 3 ≤ w := by
    rcases (show w = 0 ∨ w = 1 ∨ w = 2 ∨ 3 ≤ w by omega) with e | e | e | e
    · subst e; exact Or.inl ⟨by show _ ≤ S 0; omega, by show S 0 ≤ _; omega⟩
    · subst e; exact Or.inl ⟨by show _ ≤ S 1; omega, by show S 1 ≤ _; omega⟩
    · subst e; exact Or.inl ⟨by show _ ≤ S 2; omega, by show S 2 ≤ _; omega⟩
    · exact Or.inr e
  unfold rInfo
  (repeat' split) <;> first | exact ⟨by omega, by omega⟩ | exact c.elim id (fun h => by omega)
theorem rWire_i {S : Nat → Int} {i : Nat} {a : Int} (ho : Oks S) (hi : (i : Int) < S 3) : inI (rWire S i a) := by
  have w := (ho.2.2.1 i hi).1
  have r := sR_i ho hi
  have d := sD_b ho hi
  have t := sT_v S i
  unfold rWire
  (repeat' split) <;> first | exact r | exact ⟨by omega, by omega⟩
theorem rJoinOf_i {S : Nat → Int} {i : Nat} {a : Int} (ho : Oks S) (hi : (i : Int) < S 4) : inI (rJoinOf S i a) := by
  have w := ho.2.2.2.1 i hi
  have o3 := ho.2.1
  have t := sJ_v S i
  have s := sS0_b S i
  unfold rJoinOf
  (repeat' split) <;> exact ⟨by omega, by omega⟩
theorem rTrav_i {S : Nat → Int} {t : Nat} {a : Int} (ho : Oks S) (hi : (t : Int) < S 5) : inI (rTrav S t a) := by
  have w := okT ho hi
  have o3 := ho.2.1
  have v := sTT_v S t
  have s := smF_b (m := sLg S t) (M := 200000) (t := sLe S t) (fun k hk => by have h9 := (w.2.2 k (by unfold sLg at hk; omega)).2; unfold sLe; omega) _ (Nat.le_refl _)
  have l9 : sLg S t ≤ 12 := by unfold sLg; omega
  have g := sG_b S t
  unfold rTrav
  by_cases h : whl S t
  · have m := sME_c ho hi h.1
    have q := sq2 (x := sME S t) (y := sMN S t) (by omega) (by omega)
    have r1 := (rootZ_s q.1).1
    have r2 := rootZ_le (m := 100000000) q.1 (by decide) (by omega)
    rw [if_pos h]
    (repeat' split) <;> exact ⟨by omega, by omega⟩
  · rw [if_neg h]
    (repeat' split) <;> exact ⟨by omega, by omega⟩
theorem rLeg_i {S : Nat → Int} {t k : Nat} {a : Int} (ho : Oks S) (hi : (t : Int) < S 5) (hk : (k : Int) < S (103 + 28 * t)) : inI (rLeg S t k a) := by
  have w := (okT ho hi).2.2 k hk
  have b := sBr_b S t k
  have e := sEa_b ho hi (k + 1) (by omega)
  unfold rLeg sAn sLe
  (repeat' split) <;> exact ⟨by omega, by omega⟩
theorem rTrb_i (S : Nat → Int) (t : Nat) (v : Int) : inI (rTrb S t v) := by
  have a := sTT_v S t
  have b := sJ_v S (sFi S t)
  have c := sJ_v S (sLa S t)
  have d := sC_v S (sFi S t)
  have e := sC_v S (sLa S t)
  unfold rTrb jlS
  (repeat' split) <;> exact ⟨by omega, by omega⟩
def cR (q : Nat) : Nat := if q < 6 then 231 else if q < 78 then (if (q - 6) % 12 < 2 then 232 else if (q - 6) % 12 = 2 then 233 else 234) else if q < 102 then 235 else if (q - 102) % 28 < 4 then 236 else if (q - 102) % 2 = 0 then 237 else 238
def cC (q : Nat) : Nat := if q < 6 then q else if q < 78 then (if (q - 6) % 12 < 2 then 2 * ((q - 6) / 12) + (q - 6) % 12 else if (q - 6) % 12 = 2 then (q - 6) / 12 else 9 * ((q - 6) / 12) + ((q - 6) % 12 - 3)) else if q < 102 then q - 78 else if (q - 102) % 28 < 4 then 4 * ((q - 102) / 28) + (q - 102) % 28 else 12 * ((q - 102) / 28) + ((q - 102) % 28 - 4) / 2
/-- the row that the law's eight arrays tell -/
def rowL (I : GI) : Nat → Int := fun q => if q < 214 then I (cR q) (cC q) else 0
theorem row_at {I : GI} {q r j : Nat} (h : q < 214) (h1 : cR q = r) (h2 : cC q = j) : I r j = rowL I q := by
  unfold rowL
  rw [if_pos h, h1, h2]
theorem row_up {I : GI} {r j a : Nat} {x : Int} (ha : a < 214) (h : ∀ q, q < 214 → (cR q = r ∧ cC q = j ↔ q = a)) : rowL (up I r j x) = us (rowL I) a x := by
  funext q
  unfold us
  by_cases e : q = a
  · subst e
    have h1 := (h q ha).mpr rfl
    unfold rowL
    rw [if_pos ha, if_pos rfl, h1.1, h1.2, up_eq]
  · rw [if_neg e]
    unfold rowL
    by_cases hq : q < 214
    · rw [if_pos hq, if_pos hq, up_nn (fun hh => e ((h q hq).mp hh))]
    · rw [if_neg hq, if_neg hq]
theorem row_fr {I K : GI} (h : ∀ q f, 228 ≤ q → K q f = I q f) : rowL K = rowL I := by
  funext q
  unfold rowL
  split
  · refine h _ _ ?_
    unfold cR
    (repeat' split) <;> omega
  · rfl
theorem lr_g {I : GI} {k : Nat} (h : k < 6) : I 231 k = rowL I k := row_at (by omega) (by unfold cR; (repeat' split) <;> omega) (by unfold cC; (repeat' split) <;> omega)
theorem lu_g {I : GI} {x : Int} {k : Nat} (h : k < 6) : rowL (up I 231 k x) = us (rowL I) k x := row_up (by omega) (fun q hq => by unfold cR cC; constructor <;> intro h <;> ((repeat' split) <;> (repeat' split at h) <;> omega))
theorem lr_x {I : GI} {i : Nat} (h : i < 6) : I 232 (2 * i) = rowL I (6 + 12 * i) := row_at (by omega) (by unfold cR; (repeat' split) <;> omega) (by unfold cC; (repeat' split) <;> omega)
theorem lu_x {I : GI} {x : Int} {i : Nat} (h : i < 6) : rowL (up I 232 (2 * i) x) = us (rowL I) (6 + 12 * i) x := row_up (by omega) (fun q hq => by unfold cR cC; constructor <;> intro h <;> ((repeat' split) <;> (repeat' split at h) <;> omega))
theorem lr_y {I : GI} {i : Nat} (h : i < 6) : I 232 (2 * i + 1) = rowL I (7 + 12 * i) := row_at (by omega) (by unfold cR; (repeat' split) <;> omega) (by unfold cC; (repeat' split) <;> omega)
theorem lu_y {I : GI} {x : Int} {i : Nat} (h : i < 6) : rowL (up I 232 (2 * i + 1) x) = us (rowL I) (7 + 12 * i) x := row_up (by omega) (fun q hq => by unfold cR cC; constructor <;> intro h <;> ((repeat' split) <;> (repeat' split at h) <;> omega))
theorem lr_m {I : GI} {i : Nat} (h : i < 6) : I 233 i = rowL I (8 + 12 * i) := row_at (by omega) (by unfold cR; (repeat' split) <;> omega) (by unfold cC; (repeat' split) <;> omega)
theorem lu_m {I : GI} {x : Int} {i : Nat} (h : i < 6) : rowL (up I 233 i x) = us (rowL I) (8 + 12 * i) x := row_up (by omega) (fun q hq => by unfold cR cC; constructor <;> intro h <;> ((repeat' split) <;> (repeat' split at h) <;> omega))
theorem lr_r {I : GI} {i k : Nat} (h : i < 6) (h2 : k < 9) : I 234 (9 * i + k) = rowL I (9 + 12 * i + k) := row_at (by omega) (by unfold cR; (repeat' split) <;> omega) (by unfold cC; (repeat' split) <;> omega)
theorem lu_r {I : GI} {x : Int} {i k : Nat} (h : i < 6) (h2 : k < 9) : rowL (up I 234 (9 * i + k) x) = us (rowL I) (9 + 12 * i + k) x := row_up (by omega) (fun q hq => by unfold cR cC; constructor <;> intro h <;> ((repeat' split) <;> (repeat' split at h) <;> omega))
theorem lr_j0 {I : GI} {i : Nat} (h : i < 4) : I 235 (6 * i) = rowL I (78 + 6 * i) := row_at (by omega) (by unfold cR; (repeat' split) <;> omega) (by unfold cC; (repeat' split) <;> omega)
theorem lu_j0 {I : GI} {x : Int} {i : Nat} (h : i < 4) : rowL (up I 235 (6 * i) x) = us (rowL I) (78 + 6 * i) x := row_up (by omega) (fun q hq => by unfold cR cC; constructor <;> intro h <;> ((repeat' split) <;> (repeat' split at h) <;> omega))
theorem lr_j1 {I : GI} {i : Nat} (h : i < 4) : I 235 (6 * i + 1) = rowL I (79 + 6 * i) := row_at (by omega) (by unfold cR; (repeat' split) <;> omega) (by unfold cC; (repeat' split) <;> omega)
theorem lu_j1 {I : GI} {x : Int} {i : Nat} (h : i < 4) : rowL (up I 235 (6 * i + 1) x) = us (rowL I) (79 + 6 * i) x := row_up (by omega) (fun q hq => by unfold cR cC; constructor <;> intro h <;> ((repeat' split) <;> (repeat' split at h) <;> omega))
theorem lr_j2 {I : GI} {i : Nat} (h : i < 4) : I 235 (6 * i + 2) = rowL I (80 + 6 * i) := row_at (by omega) (by unfold cR; (repeat' split) <;> omega) (by unfold cC; (repeat' split) <;> omega)
theorem lu_j2 {I : GI} {x : Int} {i : Nat} (h : i < 4) : rowL (up I 235 (6 * i + 2) x) = us (rowL I) (80 + 6 * i) x := row_up (by omega) (fun q hq => by unfold cR cC; constructor <;> intro h <;> ((repeat' split) <;> (repeat' split at h) <;> omega))
theorem lr_j3 {I : GI} {i : Nat} (h : i < 4) : I 235 (6 * i + 3) = rowL I (81 + 6 * i) := row_at (by omega) (by unfold cR; (repeat' split) <;> omega) (by unfold cC; (repeat' split) <;> omega)
theorem lu_j3 {I : GI} {x : Int} {i : Nat} (h : i < 4) : rowL (up I 235 (6 * i + 3) x) = us (rowL I) (81 + 6 * i) x := row_up (by omega) (fun q hq => by unfold cR cC; constructor <;> intro h <;> ((repeat' split) <;> (repeat' split at h) <;> omega))
theorem lr_j4 {I : GI} {i : Nat} (h : i < 4) : I 235 (6 * i + 4) = rowL I (82 + 6 * i) := row_at (by omega) (by unfold cR; (repeat' split) <;> omega) (by unfold cC; (repeat' split) <;> omega)
theorem lu_j4 {I : GI} {x : Int} {i : Nat} (h : i < 4) : rowL (up I 235 (6 * i + 4) x) = us (rowL I) (82 + 6 * i) x := row_up (by omega) (fun q hq => by unfold cR cC; constructor <;> intro h <;> ((repeat' split) <;> (repeat' split at h) <;> omega))
theorem lr_j5 {I : GI} {i : Nat} (h : i < 4) : I 235 (6 * i + 5) = rowL I (83 + 6 * i) := row_at (by omega) (by unfold cR; (repeat' split) <;> omega) (by unfold cC; (repeat' split) <;> omega)
theorem lu_j5 {I : GI} {x : Int} {i : Nat} (h : i < 4) : rowL (up I 235 (6 * i + 5) x) = us (rowL I) (83 + 6 * i) x := row_up (by omega) (fun q hq => by unfold cR cC; constructor <;> intro h <;> ((repeat' split) <;> (repeat' split at h) <;> omega))
theorem lr_ji {I : GI} {i k : Nat} (h : i < 4) (h2 : k < 6) : I 235 (6 * i + k) = rowL I (78 + 6 * i + k) := row_at (by omega) (by unfold cR; (repeat' split) <;> omega) (by unfold cC; (repeat' split) <;> omega)
theorem lu_ji {I : GI} {x : Int} {i k : Nat} (h : i < 4) (h2 : k < 6) : rowL (up I 235 (6 * i + k) x) = us (rowL I) (78 + 6 * i + k) x := row_up (by omega) (fun q hq => by unfold cR cC; constructor <;> intro h <;> ((repeat' split) <;> (repeat' split at h) <;> omega))
theorem lr_h0 {I : GI} {t : Nat} (h : t < 4) : I 236 (4 * t) = rowL I (102 + 28 * t) := row_at (by omega) (by unfold cR; (repeat' split) <;> omega) (by unfold cC; (repeat' split) <;> omega)
theorem lu_h0 {I : GI} {x : Int} {t : Nat} (h : t < 4) : rowL (up I 236 (4 * t) x) = us (rowL I) (102 + 28 * t) x := row_up (by omega) (fun q hq => by unfold cR cC; constructor <;> intro h <;> ((repeat' split) <;> (repeat' split at h) <;> omega))
theorem lr_h1 {I : GI} {t : Nat} (h : t < 4) : I 236 (4 * t + 1) = rowL I (103 + 28 * t) := row_at (by omega) (by unfold cR; (repeat' split) <;> omega) (by unfold cC; (repeat' split) <;> omega)
theorem lu_h1 {I : GI} {x : Int} {t : Nat} (h : t < 4) : rowL (up I 236 (4 * t + 1) x) = us (rowL I) (103 + 28 * t) x := row_up (by omega) (fun q hq => by unfold cR cC; constructor <;> intro h <;> ((repeat' split) <;> (repeat' split at h) <;> omega))
theorem lr_h2 {I : GI} {t : Nat} (h : t < 4) : I 236 (4 * t + 2) = rowL I (104 + 28 * t) := row_at (by omega) (by unfold cR; (repeat' split) <;> omega) (by unfold cC; (repeat' split) <;> omega)
theorem lu_h2 {I : GI} {x : Int} {t : Nat} (h : t < 4) : rowL (up I 236 (4 * t + 2) x) = us (rowL I) (104 + 28 * t) x := row_up (by omega) (fun q hq => by unfold cR cC; constructor <;> intro h <;> ((repeat' split) <;> (repeat' split at h) <;> omega))
theorem lr_h3 {I : GI} {t : Nat} (h : t < 4) : I 236 (4 * t + 3) = rowL I (105 + 28 * t) := row_at (by omega) (by unfold cR; (repeat' split) <;> omega) (by unfold cC; (repeat' split) <;> omega)
theorem lu_h3 {I : GI} {x : Int} {t : Nat} (h : t < 4) : rowL (up I 236 (4 * t + 3) x) = us (rowL I) (105 + 28 * t) x := row_up (by omega) (fun q hq => by unfold cR cC; constructor <;> intro h <;> ((repeat' split) <;> (repeat' split at h) <;> omega))
theorem lr_a {I : GI} {t k : Nat} (h : t < 4) (h2 : k < 12) : I 237 (12 * t + k) = rowL I (106 + 28 * t + 2 * k) := row_at (by omega) (by unfold cR; (repeat' split) <;> omega) (by unfold cC; (repeat' split) <;> omega)
theorem lu_a {I : GI} {x : Int} {t k : Nat} (h : t < 4) (h2 : k < 12) : rowL (up I 237 (12 * t + k) x) = us (rowL I) (106 + 28 * t + 2 * k) x := row_up (by omega) (fun q hq => by unfold cR cC; constructor <;> intro h <;> ((repeat' split) <;> (repeat' split at h) <;> omega))
theorem lr_b {I : GI} {t k : Nat} (h : t < 4) (h2 : k < 12) : I 238 (12 * t + k) = rowL I (107 + 28 * t + 2 * k) := row_at (by omega) (by unfold cR; (repeat' split) <;> omega) (by unfold cC; (repeat' split) <;> omega)
theorem lu_b {I : GI} {x : Int} {t k : Nat} (h : t < 4) (h2 : k < 12) : rowL (up I 238 (12 * t + k) x) = us (rowL I) (107 + 28 * t + 2 * k) x := row_up (by omega) (fun q hq => by unfold cR cC; constructor <;> intro h <;> ((repeat' split) <;> (repeat' split at h) <;> omega))
