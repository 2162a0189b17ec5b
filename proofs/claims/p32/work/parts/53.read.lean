abbrev nIA : String := "java/lang/IllegalArgumentException"
abbrev nIS : String := "java/lang/IllegalStateException"
abbrev nIX : String := "java/lang/IndexOutOfBoundsException"
def xcQ (k : Int) (n1 n2 n3 : String) (I J : GI) : String → Nat → GI → GI → Prop := fun E _ I' J' => ((k = 1 ∧ E = n1) ∨ (k = 2 ∧ E = n2) ∨ (k = 3 ∧ E = n3)) ∧ I' = I ∧ J' = J
def rdQ (k r : Int) (I J : GI) : Option GV → Nat → GI → GI → Prop := fun v _ I' J' => (k = 0 ∧ v = some (vI r)) ∧ I' = I ∧ J' = J
def mtQ (k r : Int) (I J : GI) (S' : Nat → Int) (D' : Nat → Nat → Int) (c' : Nat) : Option GV → Nat → GI → GI → Prop := fun v _ I' J' => (k = 0 ∧ v = some (vI r)) ∧ (CI I' S' D' c' ∧ frC I I') ∧ J' = J
def kSet (w v : Int) : Int := if (w = 0 ∧ 0 ≤ v ∧ v ≤ 999) ∨ (w = 1 ∧ 1 ≤ v ∧ v ≤ 600) ∨ (w = 2 ∧ 0 ≤ v ∧ v ≤ 999999) then 0 else 1
def kInfo (w : Int) : Int := if 0 ≤ w ∧ w ≤ 7 then 0 else 1
def kHang (S : Nat → Int) (e n : Int) : Int := if ¬ ((-1000000 ≤ e ∧ e ≤ 1000000) ∧ -1000000 ≤ n ∧ n ≤ 1000000) then 1 else if S 3 = 6 then 2 else 0
def kStill (S : Nat → Int) (w : Int) : Int := if ¬ (0 ≤ w ∧ w < S 3) then 1 else 0
def kWire (S : Nat → Int) (w a : Int) : Int := if ¬ (0 ≤ w ∧ w < S 3) then 1 else if ¬ (0 ≤ a ∧ a ≤ 5) then 2 else 0
def kJoin (S : Nat → Int) (n f b q a g : Int) : Int := if ¬ ((0 ≤ n ∧ n < S 3) ∧ 0 ≤ f ∧ f < S 3) then 1 else if ¬ (n ≠ f ∧ (0 ≤ b ∧ b ≤ 1295999) ∧ (100 ≤ q ∧ q ≤ 20000) ∧ (100 ≤ a ∧ a ≤ 50000) ∧ -3600 ≤ g ∧ g ≤ 3600) then 2 else if S 4 = 4 then 3 else 0
def kMeas (S : Nat → Int) (j g : Int) : Int := if ¬ (0 ≤ j ∧ j < S 4) then 1 else if ¬ (-3600 ≤ g ∧ g ≤ 3600) then 2 else 0
def kJoinOf (S : Nat → Int) (j a : Int) : Int := if ¬ (0 ≤ j ∧ j < S 4) then 1 else if ¬ (0 ≤ a ∧ a ≤ 7) then 2 else 0
def kBegin (S : Nat → Int) (j : Int) : Int := if ¬ (0 ≤ j ∧ j < S 4) then 1 else if S 5 = 4 then 2 else 0
def kDrop (S : Nat → Int) (t : Int) : Int := if ¬ (0 ≤ t ∧ t < S 5) then 1 else if S (103 + 28 * t.toNat) = 0 then 2 else 0
def kClose (S : Nat → Int) (t j a : Int) : Int := if ¬ ((0 ≤ t ∧ t < S 5) ∧ 0 ≤ j ∧ j < S 4) then 1 else if j = S (102 + 28 * t.toNat) ∨ ¬ (0 ≤ a ∧ a ≤ 1295999) then 2 else if S (103 + 28 * t.toNat) = 0 then 3 else 0
def kAdj (S : Nat → Int) (t : Int) : Int := if ¬ (0 ≤ t ∧ t < S 5) then 1 else if S (104 + 28 * t.toNat) < 0 ∨ sTT S t.toNat ≠ 0 then 2 else 0
def kTrav (S : Nat → Int) (t a : Int) : Int := if ¬ (0 ≤ t ∧ t < S 5) then 1 else if ¬ (0 ≤ a ∧ a ≤ 9) then 2 else 0
def kLeg (S : Nat → Int) (t q a : Int) : Int := if ¬ ((0 ≤ t ∧ t < S 5) ∧ 0 ≤ q ∧ q < S (103 + 28 * t.toNat)) then 1 else if ¬ (0 ≤ a ∧ a ≤ 4) then 2 else 0
def kTrb (S : Nat → Int) (t : Int) : Int := if ¬ (0 ≤ t ∧ t < S 5) then 1 else 0
def kTwo (S : Nat → Int) (t u : Int) : Int := if ¬ ((0 ≤ t ∧ t < S 5) ∧ 0 ≤ u ∧ u < S 5) then 1 else 0
def kSine (a : Int) : Int := if ¬ (-10000000 ≤ a ∧ a ≤ 10000000) then 1 else 0
def kFor (S : Nat → Int) (t j y : Int) : Int := if ¬ ((0 ≤ t ∧ t < S 5) ∧ 0 ≤ j ∧ j < S 4) then 1 else if ¬ (0 ≤ y ∧ y ≤ 3600) then 2 else 0
def kBy (S : Nat → Int) (t u a y : Int) : Int := if ¬ ((0 ≤ t ∧ t < S 5) ∧ 0 ≤ u ∧ u < S 5) then 1 else if ¬ ((0 ≤ a ∧ a ≤ 1295999) ∧ 1 ≤ y ∧ y ≤ 2000) then 2 else 0
def kType (n x : Int) : Int := if ¬ (32 ≤ x ∧ x ≤ 126) then 1 else if n = 90 then 2 else 0
def rInfo (S : Nat → Int) (w : Int) : Int := if w = 3 then S 3 else if w = 4 then S 4 else if w = 5 then S 5 else if w = 6 then smF (S 5).toNat (fun k => S (103 + 28 * k)) else if w = 7 then smF (S 3).toNat (fun k => S (8 + 12 * k)) else S w.toNat
def rWire (S : Nat → Int) (i : Nat) (a : Int) : Int := if a = 0 then S (6 + 12 * i) else if a = 1 then S (7 + 12 * i) else if a = 2 then S (8 + 12 * i) else if a = 3 then sR S i else if a = 4 then sT S i else sD S i
def rJoinOf (S : Nat → Int) (j : Nat) (a : Int) : Int := if a = 0 then S (78 + 6 * j) else if a = 1 then S (79 + 6 * j) else if a = 2 then S (80 + 6 * j) else if a = 3 then S (81 + 6 * j) else if a = 4 then S (82 + 6 * j) else if a = 5 then S (83 + 6 * j) else if a = 6 then sJ S j else if sJ S j ≠ 0 then -2000000000 else sS0 S j
abbrev whl (S : Nat → Int) (t : Nat) : Prop := 0 ≤ S (104 + 28 * t) ∧ (sTT S t = 0 ∨ sTT S t = 8)
def rTrav (S : Nat → Int) (t : Nat) (a : Int) : Int := if a = 0 then S (102 + 28 * t) else if a = 1 then S (103 + 28 * t) else if a = 2 then (if 0 ≤ S (104 + 28 * t) then S (104 + 28 * t) else -2000000000) else if a = 3 then (if 0 ≤ S (104 + 28 * t) then S (105 + 28 * t) else -2000000000) else if a = 4 then sTT S t else if a = 6 then smF (sLg S t) (sLe S t) else if whl S t then (if a = 5 then sG S t else if a = 7 then sME S t else if a = 8 then sMN S t else rootZ (sME S t * sME S t + sMN S t * sMN S t)) else -2000000000
def rLeg (S : Nat → Int) (t k : Nat) (a : Int) : Int := if a = 0 then sAn S t k else if a = 1 then sLe S t k else if sTT S t ≠ 5 ∧ sTT S t ≠ 6 then (if a = 2 then sBr S t (k + 1) else if a = 3 then sEa S t (k + 1) else sNo S t (k + 1)) else -2000000000
def jlS (S : Nat → Int) (v : Int) (j : Nat) : Int := if v = 1 then sJ S j else if v = 2 ∧ sC S j ≠ 0 then sC S j else -2000000000
def rTrb (S : Nat → Int) (t : Nat) (v : Int) : Int := if v = 0 then (if sTT S t = 0 then -2000000000 else sTT S t) else if sTT S t = 6 then jlS S v (sFi S t) else if sTT S t = 7 then jlS S v (sLa S t) else -2000000000
abbrev hE9 (S : Nat → Int) (t : Nat) : Prop := sTT S t ≠ 5 ∧ sTT S t ≠ 6
def rApart (S : Nat → Int) (t u : Nat) : Int := if hE9 S t ∧ hE9 S u then rootZ ((sEa S t (sLg S t) - sEa S u (sLg S u)) * (sEa S t (sLg S t) - sEa S u (sLg S u)) + (sNo S t (sLg S t) - sNo S u (sLg S u)) * (sNo S t (sLg S t) - sNo S u (sLg S u))) else -2000000000
def suS (S : Nat → Int) (t k : Nat) : Int := ((sME S t * sinZ (sBr S t (k + 1) + 324000) - sMN S t * sinZ (sBr S t (k + 1))).natAbs : Int)
def rSus (S : Nat → Int) (t : Nat) : Int := if whl S t then (agK (fun k => (k : Int)) (suS S t) (sLg S t)).1 else -2000000000
def aS (S : Nat → Int) (t : Nat) (j : Nat) (y g : Int) : Bool := decide (((centZ (sG S t + sgF (j : Int) (S (102 + 28 * t)) (S (104 + 28 * t)) * (sSt S j g - sS0 S j))).natAbs : Int) ≤ y)
def rFor (S : Nat → Int) (t j : Nat) (y : Int) : Int := if whl S t then fsF (aS S t j y) 7201 else -2000000000
def lbS (S : Nat → Int) (t : Nat) (x : Int) : Int := sBr S t (sLg S t) + x + 648000
def lvS (S : Nat → Int) (t u : Nat) (x : Int) (k : Nat) : Int := rootZ (exF (sEa S t (sLg S t)) (sEa S u (sLg S u)) (sinZ (lbS S t x)) k * exF (sEa S t (sLg S t)) (sEa S u (sLg S u)) (sinZ (lbS S t x)) k + exF (sNo S t (sLg S t)) (sNo S u (sLg S u)) (sinZ (lbS S t x + 324000)) k * exF (sNo S t (sLg S t)) (sNo S u (sLg S u)) (sinZ (lbS S t x + 324000)) k)
def rBy (S : Nat → Int) (t u : Nat) (x y : Int) : Int := if hE9 S t ∧ hE9 S u then (agK (fun k => 1000 * ((k : Int) + 1)) (lvS S t u x) y.toNat).1 else -2000000000
theorem agK_c9 {key v v' : Nat → Int} : ∀ n : Nat, (∀ k, k < n → v k = v' k) → agK key v n = agK key v' n := by
  intro n
  induction n with
  | zero => intro _; rfl
  | succ n ih => intro h; rw [agK, agK, ih (fun k hk => h k (by omega)), h n (by omega)]
theorem fsF_c {P P' : Int → Bool} : ∀ n : Nat, (∀ g : Int, P g = P' g) → fsF P n = fsF P' n := by
  intro n h
  rw [show P = P' from funext h]
theorem sEa_b {S : Nat → Int} {t : Nat} (ho : Oks S) (h : (t : Int) < S 5) (k : Nat) (hk : (k : Int) ≤ S (103 + 28 * t)) : (-3400000 ≤ sEa S t k ∧ sEa S t k ≤ 3400000) ∧ (-3400000 ≤ sNo S t k ∧ sNo S t k ≤ 3400000) := by
  have o5 := ho.2.2.2.2 t h
  have fb := first_b ho h
  have nb := (near_b ho fb.2.1).1
  have w := (ho.2.2.1 _ nb.2).1
  have hl : ∀ j, j < (S (103 + 28 * t)).toNat → 0 ≤ sLe S t j ∧ sLe S t j ≤ 200000 := fun j hj => by have := (o5.2.2 j (by omega)).2; unfold sLe; omega
  have a := pF_b (q := 0) (e0 := S (6 + 12 * sNear S (sFi S t))) (s0 := sS0 S (sFi S t)) (a := sAn S t) hl k (by omega)
  have b := pF_b (q := 324000) (e0 := S (7 + 12 * sNear S (sFi S t))) (s0 := sS0 S (sFi S t)) (a := sAn S t) hl k (by omega)
  unfold sEa sNo
  omega
theorem sME_b {S : Nat → Int} {t : Nat} (ho : Oks S) (h : (t : Int) < S 5) (hc : 0 ≤ S (104 + 28 * t)) : (-10000000 ≤ sME S t ∧ sME S t ≤ 10000000) ∧ (-10000000 ≤ sMN S t ∧ sMN S t ≤ 10000000) := by
  have o5 := (ho.2.2.2.2 t h).1.2.1
  have lb := last_b ho h hc
  have nb := (near_b ho lb.2.1).1
  have w := (ho.2.2.1 _ nb.2).1
  have e := sEa_b ho h (sLg S t) (by unfold sLg; omega)
  unfold sME sMN
  omega
theorem sBr_b (S : Nat → Int) (t k : Nat) : 0 ≤ sBr S t (k + 1) ∧ sBr S t (k + 1) < 1296000 := bF_b1 k
theorem whl_iff {I : GI} {S : Nat → Int} {t : Nat} (hR : Rel 1 I S) (ho : Oks S) (hj : Jdg 1 I S) (h : (t : Int) < S 5) : gpd I (tP 1 t) ↔ whl S t := by
  have c := cl_iff hR ho h
  have e := (hj.2.2 t h).1
  have v := sTT_v S t
  unfold gpd whl
  rw [e, c]
  omega
theorem sSw_b {S : Nat → Int} {j : Nat} (ho : Oks S) (h : (j : Int) < S 4) (hc : sC S j = 0) : -300000 ≤ sSw S j ∧ sSw S j ≤ 300000 := by
  have h0 := sC_0 hc
  have nb := near_b ho h
  have cc := (ho.2.2.2.1 j h).2.1
  have rb : ∀ i : Nat, (i : Int) < S 3 → sT S i = 0 → 0 ≤ sR S i ∧ sR S i ≤ 999 := fun i hi h9 => by
    have h3 := sT_n h9
    have w := ho.2.2.1 i hi
    have hl := smF_lo (t := sTu S i) (m := (S (8 + 12 * i)).toNat) (fun k hk => w.2 k (by omega)) ((S (8 + 12 * i)).toNat - 2) (by omega)
    have a0 : 0 ≤ sTu S i 0 ∧ sTu S i 0 ≤ 999 := by have := w.2 0 (by omega); exact this
    have a1 : 0 ≤ sTu S i ((S (8 + 12 * i)).toNat - 1) ∧ sTu S i ((S (8 + 12 * i)).toNat - 1) ≤ 999 := w.2 _ (by omega)
    rw [show (S (8 + 12 * i)).toNat - 2 + 1 = (S (8 + 12 * i)).toNat - 1 by omega] at hl
    unfold sR restF
    rw [if_neg (by omega)]
    have hb : (0 : Int) ≤ sTu S i 0 + sTu S i ((S (8 + 12 * i)).toNat - 1) + 2 * (smF ((S (8 + 12 * i)).toNat - 1) (sTu S i) - sTu S i 0) := by omega
    have hc : sTu S i 0 + sTu S i ((S (8 + 12 * i)).toNat - 1) + 2 * (smF ((S (8 + 12 * i)).toNat - 1) (sTu S i) - sTu S i 0) < (2 * (((S (8 + 12 * i)).toNat : Int) - 1)) * 1000 := by omega
    rw [Int.tdiv_eq_ediv_of_nonneg hb]
    refine ⟨Int.ediv_nonneg hb (by omega), ?_⟩
    have := Int.ediv_lt_of_lt_mul (a := sTu S i 0 + sTu S i ((S (8 + 12 * i)).toNat - 1) + 2 * (smF ((S (8 + 12 * i)).toNat - 1) (sTu S i) - sTu S i 0)) (b := 1000) (c := 2 * (((S (8 + 12 * i)).toNat : Int) - 1)) (by omega) (by omega)
    omega
  have r1 := rb _ nb.1.2 h0.1
  have r2 := rb _ nb.2.2 h0.2
  have := sw_b (x := sR S (sFar S j) - sR S (sNear S j)) (c := S (81 + 6 * j)) (by omega) cc.1
  unfold sSw
  omega
theorem wire_v {I : GI} {S : Nat → Int} (hR : Rel 1 I S) (hj : Jdg 1 I S) {i : Nat} (hi : (i : Int) < S 3) (a : Int) : (if a = 0 then I (1 + 5 + 2 * i) 0 else if a = 1 then I (1 + 5 + 2 * i) 1 else if a = 2 then I (1 + 5 + 2 * i) 2 else if a = 3 then I (1 + 5 + 2 * i) 3 else if a = 4 then I (1 + 5 + 2 * i) 5 else I (1 + 5 + 2 * i) 4) = rWire S i a := by
  have w := (rel_w hR hi).1
  have j := hj.1 i hi
  unfold wP at w j
  rw [w.1, w.2.1, w.2.2, j.1, j.2.1, j.2.2]
  rfl
theorem join_v {I : GI} {S : Nat → Int} (hR : Rel 1 I S) (hj : Jdg 1 I S) {i : Nat} (hi : (i : Int) < S 4) (a : Int) : (if a = 0 then I (1 + 17 + i) 0 else if a = 1 then I (1 + 17 + i) 1 else if a = 2 then I (1 + 17 + i) 8 else if a = 3 then I (1 + 17 + i) 9 else if a = 4 then I (1 + 17 + i) 10 else if a = 5 then I (1 + 17 + i) 2 else if a = 6 then I (1 + 17 + i) 6 else I (1 + 17 + i) 7) = rJoinOf S i a := by
  have w := hR.2.2.2.1 i hi
  have j := hj.2.1 i hi
  unfold jP at w j
  rw [w.1.1, w.1.2.1, w.1.2.2, w.2.1, w.2.2.1, w.2.2.2, j.2.1.2, j.2.2.2]
  rfl
theorem smF_cc {n n' : Nat} {t t' : Nat → Int} (e : n = n') (h : ∀ k, k < n → t k = t' k) : smF n t = smF n' t' := by subst e; exact smF_c n h
theorem info_v {I : GI} {S : Nat → Int} (hR : Rel 1 I S) (w : Int) (hw : 0 ≤ w ∧ w ≤ 7) : (if w = 3 then I 1 1 else if w = 4 then I 1 2 else if w = 5 then I 1 3 else if w = 6 then smF (I 1 3).toNat (fun k => I (1 + 21 + 6 * k) 2) else if w = 7 then smF (I 1 1).toNat (fun k => I (1 + 5 + 2 * k) 2) else I (1 + 1) w.toNat) = rInfo S w := by
  have c := hR.2.1
  unfold rInfo
  rw [c.1, c.2.1, c.2.2]
  rw [smF_cc (n := (S 5).toNat) (t := fun k => I (1 + 21 + 6 * k) 2) (t' := fun k => S (103 + 28 * k)) rfl (fun k hk => (rel_tr hR (t := k) (by omega)).1.2), smF_cc (n := (S 3).toNat) (t := fun k => I (1 + 5 + 2 * k) 2) (t' := fun k => S (8 + 12 * k)) rfl (fun k hk => (rel_w hR (i := k) (by omega)).1.2.2)]
  rcases (show w = 0 ∨ w = 1 ∨ w = 2 ∨ 3 ≤ w by omega) with e | e | e | e
  · subst e; exact hR.1 0 (by decide)
  · subst e; exact hR.1 1 (by decide)
  · subst e; exact hR.1 2 (by decide)
  · rcases (show w = 3 ∨ w = 4 ∨ w = 5 ∨ w = 6 ∨ w = 7 by omega) with e | e | e | e | e <;> subst e <;> rfl
theorem trav_v {I : GI} {S : Nat → Int} (hR : Rel 1 I S) (ho : Oks S) (hj : Jdg 1 I S) {t : Nat} (ht9 : (t : Int) < S 5) (w : Int) : (if w = 0 then I (1 + 21 + 6 * t) 0 else if w = 1 then I (1 + 21 + 6 * t) 2 else if w = 2 then I (1 + 21 + 6 * t) 1 else if w = 3 then I (1 + 21 + 6 * t) 4 else if w = 4 then I (1 + 21 + 6 * t) 3 else if w = 6 then smF (I (1 + 21 + 6 * t) 2).toNat (I (1 + 21 + 6 * t + 2)) else if I (1 + 21 + 6 * t) 1 ≠ -2000000000 ∧ (I (1 + 21 + 6 * t) 3 ≠ 5 ∧ I (1 + 21 + 6 * t) 3 ≠ 6) ∧ I (1 + 21 + 6 * t) 3 ≠ 7 then (if w = 5 then I (1 + 21 + 6 * t) 5 else if w = 7 then I (1 + 21 + 6 * t) 8 else if w = 8 then I (1 + 21 + 6 * t) 9 else rootZ (I (1 + 21 + 6 * t) 8 * I (1 + 21 + 6 * t) 8 + I (1 + 21 + 6 * t) 9 * I (1 + 21 + 6 * t) 9)) else -2000000000) = rTrav S t w := by
  have hg := whl_iff hR ho hj ht9
  have tr := rel_tr hR ht9
  have j := hj.2.2 t ht9
  have o9 := (ho.2.2.2.2 t ht9).1.2.1
  unfold gpd at hg
  unfold tP at hg tr j
  unfold rTrav
  rw [smF_cc (n := (I (1 + 21 + 6 * t) 2).toNat) (n' := sLg S t) (t := I (1 + 21 + 6 * t + 2)) (t' := sLe S t) (by rw [tr.1.2]) (fun k hk => (tr.2.2 k (by rw [tr.1.2] at hk; omega)).2), tr.1.1, tr.1.2, j.1]
  rw [j.1] at hg
  have e1 : I (1 + 21 + 6 * t) 1 = if 0 ≤ S (104 + 28 * t) then S (104 + 28 * t) else -2000000000 := by
    split
    · exact (tr.2.1.1 (by assumption)).1
    · exact (tr.2.1.2 (by omega)).1
  have e4 : I (1 + 21 + 6 * t) 4 = if 0 ≤ S (104 + 28 * t) then S (105 + 28 * t) else -2000000000 := by
    split
    · exact (tr.2.1.1 (by assumption)).2
    · exact (tr.2.1.2 (by omega)).2
  by_cases hw : whl S t
  · rw [if_pos hw, if_pos (hg.mpr hw), e1, e4, (j.2.2 hw).1, (j.2.2 hw).2.1, (j.2.2 hw).2.2]
  · rw [if_neg hw, if_neg (fun q => hw (hg.mp q)), e1, e4]
theorem leg_v {I : GI} {S : Nat → Int} (hR : Rel 1 I S) (hj : Jdg 1 I S) {t k : Nat} (ht9 : (t : Int) < S 5) (hk : (k : Int) < S (103 + 28 * t)) (w : Int) : (if w = 0 then I (1 + 21 + 6 * t + 1) k else if w = 1 then I (1 + 21 + 6 * t + 2) k else if I (1 + 21 + 6 * t) 3 ≠ 5 ∧ I (1 + 21 + 6 * t) 3 ≠ 6 then (if w = 2 then I (1 + 21 + 6 * t + 3) k else if w = 3 then I (1 + 21 + 6 * t + 4) k else I (1 + 21 + 6 * t + 5) k) else -2000000000) = rLeg S t k w := by
  have tr := (rel_tr hR ht9).2.2 k hk
  have j := hj.2.2 t ht9
  unfold tP at tr j
  unfold rLeg
  rw [j.1, tr.1, tr.2]
  by_cases he : sTT S t ≠ 5 ∧ sTT S t ≠ 6
  · have h := (j.2.1 he).2 k hk
    rw [if_pos he, if_pos he, h.1, h.2.1, h.2.2]
    rfl
  · rw [if_neg he, if_neg he]
    rfl
theorem sTT_67 {S : Nat → Int} {t : Nat} : (sTT S t = 6 → sJ S (sFi S t) ≠ 0) ∧ (sTT S t = 7 → 0 ≤ S (104 + 28 * t) ∧ sJ S (sLa S t) ≠ 0) ∧ ((sTT S t = 0 ∨ sTT S t = 7 ∨ sTT S t = 8) → S (103 + 28 * t) ≠ 0 ∧ sJ S (sFi S t) = 0) ∧ ((sTT S t = 8 ∨ (0 ≤ S (104 + 28 * t) ∧ sTT S t = 0)) → 0 ≤ S (104 + 28 * t) ∧ sJ S (sLa S t) = 0) := by
  unfold sTT
  by_cases a : S (103 + 28 * t) = 0
  · rw [if_pos a]; omega
  · rw [if_neg a]
    by_cases b : sJ S (sFi S t) ≠ 0
    · rw [if_pos b]; omega
    · rw [if_neg b]
      by_cases d : S (104 + 28 * t) < 0
      · rw [if_pos d]; omega
      · rw [if_neg d]
        by_cases e : sJ S (sLa S t) ≠ 0
        · rw [if_pos e]; omega
        · rw [if_neg e]
          split <;> omega
theorem trb_v {I : GI} {S : Nat → Int} (hR : Rel 1 I S) (ho : Oks S) (hj : Jdg 1 I S) {t : Nat} (ht9 : (t : Int) < S 5) (v : Int) : trbF I 1 (1 + 21 + 6 * t) v = rTrb S t v := by
  have tr := rel_tr hR ht9
  have j := hj.2.2 t ht9
  have fb := first_b ho ht9
  have h67 := sTT_67 (S := S) (t := t)
  have c2 := hR.2.1.2.1
  unfold tP at tr j
  unfold trbF rTrb
  rw [j.1, tr.1.1, c2]
  have hl : ∀ q : Nat, (q : Int) < S 4 → jlF I v (1 + 17 + q) = jlS S v q := fun q hq => by
    have a := hj.2.1 q hq
    unfold jP at a
    unfold jlF jlS
    rw [a.2.1.1, a.2.1.2]
  by_cases v0 : v = 0
  · rw [if_pos v0, if_pos v0]
  · rw [if_neg v0, if_neg v0]
    by_cases e6 : sTT S t = 6
    · rw [if_pos e6, if_pos e6, if_pos (by omega)]
      exact hl (sFi S t) fb.2.1
    · rw [if_neg e6, if_neg e6]
      by_cases e7 : sTT S t = 7
      · have cl := (h67.2.1 e7).1
        have lb := last_b ho ht9 cl
        rw [if_pos e7, if_pos e7, (tr.2.1.1 cl).1, if_pos (by omega)]
        exact hl (sLa S t) lb.2.1
      · rw [if_neg e7, if_neg e7]
theorem end_v {I : GI} {S : Nat → Int} (hj : Jdg 1 I S) {t : Nat} (ht9 : (t : Int) < S 5) (h : hE9 S t) : I (1 + 21 + 6 * t) 6 = sEa S t (sLg S t) ∧ I (1 + 21 + 6 * t) 7 = sNo S t (sLg S t) := by
  have j := ((hj.2.2 t ht9).2.1 h).1
  unfold tP at j
  exact j
theorem endd_v {I : GI} {S : Nat → Int} (ho : Oks S) (hj : Jdg 1 I S) {t : Nat} (ht9 : (t : Int) < S 5) : (I (1 + 21 + 6 * t) 3 ≠ 5 ∧ I (1 + 21 + 6 * t) 3 ≠ 6) → endd I (1 + 21 + 6 * t) := by
  have j := (hj.2.2 t ht9).1
  unfold tP at j
  rw [j]
  intro h
  have e := end_v hj ht9 h
  have o9 := (ho.2.2.2.2 t ht9).1.2.1
  have b := sEa_b ho ht9 (sLg S t) (by unfold sLg; omega)
  unfold endd
  rw [e.1, e.2]
  exact b
theorem msd_v {I : GI} {S : Nat → Int} (hR : Rel 1 I S) (ho : Oks S) (hj : Jdg 1 I S) {t : Nat} (ht9 : (t : Int) < S 5) : gpd I (1 + 21 + 6 * t) → msd I (1 + 21 + 6 * t) := by
  intro h
  have hw := (whl_iff hR ho hj ht9).mp h
  have j := (hj.2.2 t ht9).2.2 hw
  unfold tP at j
  unfold msd
  rw [j.2.1, j.2.2]
  exact sME_b ho ht9 hw.1
theorem apart_v {I : GI} {S : Nat → Int} (hj : Jdg 1 I S) {t u : Nat} (ht9 : (t : Int) < S 5) (hu9 : (u : Int) < S 5) : (if (I (1 + 21 + 6 * t) 3 ≠ 5 ∧ I (1 + 21 + 6 * t) 3 ≠ 6) ∧ I (1 + 21 + 6 * u) 3 ≠ 5 ∧ I (1 + 21 + 6 * u) 3 ≠ 6 then rootZ ((I (1 + 21 + 6 * t) 6 - I (1 + 21 + 6 * u) 6) * (I (1 + 21 + 6 * t) 6 - I (1 + 21 + 6 * u) 6) + (I (1 + 21 + 6 * t) 7 - I (1 + 21 + 6 * u) 7) * (I (1 + 21 + 6 * t) 7 - I (1 + 21 + 6 * u) 7)) else -2000000000) = rApart S t u := by
  have jt := (hj.2.2 t ht9).1
  have ju := (hj.2.2 u hu9).1
  unfold tP at jt ju
  unfold rApart
  rw [jt, ju]
  by_cases h : hE9 S t ∧ hE9 S u
  · have a := end_v hj ht9 h.1
    have b := end_v hj hu9 h.2
    rw [if_pos h, if_pos h, a.1, a.2, b.1, b.2]
  · rw [if_neg h, if_neg h]
theorem sus_v {I : GI} {S : Nat → Int} (hR : Rel 1 I S) (ho : Oks S) (hj : Jdg 1 I S) {t : Nat} (ht9 : (t : Int) < S 5) : (if gpd I (1 + 21 + 6 * t) then (agK (fun k => (k : Int)) (suV I (1 + 21 + 6 * t)) (I (1 + 21 + 6 * t) 2).toNat).1 else -2000000000) = rSus S t := by
  have hg := whl_iff hR ho hj ht9
  have tr := rel_tr hR ht9
  have j := hj.2.2 t ht9
  have o9 := (ho.2.2.2.2 t ht9).1.2.1
  unfold tP at hg tr j
  unfold rSus
  by_cases h : whl S t
  · have he : hE9 S t := by unfold hE9; have := h.2; omega
    rw [if_pos h, if_pos (hg.mpr h), tr.1.2]
    rw [agK_c9 (S (103 + 28 * t)).toNat (v' := suS S t) (fun k hk => by
      have b := ((j.2.1 he).2 k (by omega)).1
      unfold suV suS
      rw [(j.2.2 h).2.1, (j.2.2 h).2.2, b])]
  · rw [if_neg h, if_neg (fun q => h (hg.mp q))]
theorem sus_h {I : GI} {S : Nat → Int} (hR : Rel 1 I S) (ho : Oks S) (hj : Jdg 1 I S) {t : Nat} (ht9 : (t : Int) < S 5) : ∀ k : Nat, k < 12 → (k : Int) < I (1 + 21 + 6 * t) 2 → gpd I (1 + 21 + 6 * t) → 0 ≤ I (1 + 21 + 6 * t + 3) k ∧ I (1 + 21 + 6 * t + 3) k < 1296000 := by
  intro k _ hk hg
  have h := (whl_iff hR ho hj ht9).mp hg
  have tr := (rel_tr hR ht9).1.2
  have j := hj.2.2 t ht9
  unfold tP at tr j
  rw [tr] at hk
  have he : hE9 S t := by unfold hE9; have := h.2; omega
  rw [((j.2.1 he).2 k hk).1]
  exact sBr_b S t k
theorem for_v {I : GI} {S : Nat → Int} (hR : Rel 1 I S) (ho : Oks S) (hj : Jdg 1 I S) {t : Nat} (ht9 : (t : Int) < S 5) {x : Int} (hx : 0 ≤ x ∧ x < S 4) (y : Int) : (if gpd I (1 + 21 + 6 * t) then fsF (aP I (1 + 21 + 6 * t) (1 + 17 + x.toNat) x y) 7201 else -2000000000) = rFor S t x.toNat y := by
  have hg := whl_iff hR ho hj ht9
  have tr := rel_tr hR ht9
  have j := hj.2.2 t ht9
  have jj := hj.2.1 x.toNat (by omega)
  have rj := hR.2.2.2.1 x.toNat (by omega)
  have h67 := sTT_67 (S := S) (t := t)
  have fb := first_b ho ht9
  unfold tP at hg tr j
  unfold jP at jj rj
  unfold rFor
  by_cases h : whl S t
  · have lb := last_b ho ht9 h.1
    rw [if_pos h, if_pos (hg.mpr h)]
    refine fsF_c _ (fun g => ?_)
    unfold aP aS
    rw [(j.2.2 h).1, tr.1.1, (tr.2.1.1 h.1).1, show ((x.toNat : Nat) : Int) = x by omega]
    by_cases s0 : sgF x (S (102 + 28 * t)) (S (104 + 28 * t)) = 0
    · rw [s0, Int.zero_mul, Int.zero_mul]
    · have hs : sJ S x.toNat = 0 := by
        unfold sgF at s0
        by_cases a : x = S (102 + 28 * t)
        · rw [a]; exact (h67.2.2.1 (by have := h.2; omega)).2
        · rw [if_neg a] at s0
          by_cases b : x = S (104 + 28 * t)
          · rw [b]; exact (h67.2.2.2 (by have := h.1; have := h.2; omega)).2
          · rw [if_neg b] at s0; omega
      have hc := sJ_c hs
      rw [show sB I (1 + 17 + x.toNat) g = sSt S x.toNat g from by
        unfold sB sSt
        rw [rj.1.2.2, rj.2.1, rj.2.2.1, jj.2.2.1, if_neg (by omega)], jj.2.2.2, if_neg (by omega)]
  · rw [if_neg h, if_neg (fun q => h (hg.mp q))]
theorem for_h {I : GI} {S : Nat → Int} (hR : Rel 1 I S) (ho : Oks S) (hj : Jdg 1 I S) {t : Nat} (ht9 : (t : Int) < S 5) {x : Int} (hx : 0 ≤ x ∧ x < S 4) : (-300000 ≤ I (1 + 17 + x.toNat) 11 ∧ I (1 + 17 + x.toNat) 11 ≤ 300000) ∧ (gpd I (1 + 21 + 6 * t) → -648000 ≤ I (1 + 21 + 6 * t) 5 ∧ I (1 + 21 + 6 * t) 5 < 648000) ∧ (sgF x (I (1 + 21 + 6 * t) 0) (I (1 + 21 + 6 * t) 1) ≠ 0 → gpd I (1 + 21 + 6 * t) → 0 ≤ I (1 + 17 + x.toNat) 7 ∧ I (1 + 17 + x.toNat) 7 < 1296000) := by
  have hg := whl_iff hR ho hj ht9
  have tr := rel_tr hR ht9
  have j := hj.2.2 t ht9
  have jj := hj.2.1 x.toNat (by omega)
  have h67 := sTT_67 (S := S) (t := t)
  unfold tP at hg tr j
  unfold jP at jj
  refine ⟨?_, fun h => ?_, fun s0 h => ?_⟩
  · rw [jj.2.2.1]
    by_cases c : sC S x.toNat = 0
    · rw [if_neg (by omega)]; exact sSw_b ho (by omega) c
    · rw [if_pos c]; exact ⟨by decide, by decide⟩
  · rw [(j.2.2 (hg.mp h)).1]; exact centZ_b _
  · have h9 := hg.mp h
    rw [tr.1.1, (tr.2.1.1 h9.1).1] at s0
    have hs : sJ S x.toNat = 0 := by
      unfold sgF at s0
      by_cases a : x = S (102 + 28 * t)
      · rw [a]; exact (h67.2.2.1 (by have := h9.2; omega)).2
      · rw [if_neg a] at s0
        by_cases b : x = S (104 + 28 * t)
        · rw [b]; exact (h67.2.2.2 (by have := h9.1; have := h9.2; omega)).2
        · rw [if_neg b] at s0; omega
    rw [jj.2.2.2, if_neg (by omega)]
    exact sS0_b S x.toNat
theorem by_v {I : GI} {S : Nat → Int} (hR : Rel 1 I S) (ho : Oks S) (hj : Jdg 1 I S) {t u : Nat} (ht9 : (t : Int) < S 5) (hu9 : (u : Int) < S 5) (x y : Int) : (if (I (1 + 21 + 6 * t) 3 ≠ 5 ∧ I (1 + 21 + 6 * t) 3 ≠ 6) ∧ I (1 + 21 + 6 * u) 3 ≠ 5 ∧ I (1 + 21 + 6 * u) 3 ≠ 6 then (agK (fun k => 1000 * ((k : Int) + 1)) (ltV I (1 + 21 + 6 * t) (1 + 21 + 6 * u) x) y.toNat).1 else -2000000000) = rBy S t u x y := by
  have jt := hj.2.2 t ht9
  have ju := (hj.2.2 u hu9).1
  have tr := (rel_tr hR ht9).1.2
  have o9 := (ho.2.2.2.2 t ht9).1.2.1
  have h5 := sTT_5 (S := S) (t := t)
  unfold tP at jt ju tr
  unfold rBy
  rw [jt.1, ju]
  by_cases h : hE9 S t ∧ hE9 S u
  · have a := end_v hj ht9 h.1
    have b := end_v hj hu9 h.2
    have n0 := (h5.mp h.1).1
    have bl := ((jt.2.1 h.1).2 ((S (103 + 28 * t)).toNat - 1) (by omega)).1
    rw [if_pos h, if_pos h]
    rw [agK_c9 y.toNat (v' := lvS S t u x) (fun k _ => by
      unfold ltV lvS ltB lbS
      rw [a.1, a.2, b.1, b.2, tr, bl, show (S (103 + 28 * t)).toNat - 1 + 1 = sLg S t by unfold sLg; omega])]
  · rw [if_neg h, if_neg h]
theorem by_h {I : GI} {S : Nat → Int} (hR : Rel 1 I S) (ho : Oks S) (hj : Jdg 1 I S) {t : Nat} (ht9 : (t : Int) < S 5) : (I (1 + 21 + 6 * t) 3 ≠ 5 ∧ I (1 + 21 + 6 * t) 3 ≠ 6) → endd I (1 + 21 + 6 * t) ∧ 1 ≤ I (1 + 21 + 6 * t) 2 ∧ 0 ≤ I (1 + 21 + 6 * t + 3) ((I (1 + 21 + 6 * t) 2).toNat - 1) ∧ I (1 + 21 + 6 * t + 3) ((I (1 + 21 + 6 * t) 2).toNat - 1) < 1296000 := by
  intro h
  refine ⟨endd_v ho hj ht9 h, ?_⟩
  have jt := hj.2.2 t ht9
  have tr := (rel_tr hR ht9).1.2
  have o9 := (ho.2.2.2.2 t ht9).1.2.1
  have h5 := sTT_5 (S := S) (t := t)
  unfold tP at jt tr
  rw [jt.1] at h
  have n0 := (h5.mp h).1
  have bl := ((jt.2.1 h).2 ((S (103 + 28 * t)).toNat - 1) (by omega)).1
  rw [tr, bl]
  exact ⟨by omega, sBr_b S t _⟩
