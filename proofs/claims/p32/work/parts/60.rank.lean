theorem lz (n : Nat) : Int64.ofInt (n : Int) = lN n := by
  first
  | exact Int64.ofInt_eq_ofNat
  | rfl
theorem u_tn {n : Nat} (h : n < 2 ^ 64) : (UInt64.ofNat n).toNat = n := Nat.mod_eq_of_lt h
theorem g_and {a b c : Nat} (ha : a < 2 ^ 64) (hb : b < 2 ^ 64) (hc : a &&& b = c) : lN a &&& lN b = lN c := by
  subst hc
  have h : UInt64.ofNat a &&& UInt64.ofNat b = UInt64.ofNat (a &&& b) := UInt64.toNat_inj.mp (by rw [UInt64.toNat_and, u_tn ha, u_tn hb, u_tn (Nat.and_lt_two_pow a hb)])
  have h2 := congrArg UInt64.toInt64 h
  exact h2
theorem g_and1 {a : Nat} (ha : a < 2 ^ 64) : lN a &&& 1 = lN (a % 2) := g_and (b := 1) ha (by decide) (Nat.and_two_pow_sub_one_eq_mod a 1)
theorem pf_lI {a : Nat} (h : a < 2 ^ 63) : (lN a).toInt = (a : Int) := lg_ofNat_toInt h
theorem pf_shr {a d : Nat} {D : Int64} (hD : (D.toBitVec.smod 64).toNat = d) (h : a < 2 ^ 62) : lN a >>> D = lN (a / 2 ^ d) := by
  have hd : a / 2 ^ d ≤ a := Nat.div_le_self _ _
  apply Int64.toInt_inj.mp
  have e : (lN a >>> D).toInt = (lN a).toInt >>> d := by
    rw [← hD]
    exact BitVec.toInt_sshiftRight ..
  rw [e, Int.shiftRight_eq_div_pow, pf_lI (by omega), pf_lI (by omega)]
  rfl
theorem fb_orL (a b : Nat) : lN a ||| lN b = lN (a ||| b) := by
  apply Int64.toBitVec_inj.1
  show BitVec.ofNat 64 a ||| BitVec.ofNat 64 b = BitVec.ofNat 64 (a ||| b)
  apply BitVec.eq_of_getLsbD_eq
  intro i hi
  simp [hi]
theorem sm_k : ∀ k : Nat, k < 12 → (((Int32.ofInt (k : Int)).toInt64 &&& 63).toBitVec.smod 64).toNat = k := by decide
theorem shr_e {a k : Nat} (ha : a < 4096) (hk : k < 12) : Int64.ofInt (a : Int) >>> ((Int32.ofInt (k : Int)).toInt64 &&& 63) = Int64.ofInt ((a / 2 ^ k : Nat) : Int) := by
  rw [lz, lz]
  exact pf_shr (sm_k k hk) (by omega)
theorem and1_e {a : Nat} (ha : a < 4096) : Int64.ofInt (a : Int) &&& Int64.ofInt 1 = Int64.ofInt ((a % 2 : Nat) : Int) := by
  rw [lz, lz, show Int64.ofInt 1 = 1 from by decide]
  exact g_and1 (by omega)
theorem or_e (a b : Nat) : Int64.ofInt (a : Int) ||| Int64.ofInt (b : Int) = Int64.ofInt ((a ||| b : Nat) : Int) := by
  rw [lz, lz, lz]
  exact fb_orL a b
def ctF (P : Nat → Bool) : Nat → Nat
  | 0 => 0
  | i + 1 => ctF P i + (if P i = true then 1 else 0)
theorem ct_s {P : Nat → Bool} {i : Nat} : ctF P (i + 1) = ctF P i + (if P i = true then 1 else 0) := rfl
theorem ct_c {P Q : Nat → Bool} : ∀ m : Nat, (∀ i, i < m → P i = Q i) → ctF P m = ctF Q m := by
  intro m
  induction m with
  | zero => intro _; rfl
  | succ m ih => intro h; rw [ct_s, ct_s, ih (fun i hi => h i (by omega)), h m (by omega)]
theorem ct_all {P : Nat → Bool} : ∀ m : Nat, (∀ i, i < m → P i = true) → ctF P m = m := by
  intro m
  induction m with
  | zero => intro _; rfl
  | succ m ih => intro h; rw [ct_s, ih (fun i hi => h i (by omega)), if_pos (h m (by omega))]
theorem ct_mono {P Q : Nat → Bool} : ∀ m : Nat, (∀ i, i < m → P i = true → Q i = true) → ctF P m ≤ ctF Q m := by
  intro m
  induction m with
  | zero => intro _; exact Nat.le_refl _
  | succ m ih =>
    intro h
    have a := ih (fun i hi => h i (by omega))
    have b := h m (by omega)
    rw [ct_s, ct_s]
    by_cases p : P m = true
    · rw [if_pos p, if_pos (b p)]; omega
    · rw [if_neg p]; split <;> omega
theorem ct_lt {P Q : Nat → Bool} {j : Nat} (hp : ¬ P j = true) (hq : Q j = true) : ∀ m : Nat, j < m → (∀ i, i < m → P i = true → Q i = true) → ctF P m < ctF Q m := by
  intro m
  induction m with
  | zero => intro hj; omega
  | succ m ih =>
    intro hj h
    rw [ct_s, ct_s]
    by_cases e : j = m
    · subst e
      have a := ct_mono (P := P) (Q := Q) j (fun i hi => h i (by omega))
      rw [if_neg hp, if_pos hq]; omega
    · have a := ih (by omega) (fun i hi => h i (by omega))
      have b := h m (by omega)
      by_cases p : P m = true
      · rw [if_pos p, if_pos (b p)]; omega
      · rw [if_neg p]; split <;> omega
theorem ct_add {P Q : Nat → Bool} {j : Nat} (hp : ¬ P j = true) (hq : Q j = true) : ∀ m : Nat, (∀ i, i < m → i ≠ j → Q i = P i) → ctF Q m = ctF P m + (if j < m then 1 else 0) := by
  intro m
  induction m with
  | zero => intro _; rw [if_neg (by omega)]; rfl
  | succ m ih =>
    intro h
    have a := ih (fun i hi => h i (by omega))
    rw [ct_s, ct_s, a]
    by_cases e : j = m
    · subst e
      rw [if_pos hq, if_neg hp, if_neg (by omega), if_pos (by omega)]
    · rw [h m (by omega) (fun q => e q.symm)]
      by_cases g : j < m
      · rw [if_pos g, if_pos (show j < m + 1 by omega)]; omega
      · rw [if_neg g, if_neg (show ¬ j < m + 1 by omega)]; omega
def btF (l : Nat → Int) (k : Nat) : Nat → Bool := fun i => decide (l k < l i ∨ (l i = l k ∧ i < k))
theorem rk_ct {l : Nat → Int} {k : Nat} : ∀ m : Nat, rkF l k m = (ctF (btF l k) m : Int) := by
  intro m
  induction m with
  | zero => rfl
  | succ m ih =>
    rw [rkF_s, ct_s, ih]
    by_cases h : l k < l m ∨ (l m = l k ∧ m < k)
    · rw [if_pos h, if_pos (by unfold btF; exact decide_eq_true h)]; omega
    · rw [if_neg h, if_neg (by unfold btF; exact fun q => h (of_decide_eq_true q))]; omega
theorem bt_iff {l : Nat → Int} {k i : Nat} : btF l k i = true ↔ (l k < l i ∨ (l i = l k ∧ i < k)) := by
  unfold btF
  exact decide_eq_true_iff
theorem rk_mono {l : Nat → Int} {i k m : Nat} (hi : i < m) (h : btF l k i = true) : rkF l i m < rkF l k m := by
  rw [rk_ct, rk_ct]
  have hh := bt_iff.mp h
  have := ct_lt (P := btF l i) (Q := btF l k) (j := i) (fun q => by have := bt_iff.mp q; omega) h m hi (fun a ha q => bt_iff.mpr (by have := bt_iff.mp q; omega))
  omega
theorem rk_lt {l : Nat → Int} {k m : Nat} (h : k < m) : rkF l k m < (m : Int) := by
  rw [rk_ct]
  have := ct_lt (P := btF l k) (Q := fun _ => true) (j := k) (fun q => by have := bt_iff.mp q; omega) rfl m h (fun _ _ _ => rfl)
  rw [ct_all (P := fun _ => true) m (fun _ _ => rfl)] at this
  omega
theorem rk_nn {l : Nat → Int} {k m : Nat} : 0 ≤ rkF l k m := (rkF_b m).1
theorem rk_inj {l : Nat → Int} {i k m : Nat} (hi : i < m) (hk : k < m) (h : rkF l i m = rkF l k m) : i = k := by
  rcases (show btF l k i = true ∨ btF l i k = true ∨ i = k by rw [bt_iff, bt_iff]; omega) with q | q | q
  · have := rk_mono hi q; omega
  · have := rk_mono hk q; omega
  · exact q
def dnF (l : Nat → Int) (m : Nat) (n : Int) : Nat → Bool := fun i => decide (rkF l i m < n)
theorem dn_iff {l : Nat → Int} {m : Nat} {n : Int} {i : Nat} : dnF l m n i = true ↔ rkF l i m < n := by
  unfold dnF
  exact decide_eq_true_iff
theorem rk_pick {l : Nat → Int} {m n : Nat} {f : Int} (hn : n < m) (hC : ctF (dnF l m (n : Int)) m = n) (h : (f = -1 ∧ ∀ i, i < m → rkF l i m < (n : Int)) ∨ ∃ j : Nat, f = (j : Int) ∧ j < m ∧ (n : Int) ≤ rkF l j m ∧ ∀ i, i < m → (n : Int) ≤ rkF l i m → rkF l j m ≤ rkF l i m) : ∃ j : Nat, f = (j : Int) ∧ j < m ∧ rkF l j m = (n : Int) := by
  rcases h with ⟨-, h⟩ | ⟨j, e, hj, hr, hm⟩
  · rw [ct_all m (fun i hi => dn_iff.mpr (h i hi))] at hC
    omega
  · refine ⟨j, e, hj, ?_⟩
    rw [rk_ct, ct_c (Q := dnF l m (n : Int)) m (fun i hi => ?_), hC]
    rw [Bool.eq_iff_iff, dn_iff]
    constructor
    · intro q
      have a := rk_mono hi q
      rcases Int.lt_or_le (rkF l i m) (n : Int) with w | w
      · exact w
      · have := hm i hi w; omega
    · intro q
      rcases (show btF l j i = true ∨ btF l i j = true ∨ i = j by rw [bt_iff, bt_iff]; omega) with w | w | w
      · exact w
      · have := rk_mono hj w; omega
      · subst w; omega
theorem ct_next {l : Nat → Int} {m n j : Nat} (hC : ctF (dnF l m (n : Int)) m = n) (hj : j < m) (hr : rkF l j m = (n : Int)) : ctF (dnF l m ((n + 1 : Nat) : Int)) m = n + 1 := by
  rw [ct_add (P := dnF l m (n : Int)) (j := j) (fun q => by have := dn_iff.mp q; omega) (dn_iff.mpr (by omega)) m (fun i hi hne => ?_), hC, if_pos hj]
  rw [Bool.eq_iff_iff, dn_iff, dn_iff]
  constructor
  · intro q
    rcases Int.lt_or_le (rkF l i m) (n : Int) with w | w
    · exact w
    · exact absurd (rk_inj (l := l) hi hj (by omega)) hne
  · intro q; omega
theorem ct_zero {l : Nat → Int} {m : Nat} : ctF (dnF l m ((0 : Nat) : Int)) m = 0 := by
  rw [ct_c (Q := fun _ => false) m (fun i _ => by
    rw [Bool.eq_iff_iff, dn_iff]
    have := rk_nn (l := l) (k := i) (m := m)
    constructor
    · intro q; omega
    · intro q; exact absurd q (by decide))]
  induction m with
  | zero => rfl
  | succ m ih => rw [ct_s, ih, if_neg (by decide)]
theorem bit_iff (a k : Nat) : a / 2 ^ k % 2 = 1 ↔ a.testBit k = true := by
  rw [Nat.testBit_eq_decide_div_mod_eq]
  exact decide_eq_true_iff.symm
theorem bit_or {a j k : Nat} : (a ||| 2 ^ j) / 2 ^ k % 2 = 1 ↔ (a / 2 ^ k % 2 = 1 ∨ j = k) := by
  rw [bit_iff, bit_iff, Nat.testBit_or, Bool.or_eq_true, Nat.testBit_two_pow]
  rw [decide_eq_true_iff]
theorem or_lt {a j : Nat} (ha : a < 4096) (hj : j < 12) : a ||| 2 ^ j < 4096 := by
  have h : (2 : Nat) ^ j < 2 ^ 12 := Nat.pow_lt_pow_right (by decide) hj
  exact Nat.or_lt_two_pow (n := 12) ha h
def adN (S : Nat → Int) (t n : Nat) : Nat → Int := fun q => if q = 105 + 28 * t then normZ (S (105 + 28 * t) - shZ S t) else if 106 + 28 * t ≤ q ∧ q < 106 + 28 * t + 2 * (S (103 + 28 * t)).toNat ∧ (q - (106 + 28 * t)) % 2 = 0 ∧ rkF (sLe S t) ((q - (106 + 28 * t)) / 2) (S (103 + 28 * t)).toNat < (n : Int) then normZ (S q - (shZ S t + moF (rkF (sLe S t) ((q - (106 + 28 * t)) / 2) (S (103 + 28 * t)).toNat) (lfZ S t))) else S q
theorem adN_0 {S : Nat → Int} {t : Nat} : us S (105 + 28 * t) (normZ (S (105 + 28 * t) - shZ S t)) = adN S t 0 := by
  funext q
  unfold us adN
  by_cases h : q = 105 + 28 * t
  · rw [if_pos h, if_pos h]
  · rw [if_neg h, if_neg h, if_neg (fun g => by have := rk_nn (l := sLe S t) (k := (q - (106 + 28 * t)) / 2) (m := (S (103 + 28 * t)).toNat); omega)]
theorem adN_b {S : Nat → Int} {t n k : Nat} : adN S t n (107 + 28 * t + 2 * k) = S (107 + 28 * t + 2 * k) := by
  unfold adN
  rw [if_neg (by omega), if_neg (fun g => by omega)]
theorem adN_a {S : Nat → Int} {t n k : Nat} (h : (n : Int) ≤ rkF (sLe S t) k (S (103 + 28 * t)).toNat) : adN S t n (106 + 28 * t + 2 * k) = S (106 + 28 * t + 2 * k) := by
  unfold adN
  rw [if_neg (by omega), if_neg (fun g => by
    have e : (106 + 28 * t + 2 * k - (106 + 28 * t)) / 2 = k := by omega
    rw [e] at g
    omega)]
theorem adN_s {S : Nat → Int} {t n j : Nat} {v : Int} (hj : j < (S (103 + 28 * t)).toNat) (hr : rkF (sLe S t) j (S (103 + 28 * t)).toNat = (n : Int)) (hv : v = normZ (S (106 + 28 * t + 2 * j) - (shZ S t + moF (n : Int) (lfZ S t)))) : us (adN S t n) (106 + 28 * t + 2 * j) v = adN S t (n + 1) := by
  funext q
  unfold us
  by_cases h : q = 106 + 28 * t + 2 * j
  · rw [if_pos h]
    unfold adN
    have e : (q - (106 + 28 * t)) / 2 = j := by omega
    rw [if_neg (by omega), e, hr, if_pos ⟨by omega, by omega, by omega, by omega⟩, hv, h]
  · rw [if_neg h]
    unfold adN
    by_cases h5 : q = 105 + 28 * t
    · rw [if_pos h5, if_pos h5]
    · rw [if_neg h5, if_neg h5]
      by_cases g : 106 + 28 * t ≤ q ∧ q < 106 + 28 * t + 2 * (S (103 + 28 * t)).toNat ∧ (q - (106 + 28 * t)) % 2 = 0
      · by_cases w : rkF (sLe S t) ((q - (106 + 28 * t)) / 2) (S (103 + 28 * t)).toNat < (n : Int)
        · rw [if_pos ⟨g.1, g.2.1, g.2.2, w⟩, if_pos ⟨g.1, g.2.1, g.2.2, by omega⟩]
        · rw [if_neg (fun x => w x.2.2.2), if_neg (fun x => ?_)]
          have := rk_inj (l := sLe S t) (i := (q - (106 + 28 * t)) / 2) (k := j) (by omega) hj (by have := x.2.2.2; omega)
          omega
      · rw [if_neg (fun x => g ⟨x.1, x.2.1, x.2.2.1⟩), if_neg (fun x => g ⟨x.1, x.2.1, x.2.2.1⟩)]
theorem adN_e {S : Nat → Int} {t : Nat} (h12 : S (103 + 28 * t) ≤ 12) : adN S t (S (103 + 28 * t)).toNat = oAdj S t := by
  funext q
  by_cases h5 : q = 105 + 28 * t
  · subst h5
    unfold adN oAdj
    rw [if_pos rfl, adS_c]
  · by_cases g : 106 + 28 * t ≤ q ∧ q < 106 + 28 * t + 2 * (S (103 + 28 * t)).toNat ∧ (q - (106 + 28 * t)) % 2 = 0
    · obtain ⟨k, hk⟩ : ∃ k, q = 106 + 28 * t + 2 * k := ⟨(q - (106 + 28 * t)) / 2, by omega⟩
      subst hk
      have hk2 : k < (S (103 + 28 * t)).toNat := by omega
      have e : (106 + 28 * t + 2 * k - (106 + 28 * t)) / 2 = k := by omega
      unfold adN oAdj
      rw [if_neg h5, e, if_pos ⟨g.1, g.2.1, g.2.2, rk_lt hk2⟩, adS_a _ k hk2]
    · rw [show oAdj S t q = S q from adS_o h5 _ (fun k hk => by unfold sLg at hk; omega)]
      unfold adN
      rw [if_neg h5, if_neg (fun x => g ⟨x.1, x.2.1, x.2.2.1⟩)]
def adQ (S : Nat → Int) (t : Nat) (I J : GI) : Option GV → Nat → GI → GI → Prop := fun v _ I' J' => v = some (vI (sG S t)) ∧ (rowL I' = oAdj S t ∧ ∀ q f, q ≠ 236 → q ≠ 237 → I' q f = I q f) ∧ J' = J
