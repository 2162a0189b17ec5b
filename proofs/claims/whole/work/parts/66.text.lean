def nrP (T : Nat → Int) (n : Nat) : Nat → Nat → Nat
  | 0, p => p
  | r + 1, p => if p < n ∧ 48 ≤ T p ∧ T p ≤ 57 then nrP T n r (p + 1) else p
def nrV (T : Nat → Int) (n : Nat) : Nat → Nat → Int → Int
  | 0, _, v => v
  | r + 1, p, v => if p < n ∧ 48 ≤ T p ∧ T p ≤ 57 then nrV T n r (p + 1) (10 * v + (T p - 48)) else v
def rdF (T : Nat → Int) (n : Nat) : Nat → Nat → Bool × Nat
  | 0, p => (true, p)
  | m + 1, p => if nrP T n 7 p ≠ p ∧ nrP T n 7 p < n ∧ T (nrP T n 7 p) = (if m = 0 then 59 else 44) then rdF T n m (nrP T n 7 p + 1) else (false, nrP T n 7 p)
def faF (T : Nat → Int) (n : Nat) : Nat → Nat → Int
  | 0, _ => -2000000000
  | f + 1, p => if p < n then (if numZ (T p) = 0 then (p : Int) else if (rdF T n (numZ (T p)).toNat (p + 1)).1 = true then faF T n f (rdF T n (numZ (T p)).toNat (p + 1)).2 else ((rdF T n (numZ (T p)).toNat (p + 1)).2 : Int)) else -2000000000
section TX
variable {T : Nat → Int} {n : Nat}
theorem nrP_y {r p : Nat} (h : p < n ∧ 48 ≤ T p ∧ T p ≤ 57) : nrP T n (r + 1) p = nrP T n r (p + 1) := by rw [nrP, if_pos h]
theorem nrP_n {r p : Nat} (h : ¬ (p < n ∧ 48 ≤ T p ∧ T p ≤ 57)) : nrP T n (r + 1) p = p := by rw [nrP, if_neg h]
theorem nrV_y {r p : Nat} {v : Int} (h : p < n ∧ 48 ≤ T p ∧ T p ≤ 57) : nrV T n (r + 1) p v = nrV T n r (p + 1) (10 * v + (T p - 48)) := by rw [nrV, if_pos h]
theorem nrV_n {r p : Nat} {v : Int} (h : ¬ (p < n ∧ 48 ≤ T p ∧ T p ≤ 57)) : nrV T n (r + 1) p v = v := by rw [nrV, if_neg h]
theorem nrP_b : ∀ r p : Nat, (p ≤ nrP T n r p ∧ nrP T n r p ≤ p + r) ∧ (p ≤ n → nrP T n r p ≤ n) := by
  intro r
  induction r with
  | zero => intro p; exact ⟨⟨Nat.le_refl _, Nat.le_refl _⟩, fun h => h⟩
  | succ r ih =>
    intro p
    by_cases c : p < n ∧ 48 ≤ T p ∧ T p ≤ 57
    · rw [nrP_y c]
      have h := ih (p + 1)
      exact ⟨by omega, fun _ => h.2 (by omega)⟩
    · rw [nrP_n c]
      exact ⟨by omega, fun h => h⟩
abbrev sep9 (T : Nat → Int) (n : Nat) (d : Int) (q : Nat) : Prop := q < n ∧ ((1 < d ∧ T q = 44) ∨ (d ≤ 1 ∧ T q = 59))
theorem nrS : ∀ (r p : Nat) (d g : Int), p ≤ n → (r : Int) = 7 - g → 0 ≤ g → 1 ≤ d → ffF T (n - p) p d g = if (g = 0 ∧ nrP T n r p = p) ∨ ¬ sep9 T n d (nrP T n r p) then ((nrP T n r p : Nat) : Int) else ffF T (n - (nrP T n r p + 1)) (nrP T n r p + 1) (d + (-1)) 0 := by
  intro r
  induction r with
  | zero =>
    intro p d g hp hr hg hd
    rw [show nrP T n 0 p = p from rfl]
    by_cases e : p = n
    · subst e
      rw [Nat.sub_self, ffF_0, if_neg (by omega), if_pos (Or.inr (fun q => by have := q.1; omega))]
    · rw [show n - p = n - (p + 1) + 1 by omega, ffF_s, if_neg (by omega)]
      by_cases c : 48 ≤ T p ∧ T p ≤ 57
      · rw [if_pos c, if_pos (by omega), if_pos (Or.inr (fun q => by have := q.2; omega))]
      · rw [if_neg c]
        by_cases s : (1 < d ∧ T p = 44) ∨ (d ≤ 1 ∧ T p = 59)
        · rw [if_neg (by omega), if_neg (by omega)]
        · rw [if_pos (Or.inr s), if_pos (Or.inr (fun q => s q.2))]
  | succ r ih =>
    intro p d g hp hr hg hd
    by_cases c : p < n ∧ 48 ≤ T p ∧ T p ≤ 57
    · have hb := (nrP_b (T := T) (n := n) r (p + 1)).1
      rw [nrP_y c]
      rw [show ffF T (n - p) p d g = ffF T (n - (p + 1)) (p + 1) d (g + 1) from by
        rw [show n - p = n - (p + 1) + 1 by omega, ffF_s, if_neg (by omega), if_pos c.2, if_neg (by omega)]]
      rw [ih (p + 1) d (g + 1) (by omega) (by omega) (by omega) hd]
      by_cases s : sep9 T n d (nrP T n r (p + 1))
      · rw [if_neg (by omega), if_neg (by omega)]
      · rw [if_pos (Or.inr s), if_pos (Or.inr s)]
    · rw [nrP_n c]
      by_cases e : p = n
      · subst e
        rw [Nat.sub_self, ffF_0, if_neg (by omega), if_pos (Or.inr (fun q => by have := q.1; omega))]
      · rw [show n - p = n - (p + 1) + 1 by omega, ffF_s, if_neg (by omega), if_neg (by omega)]
        by_cases g0 : g = 0
        · rw [if_pos (Or.inl g0), if_pos (Or.inl ⟨g0, rfl⟩)]
        · by_cases s : (1 < d ∧ T p = 44) ∨ (d ≤ 1 ∧ T p = 59)
          · rw [if_neg (by omega), if_neg (by omega)]
          · rw [if_pos (Or.inr s), if_pos (Or.inr (fun q => s q.2))]
theorem rdF_y {m p : Nat} (h : nrP T n 7 p ≠ p ∧ nrP T n 7 p < n ∧ T (nrP T n 7 p) = (if m = 0 then 59 else 44)) : rdF T n (m + 1) p = rdF T n m (nrP T n 7 p + 1) := by rw [rdF, if_pos h]
theorem rdF_n {m p : Nat} (h : ¬ (nrP T n 7 p ≠ p ∧ nrP T n 7 p < n ∧ T (nrP T n 7 p) = (if m = 0 then 59 else 44))) : rdF T n (m + 1) p = (false, nrP T n 7 p) := by rw [rdF, if_neg h]
theorem rdF_b : ∀ m p : Nat, p ≤ n → p ≤ (rdF T n m p).2 ∧ (rdF T n m p).2 ≤ n := by
  intro m
  induction m with
  | zero => intro p h; exact ⟨Nat.le_refl _, h⟩
  | succ m ih =>
    intro p h
    have hb := nrP_b (T := T) (n := n) 7 p
    by_cases c : nrP T n 7 p ≠ p ∧ nrP T n 7 p < n ∧ T (nrP T n 7 p) = (if m = 0 then 59 else 44)
    · rw [rdF_y c]
      have := ih (nrP T n 7 p + 1) (by omega)
      omega
    · rw [rdF_n c]
      exact ⟨hb.1.1, hb.2 h⟩
theorem rd_ff : ∀ m p : Nat, p ≤ n → ffF T (n - p) p (m : Int) 0 = if (rdF T n m p).1 = true then ffF T (n - (rdF T n m p).2) (rdF T n m p).2 0 0 else (((rdF T n m p).2 : Nat) : Int) := by
  intro m
  induction m with
  | zero => intro p _; rfl
  | succ m ih =>
    intro p hp
    have hb := nrP_b (T := T) (n := n) 7 p
    rw [nrS 7 p ((m + 1 : Nat) : Int) 0 hp (by omega) (by omega) (by omega)]
    by_cases c : nrP T n 7 p ≠ p ∧ nrP T n 7 p < n ∧ T (nrP T n 7 p) = (if m = 0 then 59 else 44)
    · rw [rdF_y c]
      have s : sep9 T n ((m + 1 : Nat) : Int) (nrP T n 7 p) := by
        refine ⟨c.2.1, ?_⟩
        by_cases m0 : m = 0
        · right; rw [if_pos m0] at c; exact ⟨by omega, c.2.2⟩
        · left; rw [if_neg m0] at c; exact ⟨by omega, c.2.2⟩
      rw [if_neg (fun q => q.elim (fun q => c.1 q.2) (fun q => q s)), ← ih (nrP T n 7 p + 1) (by omega), show ((m + 1 : Nat) : Int) + (-1) = (m : Int) by omega]
    · rw [rdF_n c, if_pos]
      · rfl
      · by_cases c1 : nrP T n 7 p = p
        · exact Or.inl ⟨rfl, c1⟩
        · right
          intro s
          apply c
          refine ⟨c1, s.1, ?_⟩
          by_cases m0 : m = 0
          · rw [if_pos m0]; rcases s.2 with h | h
            · omega
            · exact h.2
          · rw [if_neg m0]; rcases s.2 with h | h
            · exact h.2
            · omega
theorem fa_ff : ∀ f p : Nat, p ≤ n → n - p ≤ f → faF T n f p = ffF T (n - p) p 0 0 := by
  intro f
  induction f with
  | zero =>
    intro p hp hf
    rw [show n - p = 0 by omega, ffF_0, if_pos rfl]
    rfl
  | succ f ih =>
    intro p hp hf
    rw [faF]
    by_cases e : p < n
    · rw [if_pos e, show n - p = n - (p + 1) + 1 by omega, ffF_s, if_pos rfl]
      by_cases z : numZ (T p) = 0
      · rw [if_pos z, if_pos z]
      · have hz := numZ_b (T p)
        have hb := rdF_b (T := T) (n := n) (numZ (T p)).toNat (p + 1) (by omega)
        have h := rd_ff (T := T) (n := n) (numZ (T p)).toNat (p + 1) (by omega)
        rw [show (((numZ (T p)).toNat : Nat) : Int) = numZ (T p) by omega] at h
        rw [if_neg z, if_neg z, h]
        by_cases o : (rdF T n (numZ (T p)).toNat (p + 1)).1 = true
        · rw [if_pos o, if_pos o]
          exact ih _ hb.2 (by omega)
        · rw [if_neg o, if_neg o]
    · rw [if_neg e, show n - p = 0 by omega, ffF_0, if_pos rfl]
end TX
def exS (S : Nat → Int) (l a b c : Int) : Nat → Int := if rfZ S l a b c = 0 then coS S l a b c else S
def exC (S : Nat → Int) (l a b c : Int) : Int := if rfZ S l a b c = 0 then 1 else 0
theorem ex_c {S : Nat → Int} {l a b c b' c' : Int} (h1 : l = 116 ∨ l = 108 → b = b') (h2 : l = 108 → c = c') : exS S l a b c = exS S l a b' c' ∧ exC S l a b c = exC S l a b' c' := by
  unfold exS exC rfZ coS
  by_cases e1 : l = 116
  · rw [h1 (Or.inl e1)]
    simp only [if_pos e1]
    exact ⟨trivial, trivial⟩
  · simp only [if_neg e1]
    by_cases e2 : l = 108
    · rw [h1 (Or.inr e2), h2 e2]
      exact ⟨rfl, rfl⟩
    · simp only [if_neg e2]
      exact ⟨trivial, trivial⟩
def crF (T : Nat → Int) : Nat → Nat → Int → Nat → (Nat → Int) → (Nat → Int) → Int → (Nat → Int) × Int
  | 0, _, _, _, _, S, k => (S, k)
  | r + 1, i, l, a, w, S, k => if T i = 44 then crF T r (i + 1) l (a + 1) w S k else if 48 ≤ T i ∧ T i ≤ 57 then crF T r (i + 1) l a (us w a (10 * w a + (T i - 48))) S k else if T i = 59 then crF T r (i + 1) l a w (exS S l (w 0) (w 1) (w 2)) (k + exC S l (w 0) (w 1) (w 2)) else crF T r (i + 1) (T i) 0 (us (us (us w 0 0) 1 0) 2 0) S k
theorem crF_s {T : Nat → Int} {r i a : Nat} {l k : Int} {w S : Nat → Int} : crF T (r + 1) i l a w S k = if T i = 44 then crF T r (i + 1) l (a + 1) w S k else if 48 ≤ T i ∧ T i ≤ 57 then crF T r (i + 1) l a (us w a (10 * w a + (T i - 48))) S k else if T i = 59 then crF T r (i + 1) l a w (exS S l (w 0) (w 1) (w 2)) (k + exC S l (w 0) (w 1) (w 2)) else crF T r (i + 1) (T i) 0 (us (us (us w 0 0) 1 0) 2 0) S k := rfl
def rtF (T : Nat → Int) (n : Nat) : Nat → Nat → Nat → (Nat → Int) → (Nat → Int)
  | 0, _, _, w => w
  | m + 1, k, p, w => if nrP T n 7 p ≠ p ∧ nrP T n 7 p < n ∧ T (nrP T n 7 p) = (if m = 0 then 59 else 44) then rtF T n m (k + 1) (nrP T n 7 p + 1) (us w k (nrV T n 7 p 0)) else us w k (nrV T n 7 p 0)
def mrF (T : Nat → Int) (n : Nat) : Nat → Nat → (Nat → Int) → (Nat → Int) → Int → (Nat → Int) × Int
  | 0, _, _, S, k => (S, k)
  | f + 1, p, w, S, k => if p < n then mrF T n f (rdF T n (numZ (T p)).toNat (p + 1)).2 (rtF T n (numZ (T p)).toNat 0 (p + 1) w) (exS S (T p) (rtF T n (numZ (T p)).toNat 0 (p + 1) w 0) (rtF T n (numZ (T p)).toNat 0 (p + 1) w 1) (rtF T n (numZ (T p)).toNat 0 (p + 1) w 2)) (k + exC S (T p) (rtF T n (numZ (T p)).toNat 0 (p + 1) w 0) (rtF T n (numZ (T p)).toNat 0 (p + 1) w 1) (rtF T n (numZ (T p)).toNat 0 (p + 1) w 2)) else (S, k)
theorem us_id {w : Nat → Int} {a : Nat} : us w a (w a) = w := by
  funext k
  by_cases e : k = a
  · rw [us_at e, e]
  · rw [us_ne e]
section TY
variable {T : Nat → Int} {n : Nat}
theorem cr_d {l k : Int} {a : Nat} {S : Nat → Int} : ∀ (r p : Nat) (w : Nat → Int), p ≤ n → crF T (n - p) p l a w S k = crF T (n - nrP T n r p) (nrP T n r p) l a (us w a (nrV T n r p (w a))) S k := by
  intro r
  induction r with
  | zero =>
    intro p w _
    rw [show nrP T n 0 p = p from rfl, show nrV T n 0 p (w a) = w a from rfl, us_id]
  | succ r ih =>
    intro p w hp
    by_cases c : p < n ∧ 48 ≤ T p ∧ T p ≤ 57
    · rw [nrP_y c, nrV_y c, show n - p = n - (p + 1) + 1 by omega, crF_s, if_neg (by omega), if_pos c.2, ih (p + 1) _ (by omega), us_at rfl, us_us]
    · rw [nrP_n c, nrV_n c, us_id]
theorem rt_y {m k p : Nat} {w : Nat → Int} (h : nrP T n 7 p ≠ p ∧ nrP T n 7 p < n ∧ T (nrP T n 7 p) = (if m = 0 then 59 else 44)) : rtF T n (m + 1) k p w = rtF T n m (k + 1) (nrP T n 7 p + 1) (us w k (nrV T n 7 p 0)) := by rw [rtF, if_pos h]
theorem rt_n {m k p : Nat} {w : Nat → Int} (h : ¬ (nrP T n 7 p ≠ p ∧ nrP T n 7 p < n ∧ T (nrP T n 7 p) = (if m = 0 then 59 else 44))) : rtF T n (m + 1) k p w = us w k (nrV T n 7 p 0) := by rw [rtF, if_neg h]
theorem rd_ok {m p : Nat} (h : (rdF T n (m + 1) p).1 = true) : nrP T n 7 p ≠ p ∧ nrP T n 7 p < n ∧ T (nrP T n 7 p) = (if m = 0 then 59 else 44) := by
  by_cases c : nrP T n 7 p ≠ p ∧ nrP T n 7 p < n ∧ T (nrP T n 7 p) = (if m = 0 then 59 else 44)
  · exact c
  · rw [rdF_n c] at h
    cases h
theorem cr_e {l k : Int} {S : Nat → Int} : ∀ (m a p : Nat) (w : Nat → Int), p ≤ n → (rdF T n (m + 1) p).1 = true → a + m < 3 → (∀ j, a ≤ j → j < 3 → w j = 0) → ∃ a', crF T (n - p) p l a w S k = crF T (n - (rdF T n (m + 1) p).2) (rdF T n (m + 1) p).2 l a' (rtF T n (m + 1) a p w) (exS S l (rtF T n (m + 1) a p w 0) (rtF T n (m + 1) a p w 1) (rtF T n (m + 1) a p w 2)) (k + exC S l (rtF T n (m + 1) a p w 0) (rtF T n (m + 1) a p w 1) (rtF T n (m + 1) a p w 2)) := by
  intro m
  induction m with
  | zero =>
    intro a p w hp hok ha hw
    have c := rd_ok hok
    rw [rdF_y c, rt_y c, cr_d 7 p w hp, hw a (Nat.le_refl _) (by omega)]
    rw [if_pos rfl] at c
    rw [show n - nrP T n 7 p = n - (nrP T n 7 p + 1) + 1 by omega, crF_s, if_neg (by omega), if_neg (by omega), if_pos c.2.2]
    exact ⟨a, rfl⟩
  | succ m ih =>
    intro a p w hp hok ha hw
    have c := rd_ok hok
    rw [rdF_y c] at hok
    rw [rdF_y c, rt_y c, cr_d 7 p w hp, hw a (Nat.le_refl _) (by omega)]
    rw [if_neg (by omega)] at c
    rw [show n - nrP T n 7 p = n - (nrP T n 7 p + 1) + 1 by omega, crF_s, if_pos c.2.2]
    exact ih (a + 1) (nrP T n 7 p + 1) _ (by omega) hok (by omega) (fun j h1 h2 => by rw [us_ne (by omega)]; exact hw j (by omega) h2)
theorem rt_j : ∀ (m a p : Nat) (w w' : Nat → Int) (j : Nat), (rdF T n m p).1 = true → (a ≤ j ∨ w j = w' j) → j < a + m → rtF T n m a p w j = rtF T n m a p w' j := by
  intro m
  induction m with
  | zero => intro a p w w' j _ h hj; exact h.elim (fun h => by omega) id
  | succ m ih =>
    intro a p w w' j hok h hj
    have c := rd_ok hok
    rw [rdF_y c] at hok
    rw [rt_y c, rt_y c]
    refine ih (a + 1) _ _ _ j hok ?_ (by omega)
    by_cases e : j = a
    · right; rw [us_at e, us_at e]
    · rcases h with h | h
      · left; omega
      · right; rw [us_ne e, us_ne e]; exact h
theorem numZ_v {c : Int} (h : numZ c ≠ 0) : (c = 108 ∧ numZ c = 3) ∨ (c = 116 ∧ numZ c = 2) ∨ ((c = 107 ∨ c = 97) ∧ numZ c = 1) := by
  unfold numZ at *
  by_cases e1 : c = 108
  · exact Or.inl ⟨e1, by rw [if_pos e1]⟩
  · rw [if_neg e1] at h ⊢
    by_cases e2 : c = 116
    · exact Or.inr (Or.inl ⟨e2, by rw [if_pos e2]⟩)
    · rw [if_neg e2] at h ⊢
      by_cases e3 : c = 107 ∨ c = 97
      · exact Or.inr (Or.inr ⟨e3, by rw [if_pos e3]⟩)
      · rw [if_neg e3] at h; exact absurd rfl h
theorem ff_cmd {p : Nat} (hp : p < n) (h : ffF T (n - p) p 0 0 = -2000000000) : numZ (T p) ≠ 0 ∧ (rdF T n (numZ (T p)).toNat (p + 1)).1 = true ∧ ffF T (n - (rdF T n (numZ (T p)).toNat (p + 1)).2) (rdF T n (numZ (T p)).toNat (p + 1)).2 0 0 = -2000000000 := by
  rw [show n - p = n - (p + 1) + 1 by omega, ffF_s, if_pos rfl] at h
  by_cases z : numZ (T p) = 0
  · rw [if_pos z] at h; omega
  · rw [if_neg z] at h
    have hz := numZ_b (T p)
    have g := rd_ff (T := T) (n := n) (numZ (T p)).toNat (p + 1) (by omega)
    rw [show (((numZ (T p)).toNat : Nat) : Int) = numZ (T p) by omega] at g
    rw [g] at h
    by_cases o : (rdF T n (numZ (T p)).toNat (p + 1)).1 = true
    · rw [if_pos o] at h; exact ⟨z, o, h⟩
    · rw [if_neg o] at h; omega
theorem cr_mr : ∀ (f p : Nat) (l : Int) (a : Nat) (wc wm S : Nat → Int) (k : Int), p ≤ n → n - p ≤ f → ffF T (n - p) p 0 0 = -2000000000 → crF T (n - p) p l a wc S k = mrF T n f p wm S k := by
  intro f
  induction f with
  | zero =>
    intro p l a wc wm S k hp hf _
    rw [show n - p = 0 by omega]
    rfl
  | succ f ih =>
    intro p l a wc wm S k hp hf h
    rw [mrF]
    by_cases e : p < n
    · rw [if_pos e]
      obtain ⟨hz, hok, hnx⟩ := ff_cmd e h
      have hv := numZ_v hz
      have hb := rdF_b (T := T) (n := n) (numZ (T p)).toNat (p + 1) (by omega)
      rw [show n - p = n - (p + 1) + 1 by omega, crF_s, if_neg (by omega), if_neg (by omega), if_neg (by omega)]
      obtain ⟨m, hm⟩ : ∃ m, (numZ (T p)).toNat = m + 1 := ⟨(numZ (T p)).toNat - 1, by omega⟩
      rw [hm] at hok hnx hb ⊢
      obtain ⟨a', ha'⟩ := cr_e (T := T) (n := n) (l := T p) (k := k) (S := S) m 0 (p + 1) (us (us (us wc 0 0) 1 0) 2 0) (by omega) hok (by omega) (fun j _ hj => by
        rcases (show j = 0 ∨ j = 1 ∨ j = 2 by omega) with q | q | q
        · rw [us_ne (by omega), us_ne (by omega), us_at q]
        · rw [us_ne (by omega), us_at q]
        · rw [us_at q])
      rw [ha']
      have e0 := rt_j (T := T) (n := n) (m + 1) 0 (p + 1) (us (us (us wc 0 0) 1 0) 2 0) wm 0 hok (Or.inl (Nat.zero_le _)) (by omega)
      have ec := ex_c (S := S) (l := T p) (a := rtF T n (m + 1) 0 (p + 1) wm 0) (b := rtF T n (m + 1) 0 (p + 1) (us (us (us wc 0 0) 1 0) 2 0) 1) (c := rtF T n (m + 1) 0 (p + 1) (us (us (us wc 0 0) 1 0) 2 0) 2) (b' := rtF T n (m + 1) 0 (p + 1) wm 1) (c' := rtF T n (m + 1) 0 (p + 1) wm 2)
        (fun q => rt_j (m + 1) 0 (p + 1) _ _ 1 hok (Or.inl (Nat.zero_le _)) (by omega)) (fun q => rt_j (m + 1) 0 (p + 1) _ _ 2 hok (Or.inl (Nat.zero_le _)) (by omega))
      rw [e0, ec.1, ec.2]
      exact ih _ _ _ _ _ _ _ hb.2 (by omega) hnx
    · rw [if_neg e, show n - p = 0 by omega]
      rfl
end TY
def pwZ (g : Int) : Int := if g ≤ 0 then 1 else if g = 1 then 10 else if g = 2 then 100 else if g = 3 then 1000 else if g = 4 then 10000 else if g = 5 then 100000 else if g = 6 then 1000000 else 10000000
theorem pw_s {g : Int} (h : 0 ≤ g ∧ g ≤ 6) : 10 * pwZ g = pwZ (g + 1) ∧ pwZ (g + 1) ≤ 10000000 := by
  rcases (show g = 0 ∨ g = 1 ∨ g = 2 ∨ g = 3 ∨ g = 4 ∨ g = 5 ∨ g = 6 by omega) with e | e | e | e | e | e | e <;> subst e <;> decide
def bdI (T : Nat → Int) (n i a : Nat) (w : Nat → Int) (d g : Int) : Prop := ffF T (n - i) i d g = -2000000000 ∧ (0 ≤ d ∧ 0 ≤ g ∧ g ≤ 7 ∧ (a : Int) + d ≤ 3 ∧ (d = 0 → g = 0)) ∧ (∀ j, j < 3 → 0 ≤ w j ∧ w j ≤ 9999999) ∧ (1 ≤ d → w a < pwZ g ∧ ∀ j, a < j → j < 3 → w j = 0)
section BD
variable {T : Nat → Int} {n i a : Nat} {w : Nat → Int} {d g : Int}
theorem bd_ff (h : bdI T n i a w d g) (hi : i < n) : (if d = 0 then (if numZ (T i) = 0 then (i : Int) else ffF T (n - (i + 1)) (i + 1) (numZ (T i)) g) else if 48 ≤ T i ∧ T i ≤ 57 then (if 7 < g + 1 then (i : Int) else ffF T (n - (i + 1)) (i + 1) d (g + 1)) else if g = 0 ∨ ¬ ((1 < d ∧ T i = 44) ∨ (d ≤ 1 ∧ T i = 59)) then (i : Int) else ffF T (n - (i + 1)) (i + 1) (d + (-1)) 0) = -2000000000 := by
  have := h.1
  rw [show n - i = n - (i + 1) + 1 by omega, ffF_s] at this
  exact this
theorem bd_1 (h : bdI T n i a w d g) (hi : i < n) (hc : T i = 44) : bdI T n (i + 1) (a + 1) w (d + (-1)) 0 := by
  have e := bd_ff h hi
  obtain ⟨h1, h2, h3, h4⟩ := h
  have nz : numZ (T i) = 0 := by rw [hc]; decide
  by_cases d0 : d = 0
  · rw [if_pos d0, if_pos nz] at e; omega
  · rw [if_neg d0, if_neg (by omega)] at e
    by_cases s : g = 0 ∨ ¬ ((1 < d ∧ T i = 44) ∨ (d ≤ 1 ∧ T i = 59))
    · rw [if_pos s] at e; omega
    · rw [if_neg s] at e
      refine ⟨e, ⟨by omega, by omega, by omega, by omega, fun _ => rfl⟩, h3, fun _ => ⟨?_, fun j hj hj3 => (h4 (by omega)).2 j (by omega) hj3⟩⟩
      rw [(h4 (by omega)).2 (a + 1) (by omega) (by omega)]
      decide
theorem bd_2 (h : bdI T n i a w d g) (hi : i < n) (hc : 48 ≤ T i ∧ T i ≤ 57) : a < 3 ∧ bdI T n (i + 1) a (us w a (10 * w a + (T i - 48))) d (g + 1) := by
  have e := bd_ff h hi
  obtain ⟨h1, h2, h3, h4⟩ := h
  have nz : numZ (T i) = 0 := by unfold numZ; rw [if_neg (by omega), if_neg (by omega), if_neg (by omega)]
  by_cases d0 : d = 0
  · rw [if_pos d0, if_pos nz] at e; omega
  · rw [if_neg d0, if_pos hc] at e
    by_cases s : 7 < g + 1
    · rw [if_pos s] at e; omega
    · rw [if_neg s] at e
      have p := pw_s (g := g) (by omega)
      have q := h4 (by omega)
      have r := h3 a (by omega)
      refine ⟨by omega, e, ⟨by omega, by omega, by omega, by omega, fun q => absurd q d0⟩, fun j hj => ?_, fun _ => ⟨?_, fun j hj hj3 => ?_⟩⟩
      · by_cases ej : j = a
        · rw [us_at ej]; omega
        · rw [us_ne ej]; exact h3 j hj
      · rw [us_at rfl]; omega
      · rw [us_ne (by omega)]; exact q.2 j hj hj3
theorem bd_3 (h : bdI T n i a w d g) (hi : i < n) (hc : T i = 59) : bdI T n (i + 1) a w 0 0 := by
  have e := bd_ff h hi
  obtain ⟨h1, h2, h3, h4⟩ := h
  have nz : numZ (T i) = 0 := by rw [hc]; decide
  by_cases d0 : d = 0
  · rw [if_pos d0, if_pos nz] at e; omega
  · rw [if_neg d0, if_neg (by omega)] at e
    by_cases s : g = 0 ∨ ¬ ((1 < d ∧ T i = 44) ∨ (d ≤ 1 ∧ T i = 59))
    · rw [if_pos s] at e; omega
    · rw [if_neg s, show d + (-1) = 0 by omega] at e
      exact ⟨e, ⟨by omega, by omega, by omega, by omega, fun _ => rfl⟩, h3, fun q => by omega⟩
theorem bd_4 (h : bdI T n i a w d g) (hi : i < n) (h44 : T i ≠ 44) (hd : ¬ (48 ≤ T i ∧ T i ≤ 57)) (h59 : T i ≠ 59) : bdI T n (i + 1) 0 (us (us (us w 0 0) 1 0) 2 0) (numZ (T i)) 0 := by
  have e := bd_ff h hi
  have hz := numZ_b (T i)
  obtain ⟨h1, h2, h3, h4⟩ := h
  by_cases d0 : d = 0
  · rw [if_pos d0] at e
    by_cases z : numZ (T i) = 0
    · rw [if_pos z] at e; omega
    · rw [if_neg z, h2.2.2.2.2 d0] at e
      have w0 : ∀ j, j < 3 → us (us (us w 0 0) 1 0) 2 0 j = 0 := fun j hj => by
        rcases (show j = 0 ∨ j = 1 ∨ j = 2 by omega) with q | q | q
        · rw [us_ne (by omega), us_ne (by omega), us_at q]
        · rw [us_ne (by omega), us_at q]
        · rw [us_at q]
      refine ⟨e, ⟨by omega, by omega, by omega, by omega, fun _ => rfl⟩, fun j hj => by rw [w0 j hj]; exact ⟨by decide, by decide⟩, fun _ => ⟨?_, fun j _ hj => w0 j hj⟩⟩
      rw [w0 0 (by decide)]; decide
  · rw [if_neg d0, if_neg hd, if_pos (Or.inr (by omega))] at e
    omega
end BD
