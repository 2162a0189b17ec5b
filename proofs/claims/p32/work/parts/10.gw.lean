/-! GW: walks over whole numbers. A value is a whole number (int or long), a place of the world or null, or an address; the world is n cells at G.1, G.1 + 1 ..; what they hold: R (places), I (ints), J (longs). -/
abbrev GV : Type := Int ⊕ (Int ⊕ (Option Nat ⊕ Nat))
abbrev vI (n : Int) : GV := .inl n
abbrev vL (n : Int) : GV := .inr (.inl n)
abbrev vO (r : Option Nat) : GV := .inr (.inr (.inl r))
abbrev vR (k : Nat) : GV := .inr (.inr (.inl (some k)))
abbrev vN : GV := .inr (.inr (.inl none))
abbrev vA (a : Nat) : GV := .inr (.inr (.inr a))
def cv (base : Nat) : GV → Value
  | .inl n => .int (Int32.ofInt n)
  | .inr (.inl n) => .long (Int64.ofInt n)
  | .inr (.inr (.inl r)) => va_rf (r.map (fun k => base + k))
  | .inr (.inr (.inr a)) => .ref a
abbrev GSh : Type := Nat → Nat ⊕ (Nat × Nat)
abbrev GR : Type := Nat → Nat → Option Nat
abbrev GI : Type := Nat → Nat → Int
/-- base, classes, array classes, addresses of the two static rows, the script: its address, length and ints -/
abbrev GG : Type := Nat × va_G × (Nat → ClassId) × Nat × Nat × Nat × Nat × (Nat → Int32)
def gF (base : Nat) (k : Nat) (r : Option Nat) (i j : Int) : Value := match k with
  | 0 => .int (Int32.ofInt i)
  | 1 => .long (Int64.ofInt j)
  | _ => va_rf (r.map (fun q => base + q))
def gA (base t : Nat) (R : Nat → Option Nat) (I J : Nat → Int) : (Nat → Int32) ⊕ (Nat → Int64) ⊕ (Nat → UInt32) ⊕ (Nat → UInt64) ⊕ (Nat → Option Nat) := match t with
  | 0 => .inl (fun j => Int32.ofInt (I j))
  | 1 => .inr (.inl (fun j => Int64.ofInt (J j)))
  | 2 => .inl (fun j => Int32.ofInt (I j))
  | _ => .inr (.inr (.inr (.inr (fun j => (R j).map (fun q => base + q)))))
def gE (base : Nat) (tyc : Nat → ClassId) (sh : Nat ⊕ (Nat × Nat)) (R : Nat → Option Nat) (I J : Nat → Int) : va_E := match sh with
  | .inl ci => .inr (ci, (List.range (gN ci)).map (fun j => gF base (gK ci j) (R j) (I j) (J j)))
  | .inr (t, len) => .inl (tyc t, len, gA base t R I J)
def gW (G : GG) (n : Nat) (sh : GSh) (R : GR) (I J : GI) : va_W := (List.range n).map (fun k => (G.1 + k, gE G.1 G.2.2.1 (sh k) (R k) (I k) (J k)))
def gT (tyc : Nat → ClassId) : List (ClassId × FieldType) := [(tyc 0, .int), (tyc 1, .byte), (tyc 2, .char), (tyc 3, .object "ShaftPlumb$Wire"), (tyc 4, .object "ShaftPlumb$Join"), (tyc 5, .object "ShaftPlumb$Traverse"), (tyc 6, .object "ShaftPlumb$Mine")]
def up (I : GI) (k j : Nat) (x : Int) : GI := fun a b => if a = k then (if b = j then x else I a b) else I a b
def upR (R : GR) (k j : Nat) (x : Option Nat) : GR := fun a b => if a = k then (if b = j then x else R a b) else R a b
def upS (sh : GSh) (k : Nat) (x : Nat ⊕ (Nat × Nat)) : GSh := fun a => if a = k then x else sh a
abbrev ge (G : GG) : Nat → Prop := fun q => G.1 ≤ q
theorem gW_get {G : GG} {n : Nat} {sh : GSh} {R : GR} {I J : GI} {k : Nat} (h : k < n) : (gW G n sh R I J)[k]? = some (G.1 + k, gE G.1 G.2.2.1 (sh k) (R k) (I k) (J k)) := by
  unfold gW
  rw [List.getElem?_map, List.getElem?_range h]; rfl
theorem gW_some {G : GG} {n : Nat} {sh : GSh} {R : GR} {I J : GI} {k : Nat} {q : Nat × va_E} (h : (gW G n sh R I J)[k]? = some q) : k < n ∧ q = (G.1 + k, gE G.1 G.2.2.1 (sh k) (R k) (I k) (J k)) := by
  have hk : k < n := by
    have h1 := (List.getElem?_eq_some_iff.mp h).1
    unfold gW at h1
    rw [List.length_map, List.length_range] at h1
    exact h1
  rw [gW_get hk] at h
  exact ⟨hk, (Option.some.inj h).symm⟩
theorem gW_len {G : GG} {n : Nat} {sh : GSh} {R : GR} {I J : GI} : (gW G n sh R I J).length = n := by
  unfold gW
  rw [List.length_map, List.length_range]
theorem gW_D {G : GG} {n : Nat} {sh : GSh} {R : GR} {I J : GI} : va_D (ge G) (gW G n sh R I J) := by
  refine ⟨fun i j p q hi hj h => ?_, fun k q h => ?_⟩
  · obtain ⟨-, rfl⟩ := gW_some hi
    obtain ⟨-, rfl⟩ := gW_some hj
    exact Nat.add_left_cancel h
  · obtain ⟨-, rfl⟩ := gW_some h
    exact Nat.le_add_right _ _
/-- the world with one cell exchanged -/
theorem gW_set {G : GG} {n : Nat} {sh : GSh} {R R' : GR} {I I' J J' : GI} {k : Nat} {e : va_E} (he : e = gE G.1 G.2.2.1 (sh k) (R' k) (I' k) (J' k)) (hR : ∀ a, a ≠ k → R' a = R a) (hI : ∀ a, a ≠ k → I' a = I a) (hJ : ∀ a, a ≠ k → J' a = J a) :
    (gW G n sh R I J).set k (G.1 + k, e) = gW G n sh R' I' J' := by
  apply List.ext_getElem?
  intro j
  by_cases hn : j < n
  · rw [gW_get hn, List.getElem?_set]
    by_cases hj : k = j
    · subst hj
      rw [if_pos rfl, gW_len, if_pos hn, he]
    · rw [if_neg hj, gW_get hn, hR j (fun q => hj q.symm), hI j (fun q => hj q.symm), hJ j (fun q => hj q.symm)]
  · rw [List.getElem?_eq_none (by rw [List.length_set, gW_len]; omega), List.getElem?_eq_none (by rw [gW_len]; omega)]
theorem up_ne {I : GI} {k j : Nat} {x : Int} {a : Nat} (h : a ≠ k) : up I k j x a = I a := by
  funext b
  unfold up
  rw [if_neg h]
theorem up_ne2 {I : GI} {k j : Nat} {x : Int} {a b : Nat} (h : b ≠ j) : up I k j x a b = I a b := by
  unfold up
  rw [if_neg h, ite_self]
theorem up_eq {I : GI} {k j : Nat} {x : Int} : up I k j x k j = x := by
  unfold up
  rw [if_pos rfl, if_pos rfl]
theorem upR_ne {I : GR} {k j : Nat} {x : Option Nat} {a : Nat} (h : a ≠ k) : upR I k j x a = I a := by
  funext b
  unfold upR
  rw [if_neg h]
theorem upR_ne2 {I : GR} {k j : Nat} {x : Option Nat} {a b : Nat} (h : b ≠ j) : upR I k j x a b = I a b := by
  unfold upR
  rw [if_neg h, ite_self]
theorem upR_eq {I : GR} {k j : Nat} {x : Option Nat} : upR I k j x k j = x := by
  unfold upR
  rw [if_pos rfl, if_pos rfl]
theorem rg_set {α : Type} (f g : Nat → α) (N k : Nat) (v : α) (hk : g k = v) (ho : ∀ j, j ≠ k → g j = f j) : ((List.range N).map f).set k v = (List.range N).map g := by
  apply List.ext_getElem?
  intro j
  by_cases hn : j < N
  · rw [List.getElem?_set]
    by_cases hj : k = j
    · subst hj
      rw [if_pos rfl, List.length_map, List.length_range, if_pos hn, List.getElem?_map, List.getElem?_range hn, ← hk]; rfl
    · rw [if_neg hj, List.getElem?_map, List.getElem?_map, List.getElem?_range hn]
      show some (f j) = some (g j)
      rw [ho j (fun q => hj q.symm)]
  · rw [List.getElem?_eq_none (by rw [List.length_set, List.length_map, List.length_range]; omega), List.getElem?_eq_none (by rw [List.length_map, List.length_range]; omega)]
theorem rg_get {α : Type} (f : Nat → α) {N k : Nat} (hk : k < N) : ((List.range N).map f)[k]? = some (f k) := by
  rw [List.getElem?_map, List.getElem?_range hk]; rfl
-- the locals
def gL (G : GG) (ls : Array Slot) (nL : Nat) (lo : List (Option GV)) : Prop := ls.size = nL ∧ lv_wf ls ∧ ∀ (i : Nat) (v : GV), lo[i]? = some (some v) → ls[i]? = some (.val (cv G.1 v))
def gLong : Option (Option GV) → Bool
  | some (some (.inr (.inl _))) => true
  | _ => false
def gSet (lo : List (Option GV)) (i : Nat) (v : GV) : List (Option GV) := match i with
  | 0 => lo.set 0 (some v)
  | j + 1 => if gLong lo[j]? then (lo.set j none).set (j + 1) (some v) else lo.set (j + 1) (some v)
def gSet2 (lo : List (Option GV)) (i : Nat) (v : GV) : List (Option GV) := (gSet lo i v).set (i + 1) none
theorem cv_cat (b : Nat) (v : GV) : (cv b v).category = if gLong (some (some v)) then 2 else 1 := by
  rcases v with n | n | r | a
  · rfl
  · rfl
  · cases r <;> rfl
  · rfl
def gPairs (b : Nat) (lo : List (Option GV)) : List (Nat × Value) := (List.range lo.length).filterMap (fun i => match lo[i]? with
  | some (some v) => some (i, cv b v)
  | _ => none)
theorem gPairs_in {b : Nat} {lo : List (Option GV)} {i : Nat} {v : GV} (h : lo[i]? = some (some v)) : (i, cv b v) ∈ gPairs b lo := by
  unfold gPairs
  refine List.mem_filterMap.mpr ⟨i, List.mem_range.mpr (List.getElem?_eq_some_iff.mp h).1, ?_⟩
  rw [h]
theorem gL_has {G : GG} {ls : Array Slot} {nL : Nat} {lo : List (Option GV)} (h : gL G ls nL lo) : lv_has ls nL (gPairs G.1 lo) := by
  refine ⟨h.1, h.2.1, fun q hq => ?_⟩
  unfold gPairs at hq
  obtain ⟨i, -, hi⟩ := List.mem_filterMap.mp hq
  split at hi
  · rename_i v hv
    cases hi
    exact h.2.2 i v hv
  · cases hi
theorem gL_store1 {G : GG} {ls : Array Slot} {nL : Nat} {lo : List (Option GV)} {i : Nat} {v : GV} (h : gL G ls nL lo) (hi : i < nL) (hc : gLong (some (some v)) = false) :
    ∃ ls', storeLocals ls i (cv G.1 v) = some ls' ∧ gL G ls' nL (gSet lo i v) := by
  have hc1 : (cv G.1 v).category = 1 := by rw [cv_cat, hc]; rfl
  obtain ⟨ls', e, h1, h2, h3⟩ := lv_store1 (gL_has h) hi hc1
  refine ⟨ls', e, h1, h2, fun j w hj => ?_⟩
  have key : j = i ∧ w = v ∨ (j ≠ i ∧ lo[j]? = some (some w) ∧ ¬ (j + 1 = i ∧ gLong (some (some w)) = true)) := by
    cases i with
    | zero =>
      unfold gSet at hj
      rw [List.getElem?_set] at hj
      by_cases hz : 0 = j
      · rw [if_pos hz] at hj
        split at hj
        · exact Or.inl ⟨hz.symm, (Option.some.inj (Option.some.inj hj)).symm⟩
        · cases hj
      · rw [if_neg hz] at hj
        exact Or.inr ⟨fun q => hz q.symm, hj, fun q => absurd q.1 (Nat.succ_ne_zero j)⟩
    | succ i =>
      rw [show gSet lo (i + 1) v = if gLong lo[i]? then (lo.set i none).set (i + 1) (some v) else lo.set (i + 1) (some v) from rfl] at hj
      by_cases hl : gLong lo[i]? = true
      · rw [if_pos hl, List.getElem?_set] at hj
        by_cases hz : i + 1 = j
        · rw [if_pos hz] at hj
          split at hj
          · exact Or.inl ⟨hz.symm, (Option.some.inj (Option.some.inj hj)).symm⟩
          · cases hj
        · rw [if_neg hz, List.getElem?_set] at hj
          by_cases hy : i = j
          · rw [if_pos hy] at hj
            split at hj <;> cases hj
          · rw [if_neg hy] at hj
            exact Or.inr ⟨fun q => hz q.symm, hj, fun q => hy (Nat.succ.inj q.1).symm⟩
      · rw [if_neg hl, List.getElem?_set] at hj
        by_cases hz : i + 1 = j
        · rw [if_pos hz] at hj
          split at hj
          · exact Or.inl ⟨hz.symm, (Option.some.inj (Option.some.inj hj)).symm⟩
          · cases hj
        · rw [if_neg hz] at hj
          refine Or.inr ⟨fun q => hz q.symm, hj, fun q => ?_⟩
          have e : j = i := Nat.succ.inj q.1
          subst e
          rw [hj] at hl
          exact hl q.2
  rcases key with ⟨rfl, rfl⟩ | ⟨n1, n2, n3⟩
  · exact h3 (j, cv G.1 w) List.mem_cons_self
  · refine h3 (j, cv G.1 w) (List.mem_cons_of_mem _ (List.mem_filter.mpr ⟨gPairs_in n2, ?_⟩))
    simp only [Bool.and_eq_true, Bool.not_eq_true', beq_eq_false_iff_ne, ne_eq, Bool.and_eq_false_iff]
    refine ⟨n1, ?_⟩
    by_cases hq : j + 1 = i
    · right
      intro hcat
      rw [cv_cat] at hcat
      by_cases hlg : gLong (some (some w)) = true
      · exact n3 ⟨hq, hlg⟩
      · rw [if_neg hlg] at hcat
        cases hcat
    · exact Or.inl hq
theorem gL_store2 {G : GG} {ls : Array Slot} {nL : Nat} {lo : List (Option GV)} {i : Nat} {v : GV} (h : gL G ls nL lo) (hi : i + 1 < nL) (hc : gLong (some (some v)) = true) :
    ∃ ls', storeLocals ls i (cv G.1 v) = some ls' ∧ gL G ls' nL (gSet2 lo i v) := by
  have hc1 : (cv G.1 v).category = 2 := by rw [cv_cat, hc]; rfl
  obtain ⟨ls', e, h1, h2, h3⟩ := lv_store2 (gL_has h) hi hc1
  refine ⟨ls', e, h1, h2, fun j w hj => ?_⟩
  unfold gSet2 at hj
  rw [List.getElem?_set] at hj
  by_cases hy : i + 1 = j
  · rw [if_pos hy] at hj
    split at hj <;> cases hj
  rw [if_neg hy] at hj
  have key : j = i ∧ w = v ∨ (j ≠ i ∧ lo[j]? = some (some w) ∧ ¬ (j + 1 = i ∧ gLong (some (some w)) = true)) := by
    cases i with
    | zero =>
      unfold gSet at hj
      rw [List.getElem?_set] at hj
      by_cases hz : 0 = j
      · rw [if_pos hz] at hj
        split at hj
        · exact Or.inl ⟨hz.symm, (Option.some.inj (Option.some.inj hj)).symm⟩
        · cases hj
      · rw [if_neg hz] at hj
        exact Or.inr ⟨fun q => hz q.symm, hj, fun q => absurd q.1 (Nat.succ_ne_zero j)⟩
    | succ i =>
      rw [show gSet lo (i + 1) v = if gLong lo[i]? then (lo.set i none).set (i + 1) (some v) else lo.set (i + 1) (some v) from rfl] at hj
      by_cases hl : gLong lo[i]? = true
      · rw [if_pos hl, List.getElem?_set] at hj
        by_cases hz : i + 1 = j
        · rw [if_pos hz] at hj
          split at hj
          · exact Or.inl ⟨hz.symm, (Option.some.inj (Option.some.inj hj)).symm⟩
          · cases hj
        · rw [if_neg hz, List.getElem?_set] at hj
          by_cases hy : i = j
          · rw [if_pos hy] at hj
            split at hj <;> cases hj
          · rw [if_neg hy] at hj
            exact Or.inr ⟨fun q => hz q.symm, hj, fun q => hy (Nat.succ.inj q.1).symm⟩
      · rw [if_neg hl, List.getElem?_set] at hj
        by_cases hz : i + 1 = j
        · rw [if_pos hz] at hj
          split at hj
          · exact Or.inl ⟨hz.symm, (Option.some.inj (Option.some.inj hj)).symm⟩
          · cases hj
        · rw [if_neg hz] at hj
          refine Or.inr ⟨fun q => hz q.symm, hj, fun q => ?_⟩
          have e : j = i := Nat.succ.inj q.1
          subst e
          rw [hj] at hl
          exact hl q.2
  rcases key with ⟨rfl, rfl⟩ | ⟨n1, n2, n3⟩
  · exact h3 (j, cv G.1 w) List.mem_cons_self
  · refine h3 (j, cv G.1 w) (List.mem_cons_of_mem _ (List.mem_filter.mpr ⟨gPairs_in n2, ?_⟩))
    simp only [Bool.and_eq_true, Bool.not_eq_true', beq_eq_false_iff_ne, ne_eq, Bool.and_eq_false_iff]
    refine ⟨n1, fun q => hy q.symm, ?_⟩
    by_cases hq : j + 1 = i
    · right
      intro hcat
      rw [cv_cat] at hcat
      by_cases hlg : gLong (some (some w)) = true
      · exact n3 ⟨hq, hlg⟩
      · rw [if_neg hlg] at hcat
        cases hcat
    · exact Or.inl hq
theorem gL_sub {G : GG} {ls : Array Slot} {nL : Nat} {lo lo' : List (Option GV)} (h : gL G ls nL lo) (hs : ∀ (i : Nat) (v : GV), lo'[i]? = some (some v) → lo[i]? = some (some v)) : gL G ls nL lo' := ⟨h.1, h.2.1, fun i v hi => h.2.2 i v (hs i v hi)⟩
