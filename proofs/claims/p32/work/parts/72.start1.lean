abbrev nwL : List Cond := flatC (Jvm.Cond.and given_1 narrow_1)
set_option maxRecDepth 100000
theorem w_nm : ∀ q ∈ gNM, Cond.methodLinkNest q.1 q.2.1 q.2.2.1 q.2.2.2 ∈ lw_tbl := by decide +kernel
theorem w_nf : ∀ q ∈ gNF, Cond.fieldLinkNest q.1 q.2.1 q.2.2.1 q.2.2.2.1 q.2.2.2.2.1 q.2.2.2.2.2 ∈ lw_tbl := by decide +kernel
theorem w_ca : ∀ q ∈ gCast, Cond.castable q.1 q.2 ∈ lw_tbl := by decide +kernel
theorem w_ao : ∀ q ∈ gAO, Cond.arrayOver (.object q) ∈ lw_tbl := by decide +kernel
theorem w_de : ∀ q ∈ gDecl, Cond.declares q ∈ lw_tbl := by decide +kernel
theorem w_st : ∀ q ∈ gStr, Cond.stringRef q.1 q.2.1 q.2.2 ∈ lw_tbl := by decide +kernel
theorem n_st : ∀ q ∈ gStr, Cond.exactly (.string q.1 q.2.1) "java/lang/String" ∈ nwL := by decide +kernel
theorem n_nc : ∀ q ∈ gNCast, Cond.not (.castable q.1 q.2) ∈ nwL := by decide +kernel
abbrev tLe : Term := .static "ShaftPlumb" "LEAST_SETTINGS" "[I"
abbrev tGr : Term := .static "ShaftPlumb" "GREATEST_SETTINGS" "[I"
theorem n_le : Cond.arrayOf tLe .int ∈ nwL ∧ Cond.eq (.length tLe) (.int (Int32.ofNat 3)) ∈ nwL ∧ ∀ j ∈ [0, 1, 2], Cond.eq (.elem tLe (.int (Int32.ofNat j))) (.int (gLeast j)) ∈ nwL := by decide +kernel
theorem n_gr : Cond.arrayOf tGr .int ∈ nwL ∧ Cond.eq (.length tGr) (.int (Int32.ofNat 3)) ∈ nwL ∧ ∀ j ∈ [0, 1, 2], Cond.eq (.elem tGr (.int (Int32.ofNat j))) (.int (gGreat j)) ∈ nwL := by decide +kernel
theorem n_th : Cond.isRef (.static Bundle.tN "UNASSIGNED_STACK" Bundle.steD) ∈ nwL ∧ Cond.isRef (.static Bundle.tN "SUPPRESSED_SENTINEL" Bundle.listD) ∈ nwL := by decide +kernel
theorem w_ls : Cond.laysStatic "ShaftPlumb" "LEAST_SETTINGS" "[I" ∈ lw_tbl ∧ Cond.laysStatic "ShaftPlumb" "GREATEST_SETTINGS" "[I" ∈ lw_tbl ∧ Cond.initialized "ShaftPlumb" ∈ lw_tbl := by decide +kernel
theorem w_th : Cond.laysStatic Bundle.tN "UNASSIGNED_STACK" Bundle.steD ∈ lw_tbl ∧ Cond.laysStatic Bundle.tN "SUPPRESSED_SENTINEL" Bundle.listD ∈ lw_tbl ∧ Cond.initialized Bundle.tN ∈ lw_tbl := by decide +kernel
theorem va_Xof {args : Array Value} {s : State} {tm : Term} {N : Nat} {f : Nat → Int32} (hN : N < 2 ^ 31) (harr : (Cond.arrayOf tm .int).before args s = true) (hlen : (Cond.eq (.length tm) (.int (Int32.ofNat N))).before args s = true) (hel : ∀ j : Nat, j < N → (Cond.eq (.elem tm (.int (Int32.ofNat j))) (.int (f j))).before args s = true) : ∃ t : Nat, tm.eval args s none [] s = some (.ref t) ∧ va_X t N f s s.heap ∧ t < s.heap.size := by
  have hl := va_eqt hlen
  obtain ⟨t, cell, ht, hat, hv⟩ := Term.length_spec hl
  have hsz : cell.slots.size < 2 ^ 31 := by
    have hl2 := hl
    simp only [Term.eval, ht, hat, Option.bind_eq_bind, Option.bind_some] at hl2
    by_cases hlt : cell.slots.size < 2147483648
    · exact hlt
    · simp [hlt] at hl2
  obtain ⟨t', ht', hT⟩ := va_Tof (f := fun j => .int (f j)) (A := fun q => s.heap.size ≤ q) hN harr hl (fun j hj => va_eqt (hel j hj)) (fun a h => Nat.not_le.mpr h)
  cases ht.symm.trans ht'
  obtain ⟨cell2, h1, h2, h3, h4, h5, h6, h7⟩ := hT
  cases h1.symm.trans (State.arrayAt?_spec hat).1
  have e5 := congrArg Int32.toInt h5
  rw [show cell.slots.size.toInt32 = Int32.ofNat cell.slots.size from rfl, Int32.toInt_ofNat_small hsz, Int32.toInt_ofNat_small hN] at e5
  exact ⟨t, ht, ⟨cell, h1, h2, h3, by omega, h6⟩, Nat.not_le.mp h7⟩
theorem ty_prim {args : Array Value} {s : State} {ty : FieldType} (h : (Cond.arrayClass ty).before args s = true) : ∃ c : ClassId, ArrOfT s c ty ∧ s.vm.findClass ("[" ++ ty.toString) = some c := by
  obtain ⟨c, k, comp, h1, h2, h3⟩ := Cond.arrayClass_spec h
  exact ⟨c, fun n z => ⟨fun k h => (by cases h), k, h2, comp, h3⟩, h1⟩
theorem ty_obj {args : Array Value} {s : State} {C : String} (h : (Cond.arrayOver (.object C)).before args s = true) : ∃ c : ClassId, ArrOfT s c (.object C) ∧ va_RA s c (.object C) := by
  obtain ⟨comp, c, k, h1, h2, h3, h4, h5⟩ := Cond.arrayOver_spec h
  exact ⟨c, fun n z => ⟨fun k h => (by cases h), k, h3, comp, h4⟩, k, comp, h3, h4, h1, h5⟩
theorem cl_kn {args : Array Value} {s : State} (hga : ∀ w ∈ GA, w.before args s = true) : ∃ D : va_G, ∀ (c : Nat) (q : vw_C), vwCl[c]? = some q → u_Kn s q.1 q.2.1 q.2.2 (D.1 c) (D.2 c) := by
  have h1 : ∀ (c : Nat) (q : vw_C), vwCl[c]? = some q → ∃ (cC : ClassId) (iS : Nat → Nat), u_Kn s q.1 q.2.1 q.2.2 cC iS := by
    intro c q hq
    match c, hq with
    | 0, hq => cases hq; exact u_known hga fX0 (hga _ mX0)
    | 1, hq => cases hq; exact u_known hga fX1 (hga _ mX1)
    | 2, hq => cases hq; exact u_known hga fX2 (hga _ mX2)
    | 3, hq => cases hq; exact u_known hga fX4 (hga _ mX4)
    | 4, hq => cases hq; exact u_known hga fX5 (hga _ mX5)
    | 5, hq => cases hq; exact u_known hga fX6 (hga _ mX6)
    | 6, hq => cases hq; exact u_known hga fX7 (hga _ mX7)
    | k + 7, hq => simp at hq
  have h2 : ∀ c : Nat, ∃ p : ClassId × (Nat → Nat), ∀ q : vw_C, vwCl[c]? = some q → u_Kn s q.1 q.2.1 q.2.2 p.1 p.2 := by
    intro c
    cases hc : vwCl[c]? with
    | none => exact ⟨(0, fun _ => 0), fun q hq => by cases hq⟩
    | some q0 =>
      obtain ⟨a, b, hab⟩ := h1 c q0 hc
      exact ⟨(a, b), fun q hq => by cases hq; exact hab⟩
  exact ⟨(fun c => (Classical.choose (h2 c)).1, fun c => (Classical.choose (h2 c)).2), fun c q hq => Classical.choose_spec (h2 c) q hq⟩
theorem ty_kn {args : Array Value} {s : State} (hga : ∀ w ∈ GA, w.before args s = true) (hao : ∀ q ∈ gAO, (Cond.arrayOver (.object q)).before args s = true) : ∃ tyc : Nat → ClassId, ∀ (k : Nat) (q : ClassId × FieldType), (gT tyc)[k]? = some q → ArrOfT s q.1 q.2 ∧ va_RA s q.1 q.2 := by
  obtain ⟨t0, a0, b0⟩ := ty_prim (hga _ a_int)
  obtain ⟨t1, a1, b1⟩ := ty_prim (hga _ a_byte)
  obtain ⟨t2, a2, b2⟩ := ty_prim (hga _ a_char)
  obtain ⟨t3, a3, b3⟩ := ty_obj (hao "ShaftPlumb$Wire" (by decide))
  obtain ⟨t4, a4, b4⟩ := ty_obj (hao "ShaftPlumb$Join" (by decide))
  obtain ⟨t5, a5, b5⟩ := ty_obj (hao "ShaftPlumb$Traverse" (by decide))
  obtain ⟨t6, a6, b6⟩ := ty_obj (hao "ShaftPlumb$Mine" (by decide))
  refine ⟨fun k => match k with | 0 => t0 | 1 => t1 | 2 => t2 | 3 => t3 | 4 => t4 | 5 => t5 | _ => t6, fun k q hq => ?_⟩
  match k, hq with
  | 0, hq => cases hq; exact ⟨a0, b0⟩
  | 1, hq => cases hq; exact ⟨a1, b1⟩
  | 2, hq => cases hq; exact ⟨a2, b2⟩
  | 3, hq => cases hq; exact ⟨a3, b3⟩
  | 4, hq => cases hq; exact ⟨a4, b4⟩
  | 5, hq => cases hq; exact ⟨a5, b5⟩
  | 6, hq => cases hq; exact ⟨a6, b6⟩
  | k + 7, hq => simp [gT] at hq
theorem ro_kn {args : Array Value} {s : State} {D : va_G} {tyc : Nat → ClassId} (hts : ∀ w ∈ lw_tbl, w.before args s = true) (hnw : ∀ w ∈ nwL, w.before args s = true) {b L : Nat} {xs : Nat → Int32} (hX : va_X b L xs s s.heap) (hbl : b < s.heap.size) (hL : L ≤ 260) : ∃ aL aG : Nat, gRO (s.heap.size, D, tyc, aL, aG, b, L, xs) s := by
  have hA : ∀ a : Nat, a < s.heap.size → ¬ s.heap.size ≤ a := fun a h => Nat.not_le.mpr h
  obtain ⟨aL, eL, xL, lL⟩ := va_Xof (f := gLeast) (N := 3) (by decide) (hnw _ n_le.1) (hnw _ n_le.2.1) (fun j hj => hnw _ (n_le.2.2 j (by simp; omega)))
  obtain ⟨aG, eG, xG, lG⟩ := va_Xof (f := gGreat) (N := 3) (by decide) (hnw _ n_gr.1) (hnw _ n_gr.2.1) (fun j hj => hnw _ (n_gr.2.2 j (by simp; omega)))
  refine ⟨aL, aG, ⟨vx_Zqof (hts _ w_th.1) (hts _ w_th.2.2) (hnw _ n_th.1) hA, vx_Zqof (hts _ w_th.2.1) (hts _ w_th.2.2) (hnw _ n_th.2) hA⟩, ⟨va_Zref (hts _ w_ls.1) (hts _ w_ls.2.2) eL hA, xL, lL, hX, hbl, hL⟩, ⟨va_Zref (hts _ w_ls.2.1) (hts _ w_ls.2.2) eG hA, xG, lG⟩, fun q hq => ?_, fun q hq => va_Nw.of rfl (hts _ (w_nm q hq)), fun q hq => va_Nw.of rfl (hts _ (w_nf q hq)), fun q hq => va_Nw.of rfl (hts _ (w_ca q hq)), fun q hq => va_Nc.of (hnw _ (n_nc q hq)), fun q hq => va_AO.of (hts _ (w_ao q hq)), fun q hq => va_Nw.of rfl (hts _ (w_de q hq))⟩
  obtain ⟨a, c, cA, kA, q1, -⟩ := Cond.exactly_spec (args := args) (first := s) (o := none) (s := s) (idx := []) (hnw _ (n_st q hq))
  exact ⟨a, vk_R.of (hts _ (w_st q hq)) q1⟩
