def cdV (k r c1 c2 c3 : Int) : Int := if k = 0 then r else if k = 1 then c1 else if k = 2 then c2 else c3
theorem cdV_0 {k r c1 c2 c3 : Int} (h : k = 0) : cdV k r c1 c2 c3 = r := by unfold cdV; rw [if_pos h]
theorem cdV_1 {k r c1 c2 c3 : Int} (h : k = 1) : cdV k r c1 c2 c3 = c1 := by unfold cdV; rw [if_neg (by omega), if_pos h]
theorem cdV_2 {k r c1 c2 c3 : Int} (h : k = 2) : cdV k r c1 c2 c3 = c2 := by unfold cdV; rw [if_neg (by omega), if_neg (by omega), if_pos h]
theorem cdV_3 {k r c1 c2 c3 : Int} (h : k = 3) : cdV k r c1 c2 c3 = c3 := by unfold cdV; rw [if_neg (by omega), if_neg (by omega), if_neg (by omega)]
def mwQ (k v9 : Int) (I J : GI) (S' : Nat → Int) (D' : Nat → Nat → Int) (c' : Nat) : Option GV → Nat → GI → GI → Prop := fun v _ I' J' => v = some (vI v9) ∧ ((k = 0 → CI I' S' D' c' ∧ frC I I') ∧ (k ≠ 0 → I' = I)) ∧ J' = J
theorem drop_3 {S : Nat → Int} {a : Int} : (rfK S a = 0 → kDrop S a = 0) ∧ (rfK S a = 1 → kDrop S a = 1) ∧ rfK S a ≠ 2 ∧ (rfK S a = 3 → kDrop S a = 2) := by
  unfold rfK kDrop
  by_cases h : 0 ≤ a ∧ a < S 5
  · have h9 : ¬ ¬ (0 ≤ a ∧ a < S 5) := fun q => q h
    rw [if_neg h9, if_neg h9]
    by_cases g : S (103 + 28 * a.toNat) = 0
    · rw [if_pos g, if_pos g]; exact ⟨by decide, by decide, by decide, fun _ => rfl⟩
    · rw [if_neg g, if_neg g]; exact ⟨by decide, by decide, by decide, by decide⟩
  · rw [if_pos h, if_pos h]; exact ⟨by decide, by decide, by decide, by decide⟩
theorem adj_3 {S : Nat → Int} {a : Int} : (rfA S a = 0 → kAdj S a = 0) ∧ (rfA S a = 1 → kAdj S a = 1) ∧ rfA S a ≠ 2 ∧ (rfA S a = 3 → kAdj S a = 2) := by
  unfold rfA kAdj
  by_cases h : 0 ≤ a ∧ a < S 5
  · have h9 : ¬ ¬ (0 ≤ a ∧ a < S 5) := fun q => q h
    rw [if_neg h9, if_neg h9]
    by_cases g : S (104 + 28 * a.toNat) < 0 ∨ sTT S a.toNat ≠ 0
    · rw [if_pos g, if_pos g]; exact ⟨by decide, by decide, by decide, fun _ => rfl⟩
    · rw [if_neg g, if_neg g]; exact ⟨by decide, by decide, by decide, by decide⟩
  · rw [if_pos h, if_pos h]; exact ⟨by decide, by decide, by decide, by decide⟩
set_option maxHeartbeats 4000000 in
set_option maxRecDepth 100000 in
theorem c_L_infoOf {l : Launch} (hl0 : l.stackTraces = false) (G : GG) (I J : GI) {z : Nat} {S : Nat → Int} {D9 : Nat → Nat → Int} {c9 : Nat} (hCI : CI I S D9 c9) (x1 : Int) (hx1 : inI x1) : GM l yL_infoOf (.codeWith yL_infoOf cL_infoOf 3 (some .int) [(0, 5, 6, 15)]) 7 111 1 6 G N0 SH RR [vR 0, vI x1] z I J (memQ (some (vI (cdV (kInfo x1) (rInfo S x1) (-2000002) 0 0))) I J) gNo := by
  refine gm_ofH (lo0 := [some (vR 0), some (vI x1), none]) hl0 (by decide) rfl (Nat.le_of_ble_eq_true rfl) ?_
  intro p e s m args below meth c C ht hgi
  have C : gC G p l s m args meth c cL_infoOf 3 RL (some .int) "infoOf" := C
  refine gw_aload_n C 0 dL_infoOf_0 rfl rfl ?_
  refine gw_iload_n C 1 dL_infoOf_1 rfl rfl ?_
  refine gw_callV C (as := [vI x1]) (st := []) (ci := 6) (T0 := TX7) (N := 3) (c_X7_info hl0 G I J hCI x1 hx1) dL_infoOf_2 kL_188 qX7_info hdX7_info ⟨Nat.le_of_ble_eq_true rfl, Nat.le_of_ble_eq_true rfl⟩ ⟨Nat.le_of_ble_eq_true rfl, Nat.le_of_ble_eq_true rfl⟩ (Nat.le_of_ble_eq_true rfl) rfl xs_0 xn_0 rfl ?_ ?_
  · intro E9 z9 I9 J9 hx9
    obtain ⟨hx9, eI, eJ⟩ := hx9
    rw [eI, eJ]
    rcases hx9 with ⟨hk, e9⟩ | ⟨hk, e9⟩ | ⟨hk, e9⟩
    · skip
      rw [e9]
      refine gwx_catch C (name := "java/lang/IllegalArgumentException") [] (⟨0, 5, 6, 15⟩ : ExceptionTableEntry) [] ht (fun y hy => absurd hy List.not_mem_nil) (by decide) (by decide) kL_15 (List.mem_of_getElem? (i := 0) rfl) (fun q9 => ?_)
      refine gw_astoreA_n C (lo1 := [some (vR 0), some (vI x1), some (vA q9)]) 2 dL_infoOf_6 rfl (by decide) rfl ?_
      refine gw_ldc C (x := (-2000002)) dL_infoOf_7 kL_17 (by decide) ?_
      exact gw_iret C (Nat.le_of_ble_eq_true rfl) (Nat.le_of_ble_eq_true rfl) dL_infoOf_9 (⟨by rw [cdV_1 (hk)], rfl, rfl⟩)
    · skip
      exact absurd hk (by unfold kInfo; (repeat' split) <;> decide)
    · skip
      exact absurd hk (by unfold kInfo; (repeat' split) <;> decide)
  · intro v9 z9 I9 J9 hv9
    obtain ⟨⟨hk0, ev⟩, eI, eJ⟩ := hv9
    rw [ev, eI, eJ]
    show GW G p l e ({ frames := 7, cells := 1, slots := 6, locals := 111 } : Room) s m args below meth c 3 z9 N0 SH RR I J 1 6 (vx_MQ below (GQ G N0 SH RR (memQ (some (vI (cdV (kInfo x1) (rInfo S x1) (-2000002) 0 0))) I J)) (GX G N0 SH RR gNo) args s 1 6 (ge G)) 5 [some (vR 0), some (vI x1), none] [vI (rInfo S x1)]
    exact gw_iret C (Nat.le_of_ble_eq_true rfl) (Nat.le_of_ble_eq_true rfl) dL_infoOf_5 (⟨by rw [cdV_0 hk0], rfl, rfl⟩)
set_option maxHeartbeats 4000000 in
set_option maxRecDepth 100000 in
theorem c_L_wireOf {l : Launch} (hl0 : l.stackTraces = false) (G : GG) (I J : GI) {z : Nat} {S : Nat → Int} {D9 : Nat → Nat → Int} {c9 : Nat} (hCI : CI I S D9 c9) (x1 x2 : Int) (hx1 : inI x1) (hx2 : inI x2) : GM l yL_wireOf (.codeWith yL_wireOf cL_wireOf 4 (some .int) [(0, 6, 7, 27), (0, 6, 11, 15)]) 7 113 1 6 G N0 SH RR [vR 0, vI x1, vI x2] z I J (memQ (some (vI (cdV (kWire S x1 x2) (rWire S x1.toNat x2) (-2000001) (-2000002) 0))) I J) gNo := by
  refine gm_ofH (lo0 := [some (vR 0), some (vI x1), some (vI x2), none]) hl0 (by decide) rfl (Nat.le_of_ble_eq_true rfl) ?_
  intro p e s m args below meth c C ht hgi
  have C : gC G p l s m args meth c cL_wireOf 4 RL (some .int) "wireOf" := C
  refine gw_aload_n C 0 dL_wireOf_0 rfl rfl ?_
  refine gw_iload_n C 1 dL_wireOf_1 rfl rfl ?_
  refine gw_iload_n C 2 dL_wireOf_2 rfl rfl ?_
  refine gw_callV C (as := [vI x1, vI x2]) (st := []) (ci := 6) (T0 := TX7) (N := 3) (c_X7_wire hl0 G I J hCI x1 x2 hx1 hx2) dL_wireOf_3 kL_191 qX7_wire hdX7_wire ⟨Nat.le_of_ble_eq_true rfl, Nat.le_of_ble_eq_true rfl⟩ ⟨Nat.le_of_ble_eq_true rfl, Nat.le_of_ble_eq_true rfl⟩ (Nat.le_of_ble_eq_true rfl) rfl xs_0 xn_0 rfl ?_ ?_
  · intro E9 z9 I9 J9 hx9
    obtain ⟨hx9, eI, eJ⟩ := hx9
    rw [eI, eJ]
    rcases hx9 with ⟨hk, e9⟩ | ⟨hk, e9⟩ | ⟨hk, e9⟩
    · skip
      rw [e9]
      refine gwx_catch C (name := "java/lang/IndexOutOfBoundsException") [] (⟨0, 6, 7, 27⟩ : ExceptionTableEntry) [(⟨0, 6, 11, 15⟩ : ExceptionTableEntry)] ht (fun y hy => absurd hy List.not_mem_nil) (by decide) (by decide) kL_27 (List.mem_of_getElem? (i := 2) rfl) (fun q9 => ?_)
      refine gw_astoreA_n C (lo1 := [some (vR 0), some (vI x1), some (vI x2), some (vA q9)]) 3 dL_wireOf_7 rfl (by decide) rfl ?_
      refine gw_ldc C (x := (-2000001)) dL_wireOf_8 kL_29 (by decide) ?_
      exact gw_iret C (Nat.le_of_ble_eq_true rfl) (Nat.le_of_ble_eq_true rfl) dL_wireOf_10 (⟨by rw [cdV_1 (hk)], rfl, rfl⟩)
    · skip
      rw [e9]
      refine gwx_catch C (name := "java/lang/IllegalArgumentException") [(⟨0, 6, 7, 27⟩ : ExceptionTableEntry)] (⟨0, 6, 11, 15⟩ : ExceptionTableEntry) [] ht (List.forall_mem_cons.mpr ⟨Or.inr ⟨by decide, "java/lang/IndexOutOfBoundsException", kL_27, List.mem_of_getElem? (i := 1) rfl⟩, fun _ h => absurd h List.not_mem_nil⟩) (by decide) (by decide) kL_15 (List.mem_of_getElem? (i := 0) rfl) (fun q9 => ?_)
      refine gw_astoreA_n C (lo1 := [some (vR 0), some (vI x1), some (vI x2), some (vA q9)]) 3 dL_wireOf_11 rfl (by decide) rfl ?_
      refine gw_ldc C (x := (-2000002)) dL_wireOf_12 kL_17 (by decide) ?_
      exact gw_iret C (Nat.le_of_ble_eq_true rfl) (Nat.le_of_ble_eq_true rfl) dL_wireOf_14 (⟨by rw [cdV_2 (hk)], rfl, rfl⟩)
    · skip
      exact absurd hk (by unfold kWire; (repeat' split) <;> decide)
  · intro v9 z9 I9 J9 hv9
    obtain ⟨⟨hk0, ev⟩, eI, eJ⟩ := hv9
    rw [ev, eI, eJ]
    show GW G p l e ({ frames := 7, cells := 1, slots := 6, locals := 113 } : Room) s m args below meth c 4 z9 N0 SH RR I J 1 6 (vx_MQ below (GQ G N0 SH RR (memQ (some (vI (cdV (kWire S x1 x2) (rWire S x1.toNat x2) (-2000001) (-2000002) 0))) I J)) (GX G N0 SH RR gNo) args s 1 6 (ge G)) 6 [some (vR 0), some (vI x1), some (vI x2), none] [vI (rWire S x1.toNat x2)]
    exact gw_iret C (Nat.le_of_ble_eq_true rfl) (Nat.le_of_ble_eq_true rfl) dL_wireOf_6 (⟨by rw [cdV_0 hk0], rfl, rfl⟩)
set_option maxHeartbeats 4000000 in
set_option maxRecDepth 100000 in
theorem c_L_joinOf {l : Launch} (hl0 : l.stackTraces = false) (G : GG) (I J : GI) {z : Nat} {S : Nat → Int} {D9 : Nat → Nat → Int} {c9 : Nat} (hCI : CI I S D9 c9) (x1 x2 : Int) (hx1 : inI x1) (hx2 : inI x2) : GM l yL_joinOf (.codeWith yL_joinOf cL_joinOf 4 (some .int) [(0, 6, 7, 27), (0, 6, 11, 15)]) 7 113 1 6 G N0 SH RR [vR 0, vI x1, vI x2] z I J (memQ (some (vI (cdV (kJoinOf S x1 x2) (rJoinOf S x1.toNat x2) (-2000001) (-2000002) 0))) I J) gNo := by
  refine gm_ofH (lo0 := [some (vR 0), some (vI x1), some (vI x2), none]) hl0 (by decide) rfl (Nat.le_of_ble_eq_true rfl) ?_
  intro p e s m args below meth c C ht hgi
  have C : gC G p l s m args meth c cL_joinOf 4 RL (some .int) "joinOf" := C
  refine gw_aload_n C 0 dL_joinOf_0 rfl rfl ?_
  refine gw_iload_n C 1 dL_joinOf_1 rfl rfl ?_
  refine gw_iload_n C 2 dL_joinOf_2 rfl rfl ?_
  refine gw_callV C (as := [vI x1, vI x2]) (st := []) (ci := 6) (T0 := TX7) (N := 3) (c_X7_joinOf hl0 G I J hCI x1 x2 hx1 hx2) dL_joinOf_3 kL_194 qX7_joinOf hdX7_joinOf ⟨Nat.le_of_ble_eq_true rfl, Nat.le_of_ble_eq_true rfl⟩ ⟨Nat.le_of_ble_eq_true rfl, Nat.le_of_ble_eq_true rfl⟩ (Nat.le_of_ble_eq_true rfl) rfl xs_0 xn_0 rfl ?_ ?_
  · intro E9 z9 I9 J9 hx9
    obtain ⟨hx9, eI, eJ⟩ := hx9
    rw [eI, eJ]
    rcases hx9 with ⟨hk, e9⟩ | ⟨hk, e9⟩ | ⟨hk, e9⟩
    · skip
      rw [e9]
      refine gwx_catch C (name := "java/lang/IndexOutOfBoundsException") [] (⟨0, 6, 7, 27⟩ : ExceptionTableEntry) [(⟨0, 6, 11, 15⟩ : ExceptionTableEntry)] ht (fun y hy => absurd hy List.not_mem_nil) (by decide) (by decide) kL_27 (List.mem_of_getElem? (i := 2) rfl) (fun q9 => ?_)
      refine gw_astoreA_n C (lo1 := [some (vR 0), some (vI x1), some (vI x2), some (vA q9)]) 3 dL_joinOf_7 rfl (by decide) rfl ?_
      refine gw_ldc C (x := (-2000001)) dL_joinOf_8 kL_29 (by decide) ?_
      exact gw_iret C (Nat.le_of_ble_eq_true rfl) (Nat.le_of_ble_eq_true rfl) dL_joinOf_10 (⟨by rw [cdV_1 (hk)], rfl, rfl⟩)
    · skip
      rw [e9]
      refine gwx_catch C (name := "java/lang/IllegalArgumentException") [(⟨0, 6, 7, 27⟩ : ExceptionTableEntry)] (⟨0, 6, 11, 15⟩ : ExceptionTableEntry) [] ht (List.forall_mem_cons.mpr ⟨Or.inr ⟨by decide, "java/lang/IndexOutOfBoundsException", kL_27, List.mem_of_getElem? (i := 1) rfl⟩, fun _ h => absurd h List.not_mem_nil⟩) (by decide) (by decide) kL_15 (List.mem_of_getElem? (i := 0) rfl) (fun q9 => ?_)
      refine gw_astoreA_n C (lo1 := [some (vR 0), some (vI x1), some (vI x2), some (vA q9)]) 3 dL_joinOf_11 rfl (by decide) rfl ?_
      refine gw_ldc C (x := (-2000002)) dL_joinOf_12 kL_17 (by decide) ?_
      exact gw_iret C (Nat.le_of_ble_eq_true rfl) (Nat.le_of_ble_eq_true rfl) dL_joinOf_14 (⟨by rw [cdV_2 (hk)], rfl, rfl⟩)
    · skip
      exact absurd hk (by unfold kJoinOf; (repeat' split) <;> decide)
  · intro v9 z9 I9 J9 hv9
    obtain ⟨⟨hk0, ev⟩, eI, eJ⟩ := hv9
    rw [ev, eI, eJ]
    show GW G p l e ({ frames := 7, cells := 1, slots := 6, locals := 113 } : Room) s m args below meth c 4 z9 N0 SH RR I J 1 6 (vx_MQ below (GQ G N0 SH RR (memQ (some (vI (cdV (kJoinOf S x1 x2) (rJoinOf S x1.toNat x2) (-2000001) (-2000002) 0))) I J)) (GX G N0 SH RR gNo) args s 1 6 (ge G)) 6 [some (vR 0), some (vI x1), some (vI x2), none] [vI (rJoinOf S x1.toNat x2)]
    exact gw_iret C (Nat.le_of_ble_eq_true rfl) (Nat.le_of_ble_eq_true rfl) dL_joinOf_6 (⟨by rw [cdV_0 hk0], rfl, rfl⟩)
set_option maxHeartbeats 4000000 in
set_option maxRecDepth 100000 in
theorem c_L_traverseOf {l : Launch} (hl0 : l.stackTraces = false) (G : GG) (I J : GI) {z : Nat} {S : Nat → Int} {D9 : Nat → Nat → Int} {c9 : Nat} (hCI : CI I S D9 c9) (x1 x2 : Int) (hx1 : inI x1) (hx2 : inI x2) : GM l yL_traverseOf (.codeWith yL_traverseOf cL_traverseOf 4 (some .int) [(0, 6, 7, 27), (0, 6, 11, 15)]) 7 114 1 6 G N0 SH RR [vR 0, vI x1, vI x2] z I J (memQ (some (vI (cdV (kTrav S x1 x2) (rTrav S x1.toNat x2) (-2000001) (-2000002) 0))) I J) gNo := by
  refine gm_ofH (lo0 := [some (vR 0), some (vI x1), some (vI x2), none]) hl0 (by decide) rfl (Nat.le_of_ble_eq_true rfl) ?_
  intro p e s m args below meth c C ht hgi
  have C : gC G p l s m args meth c cL_traverseOf 4 RL (some .int) "traverseOf" := C
  refine gw_aload_n C 0 dL_traverseOf_0 rfl rfl ?_
  refine gw_iload_n C 1 dL_traverseOf_1 rfl rfl ?_
  refine gw_iload_n C 2 dL_traverseOf_2 rfl rfl ?_
  refine gw_callV C (as := [vI x1, vI x2]) (st := []) (ci := 6) (T0 := TX7) (N := 3) (c_X7_traverse hl0 G I J hCI x1 x2 hx1 hx2) dL_traverseOf_3 kL_197 qX7_traverse hdX7_traverse ⟨Nat.le_of_ble_eq_true rfl, Nat.le_of_ble_eq_true rfl⟩ ⟨Nat.le_of_ble_eq_true rfl, Nat.le_of_ble_eq_true rfl⟩ (Nat.le_of_ble_eq_true rfl) rfl xs_0 xn_0 rfl ?_ ?_
  · intro E9 z9 I9 J9 hx9
    obtain ⟨hx9, eI, eJ⟩ := hx9
    rw [eI, eJ]
    rcases hx9 with ⟨hk, e9⟩ | ⟨hk, e9⟩ | ⟨hk, e9⟩
    · skip
      rw [e9]
      refine gwx_catch C (name := "java/lang/IndexOutOfBoundsException") [] (⟨0, 6, 7, 27⟩ : ExceptionTableEntry) [(⟨0, 6, 11, 15⟩ : ExceptionTableEntry)] ht (fun y hy => absurd hy List.not_mem_nil) (by decide) (by decide) kL_27 (List.mem_of_getElem? (i := 2) rfl) (fun q9 => ?_)
      refine gw_astoreA_n C (lo1 := [some (vR 0), some (vI x1), some (vI x2), some (vA q9)]) 3 dL_traverseOf_7 rfl (by decide) rfl ?_
      refine gw_ldc C (x := (-2000001)) dL_traverseOf_8 kL_29 (by decide) ?_
      exact gw_iret C (Nat.le_of_ble_eq_true rfl) (Nat.le_of_ble_eq_true rfl) dL_traverseOf_10 (⟨by rw [cdV_1 (hk)], rfl, rfl⟩)
    · skip
      rw [e9]
      refine gwx_catch C (name := "java/lang/IllegalArgumentException") [(⟨0, 6, 7, 27⟩ : ExceptionTableEntry)] (⟨0, 6, 11, 15⟩ : ExceptionTableEntry) [] ht (List.forall_mem_cons.mpr ⟨Or.inr ⟨by decide, "java/lang/IndexOutOfBoundsException", kL_27, List.mem_of_getElem? (i := 1) rfl⟩, fun _ h => absurd h List.not_mem_nil⟩) (by decide) (by decide) kL_15 (List.mem_of_getElem? (i := 0) rfl) (fun q9 => ?_)
      refine gw_astoreA_n C (lo1 := [some (vR 0), some (vI x1), some (vI x2), some (vA q9)]) 3 dL_traverseOf_11 rfl (by decide) rfl ?_
      refine gw_ldc C (x := (-2000002)) dL_traverseOf_12 kL_17 (by decide) ?_
      exact gw_iret C (Nat.le_of_ble_eq_true rfl) (Nat.le_of_ble_eq_true rfl) dL_traverseOf_14 (⟨by rw [cdV_2 (hk)], rfl, rfl⟩)
    · skip
      exact absurd hk (by unfold kTrav; (repeat' split) <;> decide)
  · intro v9 z9 I9 J9 hv9
    obtain ⟨⟨hk0, ev⟩, eI, eJ⟩ := hv9
    rw [ev, eI, eJ]
    show GW G p l e ({ frames := 7, cells := 1, slots := 6, locals := 114 } : Room) s m args below meth c 4 z9 N0 SH RR I J 1 6 (vx_MQ below (GQ G N0 SH RR (memQ (some (vI (cdV (kTrav S x1 x2) (rTrav S x1.toNat x2) (-2000001) (-2000002) 0))) I J)) (GX G N0 SH RR gNo) args s 1 6 (ge G)) 6 [some (vR 0), some (vI x1), some (vI x2), none] [vI (rTrav S x1.toNat x2)]
    exact gw_iret C (Nat.le_of_ble_eq_true rfl) (Nat.le_of_ble_eq_true rfl) dL_traverseOf_6 (⟨by rw [cdV_0 hk0], rfl, rfl⟩)
set_option maxHeartbeats 4000000 in
set_option maxRecDepth 100000 in
theorem c_L_legOf {l : Launch} (hl0 : l.stackTraces = false) (G : GG) (I J : GI) {z : Nat} {S : Nat → Int} {D9 : Nat → Nat → Int} {c9 : Nat} (hCI : CI I S D9 c9) (x1 x2 x3 : Int) (hx1 : inI x1) (hx2 : inI x2) (hx3 : inI x3) : GM l yL_legOf (.codeWith yL_legOf cL_legOf 5 (some .int) [(0, 7, 8, 27), (0, 7, 13, 15)]) 7 114 1 6 G N0 SH RR [vR 0, vI x1, vI x2, vI x3] z I J (memQ (some (vI (cdV (kLeg S x1 x2 x3) (rLeg S x1.toNat x2.toNat x3) (-2000001) (-2000002) 0))) I J) gNo := by
  refine gm_ofH (lo0 := [some (vR 0), some (vI x1), some (vI x2), some (vI x3), none]) hl0 (by decide) rfl (Nat.le_of_ble_eq_true rfl) ?_
  intro p e s m args below meth c C ht hgi
  have C : gC G p l s m args meth c cL_legOf 5 RL (some .int) "legOf" := C
  refine gw_aload_n C 0 dL_legOf_0 rfl rfl ?_
  refine gw_iload_n C 1 dL_legOf_1 rfl rfl ?_
  refine gw_iload_n C 2 dL_legOf_2 rfl rfl ?_
  refine gw_iload_n C 3 dL_legOf_3 rfl rfl ?_
  refine gw_callV C (as := [vI x1, vI x2, vI x3]) (st := []) (ci := 6) (T0 := TX7) (N := 3) (c_X7_leg hl0 G I J hCI x1 x2 x3 hx1 hx2 hx3) dL_legOf_4 kL_200 qX7_leg hdX7_leg ⟨Nat.le_of_ble_eq_true rfl, Nat.le_of_ble_eq_true rfl⟩ ⟨Nat.le_of_ble_eq_true rfl, Nat.le_of_ble_eq_true rfl⟩ (Nat.le_of_ble_eq_true rfl) rfl xs_0 xn_0 rfl ?_ ?_
  · intro E9 z9 I9 J9 hx9
    obtain ⟨hx9, eI, eJ⟩ := hx9
    rw [eI, eJ]
    rcases hx9 with ⟨hk, e9⟩ | ⟨hk, e9⟩ | ⟨hk, e9⟩
    · skip
      rw [e9]
      refine gwx_catch C (name := "java/lang/IndexOutOfBoundsException") [] (⟨0, 7, 8, 27⟩ : ExceptionTableEntry) [(⟨0, 7, 13, 15⟩ : ExceptionTableEntry)] ht (fun y hy => absurd hy List.not_mem_nil) (by decide) (by decide) kL_27 (List.mem_of_getElem? (i := 2) rfl) (fun q9 => ?_)
      refine gw_astoreA C (lo1 := [some (vR 0), some (vI x1), some (vI x2), some (vI x3), some (vA q9)]) dL_legOf_8 (by decide) rfl ?_
      refine gw_ldc C (x := (-2000001)) dL_legOf_10 kL_29 (by decide) ?_
      exact gw_iret C (Nat.le_of_ble_eq_true rfl) (Nat.le_of_ble_eq_true rfl) dL_legOf_12 (⟨by rw [cdV_1 (hk)], rfl, rfl⟩)
    · skip
      rw [e9]
      refine gwx_catch C (name := "java/lang/IllegalArgumentException") [(⟨0, 7, 8, 27⟩ : ExceptionTableEntry)] (⟨0, 7, 13, 15⟩ : ExceptionTableEntry) [] ht (List.forall_mem_cons.mpr ⟨Or.inr ⟨by decide, "java/lang/IndexOutOfBoundsException", kL_27, List.mem_of_getElem? (i := 1) rfl⟩, fun _ h => absurd h List.not_mem_nil⟩) (by decide) (by decide) kL_15 (List.mem_of_getElem? (i := 0) rfl) (fun q9 => ?_)
      refine gw_astoreA C (lo1 := [some (vR 0), some (vI x1), some (vI x2), some (vI x3), some (vA q9)]) dL_legOf_13 (by decide) rfl ?_
      refine gw_ldc C (x := (-2000002)) dL_legOf_15 kL_17 (by decide) ?_
      exact gw_iret C (Nat.le_of_ble_eq_true rfl) (Nat.le_of_ble_eq_true rfl) dL_legOf_17 (⟨by rw [cdV_2 (hk)], rfl, rfl⟩)
    · skip
      exact absurd hk (by unfold kLeg; (repeat' split) <;> decide)
  · intro v9 z9 I9 J9 hv9
    obtain ⟨⟨hk0, ev⟩, eI, eJ⟩ := hv9
    rw [ev, eI, eJ]
    show GW G p l e ({ frames := 7, cells := 1, slots := 6, locals := 114 } : Room) s m args below meth c 5 z9 N0 SH RR I J 1 6 (vx_MQ below (GQ G N0 SH RR (memQ (some (vI (cdV (kLeg S x1 x2 x3) (rLeg S x1.toNat x2.toNat x3) (-2000001) (-2000002) 0))) I J)) (GX G N0 SH RR gNo) args s 1 6 (ge G)) 7 [some (vR 0), some (vI x1), some (vI x2), some (vI x3), none] [vI (rLeg S x1.toNat x2.toNat x3)]
    exact gw_iret C (Nat.le_of_ble_eq_true rfl) (Nat.le_of_ble_eq_true rfl) dL_legOf_7 (⟨by rw [cdV_0 hk0], rfl, rfl⟩)
set_option maxHeartbeats 4000000 in
set_option maxRecDepth 100000 in
theorem c_L_troubleOf {l : Launch} (hl0 : l.stackTraces = false) (G : GG) (I J : GI) {z : Nat} {S : Nat → Int} {D9 : Nat → Nat → Int} {c9 : Nat} (hCI : CI I S D9 c9) (x1 x2 : Int) (hx1 : inI x1) (hx2 : inI x2) : GM l yL_troubleOf (.codeWith yL_troubleOf cL_troubleOf 4 (some .int) [(0, 6, 7, 27)]) 7 113 1 6 G N0 SH RR [vR 0, vI x1, vI x2] z I J (memQ (some (vI (cdV (kTrb S x1) (rTrb S x1.toNat x2) (-2000001) 0 0))) I J) gNo := by
  refine gm_ofH (lo0 := [some (vR 0), some (vI x1), some (vI x2), none]) hl0 (by decide) rfl (Nat.le_of_ble_eq_true rfl) ?_
  intro p e s m args below meth c C ht hgi
  have C : gC G p l s m args meth c cL_troubleOf 4 RL (some .int) "troubleOf" := C
  refine gw_aload_n C 0 dL_troubleOf_0 rfl rfl ?_
  refine gw_iload_n C 1 dL_troubleOf_1 rfl rfl ?_
  refine gw_iload_n C 2 dL_troubleOf_2 rfl rfl ?_
  refine gw_callV C (as := [vI x1, vI x2]) (st := []) (ci := 6) (T0 := TX7) (N := 3) (c_X7_trouble hl0 G I J hCI x1 x2 hx1 hx2) dL_troubleOf_3 kL_203 qX7_trouble hdX7_trouble ⟨Nat.le_of_ble_eq_true rfl, Nat.le_of_ble_eq_true rfl⟩ ⟨Nat.le_of_ble_eq_true rfl, Nat.le_of_ble_eq_true rfl⟩ (Nat.le_of_ble_eq_true rfl) rfl xs_0 xn_0 rfl ?_ ?_
  · intro E9 z9 I9 J9 hx9
    obtain ⟨hx9, eI, eJ⟩ := hx9
    rw [eI, eJ]
    rcases hx9 with ⟨hk, e9⟩ | ⟨hk, e9⟩ | ⟨hk, e9⟩
    · skip
      rw [e9]
      refine gwx_catch C (name := "java/lang/IndexOutOfBoundsException") [] (⟨0, 6, 7, 27⟩ : ExceptionTableEntry) [] ht (fun y hy => absurd hy List.not_mem_nil) (by decide) (by decide) kL_27 (List.mem_of_getElem? (i := 2) rfl) (fun q9 => ?_)
      refine gw_astoreA_n C (lo1 := [some (vR 0), some (vI x1), some (vI x2), some (vA q9)]) 3 dL_troubleOf_7 rfl (by decide) rfl ?_
      refine gw_ldc C (x := (-2000001)) dL_troubleOf_8 kL_29 (by decide) ?_
      exact gw_iret C (Nat.le_of_ble_eq_true rfl) (Nat.le_of_ble_eq_true rfl) dL_troubleOf_10 (⟨by rw [cdV_1 (hk)], rfl, rfl⟩)
    · skip
      exact absurd hk (by unfold kTrb; (repeat' split) <;> decide)
    · skip
      exact absurd hk (by unfold kTrb; (repeat' split) <;> decide)
  · intro v9 z9 I9 J9 hv9
    obtain ⟨⟨hk0, ev⟩, eI, eJ⟩ := hv9
    rw [ev, eI, eJ]
    show GW G p l e ({ frames := 7, cells := 1, slots := 6, locals := 113 } : Room) s m args below meth c 4 z9 N0 SH RR I J 1 6 (vx_MQ below (GQ G N0 SH RR (memQ (some (vI (cdV (kTrb S x1) (rTrb S x1.toNat x2) (-2000001) 0 0))) I J)) (GX G N0 SH RR gNo) args s 1 6 (ge G)) 6 [some (vR 0), some (vI x1), some (vI x2), none] [vI (rTrb S x1.toNat x2)]
    exact gw_iret C (Nat.le_of_ble_eq_true rfl) (Nat.le_of_ble_eq_true rfl) dL_troubleOf_6 (⟨by rw [cdV_0 hk0], rfl, rfl⟩)
set_option maxHeartbeats 4000000 in
set_option maxRecDepth 100000 in
theorem c_L_sets {l : Launch} (hl0 : l.stackTraces = false) (G : GG) (I J : GI) {z : Nat} {S : Nat → Int} {D9 : Nat → Nat → Int} {c9 : Nat} (hCI : CI I S D9 c9) (x1 x2 : Int) (hx1 : inI x1) (hx2 : inI x2) : GM l yL_sets (.codeWith yL_sets cL_sets 4 (some .int) [(0, 6, 7, 15)]) 7 142 1 6 G N0 SH RR [vR 0, vI x1, vI x2] z I J (mwQ (kSet x1 x2) (cdV (kSet x1 x2) (S x1.toNat) (-2000002) 0 0) I J (oSet S x1.toNat x2) (psh S D9) (cN c9)) gNo := by
  refine gm_ofH (lo0 := [some (vR 0), some (vI x1), some (vI x2), none]) hl0 (by decide) rfl (Nat.le_of_ble_eq_true rfl) ?_
  intro p e s m args below meth c C ht hgi
  have C : gC G p l s m args meth c cL_sets 4 RL (some .int) "sets" := C
  refine gw_aload_n C 0 dL_sets_0 rfl rfl ?_
  refine gw_iload_n C 1 dL_sets_1 rfl rfl ?_
  refine gw_iload_n C 2 dL_sets_2 rfl rfl ?_
  refine gw_callV C (as := [vI x1, vI x2]) (st := []) (ci := 6) (T0 := TX7) (N := 3) (c_X7_set hl0 G I J hCI x1 x2 hx1 hx2) dL_sets_3 kL_9 qX7_set hdX7_set ⟨Nat.le_of_ble_eq_true rfl, Nat.le_of_ble_eq_true rfl⟩ ⟨Nat.le_of_ble_eq_true rfl, Nat.le_of_ble_eq_true rfl⟩ (Nat.le_of_ble_eq_true rfl) rfl xs_0 xn_0 rfl ?_ ?_
  · intro E9 z9 I9 J9 hx9
    obtain ⟨hx9, eI, eJ⟩ := hx9
    rw [eI, eJ]
    rcases hx9 with ⟨hk, e9⟩ | ⟨hk, e9⟩ | ⟨hk, e9⟩
    · skip
      rw [e9]
      refine gwx_catch C (name := "java/lang/IllegalArgumentException") [] (⟨0, 6, 7, 15⟩ : ExceptionTableEntry) [] ht (fun y hy => absurd hy List.not_mem_nil) (by decide) (by decide) kL_15 (List.mem_of_getElem? (i := 0) rfl) (fun q9 => ?_)
      refine gw_astoreA_n C (lo1 := [some (vR 0), some (vI x1), some (vI x2), some (vA q9)]) 3 dL_sets_7 rfl (by decide) rfl ?_
      refine gw_ldc C (x := (-2000002)) dL_sets_8 kL_17 (by decide) ?_
      exact gw_iret C (Nat.le_of_ble_eq_true rfl) (Nat.le_of_ble_eq_true rfl) dL_sets_10 (⟨by rw [cdV_1 (hk)], ⟨fun q => absurd (q.symm.trans (hk)) (by decide), fun _ => rfl⟩, rfl⟩)
    · skip
      exact absurd hk (by unfold kSet; (repeat' split) <;> decide)
    · skip
      exact absurd hk (by unfold kSet; (repeat' split) <;> decide)
  · intro v9 z9 I9 J9 hv9
    obtain ⟨⟨hk0, ev⟩, hm, eJ⟩ := hv9
    rw [ev, eJ]
    show GW G p l e ({ frames := 7, cells := 1, slots := 6, locals := 142 } : Room) s m args below meth c 4 z9 N0 SH RR I9 J 1 6 (vx_MQ below (GQ G N0 SH RR (mwQ (kSet x1 x2) (cdV (kSet x1 x2) (S x1.toNat) (-2000002) 0 0) I J (oSet S x1.toNat x2) (psh S D9) (cN c9))) (GX G N0 SH RR gNo) args s 1 6 (ge G)) 6 [some (vR 0), some (vI x1), some (vI x2), none] [vI (S x1.toNat)]
    exact gw_iret C (Nat.le_of_ble_eq_true rfl) (Nat.le_of_ble_eq_true rfl) dL_sets_6 (⟨by rw [cdV_0 (hk0)], ⟨fun _ => hm, fun q => absurd (hk0) q⟩, rfl⟩)
set_option maxHeartbeats 4000000 in
set_option maxRecDepth 100000 in
theorem c_L_hangs {l : Launch} (hl0 : l.stackTraces = false) (G : GG) (I J : GI) {z : Nat} {S : Nat → Int} {D9 : Nat → Nat → Int} {c9 : Nat} (hCI : CI I S D9 c9) (x1 x2 : Int) (hx1 : inI x1) (hx2 : inI x2) : GM l yL_hangs (.codeWith yL_hangs cL_hangs 4 (some .int) [(0, 6, 7, 15), (0, 6, 11, 21)]) 7 142 1 6 G N0 SH RR [vR 0, vI x1, vI x2] z I J (mwQ (kHang S x1 x2) (cdV (kHang S x1 x2) (S 3) (-2000002) (-2000003) 0) I J (oHang S (S 3).toNat x1 x2) (psh S D9) (cN c9)) gNo := by
  refine gm_ofH (lo0 := [some (vR 0), some (vI x1), some (vI x2), none]) hl0 (by decide) rfl (Nat.le_of_ble_eq_true rfl) ?_
  intro p e s m args below meth c C ht hgi
  have C : gC G p l s m args meth c cL_hangs 4 RL (some .int) "hangs" := C
  refine gw_aload_n C 0 dL_hangs_0 rfl rfl ?_
  refine gw_iload_n C 1 dL_hangs_1 rfl rfl ?_
  refine gw_iload_n C 2 dL_hangs_2 rfl rfl ?_
  refine gw_callV C (as := [vI x1, vI x2]) (st := []) (ci := 6) (T0 := TX7) (N := 3) (c_X7_hang hl0 G I J hCI x1 x2 hx1 hx2) dL_hangs_3 kL_18 qX7_hang hdX7_hang ⟨Nat.le_of_ble_eq_true rfl, Nat.le_of_ble_eq_true rfl⟩ ⟨Nat.le_of_ble_eq_true rfl, Nat.le_of_ble_eq_true rfl⟩ (Nat.le_of_ble_eq_true rfl) rfl xs_0 xn_0 rfl ?_ ?_
  · intro E9 z9 I9 J9 hx9
    obtain ⟨hx9, eI, eJ⟩ := hx9
    rw [eI, eJ]
    rcases hx9 with ⟨hk, e9⟩ | ⟨hk, e9⟩ | ⟨hk, e9⟩
    · skip
      rw [e9]
      refine gwx_catch C (name := "java/lang/IllegalArgumentException") [] (⟨0, 6, 7, 15⟩ : ExceptionTableEntry) [(⟨0, 6, 11, 21⟩ : ExceptionTableEntry)] ht (fun y hy => absurd hy List.not_mem_nil) (by decide) (by decide) kL_15 (List.mem_of_getElem? (i := 0) rfl) (fun q9 => ?_)
      refine gw_astoreA_n C (lo1 := [some (vR 0), some (vI x1), some (vI x2), some (vA q9)]) 3 dL_hangs_7 rfl (by decide) rfl ?_
      refine gw_ldc C (x := (-2000002)) dL_hangs_8 kL_17 (by decide) ?_
      exact gw_iret C (Nat.le_of_ble_eq_true rfl) (Nat.le_of_ble_eq_true rfl) dL_hangs_10 (⟨by rw [cdV_1 (hk)], ⟨fun q => absurd (q.symm.trans (hk)) (by decide), fun _ => rfl⟩, rfl⟩)
    · skip
      rw [e9]
      refine gwx_catch C (name := "java/lang/IllegalStateException") [(⟨0, 6, 7, 15⟩ : ExceptionTableEntry)] (⟨0, 6, 11, 21⟩ : ExceptionTableEntry) [] ht (List.forall_mem_cons.mpr ⟨Or.inr ⟨by decide, "java/lang/IllegalArgumentException", kL_15, List.mem_of_getElem? (i := 2) rfl⟩, fun _ h => absurd h List.not_mem_nil⟩) (by decide) (by decide) kL_21 (List.mem_of_getElem? (i := 1) rfl) (fun q9 => ?_)
      refine gw_astoreA_n C (lo1 := [some (vR 0), some (vI x1), some (vI x2), some (vA q9)]) 3 dL_hangs_11 rfl (by decide) rfl ?_
      refine gw_ldc C (x := (-2000003)) dL_hangs_12 kL_23 (by decide) ?_
      exact gw_iret C (Nat.le_of_ble_eq_true rfl) (Nat.le_of_ble_eq_true rfl) dL_hangs_14 (⟨by rw [cdV_2 (hk)], ⟨fun q => absurd (q.symm.trans (hk)) (by decide), fun _ => rfl⟩, rfl⟩)
    · skip
      exact absurd hk (by unfold kHang; (repeat' split) <;> decide)
  · intro v9 z9 I9 J9 hv9
    obtain ⟨⟨hk0, ev⟩, hm, eJ⟩ := hv9
    rw [ev, eJ]
    show GW G p l e ({ frames := 7, cells := 1, slots := 6, locals := 142 } : Room) s m args below meth c 4 z9 N0 SH RR I9 J 1 6 (vx_MQ below (GQ G N0 SH RR (mwQ (kHang S x1 x2) (cdV (kHang S x1 x2) (S 3) (-2000002) (-2000003) 0) I J (oHang S (S 3).toNat x1 x2) (psh S D9) (cN c9))) (GX G N0 SH RR gNo) args s 1 6 (ge G)) 6 [some (vR 0), some (vI x1), some (vI x2), none] [vI (S 3)]
    exact gw_iret C (Nat.le_of_ble_eq_true rfl) (Nat.le_of_ble_eq_true rfl) dL_hangs_6 (⟨by rw [cdV_0 (hk0)], ⟨fun _ => hm, fun q => absurd (hk0) q⟩, rfl⟩)
set_option maxHeartbeats 4000000 in
set_option maxRecDepth 100000 in
theorem c_L_joins {l : Launch} (hl0 : l.stackTraces = false) (G : GG) (I J : GI) {z : Nat} {S : Nat → Int} {D9 : Nat → Nat → Int} {c9 : Nat} (hCI : CI I S D9 c9) (x1 x2 x3 x4 x5 x6 : Int) (hx1 : inI x1) (hx2 : inI x2) (hx3 : inI x3) (hx4 : inI x4) (hx5 : inI x5) (hx6 : inI x6) : GM l yL_joins (.codeWith yL_joins cL_joins 8 (some .int) [(0, 13, 14, 27), (0, 13, 19, 15), (0, 13, 24, 21)]) 7 146 1 6 G N0 SH RR [vR 0, vI x1, vI x2, vI x3, vI x4, vI x5, vI x6] z I J (mwQ (kJoin S x1 x2 x3 x4 x5 x6) (cdV (kJoin S x1 x2 x3 x4 x5 x6) (S 4) (-2000001) (-2000002) (-2000003)) I J (oJoin S (S 4).toNat x1 x2 x3 x4 x5 x6) (psh S D9) (cN c9)) gNo := by
  refine gm_ofH (lo0 := [some (vR 0), some (vI x1), some (vI x2), some (vI x3), some (vI x4), some (vI x5), some (vI x6), none]) hl0 (by decide) rfl (Nat.le_of_ble_eq_true rfl) ?_
  intro p e s m args below meth c C ht hgi
  have C : gC G p l s m args meth c cL_joins 8 RL (some .int) "joins" := C
  refine gw_aload_n C 0 dL_joins_0 rfl rfl ?_
  refine gw_iload_n C 1 dL_joins_1 rfl rfl ?_
  refine gw_iload_n C 2 dL_joins_2 rfl rfl ?_
  refine gw_iload_n C 3 dL_joins_3 rfl rfl ?_
  refine gw_iload C dL_joins_4 rfl ?_
  refine gw_iload C dL_joins_6 rfl ?_
  refine gw_iload C dL_joins_8 rfl ?_
  refine gw_callV C (as := [vI x1, vI x2, vI x3, vI x4, vI x5, vI x6]) (st := []) (ci := 6) (T0 := TX7) (N := 3) (c_X7_join hl0 G I J hCI x1 x2 x3 x4 x5 x6 hx1 hx2 hx3 hx4 hx5 hx6) dL_joins_10 kL_34 qX7_join hdX7_join ⟨Nat.le_of_ble_eq_true rfl, Nat.le_of_ble_eq_true rfl⟩ ⟨Nat.le_of_ble_eq_true rfl, Nat.le_of_ble_eq_true rfl⟩ (Nat.le_of_ble_eq_true rfl) rfl xs_0 xn_0 rfl ?_ ?_
  · intro E9 z9 I9 J9 hx9
    obtain ⟨hx9, eI, eJ⟩ := hx9
    rw [eI, eJ]
    rcases hx9 with ⟨hk, e9⟩ | ⟨hk, e9⟩ | ⟨hk, e9⟩
    · skip
      rw [e9]
      refine gwx_catch C (name := "java/lang/IndexOutOfBoundsException") [] (⟨0, 13, 14, 27⟩ : ExceptionTableEntry) [(⟨0, 13, 19, 15⟩ : ExceptionTableEntry), (⟨0, 13, 24, 21⟩ : ExceptionTableEntry)] ht (fun y hy => absurd hy List.not_mem_nil) (by decide) (by decide) kL_27 (List.mem_of_getElem? (i := 2) rfl) (fun q9 => ?_)
      refine gw_astoreA C (lo1 := [some (vR 0), some (vI x1), some (vI x2), some (vI x3), some (vI x4), some (vI x5), some (vI x6), some (vA q9)]) dL_joins_14 (by decide) rfl ?_
      refine gw_ldc C (x := (-2000001)) dL_joins_16 kL_29 (by decide) ?_
      exact gw_iret C (Nat.le_of_ble_eq_true rfl) (Nat.le_of_ble_eq_true rfl) dL_joins_18 (⟨by rw [cdV_1 (hk)], ⟨fun q => absurd (q.symm.trans (hk)) (by decide), fun _ => rfl⟩, rfl⟩)
    · skip
      rw [e9]
      refine gwx_catch C (name := "java/lang/IllegalArgumentException") [(⟨0, 13, 14, 27⟩ : ExceptionTableEntry)] (⟨0, 13, 19, 15⟩ : ExceptionTableEntry) [(⟨0, 13, 24, 21⟩ : ExceptionTableEntry)] ht (List.forall_mem_cons.mpr ⟨Or.inr ⟨by decide, "java/lang/IndexOutOfBoundsException", kL_27, List.mem_of_getElem? (i := 1) rfl⟩, fun _ h => absurd h List.not_mem_nil⟩) (by decide) (by decide) kL_15 (List.mem_of_getElem? (i := 0) rfl) (fun q9 => ?_)
      refine gw_astoreA C (lo1 := [some (vR 0), some (vI x1), some (vI x2), some (vI x3), some (vI x4), some (vI x5), some (vI x6), some (vA q9)]) dL_joins_19 (by decide) rfl ?_
      refine gw_ldc C (x := (-2000002)) dL_joins_21 kL_17 (by decide) ?_
      exact gw_iret C (Nat.le_of_ble_eq_true rfl) (Nat.le_of_ble_eq_true rfl) dL_joins_23 (⟨by rw [cdV_2 (hk)], ⟨fun q => absurd (q.symm.trans (hk)) (by decide), fun _ => rfl⟩, rfl⟩)
    · skip
      rw [e9]
      refine gwx_catch C (name := "java/lang/IllegalStateException") [(⟨0, 13, 14, 27⟩ : ExceptionTableEntry), (⟨0, 13, 19, 15⟩ : ExceptionTableEntry)] (⟨0, 13, 24, 21⟩ : ExceptionTableEntry) [] ht (List.forall_mem_cons.mpr ⟨Or.inr ⟨by decide, "java/lang/IndexOutOfBoundsException", kL_27, List.mem_of_getElem? (i := 3) rfl⟩, List.forall_mem_cons.mpr ⟨Or.inr ⟨by decide, "java/lang/IllegalArgumentException", kL_15, List.mem_of_getElem? (i := 2) rfl⟩, fun _ h => absurd h List.not_mem_nil⟩⟩) (by decide) (by decide) kL_21 (List.mem_of_getElem? (i := 1) rfl) (fun q9 => ?_)
      refine gw_astoreA C (lo1 := [some (vR 0), some (vI x1), some (vI x2), some (vI x3), some (vI x4), some (vI x5), some (vI x6), some (vA q9)]) dL_joins_24 (by decide) rfl ?_
      refine gw_ldc C (x := (-2000003)) dL_joins_26 kL_23 (by decide) ?_
      exact gw_iret C (Nat.le_of_ble_eq_true rfl) (Nat.le_of_ble_eq_true rfl) dL_joins_28 (⟨by rw [cdV_3 (hk)], ⟨fun q => absurd (q.symm.trans (hk)) (by decide), fun _ => rfl⟩, rfl⟩)
  · intro v9 z9 I9 J9 hv9
    obtain ⟨⟨hk0, ev⟩, hm, eJ⟩ := hv9
    rw [ev, eJ]
    show GW G p l e ({ frames := 7, cells := 1, slots := 6, locals := 146 } : Room) s m args below meth c 8 z9 N0 SH RR I9 J 1 6 (vx_MQ below (GQ G N0 SH RR (mwQ (kJoin S x1 x2 x3 x4 x5 x6) (cdV (kJoin S x1 x2 x3 x4 x5 x6) (S 4) (-2000001) (-2000002) (-2000003)) I J (oJoin S (S 4).toNat x1 x2 x3 x4 x5 x6) (psh S D9) (cN c9))) (GX G N0 SH RR gNo) args s 1 6 (ge G)) 13 [some (vR 0), some (vI x1), some (vI x2), some (vI x3), some (vI x4), some (vI x5), some (vI x6), none] [vI (S 4)]
    exact gw_iret C (Nat.le_of_ble_eq_true rfl) (Nat.le_of_ble_eq_true rfl) dL_joins_13 (⟨by rw [cdV_0 (hk0)], ⟨fun _ => hm, fun q => absurd (hk0) q⟩, rfl⟩)
set_option maxHeartbeats 4000000 in
set_option maxRecDepth 100000 in
theorem c_L_begins {l : Launch} (hl0 : l.stackTraces = false) (G : GG) (I J : GI) {z : Nat} {S : Nat → Int} {D9 : Nat → Nat → Int} {c9 : Nat} (hCI : CI I S D9 c9) (x1 : Int) (hx1 : inI x1) : GM l yL_begins (.codeWith yL_begins cL_begins 3 (some .int) [(0, 5, 6, 27), (0, 5, 10, 21)]) 7 141 1 6 G N0 SH RR [vR 0, vI x1] z I J (mwQ (kBegin S x1) (cdV (kBegin S x1) (S 5) (-2000001) (-2000003) 0) I J (oBegin S (S 5).toNat x1) (psh S D9) (cN c9)) gNo := by
  refine gm_ofH (lo0 := [some (vR 0), some (vI x1), none]) hl0 (by decide) rfl (Nat.le_of_ble_eq_true rfl) ?_
  intro p e s m args below meth c C ht hgi
  have C : gC G p l s m args meth c cL_begins 3 RL (some .int) "begins" := C
  refine gw_aload_n C 0 dL_begins_0 rfl rfl ?_
  refine gw_iload_n C 1 dL_begins_1 rfl rfl ?_
  refine gw_callV C (as := [vI x1]) (st := []) (ci := 6) (T0 := TX7) (N := 3) (c_X7_begin hl0 G I J hCI x1 hx1) dL_begins_2 kL_41 qX7_begin hdX7_begin ⟨Nat.le_of_ble_eq_true rfl, Nat.le_of_ble_eq_true rfl⟩ ⟨Nat.le_of_ble_eq_true rfl, Nat.le_of_ble_eq_true rfl⟩ (Nat.le_of_ble_eq_true rfl) rfl xs_0 xn_0 rfl ?_ ?_
  · intro E9 z9 I9 J9 hx9
    obtain ⟨hx9, eI, eJ⟩ := hx9
    rw [eI, eJ]
    rcases hx9 with ⟨hk, e9⟩ | ⟨hk, e9⟩ | ⟨hk, e9⟩
    · skip
      rw [e9]
      refine gwx_catch C (name := "java/lang/IndexOutOfBoundsException") [] (⟨0, 5, 6, 27⟩ : ExceptionTableEntry) [(⟨0, 5, 10, 21⟩ : ExceptionTableEntry)] ht (fun y hy => absurd hy List.not_mem_nil) (by decide) (by decide) kL_27 (List.mem_of_getElem? (i := 2) rfl) (fun q9 => ?_)
      refine gw_astoreA_n C (lo1 := [some (vR 0), some (vI x1), some (vA q9)]) 2 dL_begins_6 rfl (by decide) rfl ?_
      refine gw_ldc C (x := (-2000001)) dL_begins_7 kL_29 (by decide) ?_
      exact gw_iret C (Nat.le_of_ble_eq_true rfl) (Nat.le_of_ble_eq_true rfl) dL_begins_9 (⟨by rw [cdV_1 (hk)], ⟨fun q => absurd (q.symm.trans (hk)) (by decide), fun _ => rfl⟩, rfl⟩)
    · skip
      rw [e9]
      refine gwx_catch C (name := "java/lang/IllegalStateException") [(⟨0, 5, 6, 27⟩ : ExceptionTableEntry)] (⟨0, 5, 10, 21⟩ : ExceptionTableEntry) [] ht (List.forall_mem_cons.mpr ⟨Or.inr ⟨by decide, "java/lang/IndexOutOfBoundsException", kL_27, List.mem_of_getElem? (i := 3) rfl⟩, fun _ h => absurd h List.not_mem_nil⟩) (by decide) (by decide) kL_21 (List.mem_of_getElem? (i := 1) rfl) (fun q9 => ?_)
      refine gw_astoreA_n C (lo1 := [some (vR 0), some (vI x1), some (vA q9)]) 2 dL_begins_10 rfl (by decide) rfl ?_
      refine gw_ldc C (x := (-2000003)) dL_begins_11 kL_23 (by decide) ?_
      exact gw_iret C (Nat.le_of_ble_eq_true rfl) (Nat.le_of_ble_eq_true rfl) dL_begins_13 (⟨by rw [cdV_2 (hk)], ⟨fun q => absurd (q.symm.trans (hk)) (by decide), fun _ => rfl⟩, rfl⟩)
    · skip
      exact absurd hk (by unfold kBegin; (repeat' split) <;> decide)
  · intro v9 z9 I9 J9 hv9
    obtain ⟨⟨hk0, ev⟩, hm, eJ⟩ := hv9
    rw [ev, eJ]
    show GW G p l e ({ frames := 7, cells := 1, slots := 6, locals := 141 } : Room) s m args below meth c 3 z9 N0 SH RR I9 J 1 6 (vx_MQ below (GQ G N0 SH RR (mwQ (kBegin S x1) (cdV (kBegin S x1) (S 5) (-2000001) (-2000003) 0) I J (oBegin S (S 5).toNat x1) (psh S D9) (cN c9))) (GX G N0 SH RR gNo) args s 1 6 (ge G)) 5 [some (vR 0), some (vI x1), none] [vI (S 5)]
    exact gw_iret C (Nat.le_of_ble_eq_true rfl) (Nat.le_of_ble_eq_true rfl) dL_begins_5 (⟨by rw [cdV_0 (hk0)], ⟨fun _ => hm, fun q => absurd (hk0) q⟩, rfl⟩)
set_option maxHeartbeats 4000000 in
set_option maxRecDepth 100000 in
theorem c_L_stills {l : Launch} (hl0 : l.stackTraces = false) (G : GG) (I J : GI) {z : Nat} {S : Nat → Int} {D9 : Nat → Nat → Int} {c9 : Nat} (hCI : CI I S D9 c9) (x1 : Int) (hx1 : inI x1) : GM l yL_stills (.codeWith yL_stills cL_stills 3 (some .int) [(0, 5, 6, 27)]) 7 142 1 6 G N0 SH RR [vR 0, vI x1] z I J (mwQ (kStill S x1) (cdV (kStill S x1) (S (8 + 12 * x1.toNat)) (-2000001) 0 0) I J (oStill S x1.toNat) (psh S D9) (cN c9)) gNo := by
  refine gm_ofH (lo0 := [some (vR 0), some (vI x1), none]) hl0 (by decide) rfl (Nat.le_of_ble_eq_true rfl) ?_
  intro p e s m args below meth c C ht hgi
  have C : gC G p l s m args meth c cL_stills 3 RL (some .int) "stills" := C
  refine gw_aload_n C 0 dL_stills_0 rfl rfl ?_
  refine gw_iload_n C 1 dL_stills_1 rfl rfl ?_
  refine gw_callV C (as := [vI x1]) (st := []) (ci := 6) (T0 := TX7) (N := 3) (c_X7_still hl0 G I J hCI x1 hx1) dL_stills_2 kL_30 qX7_still hdX7_still ⟨Nat.le_of_ble_eq_true rfl, Nat.le_of_ble_eq_true rfl⟩ ⟨Nat.le_of_ble_eq_true rfl, Nat.le_of_ble_eq_true rfl⟩ (Nat.le_of_ble_eq_true rfl) rfl xs_0 xn_0 rfl ?_ ?_
  · intro E9 z9 I9 J9 hx9
    obtain ⟨hx9, eI, eJ⟩ := hx9
    rw [eI, eJ]
    rcases hx9 with ⟨hk, e9⟩ | ⟨hk, e9⟩ | ⟨hk, e9⟩
    · skip
      rw [e9]
      refine gwx_catch C (name := "java/lang/IndexOutOfBoundsException") [] (⟨0, 5, 6, 27⟩ : ExceptionTableEntry) [] ht (fun y hy => absurd hy List.not_mem_nil) (by decide) (by decide) kL_27 (List.mem_of_getElem? (i := 2) rfl) (fun q9 => ?_)
      refine gw_astoreA_n C (lo1 := [some (vR 0), some (vI x1), some (vA q9)]) 2 dL_stills_6 rfl (by decide) rfl ?_
      refine gw_ldc C (x := (-2000001)) dL_stills_7 kL_29 (by decide) ?_
      exact gw_iret C (Nat.le_of_ble_eq_true rfl) (Nat.le_of_ble_eq_true rfl) dL_stills_9 (⟨by rw [cdV_1 (hk)], ⟨fun q => absurd (q.symm.trans (hk)) (by decide), fun _ => rfl⟩, rfl⟩)
    · skip
      exact absurd hk (by unfold kStill; (repeat' split) <;> decide)
    · skip
      exact absurd hk (by unfold kStill; (repeat' split) <;> decide)
  · intro v9 z9 I9 J9 hv9
    obtain ⟨⟨hk0, ev⟩, hm, eJ⟩ := hv9
    rw [ev, eJ]
    show GW G p l e ({ frames := 7, cells := 1, slots := 6, locals := 142 } : Room) s m args below meth c 3 z9 N0 SH RR I9 J 1 6 (vx_MQ below (GQ G N0 SH RR (mwQ (kStill S x1) (cdV (kStill S x1) (S (8 + 12 * x1.toNat)) (-2000001) 0 0) I J (oStill S x1.toNat) (psh S D9) (cN c9))) (GX G N0 SH RR gNo) args s 1 6 (ge G)) 5 [some (vR 0), some (vI x1), none] [vI (S (8 + 12 * x1.toNat))]
    exact gw_iret C (Nat.le_of_ble_eq_true rfl) (Nat.le_of_ble_eq_true rfl) dL_stills_5 (⟨by rw [cdV_0 (hk0)], ⟨fun _ => hm, fun q => absurd (hk0) q⟩, rfl⟩)
set_option maxHeartbeats 4000000 in
set_option maxRecDepth 100000 in
theorem c_L_measures {l : Launch} (hl0 : l.stackTraces = false) (G : GG) (I J : GI) {z : Nat} {S : Nat → Int} {D9 : Nat → Nat → Int} {c9 : Nat} (hCI : CI I S D9 c9) (x1 x2 : Int) (hx1 : inI x1) (hx2 : inI x2) : GM l yL_measures (.codeWith yL_measures cL_measures 4 (some .int) [(0, 6, 7, 27), (0, 6, 11, 15)]) 7 143 1 6 G N0 SH RR [vR 0, vI x1, vI x2] z I J (mwQ (kMeas S x1 x2) (cdV (kMeas S x1 x2) (S (83 + 6 * x1.toNat)) (-2000001) (-2000002) 0) I J (oMeas S x1.toNat x2) (psh S D9) (cN c9)) gNo := by
  refine gm_ofH (lo0 := [some (vR 0), some (vI x1), some (vI x2), none]) hl0 (by decide) rfl (Nat.le_of_ble_eq_true rfl) ?_
  intro p e s m args below meth c C ht hgi
  have C : gC G p l s m args meth c cL_measures 4 RL (some .int) "measures" := C
  refine gw_aload_n C 0 dL_measures_0 rfl rfl ?_
  refine gw_iload_n C 1 dL_measures_1 rfl rfl ?_
  refine gw_iload_n C 2 dL_measures_2 rfl rfl ?_
  refine gw_callV C (as := [vI x1, vI x2]) (st := []) (ci := 6) (T0 := TX7) (N := 3) (c_X7_measure hl0 G I J hCI x1 x2 hx1 hx2) dL_measures_3 kL_38 qX7_measure hdX7_measure ⟨Nat.le_of_ble_eq_true rfl, Nat.le_of_ble_eq_true rfl⟩ ⟨Nat.le_of_ble_eq_true rfl, Nat.le_of_ble_eq_true rfl⟩ (Nat.le_of_ble_eq_true rfl) rfl xs_0 xn_0 rfl ?_ ?_
  · intro E9 z9 I9 J9 hx9
    obtain ⟨hx9, eI, eJ⟩ := hx9
    rw [eI, eJ]
    rcases hx9 with ⟨hk, e9⟩ | ⟨hk, e9⟩ | ⟨hk, e9⟩
    · skip
      rw [e9]
      refine gwx_catch C (name := "java/lang/IndexOutOfBoundsException") [] (⟨0, 6, 7, 27⟩ : ExceptionTableEntry) [(⟨0, 6, 11, 15⟩ : ExceptionTableEntry)] ht (fun y hy => absurd hy List.not_mem_nil) (by decide) (by decide) kL_27 (List.mem_of_getElem? (i := 2) rfl) (fun q9 => ?_)
      refine gw_astoreA_n C (lo1 := [some (vR 0), some (vI x1), some (vI x2), some (vA q9)]) 3 dL_measures_7 rfl (by decide) rfl ?_
      refine gw_ldc C (x := (-2000001)) dL_measures_8 kL_29 (by decide) ?_
      exact gw_iret C (Nat.le_of_ble_eq_true rfl) (Nat.le_of_ble_eq_true rfl) dL_measures_10 (⟨by rw [cdV_1 (hk)], ⟨fun q => absurd (q.symm.trans (hk)) (by decide), fun _ => rfl⟩, rfl⟩)
    · skip
      rw [e9]
      refine gwx_catch C (name := "java/lang/IllegalArgumentException") [(⟨0, 6, 7, 27⟩ : ExceptionTableEntry)] (⟨0, 6, 11, 15⟩ : ExceptionTableEntry) [] ht (List.forall_mem_cons.mpr ⟨Or.inr ⟨by decide, "java/lang/IndexOutOfBoundsException", kL_27, List.mem_of_getElem? (i := 1) rfl⟩, fun _ h => absurd h List.not_mem_nil⟩) (by decide) (by decide) kL_15 (List.mem_of_getElem? (i := 0) rfl) (fun q9 => ?_)
      refine gw_astoreA_n C (lo1 := [some (vR 0), some (vI x1), some (vI x2), some (vA q9)]) 3 dL_measures_11 rfl (by decide) rfl ?_
      refine gw_ldc C (x := (-2000002)) dL_measures_12 kL_17 (by decide) ?_
      exact gw_iret C (Nat.le_of_ble_eq_true rfl) (Nat.le_of_ble_eq_true rfl) dL_measures_14 (⟨by rw [cdV_2 (hk)], ⟨fun q => absurd (q.symm.trans (hk)) (by decide), fun _ => rfl⟩, rfl⟩)
    · skip
      exact absurd hk (by unfold kMeas; (repeat' split) <;> decide)
  · intro v9 z9 I9 J9 hv9
    obtain ⟨⟨hk0, ev⟩, hm, eJ⟩ := hv9
    rw [ev, eJ]
    show GW G p l e ({ frames := 7, cells := 1, slots := 6, locals := 143 } : Room) s m args below meth c 4 z9 N0 SH RR I9 J 1 6 (vx_MQ below (GQ G N0 SH RR (mwQ (kMeas S x1 x2) (cdV (kMeas S x1 x2) (S (83 + 6 * x1.toNat)) (-2000001) (-2000002) 0) I J (oMeas S x1.toNat x2) (psh S D9) (cN c9))) (GX G N0 SH RR gNo) args s 1 6 (ge G)) 6 [some (vR 0), some (vI x1), some (vI x2), none] [vI (S (83 + 6 * x1.toNat))]
    exact gw_iret C (Nat.le_of_ble_eq_true rfl) (Nat.le_of_ble_eq_true rfl) dL_measures_6 (⟨by rw [cdV_0 (hk0)], ⟨fun _ => hm, fun q => absurd (hk0) q⟩, rfl⟩)
set_option maxHeartbeats 4000000 in
set_option maxRecDepth 100000 in
theorem c_L_closes {l : Launch} (hl0 : l.stackTraces = false) (G : GG) (I J : GI) {z : Nat} {S : Nat → Int} {D9 : Nat → Nat → Int} {c9 : Nat} (hCI : CI I S D9 c9) (x1 x2 x3 : Int) (hx1 : inI x1) (hx2 : inI x2) (hx3 : inI x3) : GM l yL_closes (.codeWith yL_closes cL_closes 5 (some .int) [(0, 7, 8, 27), (0, 7, 13, 15), (0, 7, 18, 21)]) 7 143 1 6 G N0 SH RR [vR 0, vI x1, vI x2, vI x3] z I J (mwQ (kClose S x1 x2 x3) (cdV (kClose S x1 x2 x3) (sTT (oClose S x1.toNat x2 x3) x1.toNat) (-2000001) (-2000002) (-2000003)) I J (oClose S x1.toNat x2 x3) (psh S D9) (cN c9)) gNo := by
  refine gm_ofH (lo0 := [some (vR 0), some (vI x1), some (vI x2), some (vI x3), none]) hl0 (by decide) rfl (Nat.le_of_ble_eq_true rfl) ?_
  intro p e s m args below meth c C ht hgi
  have C : gC G p l s m args meth c cL_closes 5 RL (some .int) "closes" := C
  refine gw_aload_n C 0 dL_closes_0 rfl rfl ?_
  refine gw_iload_n C 1 dL_closes_1 rfl rfl ?_
  refine gw_iload_n C 2 dL_closes_2 rfl rfl ?_
  refine gw_iload_n C 3 dL_closes_3 rfl rfl ?_
  refine gw_callV C (as := [vI x1, vI x2, vI x3]) (st := []) (ci := 6) (T0 := TX7) (N := 3) (c_X7_close hl0 G I J hCI x1 x2 x3 hx1 hx2 hx3) dL_closes_4 kL_51 qX7_close hdX7_close ⟨Nat.le_of_ble_eq_true rfl, Nat.le_of_ble_eq_true rfl⟩ ⟨Nat.le_of_ble_eq_true rfl, Nat.le_of_ble_eq_true rfl⟩ (Nat.le_of_ble_eq_true rfl) rfl xs_0 xn_0 rfl ?_ ?_
  · intro E9 z9 I9 J9 hx9
    obtain ⟨hx9, eI, eJ⟩ := hx9
    rw [eI, eJ]
    rcases hx9 with ⟨hk, e9⟩ | ⟨hk, e9⟩ | ⟨hk, e9⟩
    · skip
      rw [e9]
      refine gwx_catch C (name := "java/lang/IndexOutOfBoundsException") [] (⟨0, 7, 8, 27⟩ : ExceptionTableEntry) [(⟨0, 7, 13, 15⟩ : ExceptionTableEntry), (⟨0, 7, 18, 21⟩ : ExceptionTableEntry)] ht (fun y hy => absurd hy List.not_mem_nil) (by decide) (by decide) kL_27 (List.mem_of_getElem? (i := 2) rfl) (fun q9 => ?_)
      refine gw_astoreA C (lo1 := [some (vR 0), some (vI x1), some (vI x2), some (vI x3), some (vA q9)]) dL_closes_8 (by decide) rfl ?_
      refine gw_ldc C (x := (-2000001)) dL_closes_10 kL_29 (by decide) ?_
      exact gw_iret C (Nat.le_of_ble_eq_true rfl) (Nat.le_of_ble_eq_true rfl) dL_closes_12 (⟨by rw [cdV_1 (hk)], ⟨fun q => absurd (q.symm.trans (hk)) (by decide), fun _ => rfl⟩, rfl⟩)
    · skip
      rw [e9]
      refine gwx_catch C (name := "java/lang/IllegalArgumentException") [(⟨0, 7, 8, 27⟩ : ExceptionTableEntry)] (⟨0, 7, 13, 15⟩ : ExceptionTableEntry) [(⟨0, 7, 18, 21⟩ : ExceptionTableEntry)] ht (List.forall_mem_cons.mpr ⟨Or.inr ⟨by decide, "java/lang/IndexOutOfBoundsException", kL_27, List.mem_of_getElem? (i := 1) rfl⟩, fun _ h => absurd h List.not_mem_nil⟩) (by decide) (by decide) kL_15 (List.mem_of_getElem? (i := 0) rfl) (fun q9 => ?_)
      refine gw_astoreA C (lo1 := [some (vR 0), some (vI x1), some (vI x2), some (vI x3), some (vA q9)]) dL_closes_13 (by decide) rfl ?_
      refine gw_ldc C (x := (-2000002)) dL_closes_15 kL_17 (by decide) ?_
      exact gw_iret C (Nat.le_of_ble_eq_true rfl) (Nat.le_of_ble_eq_true rfl) dL_closes_17 (⟨by rw [cdV_2 (hk)], ⟨fun q => absurd (q.symm.trans (hk)) (by decide), fun _ => rfl⟩, rfl⟩)
    · skip
      rw [e9]
      refine gwx_catch C (name := "java/lang/IllegalStateException") [(⟨0, 7, 8, 27⟩ : ExceptionTableEntry), (⟨0, 7, 13, 15⟩ : ExceptionTableEntry)] (⟨0, 7, 18, 21⟩ : ExceptionTableEntry) [] ht (List.forall_mem_cons.mpr ⟨Or.inr ⟨by decide, "java/lang/IndexOutOfBoundsException", kL_27, List.mem_of_getElem? (i := 3) rfl⟩, List.forall_mem_cons.mpr ⟨Or.inr ⟨by decide, "java/lang/IllegalArgumentException", kL_15, List.mem_of_getElem? (i := 2) rfl⟩, fun _ h => absurd h List.not_mem_nil⟩⟩) (by decide) (by decide) kL_21 (List.mem_of_getElem? (i := 1) rfl) (fun q9 => ?_)
      refine gw_astoreA C (lo1 := [some (vR 0), some (vI x1), some (vI x2), some (vI x3), some (vA q9)]) dL_closes_18 (by decide) rfl ?_
      refine gw_ldc C (x := (-2000003)) dL_closes_20 kL_23 (by decide) ?_
      exact gw_iret C (Nat.le_of_ble_eq_true rfl) (Nat.le_of_ble_eq_true rfl) dL_closes_22 (⟨by rw [cdV_3 (hk)], ⟨fun q => absurd (q.symm.trans (hk)) (by decide), fun _ => rfl⟩, rfl⟩)
  · intro v9 z9 I9 J9 hv9
    obtain ⟨⟨hk0, ev⟩, hm, eJ⟩ := hv9
    rw [ev, eJ]
    show GW G p l e ({ frames := 7, cells := 1, slots := 6, locals := 143 } : Room) s m args below meth c 5 z9 N0 SH RR I9 J 1 6 (vx_MQ below (GQ G N0 SH RR (mwQ (kClose S x1 x2 x3) (cdV (kClose S x1 x2 x3) (sTT (oClose S x1.toNat x2 x3) x1.toNat) (-2000001) (-2000002) (-2000003)) I J (oClose S x1.toNat x2 x3) (psh S D9) (cN c9))) (GX G N0 SH RR gNo) args s 1 6 (ge G)) 7 [some (vR 0), some (vI x1), some (vI x2), some (vI x3), none] [vI (sTT (oClose S x1.toNat x2 x3) x1.toNat)]
    exact gw_iret C (Nat.le_of_ble_eq_true rfl) (Nat.le_of_ble_eq_true rfl) dL_closes_7 (⟨by rw [cdV_0 (hk0)], ⟨fun _ => hm, fun q => absurd (hk0) q⟩, rfl⟩)
set_option maxHeartbeats 4000000 in
set_option maxRecDepth 100000 in
theorem c_L_swings {l : Launch} (hl0 : l.stackTraces = false) (G : GG) (I J : GI) {z : Nat} {S : Nat → Int} {D9 : Nat → Nat → Int} {c9 : Nat} (hCI : CI I S D9 c9) (x1 x2 : Int) (hx1 : inI x1) (hx2 : inI x2) : GM l yL_swings (.codeWith yL_swings cL_swings 4 (some .int) [(0, 6, 7, 27), (0, 6, 11, 15), (0, 6, 15, 21)]) 8 167 1 6 G N0 SH RR [vR 0, vI x1, vI x2] z I J (mwQ (rfT S x1 x2) (cdV (rfT S x1 x2) (S (8 + 12 * x1.toNat) + 1) (-2000001) (-2000002) (-2000003)) I J (oSwing S x1.toNat (S (8 + 12 * x1.toNat)).toNat x2) (psh S D9) (cN c9)) gNo := by
  refine gm_ofH (lo0 := [some (vR 0), some (vI x1), some (vI x2), none]) hl0 (by decide) rfl (Nat.le_of_ble_eq_true rfl) ?_
  intro p e s m args below meth c C ht hgi
  have C : gC G p l s m args meth c cL_swings 4 RL (some .int) "swings" := C
  refine gw_aload_n C 0 dL_swings_0 rfl rfl ?_
  refine gw_iload_n C 1 dL_swings_1 rfl rfl ?_
  refine gw_iload_n C 2 dL_swings_2 rfl rfl ?_
  refine gw_callV C (as := [vI x1, vI x2]) (st := []) (ci := 6) (T0 := TX7) (N := 3) (c_X7_swing hl0 G I J hCI x1 x2 hx1 hx2) dL_swings_3 kL_24 qX7_swing hdX7_swing ⟨Nat.le_of_ble_eq_true rfl, Nat.le_of_ble_eq_true rfl⟩ ⟨Nat.le_of_ble_eq_true rfl, Nat.le_of_ble_eq_true rfl⟩ (Nat.le_of_ble_eq_true rfl) rfl xs_0 xn_0 rfl ?_ ?_
  · intro E9 z9 I9 J9 hx9
    obtain ⟨hx9, eI, eJ⟩ := hx9
    rw [eI, eJ]
    rcases hx9 with ⟨hk, e9⟩ | ⟨hk, e9⟩ | ⟨hk, e9⟩
    · skip
      rw [e9]
      refine gwx_catch C (name := "java/lang/IndexOutOfBoundsException") [] (⟨0, 6, 7, 27⟩ : ExceptionTableEntry) [(⟨0, 6, 11, 15⟩ : ExceptionTableEntry), (⟨0, 6, 15, 21⟩ : ExceptionTableEntry)] ht (fun y hy => absurd hy List.not_mem_nil) (by decide) (by decide) kL_27 (List.mem_of_getElem? (i := 2) rfl) (fun q9 => ?_)
      refine gw_astoreA_n C (lo1 := [some (vR 0), some (vI x1), some (vI x2), some (vA q9)]) 3 dL_swings_7 rfl (by decide) rfl ?_
      refine gw_ldc C (x := (-2000001)) dL_swings_8 kL_29 (by decide) ?_
      exact gw_iret C (Nat.le_of_ble_eq_true rfl) (Nat.le_of_ble_eq_true rfl) dL_swings_10 (⟨by rw [cdV_1 (show rfT S x1 x2 = 1 from hk)], ⟨fun q => absurd (q.symm.trans (show rfT S x1 x2 = 1 from hk)) (by decide), fun _ => rfl⟩, rfl⟩)
    · skip
      rw [e9]
      refine gwx_catch C (name := "java/lang/IllegalArgumentException") [(⟨0, 6, 7, 27⟩ : ExceptionTableEntry)] (⟨0, 6, 11, 15⟩ : ExceptionTableEntry) [(⟨0, 6, 15, 21⟩ : ExceptionTableEntry)] ht (List.forall_mem_cons.mpr ⟨Or.inr ⟨by decide, "java/lang/IndexOutOfBoundsException", kL_27, List.mem_of_getElem? (i := 1) rfl⟩, fun _ h => absurd h List.not_mem_nil⟩) (by decide) (by decide) kL_15 (List.mem_of_getElem? (i := 0) rfl) (fun q9 => ?_)
      refine gw_astoreA_n C (lo1 := [some (vR 0), some (vI x1), some (vI x2), some (vA q9)]) 3 dL_swings_11 rfl (by decide) rfl ?_
      refine gw_ldc C (x := (-2000002)) dL_swings_12 kL_17 (by decide) ?_
      exact gw_iret C (Nat.le_of_ble_eq_true rfl) (Nat.le_of_ble_eq_true rfl) dL_swings_14 (⟨by rw [cdV_2 (show rfT S x1 x2 = 2 from hk)], ⟨fun q => absurd (q.symm.trans (show rfT S x1 x2 = 2 from hk)) (by decide), fun _ => rfl⟩, rfl⟩)
    · skip
      rw [e9]
      refine gwx_catch C (name := "java/lang/IllegalStateException") [(⟨0, 6, 7, 27⟩ : ExceptionTableEntry), (⟨0, 6, 11, 15⟩ : ExceptionTableEntry)] (⟨0, 6, 15, 21⟩ : ExceptionTableEntry) [] ht (List.forall_mem_cons.mpr ⟨Or.inr ⟨by decide, "java/lang/IndexOutOfBoundsException", kL_27, List.mem_of_getElem? (i := 3) rfl⟩, List.forall_mem_cons.mpr ⟨Or.inr ⟨by decide, "java/lang/IllegalArgumentException", kL_15, List.mem_of_getElem? (i := 2) rfl⟩, fun _ h => absurd h List.not_mem_nil⟩⟩) (by decide) (by decide) kL_21 (List.mem_of_getElem? (i := 1) rfl) (fun q9 => ?_)
      refine gw_astoreA_n C (lo1 := [some (vR 0), some (vI x1), some (vI x2), some (vA q9)]) 3 dL_swings_15 rfl (by decide) rfl ?_
      refine gw_ldc C (x := (-2000003)) dL_swings_16 kL_23 (by decide) ?_
      exact gw_iret C (Nat.le_of_ble_eq_true rfl) (Nat.le_of_ble_eq_true rfl) dL_swings_18 (⟨by rw [cdV_3 (show rfT S x1 x2 = 3 from hk)], ⟨fun q => absurd (q.symm.trans (show rfT S x1 x2 = 3 from hk)) (by decide), fun _ => rfl⟩, rfl⟩)
  · intro v9 z9 I9 J9 hv9
    obtain ⟨⟨hk0, ev⟩, hm, eJ⟩ := hv9
    rw [ev, eJ]
    show GW G p l e ({ frames := 8, cells := 1, slots := 6, locals := 167 } : Room) s m args below meth c 4 z9 N0 SH RR I9 J 1 6 (vx_MQ below (GQ G N0 SH RR (mwQ (rfT S x1 x2) (cdV (rfT S x1 x2) (S (8 + 12 * x1.toNat) + 1) (-2000001) (-2000002) (-2000003)) I J (oSwing S x1.toNat (S (8 + 12 * x1.toNat)).toNat x2) (psh S D9) (cN c9))) (GX G N0 SH RR gNo) args s 1 6 (ge G)) 6 [some (vR 0), some (vI x1), some (vI x2), none] [vI (S (8 + 12 * x1.toNat) + 1)]
    exact gw_iret C (Nat.le_of_ble_eq_true rfl) (Nat.le_of_ble_eq_true rfl) dL_swings_6 (⟨by rw [cdV_0 (show rfT S x1 x2 = 0 from hk0)], ⟨fun _ => hm, fun q => absurd (show rfT S x1 x2 = 0 from hk0) q⟩, rfl⟩)
set_option maxHeartbeats 4000000 in
set_option maxRecDepth 100000 in
theorem c_L_adds {l : Launch} (hl0 : l.stackTraces = false) (G : GG) (I J : GI) {z : Nat} {S : Nat → Int} {D9 : Nat → Nat → Int} {c9 : Nat} (hCI : CI I S D9 c9) (x1 x2 x3 : Int) (hx1 : inI x1) (hx2 : inI x2) (hx3 : inI x3) : GM l yL_adds (.codeWith yL_adds cL_adds 5 (some .int) [(0, 7, 8, 27), (0, 7, 13, 15), (0, 7, 18, 21)]) 8 168 1 6 G N0 SH RR [vR 0, vI x1, vI x2, vI x3] z I J (mwQ (rfL S x1 x2 x3) (cdV (rfL S x1 x2 x3) (S (103 + 28 * x1.toNat)) (-2000001) (-2000002) (-2000003)) I J (oAdd S x1.toNat (S (103 + 28 * x1.toNat)).toNat x2 x3) (psh S D9) (cN c9)) gNo := by
  refine gm_ofH (lo0 := [some (vR 0), some (vI x1), some (vI x2), some (vI x3), none]) hl0 (by decide) rfl (Nat.le_of_ble_eq_true rfl) ?_
  intro p e s m args below meth c C ht hgi
  have C : gC G p l s m args meth c cL_adds 5 RL (some .int) "adds" := C
  refine gw_aload_n C 0 dL_adds_0 rfl rfl ?_
  refine gw_iload_n C 1 dL_adds_1 rfl rfl ?_
  refine gw_iload_n C 2 dL_adds_2 rfl rfl ?_
  refine gw_iload_n C 3 dL_adds_3 rfl rfl ?_
  refine gw_callV C (as := [vI x1, vI x2, vI x3]) (st := []) (ci := 6) (T0 := TX7) (N := 3) (c_X7_addLeg hl0 G I J hCI x1 x2 x3 hx1 hx2 hx3) dL_adds_4 kL_44 qX7_addLeg hdX7_addLeg ⟨Nat.le_of_ble_eq_true rfl, Nat.le_of_ble_eq_true rfl⟩ ⟨Nat.le_of_ble_eq_true rfl, Nat.le_of_ble_eq_true rfl⟩ (Nat.le_of_ble_eq_true rfl) rfl xs_0 xn_0 rfl ?_ ?_
  · intro E9 z9 I9 J9 hx9
    obtain ⟨hx9, eI, eJ⟩ := hx9
    rw [eI, eJ]
    rcases hx9 with ⟨hk, e9⟩ | ⟨hk, e9⟩ | ⟨hk, e9⟩
    · skip
      rw [e9]
      refine gwx_catch C (name := "java/lang/IndexOutOfBoundsException") [] (⟨0, 7, 8, 27⟩ : ExceptionTableEntry) [(⟨0, 7, 13, 15⟩ : ExceptionTableEntry), (⟨0, 7, 18, 21⟩ : ExceptionTableEntry)] ht (fun y hy => absurd hy List.not_mem_nil) (by decide) (by decide) kL_27 (List.mem_of_getElem? (i := 2) rfl) (fun q9 => ?_)
      refine gw_astoreA C (lo1 := [some (vR 0), some (vI x1), some (vI x2), some (vI x3), some (vA q9)]) dL_adds_8 (by decide) rfl ?_
      refine gw_ldc C (x := (-2000001)) dL_adds_10 kL_29 (by decide) ?_
      exact gw_iret C (Nat.le_of_ble_eq_true rfl) (Nat.le_of_ble_eq_true rfl) dL_adds_12 (⟨by rw [cdV_1 (show rfL S x1 x2 x3 = 1 from hk)], ⟨fun q => absurd (q.symm.trans (show rfL S x1 x2 x3 = 1 from hk)) (by decide), fun _ => rfl⟩, rfl⟩)
    · skip
      rw [e9]
      refine gwx_catch C (name := "java/lang/IllegalArgumentException") [(⟨0, 7, 8, 27⟩ : ExceptionTableEntry)] (⟨0, 7, 13, 15⟩ : ExceptionTableEntry) [(⟨0, 7, 18, 21⟩ : ExceptionTableEntry)] ht (List.forall_mem_cons.mpr ⟨Or.inr ⟨by decide, "java/lang/IndexOutOfBoundsException", kL_27, List.mem_of_getElem? (i := 1) rfl⟩, fun _ h => absurd h List.not_mem_nil⟩) (by decide) (by decide) kL_15 (List.mem_of_getElem? (i := 0) rfl) (fun q9 => ?_)
      refine gw_astoreA C (lo1 := [some (vR 0), some (vI x1), some (vI x2), some (vI x3), some (vA q9)]) dL_adds_13 (by decide) rfl ?_
      refine gw_ldc C (x := (-2000002)) dL_adds_15 kL_17 (by decide) ?_
      exact gw_iret C (Nat.le_of_ble_eq_true rfl) (Nat.le_of_ble_eq_true rfl) dL_adds_17 (⟨by rw [cdV_2 (show rfL S x1 x2 x3 = 2 from hk)], ⟨fun q => absurd (q.symm.trans (show rfL S x1 x2 x3 = 2 from hk)) (by decide), fun _ => rfl⟩, rfl⟩)
    · skip
      rw [e9]
      refine gwx_catch C (name := "java/lang/IllegalStateException") [(⟨0, 7, 8, 27⟩ : ExceptionTableEntry), (⟨0, 7, 13, 15⟩ : ExceptionTableEntry)] (⟨0, 7, 18, 21⟩ : ExceptionTableEntry) [] ht (List.forall_mem_cons.mpr ⟨Or.inr ⟨by decide, "java/lang/IndexOutOfBoundsException", kL_27, List.mem_of_getElem? (i := 3) rfl⟩, List.forall_mem_cons.mpr ⟨Or.inr ⟨by decide, "java/lang/IllegalArgumentException", kL_15, List.mem_of_getElem? (i := 2) rfl⟩, fun _ h => absurd h List.not_mem_nil⟩⟩) (by decide) (by decide) kL_21 (List.mem_of_getElem? (i := 1) rfl) (fun q9 => ?_)
      refine gw_astoreA C (lo1 := [some (vR 0), some (vI x1), some (vI x2), some (vI x3), some (vA q9)]) dL_adds_18 (by decide) rfl ?_
      refine gw_ldc C (x := (-2000003)) dL_adds_20 kL_23 (by decide) ?_
      exact gw_iret C (Nat.le_of_ble_eq_true rfl) (Nat.le_of_ble_eq_true rfl) dL_adds_22 (⟨by rw [cdV_3 (show rfL S x1 x2 x3 = 3 from hk)], ⟨fun q => absurd (q.symm.trans (show rfL S x1 x2 x3 = 3 from hk)) (by decide), fun _ => rfl⟩, rfl⟩)
  · intro v9 z9 I9 J9 hv9
    obtain ⟨⟨hk0, ev⟩, hm, eJ⟩ := hv9
    rw [ev, eJ]
    show GW G p l e ({ frames := 8, cells := 1, slots := 6, locals := 168 } : Room) s m args below meth c 5 z9 N0 SH RR I9 J 1 6 (vx_MQ below (GQ G N0 SH RR (mwQ (rfL S x1 x2 x3) (cdV (rfL S x1 x2 x3) (S (103 + 28 * x1.toNat)) (-2000001) (-2000002) (-2000003)) I J (oAdd S x1.toNat (S (103 + 28 * x1.toNat)).toNat x2 x3) (psh S D9) (cN c9))) (GX G N0 SH RR gNo) args s 1 6 (ge G)) 7 [some (vR 0), some (vI x1), some (vI x2), some (vI x3), none] [vI (S (103 + 28 * x1.toNat))]
    exact gw_iret C (Nat.le_of_ble_eq_true rfl) (Nat.le_of_ble_eq_true rfl) dL_adds_7 (⟨by rw [cdV_0 (show rfL S x1 x2 x3 = 0 from hk0)], ⟨fun _ => hm, fun q => absurd (show rfL S x1 x2 x3 = 0 from hk0) q⟩, rfl⟩)
set_option maxHeartbeats 4000000 in
set_option maxRecDepth 100000 in
theorem c_L_drops {l : Launch} (hl0 : l.stackTraces = false) (G : GG) (I J : GI) {z : Nat} {S : Nat → Int} {D9 : Nat → Nat → Int} {c9 : Nat} (hCI : CI I S D9 c9) (x1 : Int) (hx1 : inI x1) : GM l yL_drops (.codeWith yL_drops cL_drops 3 (some .int) [(0, 5, 6, 27), (0, 5, 10, 21)]) 8 166 1 6 G N0 SH RR [vR 0, vI x1] z I J (mwQ (kDrop S x1) (cdV (kDrop S x1) (S (103 + 28 * x1.toNat) - 1) (-2000001) (-2000003) 0) I J (oDrop S x1.toNat) (psh S D9) (cN c9)) gNo := by
  refine gm_ofH (lo0 := [some (vR 0), some (vI x1), none]) hl0 (by decide) rfl (Nat.le_of_ble_eq_true rfl) ?_
  intro p e s m args below meth c C ht hgi
  have C : gC G p l s m args meth c cL_drops 3 RL (some .int) "drops" := C
  refine gw_aload_n C 0 dL_drops_0 rfl rfl ?_
  refine gw_iload_n C 1 dL_drops_1 rfl rfl ?_
  refine gw_callV C (as := [vI x1]) (st := []) (ci := 6) (T0 := TX7) (N := 3) (c_X7_dropLeg hl0 G I J hCI x1 hx1) dL_drops_2 kL_48 qX7_dropLeg hdX7_dropLeg ⟨Nat.le_of_ble_eq_true rfl, Nat.le_of_ble_eq_true rfl⟩ ⟨Nat.le_of_ble_eq_true rfl, Nat.le_of_ble_eq_true rfl⟩ (Nat.le_of_ble_eq_true rfl) rfl xs_0 xn_0 rfl ?_ ?_
  · intro E9 z9 I9 J9 hx9
    obtain ⟨hx9, eI, eJ⟩ := hx9
    rw [eI, eJ]
    rcases hx9 with ⟨hk, e9⟩ | ⟨hk, e9⟩ | ⟨hk, e9⟩
    · skip
      rw [e9]
      refine gwx_catch C (name := "java/lang/IndexOutOfBoundsException") [] (⟨0, 5, 6, 27⟩ : ExceptionTableEntry) [(⟨0, 5, 10, 21⟩ : ExceptionTableEntry)] ht (fun y hy => absurd hy List.not_mem_nil) (by decide) (by decide) kL_27 (List.mem_of_getElem? (i := 2) rfl) (fun q9 => ?_)
      refine gw_astoreA_n C (lo1 := [some (vR 0), some (vI x1), some (vA q9)]) 2 dL_drops_6 rfl (by decide) rfl ?_
      refine gw_ldc C (x := (-2000001)) dL_drops_7 kL_29 (by decide) ?_
      exact gw_iret C (Nat.le_of_ble_eq_true rfl) (Nat.le_of_ble_eq_true rfl) dL_drops_9 (⟨by rw [cdV_1 (drop_3.2.1 hk)], ⟨fun q => absurd (q.symm.trans (drop_3.2.1 hk)) (by decide), fun _ => rfl⟩, rfl⟩)
    · skip
      exact absurd hk (by exact drop_3.2.2.1)
    · skip
      rw [e9]
      refine gwx_catch C (name := "java/lang/IllegalStateException") [(⟨0, 5, 6, 27⟩ : ExceptionTableEntry)] (⟨0, 5, 10, 21⟩ : ExceptionTableEntry) [] ht (List.forall_mem_cons.mpr ⟨Or.inr ⟨by decide, "java/lang/IndexOutOfBoundsException", kL_27, List.mem_of_getElem? (i := 3) rfl⟩, fun _ h => absurd h List.not_mem_nil⟩) (by decide) (by decide) kL_21 (List.mem_of_getElem? (i := 1) rfl) (fun q9 => ?_)
      refine gw_astoreA_n C (lo1 := [some (vR 0), some (vI x1), some (vA q9)]) 2 dL_drops_10 rfl (by decide) rfl ?_
      refine gw_ldc C (x := (-2000003)) dL_drops_11 kL_23 (by decide) ?_
      exact gw_iret C (Nat.le_of_ble_eq_true rfl) (Nat.le_of_ble_eq_true rfl) dL_drops_13 (⟨by rw [cdV_2 (drop_3.2.2.2 hk)], ⟨fun q => absurd (q.symm.trans (drop_3.2.2.2 hk)) (by decide), fun _ => rfl⟩, rfl⟩)
  · intro v9 z9 I9 J9 hv9
    obtain ⟨⟨hk0, ev⟩, hm, eJ⟩ := hv9
    rw [ev, eJ]
    show GW G p l e ({ frames := 8, cells := 1, slots := 6, locals := 166 } : Room) s m args below meth c 3 z9 N0 SH RR I9 J 1 6 (vx_MQ below (GQ G N0 SH RR (mwQ (kDrop S x1) (cdV (kDrop S x1) (S (103 + 28 * x1.toNat) - 1) (-2000001) (-2000003) 0) I J (oDrop S x1.toNat) (psh S D9) (cN c9))) (GX G N0 SH RR gNo) args s 1 6 (ge G)) 5 [some (vR 0), some (vI x1), none] [vI (S (103 + 28 * x1.toNat) - 1)]
    exact gw_iret C (Nat.le_of_ble_eq_true rfl) (Nat.le_of_ble_eq_true rfl) dL_drops_5 (⟨by rw [cdV_0 (drop_3.1 hk0)], ⟨fun _ => hm, fun q => absurd (drop_3.1 hk0) q⟩, rfl⟩)
set_option maxHeartbeats 4000000 in
set_option maxRecDepth 100000 in
theorem c_L_adjusts {l : Launch} (hl0 : l.stackTraces = false) (G : GG) (I J : GI) {z : Nat} {S : Nat → Int} {D9 : Nat → Nat → Int} {c9 : Nat} (hCI : CI I S D9 c9) (x1 : Int) (hx1 : inI x1) : GM l yL_adjusts (.codeWith yL_adjusts cL_adjusts 3 (some .int) [(0, 5, 6, 27), (0, 5, 10, 21)]) 8 166 1 6 G N0 SH RR [vR 0, vI x1] z I J (mwQ (kAdj S x1) (cdV (kAdj S x1) (sG S x1.toNat) (-2000001) (-2000003) 0) I J (oAdj S x1.toNat) (psh S D9) (cN c9)) gNo := by
  refine gm_ofH (lo0 := [some (vR 0), some (vI x1), none]) hl0 (by decide) rfl (Nat.le_of_ble_eq_true rfl) ?_
  intro p e s m args below meth c C ht hgi
  have C : gC G p l s m args meth c cL_adjusts 3 RL (some .int) "adjusts" := C
  refine gw_aload_n C 0 dL_adjusts_0 rfl rfl ?_
  refine gw_iload_n C 1 dL_adjusts_1 rfl rfl ?_
  refine gw_callV C (as := [vI x1]) (st := []) (ci := 6) (T0 := TX7) (N := 3) (c_X7_adjust hl0 G I J hCI x1 hx1) dL_adjusts_2 kL_54 qX7_adjust hdX7_adjust ⟨Nat.le_of_ble_eq_true rfl, Nat.le_of_ble_eq_true rfl⟩ ⟨Nat.le_of_ble_eq_true rfl, Nat.le_of_ble_eq_true rfl⟩ (Nat.le_of_ble_eq_true rfl) rfl xs_0 xn_0 rfl ?_ ?_
  · intro E9 z9 I9 J9 hx9
    obtain ⟨hx9, eI, eJ⟩ := hx9
    rw [eI, eJ]
    rcases hx9 with ⟨hk, e9⟩ | ⟨hk, e9⟩ | ⟨hk, e9⟩
    · skip
      rw [e9]
      refine gwx_catch C (name := "java/lang/IndexOutOfBoundsException") [] (⟨0, 5, 6, 27⟩ : ExceptionTableEntry) [(⟨0, 5, 10, 21⟩ : ExceptionTableEntry)] ht (fun y hy => absurd hy List.not_mem_nil) (by decide) (by decide) kL_27 (List.mem_of_getElem? (i := 2) rfl) (fun q9 => ?_)
      refine gw_astoreA_n C (lo1 := [some (vR 0), some (vI x1), some (vA q9)]) 2 dL_adjusts_6 rfl (by decide) rfl ?_
      refine gw_ldc C (x := (-2000001)) dL_adjusts_7 kL_29 (by decide) ?_
      exact gw_iret C (Nat.le_of_ble_eq_true rfl) (Nat.le_of_ble_eq_true rfl) dL_adjusts_9 (⟨by rw [cdV_1 (adj_3.2.1 hk)], ⟨fun q => absurd (q.symm.trans (adj_3.2.1 hk)) (by decide), fun _ => rfl⟩, rfl⟩)
    · skip
      exact absurd hk (by exact adj_3.2.2.1)
    · skip
      rw [e9]
      refine gwx_catch C (name := "java/lang/IllegalStateException") [(⟨0, 5, 6, 27⟩ : ExceptionTableEntry)] (⟨0, 5, 10, 21⟩ : ExceptionTableEntry) [] ht (List.forall_mem_cons.mpr ⟨Or.inr ⟨by decide, "java/lang/IndexOutOfBoundsException", kL_27, List.mem_of_getElem? (i := 3) rfl⟩, fun _ h => absurd h List.not_mem_nil⟩) (by decide) (by decide) kL_21 (List.mem_of_getElem? (i := 1) rfl) (fun q9 => ?_)
      refine gw_astoreA_n C (lo1 := [some (vR 0), some (vI x1), some (vA q9)]) 2 dL_adjusts_10 rfl (by decide) rfl ?_
      refine gw_ldc C (x := (-2000003)) dL_adjusts_11 kL_23 (by decide) ?_
      exact gw_iret C (Nat.le_of_ble_eq_true rfl) (Nat.le_of_ble_eq_true rfl) dL_adjusts_13 (⟨by rw [cdV_2 (adj_3.2.2.2 hk)], ⟨fun q => absurd (q.symm.trans (adj_3.2.2.2 hk)) (by decide), fun _ => rfl⟩, rfl⟩)
  · intro v9 z9 I9 J9 hv9
    obtain ⟨⟨hk0, ev⟩, hm, eJ⟩ := hv9
    rw [ev, eJ]
    show GW G p l e ({ frames := 8, cells := 1, slots := 6, locals := 166 } : Room) s m args below meth c 3 z9 N0 SH RR I9 J 1 6 (vx_MQ below (GQ G N0 SH RR (mwQ (kAdj S x1) (cdV (kAdj S x1) (sG S x1.toNat) (-2000001) (-2000003) 0) I J (oAdj S x1.toNat) (psh S D9) (cN c9))) (GX G N0 SH RR gNo) args s 1 6 (ge G)) 5 [some (vR 0), some (vI x1), none] [vI (sG S x1.toNat)]
    exact gw_iret C (Nat.le_of_ble_eq_true rfl) (Nat.le_of_ble_eq_true rfl) dL_adjusts_5 (⟨by rw [cdV_0 (adj_3.1 hk0)], ⟨fun _ => hm, fun q => absurd (adj_3.1 hk0) q⟩, rfl⟩)
