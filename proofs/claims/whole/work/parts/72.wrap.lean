def i32 (x : Int) : Int := (Int32.ofInt x).toInt
theorem i32_in (x : Int) : inI (i32 x) := by
  have h1 := Int32.toInt_lt (Int32.ofInt x)
  have h2 := Int32.le_toInt (Int32.ofInt x)
  unfold i32
  exact ⟨by omega, by omega⟩
section GR72
variable {G : GG} {p : Program} {l : Launch} {e : Env} {R0 : Room} {s : State} {m : MethodId} {args : Array Value} {below : List Frame} {meth : Method} {c : Code} {cc : ByteArray} {nL z n : Nat} {sh : GSh} {R : GR} {I J : GI} {k1 k2 pc : Nat} {Q : State → Prop} {lo : List (Option GV)} {st : List GV} {own nm Cn : String} {ret : Option FieldType}
theorem gw_norm {x : Int} (k : GW G p l e R0 s m args below meth c nL z n sh R I J k1 k2 Q pc lo (vI (i32 x) :: st)) : GW G p l e R0 s m args below meth c nL z n sh R I J k1 k2 Q pc lo (vI x :: st) := by
  intro H locs ls a b d f g
  have q := k H locs ls a b d f g
  have ex : cv G.1 (vI (i32 x)) = cv G.1 (vI x) := by
    show Value.int (Int32.ofInt (i32 x)) = Value.int (Int32.ofInt x)
    rw [show Int32.ofInt (i32 x) = Int32.ofInt x from Int32.ofInt_toInt _]
  rw [List.map_cons, ex] at q
  exact q
end GR72
def lrQ (k r : Int) (I J : GI) : Option GV → Nat → GI → GI → Prop := fun v _ I' J' => v = some (vI k) ∧ I' = I ∧ (k = 0 → J' = up J 236 0 r) ∧ (k ≠ 0 → J' = J)
def lmQ (k r : Int) (I J : GI) (S' : Nat → Int) (D' : Nat → Nat → Int) (c' : Nat) : Option GV → Nat → GI → GI → Prop := fun v _ I' J' => v = some (vI k) ∧ (k = 0 → (CI I' S' D' c' ∧ frC I I') ∧ J' = up J 236 0 r) ∧ (k ≠ 0 → I' = I ∧ J' = J)
theorem lr_0 {k r : Int} {I J : GI} {z : Nat} (h : k = 0) : lrQ k r I J (some (vI 0)) z I (up J 236 0 r) := ⟨by rw [h], rfl, fun _ => rfl, fun q => absurd h q⟩
theorem lr_1 {k r c : Int} {I J : GI} {z : Nat} (h : k = c) (hc : c ≠ 0) : lrQ k r I J (some (vI c)) z I J := ⟨by rw [h], rfl, fun q => absurd (h.symm.trans q) hc, fun _ => rfl⟩
theorem lm_0 {k r : Int} {I J I' : GI} {S' : Nat → Int} {D' : Nat → Nat → Int} {c' z : Nat} (h : k = 0) (hh : CI I' S' D' c' ∧ frC I I') : lmQ k r I J S' D' c' (some (vI 0)) z I' (up J 236 0 r) := ⟨by rw [h], fun _ => ⟨hh, rfl⟩, fun q => absurd h q⟩
theorem lm_1 {k r c : Int} {I J : GI} {S' : Nat → Int} {D' : Nat → Nat → Int} {c' z : Nat} (h : k = c) (hc : c ≠ 0) : lmQ k r I J S' D' c' (some (vI c)) z I J := ⟨by rw [h], fun q => absurd (h.symm.trans q) hc, fun _ => ⟨rfl, rfl⟩⟩
theorem rfZ_T (S : Nat → Int) (a b c : Int) : rfZ S 116 a b c = rfT S a b := rfl
theorem rfZ_L (S : Nat → Int) (a b c : Int) : rfZ S 108 a b c = rfL S a b c := rfl
theorem rfZ_K (S : Nat → Int) (a b c : Int) : rfZ S 107 a b c = rfK S a := rfl
theorem rfZ_A (S : Nat → Int) (a b c : Int) : rfZ S 97 a b c = rfA S a := rfl
theorem drop_3 {S : Nat → Int} {a : Int} : (rfK S a = 0 → kDrop S a = 0) ∧ (rfK S a = 1 → kDrop S a = 1) ∧ rfK S a ≠ 2 ∧ (rfK S a = 3 → kDrop S a = 2) := by
  unfold rfK kDrop
  by_cases h : 0 ≤ a ∧ a < S 5
  · have h9 : ¬ ¬ (0 ≤ a ∧ a < S 5) := fun q => q h
    rw [if_neg h9, if_neg h9]
    by_cases g : S (103 + 28 * a.toNat) = 0
    · rw [if_pos g, if_pos g]; exact ⟨by decide, by decide, by decide, fun _ => rfl⟩
    · rw [if_neg g, if_neg g]; exact ⟨by decide, by decide, by decide, by decide⟩
  · rw [if_pos h, if_pos h]; exact ⟨by decide, by decide, by decide, by decide⟩
theorem adj_3 {S : Nat → Int} {a : Int} : (rfA S a = 0 → kAdj S a = 0) ∧ (rfA S a = 1 → kAdj S a = 1) ∧ rfA S a ≠ 2 ∧ (rfA S a = 3 → kAdj S a = 2) := by
  unfold rfA kAdj
  by_cases h : 0 ≤ a ∧ a < S 5
  · have h9 : ¬ ¬ (0 ≤ a ∧ a < S 5) := fun q => q h
    rw [if_neg h9, if_neg h9]
    by_cases g : S (104 + 28 * a.toNat) < 0 ∨ sTT S a.toNat ≠ 0
    · rw [if_pos g, if_pos g]; exact ⟨by decide, by decide, by decide, fun _ => rfl⟩
    · rw [if_neg g, if_neg g]; exact ⟨by decide, by decide, by decide, by decide⟩
  · rw [if_pos h, if_pos h]; exact ⟨by decide, by decide, by decide, by decide⟩
set_option maxHeartbeats 4000000 in
set_option maxRecDepth 100000 in
theorem c_L_info {l : Launch} (hl0 : l.stackTraces = false) (G : GG) (I J : GI) {z : Nat} {S : Nat → Int} {D9 : Nat → Nat → Int} {c9 : Nat} (hCI : CI I S D9 c9) (x1 : Int) (hx1 : inI x1) : GM l yL_info (.codeWith yL_info cL_info 4 (some .int) [(0, 9, 12, 13)]) 7 111 1 6 G N0 SH RR [vR 0, vI x1, vR 236] z I J (lrQ (kInfo x1) (i32 (rInfo S x1)) I J) gNo := by
  refine gm_ofH (lo0 := [some (vR 0), some (vI x1), some (vR 236), none]) hl0 (by decide) rfl (Nat.le_of_ble_eq_true rfl) ?_
  intro p e s m args below meth c C ht hgi
  have C : gC G p l s m args meth c cL_info 4 RL (some .int) "info" := C
  refine gw_aload_n C 2 dL_info_0 rfl rfl ?_
  refine gw_iconst C dL_info_1 ?_
  refine gw_aload_n C 0 dL_info_2 rfl rfl ?_
  refine gw_iload_n C 1 dL_info_3 rfl rfl ?_
  refine gw_callV C (as := [vI x1]) (st := [vI 0, vR 236]) (ci := 6) (T0 := TX7) (N := 3) (c_X7_info hl0 G I J hCI x1 hx1) dL_info_4 kL_15 qX7_info hdX7_info ⟨Nat.le_of_ble_eq_true rfl, Nat.le_of_ble_eq_true rfl⟩ ⟨Nat.le_of_ble_eq_true rfl, Nat.le_of_ble_eq_true rfl⟩ (Nat.le_of_ble_eq_true rfl) rfl xs_0 xn_0 rfl ?_ ?_
  · intro E9 z9 I9 J9 hx9
    obtain ⟨hx9, eI, eJ⟩ := hx9
    rw [eI, eJ]
    rcases hx9 with ⟨hk, e9⟩ | ⟨hk, e9⟩ | ⟨hk, e9⟩
    · skip
      rw [e9]
      refine gwx_catch C (name := "java/lang/IllegalArgumentException") [] (⟨0, 9, 12, 13⟩ : ExceptionTableEntry) [] ht (fun y hy => absurd hy List.not_mem_nil) (by decide) (by decide) kL_13 (List.mem_of_getElem? (i := 0) rfl) (fun q9 => ?_)
      refine gw_astoreA_n C (lo1 := [some (vR 0), some (vI x1), some (vR 236), some (vA q9)]) 3 dL_info_12 rfl (by decide) rfl ?_
      refine gw_iconst C dL_info_13 ?_
      exact gw_iret C (Nat.le_of_ble_eq_true rfl) (Nat.le_of_ble_eq_true rfl) dL_info_14 (lr_1 (hk) (by decide))
    · skip
      exact absurd hk (by unfold kInfo; (repeat' split) <;> decide)
    · skip
      exact absurd hk (by unfold kInfo; (repeat' split) <;> decide)
  · intro v9 z9 I9 J9 hv9
    obtain ⟨⟨hk0, ev⟩, eI, eJ⟩ := hv9
    rw [ev, eI, eJ]
    refine gw_norm ?_
    show GW G p l e ({ frames := 7, cells := 1, slots := 6, locals := 111 } : Room) s m args below meth c 4 z9 N0 SH RR I J 1 6 (vx_MQ below (GQ G N0 SH RR (lrQ (kInfo x1) (i32 (rInfo S x1)) I J)) (GX G N0 SH RR gNo) args s 1 6 (ge G)) 7 [some (vR 0), some (vI x1), some (vR 236), none] [vI (i32 (rInfo S x1)), vI 0, vR 236]
    refine gw_i2l C dL_info_7 (i32_in _) ?_
    refine gw_last C 0 dL_info_8 xs_236 xn_236 (by omega) (by omega) (by decide) ?_
    refine gw_goto C (tgt := 15) dL_info_9 (by decide) ?_
    refine gw_iconst C dL_info_15 ?_
    exact gw_iret C (Nat.le_of_ble_eq_true rfl) (Nat.le_of_ble_eq_true rfl) dL_info_16 (lr_0 hk0)
set_option maxHeartbeats 4000000 in
set_option maxRecDepth 100000 in
theorem c_L_wire {l : Launch} (hl0 : l.stackTraces = false) (G : GG) (I J : GI) {z : Nat} {S : Nat → Int} {D9 : Nat → Nat → Int} {c9 : Nat} (hCI : CI I S D9 c9) (x1 x2 : Int) (hx1 : inI x1) (hx2 : inI x2) : GM l yL_wire (.codeWith yL_wire cL_wire 5 (some .int) [(0, 10, 13, 27), (0, 10, 17, 13)]) 7 113 1 6 G N0 SH RR [vR 0, vI x1, vI x2, vR 236] z I J (lrQ (kWire S x1 x2) (i32 (rWire S x1.toNat x2)) I J) gNo := by
  refine gm_ofH (lo0 := [some (vR 0), some (vI x1), some (vI x2), some (vR 236), none]) hl0 (by decide) rfl (Nat.le_of_ble_eq_true rfl) ?_
  intro p e s m args below meth c C ht hgi
  have C : gC G p l s m args meth c cL_wire 5 RL (some .int) "wire" := C
  refine gw_aload_n C 3 dL_wire_0 rfl rfl ?_
  refine gw_iconst C dL_wire_1 ?_
  refine gw_aload_n C 0 dL_wire_2 rfl rfl ?_
  refine gw_iload_n C 1 dL_wire_3 rfl rfl ?_
  refine gw_iload_n C 2 dL_wire_4 rfl rfl ?_
  refine gw_callV C (as := [vI x1, vI x2]) (st := [vI 0, vR 236]) (ci := 6) (T0 := TX7) (N := 3) (c_X7_wire hl0 G I J hCI x1 x2 hx1 hx2) dL_wire_5 kL_32 qX7_wire hdX7_wire ⟨Nat.le_of_ble_eq_true rfl, Nat.le_of_ble_eq_true rfl⟩ ⟨Nat.le_of_ble_eq_true rfl, Nat.le_of_ble_eq_true rfl⟩ (Nat.le_of_ble_eq_true rfl) rfl xs_0 xn_0 rfl ?_ ?_
  · intro E9 z9 I9 J9 hx9
    obtain ⟨hx9, eI, eJ⟩ := hx9
    rw [eI, eJ]
    rcases hx9 with ⟨hk, e9⟩ | ⟨hk, e9⟩ | ⟨hk, e9⟩
    · skip
      rw [e9]
      refine gwx_catch C (name := "java/lang/IndexOutOfBoundsException") [] (⟨0, 10, 13, 27⟩ : ExceptionTableEntry) [(⟨0, 10, 17, 13⟩ : ExceptionTableEntry)] ht (fun y hy => absurd hy List.not_mem_nil) (by decide) (by decide) kL_27 (List.mem_of_getElem? (i := 2) rfl) (fun q9 => ?_)
      refine gw_astoreA C (lo1 := [some (vR 0), some (vI x1), some (vI x2), some (vR 236), some (vA q9)]) dL_wire_13 (by decide) rfl ?_
      refine gw_iconst C dL_wire_15 ?_
      exact gw_iret C (Nat.le_of_ble_eq_true rfl) (Nat.le_of_ble_eq_true rfl) dL_wire_16 (lr_1 (hk) (by decide))
    · skip
      rw [e9]
      refine gwx_catch C (name := "java/lang/IllegalArgumentException") [(⟨0, 10, 13, 27⟩ : ExceptionTableEntry)] (⟨0, 10, 17, 13⟩ : ExceptionTableEntry) [] ht (List.forall_mem_cons.mpr ⟨Or.inr ⟨by decide, "java/lang/IndexOutOfBoundsException", kL_27, List.mem_of_getElem? (i := 1) rfl⟩, fun _ h => absurd h List.not_mem_nil⟩) (by decide) (by decide) kL_13 (List.mem_of_getElem? (i := 0) rfl) (fun q9 => ?_)
      refine gw_astoreA C (lo1 := [some (vR 0), some (vI x1), some (vI x2), some (vR 236), some (vA q9)]) dL_wire_17 (by decide) rfl ?_
      refine gw_iconst C dL_wire_19 ?_
      exact gw_iret C (Nat.le_of_ble_eq_true rfl) (Nat.le_of_ble_eq_true rfl) dL_wire_20 (lr_1 (hk) (by decide))
    · skip
      exact absurd hk (by unfold kWire; (repeat' split) <;> decide)
  · intro v9 z9 I9 J9 hv9
    obtain ⟨⟨hk0, ev⟩, eI, eJ⟩ := hv9
    rw [ev, eI, eJ]
    refine gw_norm ?_
    show GW G p l e ({ frames := 7, cells := 1, slots := 6, locals := 113 } : Room) s m args below meth c 5 z9 N0 SH RR I J 1 6 (vx_MQ below (GQ G N0 SH RR (lrQ (kWire S x1 x2) (i32 (rWire S x1.toNat x2)) I J)) (GX G N0 SH RR gNo) args s 1 6 (ge G)) 8 [some (vR 0), some (vI x1), some (vI x2), some (vR 236), none] [vI (i32 (rWire S x1.toNat x2)), vI 0, vR 236]
    refine gw_i2l C dL_wire_8 (i32_in _) ?_
    refine gw_last C 0 dL_wire_9 xs_236 xn_236 (by omega) (by omega) (by decide) ?_
    refine gw_goto C (tgt := 21) dL_wire_10 (by decide) ?_
    refine gw_iconst C dL_wire_21 ?_
    exact gw_iret C (Nat.le_of_ble_eq_true rfl) (Nat.le_of_ble_eq_true rfl) dL_wire_22 (lr_0 hk0)
set_option maxHeartbeats 4000000 in
set_option maxRecDepth 100000 in
theorem c_L_joinOf {l : Launch} (hl0 : l.stackTraces = false) (G : GG) (I J : GI) {z : Nat} {S : Nat → Int} {D9 : Nat → Nat → Int} {c9 : Nat} (hCI : CI I S D9 c9) (x1 x2 : Int) (hx1 : inI x1) (hx2 : inI x2) : GM l yL_joinOf (.codeWith yL_joinOf cL_joinOf 5 (some .int) [(0, 10, 13, 27), (0, 10, 17, 13)]) 7 113 1 6 G N0 SH RR [vR 0, vI x1, vI x2, vR 236] z I J (lrQ (kJoinOf S x1 x2) (i32 (rJoinOf S x1.toNat x2)) I J) gNo := by
  refine gm_ofH (lo0 := [some (vR 0), some (vI x1), some (vI x2), some (vR 236), none]) hl0 (by decide) rfl (Nat.le_of_ble_eq_true rfl) ?_
  intro p e s m args below meth c C ht hgi
  have C : gC G p l s m args meth c cL_joinOf 5 RL (some .int) "joinOf" := C
  refine gw_aload_n C 3 dL_joinOf_0 rfl rfl ?_
  refine gw_iconst C dL_joinOf_1 ?_
  refine gw_aload_n C 0 dL_joinOf_2 rfl rfl ?_
  refine gw_iload_n C 1 dL_joinOf_3 rfl rfl ?_
  refine gw_iload_n C 2 dL_joinOf_4 rfl rfl ?_
  refine gw_callV C (as := [vI x1, vI x2]) (st := [vI 0, vR 236]) (ci := 6) (T0 := TX7) (N := 3) (c_X7_joinOf hl0 G I J hCI x1 x2 hx1 hx2) dL_joinOf_5 kL_42 qX7_joinOf hdX7_joinOf ⟨Nat.le_of_ble_eq_true rfl, Nat.le_of_ble_eq_true rfl⟩ ⟨Nat.le_of_ble_eq_true rfl, Nat.le_of_ble_eq_true rfl⟩ (Nat.le_of_ble_eq_true rfl) rfl xs_0 xn_0 rfl ?_ ?_
  · intro E9 z9 I9 J9 hx9
    obtain ⟨hx9, eI, eJ⟩ := hx9
    rw [eI, eJ]
    rcases hx9 with ⟨hk, e9⟩ | ⟨hk, e9⟩ | ⟨hk, e9⟩
    · skip
      rw [e9]
      refine gwx_catch C (name := "java/lang/IndexOutOfBoundsException") [] (⟨0, 10, 13, 27⟩ : ExceptionTableEntry) [(⟨0, 10, 17, 13⟩ : ExceptionTableEntry)] ht (fun y hy => absurd hy List.not_mem_nil) (by decide) (by decide) kL_27 (List.mem_of_getElem? (i := 2) rfl) (fun q9 => ?_)
      refine gw_astoreA C (lo1 := [some (vR 0), some (vI x1), some (vI x2), some (vR 236), some (vA q9)]) dL_joinOf_13 (by decide) rfl ?_
      refine gw_iconst C dL_joinOf_15 ?_
      exact gw_iret C (Nat.le_of_ble_eq_true rfl) (Nat.le_of_ble_eq_true rfl) dL_joinOf_16 (lr_1 (hk) (by decide))
    · skip
      rw [e9]
      refine gwx_catch C (name := "java/lang/IllegalArgumentException") [(⟨0, 10, 13, 27⟩ : ExceptionTableEntry)] (⟨0, 10, 17, 13⟩ : ExceptionTableEntry) [] ht (List.forall_mem_cons.mpr ⟨Or.inr ⟨by decide, "java/lang/IndexOutOfBoundsException", kL_27, List.mem_of_getElem? (i := 1) rfl⟩, fun _ h => absurd h List.not_mem_nil⟩) (by decide) (by decide) kL_13 (List.mem_of_getElem? (i := 0) rfl) (fun q9 => ?_)
      refine gw_astoreA C (lo1 := [some (vR 0), some (vI x1), some (vI x2), some (vR 236), some (vA q9)]) dL_joinOf_17 (by decide) rfl ?_
      refine gw_iconst C dL_joinOf_19 ?_
      exact gw_iret C (Nat.le_of_ble_eq_true rfl) (Nat.le_of_ble_eq_true rfl) dL_joinOf_20 (lr_1 (hk) (by decide))
    · skip
      exact absurd hk (by unfold kJoinOf; (repeat' split) <;> decide)
  · intro v9 z9 I9 J9 hv9
    obtain ⟨⟨hk0, ev⟩, eI, eJ⟩ := hv9
    rw [ev, eI, eJ]
    refine gw_norm ?_
    show GW G p l e ({ frames := 7, cells := 1, slots := 6, locals := 113 } : Room) s m args below meth c 5 z9 N0 SH RR I J 1 6 (vx_MQ below (GQ G N0 SH RR (lrQ (kJoinOf S x1 x2) (i32 (rJoinOf S x1.toNat x2)) I J)) (GX G N0 SH RR gNo) args s 1 6 (ge G)) 8 [some (vR 0), some (vI x1), some (vI x2), some (vR 236), none] [vI (i32 (rJoinOf S x1.toNat x2)), vI 0, vR 236]
    refine gw_i2l C dL_joinOf_8 (i32_in _) ?_
    refine gw_last C 0 dL_joinOf_9 xs_236 xn_236 (by omega) (by omega) (by decide) ?_
    refine gw_goto C (tgt := 21) dL_joinOf_10 (by decide) ?_
    refine gw_iconst C dL_joinOf_21 ?_
    exact gw_iret C (Nat.le_of_ble_eq_true rfl) (Nat.le_of_ble_eq_true rfl) dL_joinOf_22 (lr_0 hk0)
set_option maxHeartbeats 4000000 in
set_option maxRecDepth 100000 in
theorem c_L_traverse {l : Launch} (hl0 : l.stackTraces = false) (G : GG) (I J : GI) {z : Nat} {S : Nat → Int} {D9 : Nat → Nat → Int} {c9 : Nat} (hCI : CI I S D9 c9) (x1 x2 : Int) (hx1 : inI x1) (hx2 : inI x2) : GM l yL_traverse (.codeWith yL_traverse cL_traverse 5 (some .int) [(0, 10, 13, 27), (0, 10, 17, 13)]) 7 114 1 6 G N0 SH RR [vR 0, vI x1, vI x2, vR 236] z I J (lrQ (kTrav S x1 x2) (i32 (rTrav S x1.toNat x2)) I J) gNo := by
  refine gm_ofH (lo0 := [some (vR 0), some (vI x1), some (vI x2), some (vR 236), none]) hl0 (by decide) rfl (Nat.le_of_ble_eq_true rfl) ?_
  intro p e s m args below meth c C ht hgi
  have C : gC G p l s m args meth c cL_traverse 5 RL (some .int) "traverse" := C
  refine gw_aload_n C 3 dL_traverse_0 rfl rfl ?_
  refine gw_iconst C dL_traverse_1 ?_
  refine gw_aload_n C 0 dL_traverse_2 rfl rfl ?_
  refine gw_iload_n C 1 dL_traverse_3 rfl rfl ?_
  refine gw_iload_n C 2 dL_traverse_4 rfl rfl ?_
  refine gw_callV C (as := [vI x1, vI x2]) (st := [vI 0, vR 236]) (ci := 6) (T0 := TX7) (N := 3) (c_X7_traverse hl0 G I J hCI x1 x2 hx1 hx2) dL_traverse_5 kL_61 qX7_traverse hdX7_traverse ⟨Nat.le_of_ble_eq_true rfl, Nat.le_of_ble_eq_true rfl⟩ ⟨Nat.le_of_ble_eq_true rfl, Nat.le_of_ble_eq_true rfl⟩ (Nat.le_of_ble_eq_true rfl) rfl xs_0 xn_0 rfl ?_ ?_
  · intro E9 z9 I9 J9 hx9
    obtain ⟨hx9, eI, eJ⟩ := hx9
    rw [eI, eJ]
    rcases hx9 with ⟨hk, e9⟩ | ⟨hk, e9⟩ | ⟨hk, e9⟩
    · skip
      rw [e9]
      refine gwx_catch C (name := "java/lang/IndexOutOfBoundsException") [] (⟨0, 10, 13, 27⟩ : ExceptionTableEntry) [(⟨0, 10, 17, 13⟩ : ExceptionTableEntry)] ht (fun y hy => absurd hy List.not_mem_nil) (by decide) (by decide) kL_27 (List.mem_of_getElem? (i := 2) rfl) (fun q9 => ?_)
      refine gw_astoreA C (lo1 := [some (vR 0), some (vI x1), some (vI x2), some (vR 236), some (vA q9)]) dL_traverse_13 (by decide) rfl ?_
      refine gw_iconst C dL_traverse_15 ?_
      exact gw_iret C (Nat.le_of_ble_eq_true rfl) (Nat.le_of_ble_eq_true rfl) dL_traverse_16 (lr_1 (hk) (by decide))
    · skip
      rw [e9]
      refine gwx_catch C (name := "java/lang/IllegalArgumentException") [(⟨0, 10, 13, 27⟩ : ExceptionTableEntry)] (⟨0, 10, 17, 13⟩ : ExceptionTableEntry) [] ht (List.forall_mem_cons.mpr ⟨Or.inr ⟨by decide, "java/lang/IndexOutOfBoundsException", kL_27, List.mem_of_getElem? (i := 1) rfl⟩, fun _ h => absurd h List.not_mem_nil⟩) (by decide) (by decide) kL_13 (List.mem_of_getElem? (i := 0) rfl) (fun q9 => ?_)
      refine gw_astoreA C (lo1 := [some (vR 0), some (vI x1), some (vI x2), some (vR 236), some (vA q9)]) dL_traverse_17 (by decide) rfl ?_
      refine gw_iconst C dL_traverse_19 ?_
      exact gw_iret C (Nat.le_of_ble_eq_true rfl) (Nat.le_of_ble_eq_true rfl) dL_traverse_20 (lr_1 (hk) (by decide))
    · skip
      exact absurd hk (by unfold kTrav; (repeat' split) <;> decide)
  · intro v9 z9 I9 J9 hv9
    obtain ⟨⟨hk0, ev⟩, eI, eJ⟩ := hv9
    rw [ev, eI, eJ]
    refine gw_norm ?_
    show GW G p l e ({ frames := 7, cells := 1, slots := 6, locals := 114 } : Room) s m args below meth c 5 z9 N0 SH RR I J 1 6 (vx_MQ below (GQ G N0 SH RR (lrQ (kTrav S x1 x2) (i32 (rTrav S x1.toNat x2)) I J)) (GX G N0 SH RR gNo) args s 1 6 (ge G)) 8 [some (vR 0), some (vI x1), some (vI x2), some (vR 236), none] [vI (i32 (rTrav S x1.toNat x2)), vI 0, vR 236]
    refine gw_i2l C dL_traverse_8 (i32_in _) ?_
    refine gw_last C 0 dL_traverse_9 xs_236 xn_236 (by omega) (by omega) (by decide) ?_
    refine gw_goto C (tgt := 21) dL_traverse_10 (by decide) ?_
    refine gw_iconst C dL_traverse_21 ?_
    exact gw_iret C (Nat.le_of_ble_eq_true rfl) (Nat.le_of_ble_eq_true rfl) dL_traverse_22 (lr_0 hk0)
set_option maxHeartbeats 4000000 in
set_option maxRecDepth 100000 in
theorem c_L_leg {l : Launch} (hl0 : l.stackTraces = false) (G : GG) (I J : GI) {z : Nat} {S : Nat → Int} {D9 : Nat → Nat → Int} {c9 : Nat} (hCI : CI I S D9 c9) (x1 x2 x3 : Int) (hx1 : inI x1) (hx2 : inI x2) (hx3 : inI x3) : GM l yL_leg (.codeWith yL_leg cL_leg 6 (some .int) [(0, 12, 15, 27), (0, 12, 19, 13)]) 7 114 1 6 G N0 SH RR [vR 0, vI x1, vI x2, vI x3, vR 236] z I J (lrQ (kLeg S x1 x2 x3) (i32 (rLeg S x1.toNat x2.toNat x3)) I J) gNo := by
  refine gm_ofH (lo0 := [some (vR 0), some (vI x1), some (vI x2), some (vI x3), some (vR 236), none]) hl0 (by decide) rfl (Nat.le_of_ble_eq_true rfl) ?_
  intro p e s m args below meth c C ht hgi
  have C : gC G p l s m args meth c cL_leg 6 RL (some .int) "leg" := C
  refine gw_aload C dL_leg_0 rfl ?_
  refine gw_iconst C dL_leg_2 ?_
  refine gw_aload_n C 0 dL_leg_3 rfl rfl ?_
  refine gw_iload_n C 1 dL_leg_4 rfl rfl ?_
  refine gw_iload_n C 2 dL_leg_5 rfl rfl ?_
  refine gw_iload_n C 3 dL_leg_6 rfl rfl ?_
  refine gw_callV C (as := [vI x1, vI x2, vI x3]) (st := [vI 0, vR 236]) (ci := 6) (T0 := TX7) (N := 3) (c_X7_leg hl0 G I J hCI x1 x2 x3 hx1 hx2 hx3) dL_leg_7 kL_64 qX7_leg hdX7_leg ⟨Nat.le_of_ble_eq_true rfl, Nat.le_of_ble_eq_true rfl⟩ ⟨Nat.le_of_ble_eq_true rfl, Nat.le_of_ble_eq_true rfl⟩ (Nat.le_of_ble_eq_true rfl) rfl xs_0 xn_0 rfl ?_ ?_
  · intro E9 z9 I9 J9 hx9
    obtain ⟨hx9, eI, eJ⟩ := hx9
    rw [eI, eJ]
    rcases hx9 with ⟨hk, e9⟩ | ⟨hk, e9⟩ | ⟨hk, e9⟩
    · skip
      rw [e9]
      refine gwx_catch C (name := "java/lang/IndexOutOfBoundsException") [] (⟨0, 12, 15, 27⟩ : ExceptionTableEntry) [(⟨0, 12, 19, 13⟩ : ExceptionTableEntry)] ht (fun y hy => absurd hy List.not_mem_nil) (by decide) (by decide) kL_27 (List.mem_of_getElem? (i := 2) rfl) (fun q9 => ?_)
      refine gw_astoreA C (lo1 := [some (vR 0), some (vI x1), some (vI x2), some (vI x3), some (vR 236), some (vA q9)]) dL_leg_15 (by decide) rfl ?_
      refine gw_iconst C dL_leg_17 ?_
      exact gw_iret C (Nat.le_of_ble_eq_true rfl) (Nat.le_of_ble_eq_true rfl) dL_leg_18 (lr_1 (hk) (by decide))
    · skip
      rw [e9]
      refine gwx_catch C (name := "java/lang/IllegalArgumentException") [(⟨0, 12, 15, 27⟩ : ExceptionTableEntry)] (⟨0, 12, 19, 13⟩ : ExceptionTableEntry) [] ht (List.forall_mem_cons.mpr ⟨Or.inr ⟨by decide, "java/lang/IndexOutOfBoundsException", kL_27, List.mem_of_getElem? (i := 1) rfl⟩, fun _ h => absurd h List.not_mem_nil⟩) (by decide) (by decide) kL_13 (List.mem_of_getElem? (i := 0) rfl) (fun q9 => ?_)
      refine gw_astoreA C (lo1 := [some (vR 0), some (vI x1), some (vI x2), some (vI x3), some (vR 236), some (vA q9)]) dL_leg_19 (by decide) rfl ?_
      refine gw_iconst C dL_leg_21 ?_
      exact gw_iret C (Nat.le_of_ble_eq_true rfl) (Nat.le_of_ble_eq_true rfl) dL_leg_22 (lr_1 (hk) (by decide))
    · skip
      exact absurd hk (by unfold kLeg; (repeat' split) <;> decide)
  · intro v9 z9 I9 J9 hv9
    obtain ⟨⟨hk0, ev⟩, eI, eJ⟩ := hv9
    rw [ev, eI, eJ]
    refine gw_norm ?_
    show GW G p l e ({ frames := 7, cells := 1, slots := 6, locals := 114 } : Room) s m args below meth c 6 z9 N0 SH RR I J 1 6 (vx_MQ below (GQ G N0 SH RR (lrQ (kLeg S x1 x2 x3) (i32 (rLeg S x1.toNat x2.toNat x3)) I J)) (GX G N0 SH RR gNo) args s 1 6 (ge G)) 10 [some (vR 0), some (vI x1), some (vI x2), some (vI x3), some (vR 236), none] [vI (i32 (rLeg S x1.toNat x2.toNat x3)), vI 0, vR 236]
    refine gw_i2l C dL_leg_10 (i32_in _) ?_
    refine gw_last C 0 dL_leg_11 xs_236 xn_236 (by omega) (by omega) (by decide) ?_
    refine gw_goto C (tgt := 23) dL_leg_12 (by decide) ?_
    refine gw_iconst C dL_leg_23 ?_
    exact gw_iret C (Nat.le_of_ble_eq_true rfl) (Nat.le_of_ble_eq_true rfl) dL_leg_24 (lr_0 hk0)
set_option maxHeartbeats 4000000 in
set_option maxRecDepth 100000 in
theorem c_L_trouble {l : Launch} (hl0 : l.stackTraces = false) (G : GG) (I J : GI) {z : Nat} {S : Nat → Int} {D9 : Nat → Nat → Int} {c9 : Nat} (hCI : CI I S D9 c9) (x1 x2 : Int) (hx1 : inI x1) (hx2 : inI x2) : GM l yL_trouble (.codeWith yL_trouble cL_trouble 5 (some .int) [(0, 10, 13, 27)]) 7 113 1 6 G N0 SH RR [vR 0, vI x1, vI x2, vR 236] z I J (lrQ (kTrb S x1) (i32 (rTrb S x1.toNat x2)) I J) gNo := by
  refine gm_ofH (lo0 := [some (vR 0), some (vI x1), some (vI x2), some (vR 236), none]) hl0 (by decide) rfl (Nat.le_of_ble_eq_true rfl) ?_
  intro p e s m args below meth c C ht hgi
  have C : gC G p l s m args meth c cL_trouble 5 RL (some .int) "trouble" := C
  refine gw_aload_n C 3 dL_trouble_0 rfl rfl ?_
  refine gw_iconst C dL_trouble_1 ?_
  refine gw_aload_n C 0 dL_trouble_2 rfl rfl ?_
  refine gw_iload_n C 1 dL_trouble_3 rfl rfl ?_
  refine gw_iload_n C 2 dL_trouble_4 rfl rfl ?_
  refine gw_callV C (as := [vI x1, vI x2]) (st := [vI 0, vR 236]) (ci := 6) (T0 := TX7) (N := 3) (c_X7_trouble hl0 G I J hCI x1 x2 hx1 hx2) dL_trouble_5 kL_67 qX7_trouble hdX7_trouble ⟨Nat.le_of_ble_eq_true rfl, Nat.le_of_ble_eq_true rfl⟩ ⟨Nat.le_of_ble_eq_true rfl, Nat.le_of_ble_eq_true rfl⟩ (Nat.le_of_ble_eq_true rfl) rfl xs_0 xn_0 rfl ?_ ?_
  · intro E9 z9 I9 J9 hx9
    obtain ⟨hx9, eI, eJ⟩ := hx9
    rw [eI, eJ]
    rcases hx9 with ⟨hk, e9⟩ | ⟨hk, e9⟩ | ⟨hk, e9⟩
    · skip
      rw [e9]
      refine gwx_catch C (name := "java/lang/IndexOutOfBoundsException") [] (⟨0, 10, 13, 27⟩ : ExceptionTableEntry) [] ht (fun y hy => absurd hy List.not_mem_nil) (by decide) (by decide) kL_27 (List.mem_of_getElem? (i := 2) rfl) (fun q9 => ?_)
      refine gw_astoreA C (lo1 := [some (vR 0), some (vI x1), some (vI x2), some (vR 236), some (vA q9)]) dL_trouble_13 (by decide) rfl ?_
      refine gw_iconst C dL_trouble_15 ?_
      exact gw_iret C (Nat.le_of_ble_eq_true rfl) (Nat.le_of_ble_eq_true rfl) dL_trouble_16 (lr_1 (hk) (by decide))
    · skip
      exact absurd hk (by unfold kTrb; (repeat' split) <;> decide)
    · skip
      exact absurd hk (by unfold kTrb; (repeat' split) <;> decide)
  · intro v9 z9 I9 J9 hv9
    obtain ⟨⟨hk0, ev⟩, eI, eJ⟩ := hv9
    rw [ev, eI, eJ]
    refine gw_norm ?_
    show GW G p l e ({ frames := 7, cells := 1, slots := 6, locals := 113 } : Room) s m args below meth c 5 z9 N0 SH RR I J 1 6 (vx_MQ below (GQ G N0 SH RR (lrQ (kTrb S x1) (i32 (rTrb S x1.toNat x2)) I J)) (GX G N0 SH RR gNo) args s 1 6 (ge G)) 8 [some (vR 0), some (vI x1), some (vI x2), some (vR 236), none] [vI (i32 (rTrb S x1.toNat x2)), vI 0, vR 236]
    refine gw_i2l C dL_trouble_8 (i32_in _) ?_
    refine gw_last C 0 dL_trouble_9 xs_236 xn_236 (by omega) (by omega) (by decide) ?_
    refine gw_goto C (tgt := 17) dL_trouble_10 (by decide) ?_
    refine gw_iconst C dL_trouble_17 ?_
    exact gw_iret C (Nat.le_of_ble_eq_true rfl) (Nat.le_of_ble_eq_true rfl) dL_trouble_18 (lr_0 hk0)
set_option maxHeartbeats 4000000 in
set_option maxRecDepth 100000 in
theorem c_L_apart {l : Launch} (hl0 : l.stackTraces = false) (G : GG) (I J : GI) {z : Nat} {S : Nat → Int} {D9 : Nat → Nat → Int} {c9 : Nat} (hCI : CI I S D9 c9) (x1 x2 : Int) (hx1 : inI x1) (hx2 : inI x2) : GM l yL_apart (.codeWith yL_apart cL_apart 5 (some .int) [(0, 10, 13, 27)]) 7 114 1 6 G N0 SH RR [vR 0, vI x1, vI x2, vR 236] z I J (lrQ (kTwo S x1 x2) (i32 (rApart S x1.toNat x2.toNat)) I J) gNo := by
  refine gm_ofH (lo0 := [some (vR 0), some (vI x1), some (vI x2), some (vR 236), none]) hl0 (by decide) rfl (Nat.le_of_ble_eq_true rfl) ?_
  intro p e s m args below meth c C ht hgi
  have C : gC G p l s m args meth c cL_apart 5 RL (some .int) "apart" := C
  refine gw_aload_n C 3 dL_apart_0 rfl rfl ?_
  refine gw_iconst C dL_apart_1 ?_
  refine gw_aload_n C 0 dL_apart_2 rfl rfl ?_
  refine gw_iload_n C 1 dL_apart_3 rfl rfl ?_
  refine gw_iload_n C 2 dL_apart_4 rfl rfl ?_
  refine gw_callV C (as := [vI x1, vI x2]) (st := [vI 0, vR 236]) (ci := 6) (T0 := TX7) (N := 3) (c_X7_apart hl0 G I J hCI x1 x2 hx1 hx2) dL_apart_5 kL_70 qX7_apart hdX7_apart ⟨Nat.le_of_ble_eq_true rfl, Nat.le_of_ble_eq_true rfl⟩ ⟨Nat.le_of_ble_eq_true rfl, Nat.le_of_ble_eq_true rfl⟩ (Nat.le_of_ble_eq_true rfl) rfl xs_0 xn_0 rfl ?_ ?_
  · intro E9 z9 I9 J9 hx9
    obtain ⟨hx9, eI, eJ⟩ := hx9
    rw [eI, eJ]
    rcases hx9 with ⟨hk, e9⟩ | ⟨hk, e9⟩ | ⟨hk, e9⟩
    · skip
      rw [e9]
      refine gwx_catch C (name := "java/lang/IndexOutOfBoundsException") [] (⟨0, 10, 13, 27⟩ : ExceptionTableEntry) [] ht (fun y hy => absurd hy List.not_mem_nil) (by decide) (by decide) kL_27 (List.mem_of_getElem? (i := 2) rfl) (fun q9 => ?_)
      refine gw_astoreA C (lo1 := [some (vR 0), some (vI x1), some (vI x2), some (vR 236), some (vA q9)]) dL_apart_13 (by decide) rfl ?_
      refine gw_iconst C dL_apart_15 ?_
      exact gw_iret C (Nat.le_of_ble_eq_true rfl) (Nat.le_of_ble_eq_true rfl) dL_apart_16 (lr_1 (hk) (by decide))
    · skip
      exact absurd hk (by unfold kTwo; (repeat' split) <;> decide)
    · skip
      exact absurd hk (by unfold kTwo; (repeat' split) <;> decide)
  · intro v9 z9 I9 J9 hv9
    obtain ⟨⟨hk0, ev⟩, eI, eJ⟩ := hv9
    rw [ev, eI, eJ]
    refine gw_norm ?_
    show GW G p l e ({ frames := 7, cells := 1, slots := 6, locals := 114 } : Room) s m args below meth c 5 z9 N0 SH RR I J 1 6 (vx_MQ below (GQ G N0 SH RR (lrQ (kTwo S x1 x2) (i32 (rApart S x1.toNat x2.toNat)) I J)) (GX G N0 SH RR gNo) args s 1 6 (ge G)) 8 [some (vR 0), some (vI x1), some (vI x2), some (vR 236), none] [vI (i32 (rApart S x1.toNat x2.toNat)), vI 0, vR 236]
    refine gw_i2l C dL_apart_8 (i32_in _) ?_
    refine gw_last C 0 dL_apart_9 xs_236 xn_236 (by omega) (by omega) (by decide) ?_
    refine gw_goto C (tgt := 17) dL_apart_10 (by decide) ?_
    refine gw_iconst C dL_apart_17 ?_
    exact gw_iret C (Nat.le_of_ble_eq_true rfl) (Nat.le_of_ble_eq_true rfl) dL_apart_18 (lr_0 hk0)
set_option maxHeartbeats 4000000 in
set_option maxRecDepth 100000 in
theorem c_L_sine {l : Launch} (hl0 : l.stackTraces = false) (G : GG) (I J : GI) {z : Nat} {S : Nat → Int} {D9 : Nat → Nat → Int} {c9 : Nat} (hCI : CI I S D9 c9) (x1 : Int) (hx1 : inI x1) : GM l yL_sine (.codeWith yL_sine cL_sine 4 (some .int) [(0, 9, 12, 13)]) 7 111 1 6 G N0 SH RR [vR 0, vI x1, vR 236] z I J (lrQ (kSine x1) (i32 (sinZ x1)) I J) gNo := by
  refine gm_ofH (lo0 := [some (vR 0), some (vI x1), some (vR 236), none]) hl0 (by decide) rfl (Nat.le_of_ble_eq_true rfl) ?_
  intro p e s m args below meth c C ht hgi
  have C : gC G p l s m args meth c cL_sine 4 RL (some .int) "sine" := C
  refine gw_aload_n C 2 dL_sine_0 rfl rfl ?_
  refine gw_iconst C dL_sine_1 ?_
  refine gw_aload_n C 0 dL_sine_2 rfl rfl ?_
  refine gw_iload_n C 1 dL_sine_3 rfl rfl ?_
  refine gw_callV C (as := [vI x1]) (st := [vI 0, vR 236]) (ci := 6) (T0 := TX7) (N := 3) (c_X7_sine hl0 G I J hCI x1 hx1) dL_sine_4 kL_77 qX7_sine hdX7_sine ⟨Nat.le_of_ble_eq_true rfl, Nat.le_of_ble_eq_true rfl⟩ ⟨Nat.le_of_ble_eq_true rfl, Nat.le_of_ble_eq_true rfl⟩ (Nat.le_of_ble_eq_true rfl) rfl xs_0 xn_0 rfl ?_ ?_
  · intro E9 z9 I9 J9 hx9
    obtain ⟨hx9, eI, eJ⟩ := hx9
    rw [eI, eJ]
    rcases hx9 with ⟨hk, e9⟩ | ⟨hk, e9⟩ | ⟨hk, e9⟩
    · skip
      rw [e9]
      refine gwx_catch C (name := "java/lang/IllegalArgumentException") [] (⟨0, 9, 12, 13⟩ : ExceptionTableEntry) [] ht (fun y hy => absurd hy List.not_mem_nil) (by decide) (by decide) kL_13 (List.mem_of_getElem? (i := 0) rfl) (fun q9 => ?_)
      refine gw_astoreA_n C (lo1 := [some (vR 0), some (vI x1), some (vR 236), some (vA q9)]) 3 dL_sine_12 rfl (by decide) rfl ?_
      refine gw_iconst C dL_sine_13 ?_
      exact gw_iret C (Nat.le_of_ble_eq_true rfl) (Nat.le_of_ble_eq_true rfl) dL_sine_14 (lr_1 (hk) (by decide))
    · skip
      exact absurd hk (by unfold kSine; (repeat' split) <;> decide)
    · skip
      exact absurd hk (by unfold kSine; (repeat' split) <;> decide)
  · intro v9 z9 I9 J9 hv9
    obtain ⟨⟨hk0, ev⟩, eI, eJ⟩ := hv9
    rw [ev, eI, eJ]
    refine gw_norm ?_
    show GW G p l e ({ frames := 7, cells := 1, slots := 6, locals := 111 } : Room) s m args below meth c 4 z9 N0 SH RR I J 1 6 (vx_MQ below (GQ G N0 SH RR (lrQ (kSine x1) (i32 (sinZ x1)) I J)) (GX G N0 SH RR gNo) args s 1 6 (ge G)) 7 [some (vR 0), some (vI x1), some (vR 236), none] [vI (i32 (sinZ x1)), vI 0, vR 236]
    refine gw_i2l C dL_sine_7 (i32_in _) ?_
    refine gw_last C 0 dL_sine_8 xs_236 xn_236 (by omega) (by omega) (by decide) ?_
    refine gw_goto C (tgt := 15) dL_sine_9 (by decide) ?_
    refine gw_iconst C dL_sine_15 ?_
    exact gw_iret C (Nat.le_of_ble_eq_true rfl) (Nat.le_of_ble_eq_true rfl) dL_sine_16 (lr_0 hk0)
set_option maxHeartbeats 4000000 in
set_option maxRecDepth 100000 in
theorem c_L_suspect {l : Launch} (hl0 : l.stackTraces = false) (G : GG) (I J : GI) {z : Nat} {S : Nat → Int} {D9 : Nat → Nat → Int} {c9 : Nat} (hCI : CI I S D9 c9) (x1 : Int) (hx1 : inI x1) : GM l yL_suspect (.codeWith yL_suspect cL_suspect 4 (some .int) [(0, 9, 12, 27)]) 7 112 1 6 G N0 SH RR [vR 0, vI x1, vR 236] z I J (lrQ (kTrb S x1) (i32 (rSus S x1.toNat)) I J) gNo := by
  refine gm_ofH (lo0 := [some (vR 0), some (vI x1), some (vR 236), none]) hl0 (by decide) rfl (Nat.le_of_ble_eq_true rfl) ?_
  intro p e s m args below meth c C ht hgi
  have C : gC G p l s m args meth c cL_suspect 4 RL (some .int) "suspect" := C
  refine gw_aload_n C 2 dL_suspect_0 rfl rfl ?_
  refine gw_iconst C dL_suspect_1 ?_
  refine gw_aload_n C 0 dL_suspect_2 rfl rfl ?_
  refine gw_iload_n C 1 dL_suspect_3 rfl rfl ?_
  refine gw_callV C (as := [vI x1]) (st := [vI 0, vR 236]) (ci := 6) (T0 := TX7) (N := 3) (c_X7_suspect hl0 G I J hCI x1 hx1) dL_suspect_4 kL_80 qX7_suspect hdX7_suspect ⟨Nat.le_of_ble_eq_true rfl, Nat.le_of_ble_eq_true rfl⟩ ⟨Nat.le_of_ble_eq_true rfl, Nat.le_of_ble_eq_true rfl⟩ (Nat.le_of_ble_eq_true rfl) rfl xs_0 xn_0 rfl ?_ ?_
  · intro E9 z9 I9 J9 hx9
    obtain ⟨hx9, eI, eJ⟩ := hx9
    rw [eI, eJ]
    rcases hx9 with ⟨hk, e9⟩ | ⟨hk, e9⟩ | ⟨hk, e9⟩
    · skip
      rw [e9]
      refine gwx_catch C (name := "java/lang/IndexOutOfBoundsException") [] (⟨0, 9, 12, 27⟩ : ExceptionTableEntry) [] ht (fun y hy => absurd hy List.not_mem_nil) (by decide) (by decide) kL_27 (List.mem_of_getElem? (i := 2) rfl) (fun q9 => ?_)
      refine gw_astoreA_n C (lo1 := [some (vR 0), some (vI x1), some (vR 236), some (vA q9)]) 3 dL_suspect_12 rfl (by decide) rfl ?_
      refine gw_iconst C dL_suspect_13 ?_
      exact gw_iret C (Nat.le_of_ble_eq_true rfl) (Nat.le_of_ble_eq_true rfl) dL_suspect_14 (lr_1 (hk) (by decide))
    · skip
      exact absurd hk (by unfold kTrb; (repeat' split) <;> decide)
    · skip
      exact absurd hk (by unfold kTrb; (repeat' split) <;> decide)
  · intro v9 z9 I9 J9 hv9
    obtain ⟨⟨hk0, ev⟩, eI, eJ⟩ := hv9
    rw [ev, eI, eJ]
    refine gw_norm ?_
    show GW G p l e ({ frames := 7, cells := 1, slots := 6, locals := 112 } : Room) s m args below meth c 4 z9 N0 SH RR I J 1 6 (vx_MQ below (GQ G N0 SH RR (lrQ (kTrb S x1) (i32 (rSus S x1.toNat)) I J)) (GX G N0 SH RR gNo) args s 1 6 (ge G)) 7 [some (vR 0), some (vI x1), some (vR 236), none] [vI (i32 (rSus S x1.toNat)), vI 0, vR 236]
    refine gw_i2l C dL_suspect_7 (i32_in _) ?_
    refine gw_last C 0 dL_suspect_8 xs_236 xn_236 (by omega) (by omega) (by decide) ?_
    refine gw_goto C (tgt := 15) dL_suspect_9 (by decide) ?_
    refine gw_iconst C dL_suspect_15 ?_
    exact gw_iret C (Nat.le_of_ble_eq_true rfl) (Nat.le_of_ble_eq_true rfl) dL_suspect_16 (lr_0 hk0)
set_option maxHeartbeats 4000000 in
set_option maxRecDepth 100000 in
theorem c_L_angleFor {l : Launch} (hl0 : l.stackTraces = false) (G : GG) (I J : GI) {z : Nat} {S : Nat → Int} {D9 : Nat → Nat → Int} {c9 : Nat} (hCI : CI I S D9 c9) (x1 x2 x3 : Int) (hx1 : inI x1) (hx2 : inI x2) (hx3 : inI x3) : GM l yL_angleFor (.codeWith yL_angleFor cL_angleFor 6 (some .int) [(0, 12, 15, 27), (0, 12, 19, 13)]) 7 115 1 6 G N0 SH RR [vR 0, vI x1, vI x2, vI x3, vR 236] z I J (lrQ (kFor S x1 x2 x3) (i32 (rFor S x1.toNat x2.toNat x3)) I J) gNo := by
  refine gm_ofH (lo0 := [some (vR 0), some (vI x1), some (vI x2), some (vI x3), some (vR 236), none]) hl0 (by decide) rfl (Nat.le_of_ble_eq_true rfl) ?_
  intro p e s m args below meth c C ht hgi
  have C : gC G p l s m args meth c cL_angleFor 6 RL (some .int) "angleFor" := C
  refine gw_aload C dL_angleFor_0 rfl ?_
  refine gw_iconst C dL_angleFor_2 ?_
  refine gw_aload_n C 0 dL_angleFor_3 rfl rfl ?_
  refine gw_iload_n C 1 dL_angleFor_4 rfl rfl ?_
  refine gw_iload_n C 2 dL_angleFor_5 rfl rfl ?_
  refine gw_iload_n C 3 dL_angleFor_6 rfl rfl ?_
  refine gw_callV C (as := [vI x1, vI x2, vI x3]) (st := [vI 0, vR 236]) (ci := 6) (T0 := TX7) (N := 3) (c_X7_angleFor hl0 G I J hCI x1 x2 x3 hx1 hx2 hx3) dL_angleFor_7 kL_83 qX7_angleFor hdX7_angleFor ⟨Nat.le_of_ble_eq_true rfl, Nat.le_of_ble_eq_true rfl⟩ ⟨Nat.le_of_ble_eq_true rfl, Nat.le_of_ble_eq_true rfl⟩ (Nat.le_of_ble_eq_true rfl) rfl xs_0 xn_0 rfl ?_ ?_
  · intro E9 z9 I9 J9 hx9
    obtain ⟨hx9, eI, eJ⟩ := hx9
    rw [eI, eJ]
    rcases hx9 with ⟨hk, e9⟩ | ⟨hk, e9⟩ | ⟨hk, e9⟩
    · skip
      rw [e9]
      refine gwx_catch C (name := "java/lang/IndexOutOfBoundsException") [] (⟨0, 12, 15, 27⟩ : ExceptionTableEntry) [(⟨0, 12, 19, 13⟩ : ExceptionTableEntry)] ht (fun y hy => absurd hy List.not_mem_nil) (by decide) (by decide) kL_27 (List.mem_of_getElem? (i := 2) rfl) (fun q9 => ?_)
      refine gw_astoreA C (lo1 := [some (vR 0), some (vI x1), some (vI x2), some (vI x3), some (vR 236), some (vA q9)]) dL_angleFor_15 (by decide) rfl ?_
      refine gw_iconst C dL_angleFor_17 ?_
      exact gw_iret C (Nat.le_of_ble_eq_true rfl) (Nat.le_of_ble_eq_true rfl) dL_angleFor_18 (lr_1 (hk) (by decide))
    · skip
      rw [e9]
      refine gwx_catch C (name := "java/lang/IllegalArgumentException") [(⟨0, 12, 15, 27⟩ : ExceptionTableEntry)] (⟨0, 12, 19, 13⟩ : ExceptionTableEntry) [] ht (List.forall_mem_cons.mpr ⟨Or.inr ⟨by decide, "java/lang/IndexOutOfBoundsException", kL_27, List.mem_of_getElem? (i := 1) rfl⟩, fun _ h => absurd h List.not_mem_nil⟩) (by decide) (by decide) kL_13 (List.mem_of_getElem? (i := 0) rfl) (fun q9 => ?_)
      refine gw_astoreA C (lo1 := [some (vR 0), some (vI x1), some (vI x2), some (vI x3), some (vR 236), some (vA q9)]) dL_angleFor_19 (by decide) rfl ?_
      refine gw_iconst C dL_angleFor_21 ?_
      exact gw_iret C (Nat.le_of_ble_eq_true rfl) (Nat.le_of_ble_eq_true rfl) dL_angleFor_22 (lr_1 (hk) (by decide))
    · skip
      exact absurd hk (by unfold kFor; (repeat' split) <;> decide)
  · intro v9 z9 I9 J9 hv9
    obtain ⟨⟨hk0, ev⟩, eI, eJ⟩ := hv9
    rw [ev, eI, eJ]
    refine gw_norm ?_
    show GW G p l e ({ frames := 7, cells := 1, slots := 6, locals := 115 } : Room) s m args below meth c 6 z9 N0 SH RR I J 1 6 (vx_MQ below (GQ G N0 SH RR (lrQ (kFor S x1 x2 x3) (i32 (rFor S x1.toNat x2.toNat x3)) I J)) (GX G N0 SH RR gNo) args s 1 6 (ge G)) 10 [some (vR 0), some (vI x1), some (vI x2), some (vI x3), some (vR 236), none] [vI (i32 (rFor S x1.toNat x2.toNat x3)), vI 0, vR 236]
    refine gw_i2l C dL_angleFor_10 (i32_in _) ?_
    refine gw_last C 0 dL_angleFor_11 xs_236 xn_236 (by omega) (by omega) (by decide) ?_
    refine gw_goto C (tgt := 23) dL_angleFor_12 (by decide) ?_
    refine gw_iconst C dL_angleFor_23 ?_
    exact gw_iret C (Nat.le_of_ble_eq_true rfl) (Nat.le_of_ble_eq_true rfl) dL_angleFor_24 (lr_0 hk0)
set_option maxHeartbeats 4000000 in
set_option maxRecDepth 100000 in
theorem c_L_reachBy {l : Launch} (hl0 : l.stackTraces = false) (G : GG) (I J : GI) {z : Nat} {S : Nat → Int} {D9 : Nat → Nat → Int} {c9 : Nat} (hCI : CI I S D9 c9) (x1 x2 x3 x4 : Int) (hx1 : inI x1) (hx2 : inI x2) (hx3 : inI x3) (hx4 : inI x4) : GM l yL_reachBy (.codeWith yL_reachBy cL_reachBy 7 (some .int) [(0, 14, 17, 27), (0, 14, 21, 13)]) 7 116 1 6 G N0 SH RR [vR 0, vI x1, vI x2, vI x3, vI x4, vR 236] z I J (lrQ (kBy S x1 x2 x3 x4) (i32 (rBy S x1.toNat x2.toNat x3 x4)) I J) gNo := by
  refine gm_ofH (lo0 := [some (vR 0), some (vI x1), some (vI x2), some (vI x3), some (vI x4), some (vR 236), none]) hl0 (by decide) rfl (Nat.le_of_ble_eq_true rfl) ?_
  intro p e s m args below meth c C ht hgi
  have C : gC G p l s m args meth c cL_reachBy 7 RL (some .int) "reachBy" := C
  refine gw_aload C dL_reachBy_0 rfl ?_
  refine gw_iconst C dL_reachBy_2 ?_
  refine gw_aload_n C 0 dL_reachBy_3 rfl rfl ?_
  refine gw_iload_n C 1 dL_reachBy_4 rfl rfl ?_
  refine gw_iload_n C 2 dL_reachBy_5 rfl rfl ?_
  refine gw_iload_n C 3 dL_reachBy_6 rfl rfl ?_
  refine gw_iload C dL_reachBy_7 rfl ?_
  refine gw_callV C (as := [vI x1, vI x2, vI x3, vI x4]) (st := [vI 0, vR 236]) (ci := 6) (T0 := TX7) (N := 3) (c_X7_reachBy hl0 G I J hCI x1 x2 x3 x4 hx1 hx2 hx3 hx4) dL_reachBy_9 kL_86 qX7_reachBy hdX7_reachBy ⟨Nat.le_of_ble_eq_true rfl, Nat.le_of_ble_eq_true rfl⟩ ⟨Nat.le_of_ble_eq_true rfl, Nat.le_of_ble_eq_true rfl⟩ (Nat.le_of_ble_eq_true rfl) rfl xs_0 xn_0 rfl ?_ ?_
  · intro E9 z9 I9 J9 hx9
    obtain ⟨hx9, eI, eJ⟩ := hx9
    rw [eI, eJ]
    rcases hx9 with ⟨hk, e9⟩ | ⟨hk, e9⟩ | ⟨hk, e9⟩
    · skip
      rw [e9]
      refine gwx_catch C (name := "java/lang/IndexOutOfBoundsException") [] (⟨0, 14, 17, 27⟩ : ExceptionTableEntry) [(⟨0, 14, 21, 13⟩ : ExceptionTableEntry)] ht (fun y hy => absurd hy List.not_mem_nil) (by decide) (by decide) kL_27 (List.mem_of_getElem? (i := 2) rfl) (fun q9 => ?_)
      refine gw_astoreA C (lo1 := [some (vR 0), some (vI x1), some (vI x2), some (vI x3), some (vI x4), some (vR 236), some (vA q9)]) dL_reachBy_17 (by decide) rfl ?_
      refine gw_iconst C dL_reachBy_19 ?_
      exact gw_iret C (Nat.le_of_ble_eq_true rfl) (Nat.le_of_ble_eq_true rfl) dL_reachBy_20 (lr_1 (hk) (by decide))
    · skip
      rw [e9]
      refine gwx_catch C (name := "java/lang/IllegalArgumentException") [(⟨0, 14, 17, 27⟩ : ExceptionTableEntry)] (⟨0, 14, 21, 13⟩ : ExceptionTableEntry) [] ht (List.forall_mem_cons.mpr ⟨Or.inr ⟨by decide, "java/lang/IndexOutOfBoundsException", kL_27, List.mem_of_getElem? (i := 1) rfl⟩, fun _ h => absurd h List.not_mem_nil⟩) (by decide) (by decide) kL_13 (List.mem_of_getElem? (i := 0) rfl) (fun q9 => ?_)
      refine gw_astoreA C (lo1 := [some (vR 0), some (vI x1), some (vI x2), some (vI x3), some (vI x4), some (vR 236), some (vA q9)]) dL_reachBy_21 (by decide) rfl ?_
      refine gw_iconst C dL_reachBy_23 ?_
      exact gw_iret C (Nat.le_of_ble_eq_true rfl) (Nat.le_of_ble_eq_true rfl) dL_reachBy_24 (lr_1 (hk) (by decide))
    · skip
      exact absurd hk (by unfold kBy; (repeat' split) <;> decide)
  · intro v9 z9 I9 J9 hv9
    obtain ⟨⟨hk0, ev⟩, eI, eJ⟩ := hv9
    rw [ev, eI, eJ]
    refine gw_norm ?_
    show GW G p l e ({ frames := 7, cells := 1, slots := 6, locals := 116 } : Room) s m args below meth c 7 z9 N0 SH RR I J 1 6 (vx_MQ below (GQ G N0 SH RR (lrQ (kBy S x1 x2 x3 x4) (i32 (rBy S x1.toNat x2.toNat x3 x4)) I J)) (GX G N0 SH RR gNo) args s 1 6 (ge G)) 12 [some (vR 0), some (vI x1), some (vI x2), some (vI x3), some (vI x4), some (vR 236), none] [vI (i32 (rBy S x1.toNat x2.toNat x3 x4)), vI 0, vR 236]
    refine gw_i2l C dL_reachBy_12 (i32_in _) ?_
    refine gw_last C 0 dL_reachBy_13 xs_236 xn_236 (by omega) (by omega) (by decide) ?_
    refine gw_goto C (tgt := 25) dL_reachBy_14 (by decide) ?_
    refine gw_iconst C dL_reachBy_25 ?_
    exact gw_iret C (Nat.le_of_ble_eq_true rfl) (Nat.le_of_ble_eq_true rfl) dL_reachBy_26 (lr_0 hk0)
set_option maxHeartbeats 4000000 in
set_option maxRecDepth 100000 in
theorem c_L_meets {l : Launch} (hl0 : l.stackTraces = false) (G : GG) (I J : GI) {z : Nat} {S : Nat → Int} {D9 : Nat → Nat → Int} {c9 : Nat} (hCI : CI I S D9 c9) (x1 x2 : Int) (hx1 : inI x1) (hx2 : inI x2) : GM l yL_meets (.codeWith yL_meets cL_meets 5 (some .int) [(0, 17, 20, 27)]) 7 115 1 6 G N0 SH RR [vR 0, vI x1, vI x2, vR 236] z I J (lrQ (kTwo S x1 x2) (if (rMeets S x1.toNat x2.toNat) = 0 then 0 else 1) I J) gNo := by
  refine gm_ofH (lo0 := [some (vR 0), some (vI x1), some (vI x2), some (vR 236), none]) hl0 (by decide) rfl (Nat.le_of_ble_eq_true rfl) ?_
  intro p e s m args below meth c C ht hgi
  have C : gC G p l s m args meth c cL_meets 5 RL (some .int) "meets" := C
  refine gw_aload_n C 3 dL_meets_0 rfl rfl ?_
  refine gw_iconst C dL_meets_1 ?_
  refine gw_aload_n C 0 dL_meets_2 rfl rfl ?_
  refine gw_iload_n C 1 dL_meets_3 rfl rfl ?_
  refine gw_iload_n C 2 dL_meets_4 rfl rfl ?_
  refine gw_callV C (as := [vI x1, vI x2]) (st := [vI 0, vR 236]) (ci := 6) (T0 := TX7) (N := 3) (c_X7_meets hl0 G I J hCI x1 x2 hx1 hx2) dL_meets_5 kL_73 qX7_meets hdX7_meets ⟨Nat.le_of_ble_eq_true rfl, Nat.le_of_ble_eq_true rfl⟩ ⟨Nat.le_of_ble_eq_true rfl, Nat.le_of_ble_eq_true rfl⟩ (Nat.le_of_ble_eq_true rfl) rfl xs_0 xn_0 rfl ?_ ?_
  · intro E9 z9 I9 J9 hx9
    obtain ⟨hx9, eI, eJ⟩ := hx9
    rw [eI, eJ]
    rcases hx9 with ⟨hk, e9⟩ | ⟨hk, e9⟩ | ⟨hk, e9⟩
    · skip
      rw [e9]
      refine gwx_catch C (name := "java/lang/IndexOutOfBoundsException") [] (⟨0, 17, 20, 27⟩ : ExceptionTableEntry) [] ht (fun y hy => absurd hy List.not_mem_nil) (by decide) (by decide) kL_27 (List.mem_of_getElem? (i := 2) rfl) (fun q9 => ?_)
      refine gw_astoreA C (lo1 := [some (vR 0), some (vI x1), some (vI x2), some (vR 236), some (vA q9)]) dL_meets_20 (by decide) rfl ?_
      refine gw_iconst C dL_meets_22 ?_
      exact gw_iret C (Nat.le_of_ble_eq_true rfl) (Nat.le_of_ble_eq_true rfl) dL_meets_23 (lr_1 (hk) (by decide))
    · skip
      exact absurd hk (by unfold kTwo; (repeat' split) <;> decide)
    · skip
      exact absurd hk (by unfold kTwo; (repeat' split) <;> decide)
  · intro v9 z9 I9 J9 hv9
    obtain ⟨⟨hk0, ev⟩, eI, eJ⟩ := hv9
    rw [ev, eI, eJ]
    show GW G p l e ({ frames := 7, cells := 1, slots := 6, locals := 115 } : Room) s m args below meth c 5 z9 N0 SH RR I J 1 6 (vx_MQ below (GQ G N0 SH RR (lrQ (kTwo S x1 x2) (if (rMeets S x1.toNat x2.toNat) = 0 then 0 else 1) I J)) (GX G N0 SH RR gNo) args s 1 6 (ge G)) 8 [some (vR 0), some (vI x1), some (vI x2), some (vR 236), none] [vI (rMeets S x1.toNat x2.toNat), vI 0, vR 236]
    refine gw_if_eq C (tgt := 15) dL_meets_8 (by decide) (by unfold rMeets; split <;> exact ⟨by decide, by decide⟩) (fun h_8 => ?_) (fun h_8 => ?_)
    · skip
      refine gw_lconst C 0 dL_meets_15 (by decide) ?_
      refine gw_last C 0 dL_meets_16 xs_236 xn_236 (by omega) (by omega) (by decide) ?_
      refine gw_goto C (tgt := 24) dL_meets_17 (by decide) ?_
      refine gw_iconst C dL_meets_24 ?_
      exact gw_iret C (Nat.le_of_ble_eq_true rfl) (Nat.le_of_ble_eq_true rfl) dL_meets_25 (⟨by rw [hk0], rfl, fun _ => by rw [if_pos h_8], fun q => absurd hk0 q⟩)
    · skip
      refine gw_lconst C 1 dL_meets_11 (by decide) ?_
      refine gw_goto C (tgt := 16) dL_meets_12 (by decide) ?_
      refine gw_last C 0 dL_meets_16 xs_236 xn_236 (by omega) (by omega) (by decide) ?_
      refine gw_goto C (tgt := 24) dL_meets_17 (by decide) ?_
      refine gw_iconst C dL_meets_24 ?_
      exact gw_iret C (Nat.le_of_ble_eq_true rfl) (Nat.le_of_ble_eq_true rfl) dL_meets_25 (⟨by rw [hk0], rfl, fun _ => by rw [if_neg h_8], fun q => absurd hk0 q⟩)
set_option maxHeartbeats 4000000 in
set_option maxRecDepth 100000 in
theorem c_L_set {l : Launch} (hl0 : l.stackTraces = false) (G : GG) (I J : GI) {z : Nat} {S : Nat → Int} {D9 : Nat → Nat → Int} {c9 : Nat} (hCI : CI I S D9 c9) (x1 x2 : Int) (hx1 : inI x1) (hx2 : inI x2) : GM l yL_set (.codeWith yL_set cL_set 5 (some .int) [(0, 10, 13, 13)]) 7 142 1 6 G N0 SH RR [vR 0, vI x1, vI x2, vR 236] z I J (lmQ (kSet x1 x2) (i32 (S x1.toNat)) I J (oSet S x1.toNat x2) (psh S D9) (cN c9)) gNo := by
  refine gm_ofH (lo0 := [some (vR 0), some (vI x1), some (vI x2), some (vR 236), none]) hl0 (by decide) rfl (Nat.le_of_ble_eq_true rfl) ?_
  intro p e s m args below meth c C ht hgi
  have C : gC G p l s m args meth c cL_set 5 RL (some .int) "set" := C
  refine gw_aload_n C 3 dL_set_0 rfl rfl ?_
  refine gw_iconst C dL_set_1 ?_
  refine gw_aload_n C 0 dL_set_2 rfl rfl ?_
  refine gw_iload_n C 1 dL_set_3 rfl rfl ?_
  refine gw_iload_n C 2 dL_set_4 rfl rfl ?_
  refine gw_callV C (as := [vI x1, vI x2]) (st := [vI 0, vR 236]) (ci := 6) (T0 := TX7) (N := 3) (c_X7_set hl0 G I J hCI x1 x2 hx1 hx2) dL_set_5 kL_7 qX7_set hdX7_set ⟨Nat.le_of_ble_eq_true rfl, Nat.le_of_ble_eq_true rfl⟩ ⟨Nat.le_of_ble_eq_true rfl, Nat.le_of_ble_eq_true rfl⟩ (Nat.le_of_ble_eq_true rfl) rfl xs_0 xn_0 rfl ?_ ?_
  · intro E9 z9 I9 J9 hx9
    obtain ⟨hx9, eI, eJ⟩ := hx9
    rw [eI, eJ]
    rcases hx9 with ⟨hk, e9⟩ | ⟨hk, e9⟩ | ⟨hk, e9⟩
    · skip
      rw [e9]
      refine gwx_catch C (name := "java/lang/IllegalArgumentException") [] (⟨0, 10, 13, 13⟩ : ExceptionTableEntry) [] ht (fun y hy => absurd hy List.not_mem_nil) (by decide) (by decide) kL_13 (List.mem_of_getElem? (i := 0) rfl) (fun q9 => ?_)
      refine gw_astoreA C (lo1 := [some (vR 0), some (vI x1), some (vI x2), some (vR 236), some (vA q9)]) dL_set_13 (by decide) rfl ?_
      refine gw_iconst C dL_set_15 ?_
      exact gw_iret C (Nat.le_of_ble_eq_true rfl) (Nat.le_of_ble_eq_true rfl) dL_set_16 (lm_1 (hk) (by decide))
    · skip
      exact absurd hk (by unfold kSet; (repeat' split) <;> decide)
    · skip
      exact absurd hk (by unfold kSet; (repeat' split) <;> decide)
  · intro v9 z9 I9 J9 hv9
    obtain ⟨⟨hk0, ev⟩, hm, eJ⟩ := hv9
    rw [ev, eJ]
    refine gw_norm ?_
    show GW G p l e ({ frames := 7, cells := 1, slots := 6, locals := 142 } : Room) s m args below meth c 5 z9 N0 SH RR I9 J 1 6 (vx_MQ below (GQ G N0 SH RR (lmQ (kSet x1 x2) (i32 (S x1.toNat)) I J (oSet S x1.toNat x2) (psh S D9) (cN c9))) (GX G N0 SH RR gNo) args s 1 6 (ge G)) 8 [some (vR 0), some (vI x1), some (vI x2), some (vR 236), none] [vI (i32 (S x1.toNat)), vI 0, vR 236]
    refine gw_i2l C dL_set_8 (i32_in _) ?_
    refine gw_last C 0 dL_set_9 xs_236 xn_236 (by omega) (by omega) (by decide) ?_
    refine gw_goto C (tgt := 17) dL_set_10 (by decide) ?_
    refine gw_iconst C dL_set_17 ?_
    exact gw_iret C (Nat.le_of_ble_eq_true rfl) (Nat.le_of_ble_eq_true rfl) dL_set_18 (lm_0 hk0 hm)
set_option maxHeartbeats 4000000 in
set_option maxRecDepth 100000 in
theorem c_L_hang {l : Launch} (hl0 : l.stackTraces = false) (G : GG) (I J : GI) {z : Nat} {S : Nat → Int} {D9 : Nat → Nat → Int} {c9 : Nat} (hCI : CI I S D9 c9) (x1 x2 : Int) (hx1 : inI x1) (hx2 : inI x2) : GM l yL_hang (.codeWith yL_hang cL_hang 5 (some .int) [(0, 10, 13, 13), (0, 10, 17, 22)]) 7 142 1 6 G N0 SH RR [vR 0, vI x1, vI x2, vR 236] z I J (lmQ (kHang S x1 x2) (i32 (S 3)) I J (oHang S (S 3).toNat x1 x2) (psh S D9) (cN c9)) gNo := by
  refine gm_ofH (lo0 := [some (vR 0), some (vI x1), some (vI x2), some (vR 236), none]) hl0 (by decide) rfl (Nat.le_of_ble_eq_true rfl) ?_
  intro p e s m args below meth c C ht hgi
  have C : gC G p l s m args meth c cL_hang 5 RL (some .int) "hang" := C
  refine gw_aload_n C 3 dL_hang_0 rfl rfl ?_
  refine gw_iconst C dL_hang_1 ?_
  refine gw_aload_n C 0 dL_hang_2 rfl rfl ?_
  refine gw_iload_n C 1 dL_hang_3 rfl rfl ?_
  refine gw_iload_n C 2 dL_hang_4 rfl rfl ?_
  refine gw_callV C (as := [vI x1, vI x2]) (st := [vI 0, vR 236]) (ci := 6) (T0 := TX7) (N := 3) (c_X7_hang hl0 G I J hCI x1 x2 hx1 hx2) dL_hang_5 kL_19 qX7_hang hdX7_hang ⟨Nat.le_of_ble_eq_true rfl, Nat.le_of_ble_eq_true rfl⟩ ⟨Nat.le_of_ble_eq_true rfl, Nat.le_of_ble_eq_true rfl⟩ (Nat.le_of_ble_eq_true rfl) rfl xs_0 xn_0 rfl ?_ ?_
  · intro E9 z9 I9 J9 hx9
    obtain ⟨hx9, eI, eJ⟩ := hx9
    rw [eI, eJ]
    rcases hx9 with ⟨hk, e9⟩ | ⟨hk, e9⟩ | ⟨hk, e9⟩
    · skip
      rw [e9]
      refine gwx_catch C (name := "java/lang/IllegalArgumentException") [] (⟨0, 10, 13, 13⟩ : ExceptionTableEntry) [(⟨0, 10, 17, 22⟩ : ExceptionTableEntry)] ht (fun y hy => absurd hy List.not_mem_nil) (by decide) (by decide) kL_13 (List.mem_of_getElem? (i := 0) rfl) (fun q9 => ?_)
      refine gw_astoreA C (lo1 := [some (vR 0), some (vI x1), some (vI x2), some (vR 236), some (vA q9)]) dL_hang_13 (by decide) rfl ?_
      refine gw_iconst C dL_hang_15 ?_
      exact gw_iret C (Nat.le_of_ble_eq_true rfl) (Nat.le_of_ble_eq_true rfl) dL_hang_16 (lm_1 (hk) (by decide))
    · skip
      rw [e9]
      refine gwx_catch C (name := "java/lang/IllegalStateException") [(⟨0, 10, 13, 13⟩ : ExceptionTableEntry)] (⟨0, 10, 17, 22⟩ : ExceptionTableEntry) [] ht (List.forall_mem_cons.mpr ⟨Or.inr ⟨by decide, "java/lang/IllegalArgumentException", kL_13, List.mem_of_getElem? (i := 2) rfl⟩, fun _ h => absurd h List.not_mem_nil⟩) (by decide) (by decide) kL_22 (List.mem_of_getElem? (i := 1) rfl) (fun q9 => ?_)
      refine gw_astoreA C (lo1 := [some (vR 0), some (vI x1), some (vI x2), some (vR 236), some (vA q9)]) dL_hang_17 (by decide) rfl ?_
      refine gw_iconst C dL_hang_19 ?_
      exact gw_iret C (Nat.le_of_ble_eq_true rfl) (Nat.le_of_ble_eq_true rfl) dL_hang_20 (lm_1 (hk) (by decide))
    · skip
      exact absurd hk (by unfold kHang; (repeat' split) <;> decide)
  · intro v9 z9 I9 J9 hv9
    obtain ⟨⟨hk0, ev⟩, hm, eJ⟩ := hv9
    rw [ev, eJ]
    refine gw_norm ?_
    show GW G p l e ({ frames := 7, cells := 1, slots := 6, locals := 142 } : Room) s m args below meth c 5 z9 N0 SH RR I9 J 1 6 (vx_MQ below (GQ G N0 SH RR (lmQ (kHang S x1 x2) (i32 (S 3)) I J (oHang S (S 3).toNat x1 x2) (psh S D9) (cN c9))) (GX G N0 SH RR gNo) args s 1 6 (ge G)) 8 [some (vR 0), some (vI x1), some (vI x2), some (vR 236), none] [vI (i32 (S 3)), vI 0, vR 236]
    refine gw_i2l C dL_hang_8 (i32_in _) ?_
    refine gw_last C 0 dL_hang_9 xs_236 xn_236 (by omega) (by omega) (by decide) ?_
    refine gw_goto C (tgt := 21) dL_hang_10 (by decide) ?_
    refine gw_iconst C dL_hang_21 ?_
    exact gw_iret C (Nat.le_of_ble_eq_true rfl) (Nat.le_of_ble_eq_true rfl) dL_hang_22 (lm_0 hk0 hm)
set_option maxHeartbeats 4000000 in
set_option maxRecDepth 100000 in
theorem c_L_join {l : Launch} (hl0 : l.stackTraces = false) (G : GG) (I J : GI) {z : Nat} {S : Nat → Int} {D9 : Nat → Nat → Int} {c9 : Nat} (hCI : CI I S D9 c9) (x1 x2 x3 x4 x5 x6 : Int) (hx1 : inI x1) (hx2 : inI x2) (hx3 : inI x3) (hx4 : inI x4) (hx5 : inI x5) (hx6 : inI x6) : GM l yL_join (.codeWith yL_join cL_join 9 (some .int) [(0, 18, 21, 27), (0, 18, 25, 13), (0, 18, 29, 22)]) 7 146 1 6 G N0 SH RR [vR 0, vI x1, vI x2, vI x3, vI x4, vI x5, vI x6, vR 236] z I J (lmQ (kJoin S x1 x2 x3 x4 x5 x6) (i32 (S 4)) I J (oJoin S (S 4).toNat x1 x2 x3 x4 x5 x6) (psh S D9) (cN c9)) gNo := by
  refine gm_ofH (lo0 := [some (vR 0), some (vI x1), some (vI x2), some (vI x3), some (vI x4), some (vI x5), some (vI x6), some (vR 236), none]) hl0 (by decide) rfl (Nat.le_of_ble_eq_true rfl) ?_
  intro p e s m args below meth c C ht hgi
  have C : gC G p l s m args meth c cL_join 9 RL (some .int) "join" := C
  refine gw_aload C dL_join_0 rfl ?_
  refine gw_iconst C dL_join_2 ?_
  refine gw_aload_n C 0 dL_join_3 rfl rfl ?_
  refine gw_iload_n C 1 dL_join_4 rfl rfl ?_
  refine gw_iload_n C 2 dL_join_5 rfl rfl ?_
  refine gw_iload_n C 3 dL_join_6 rfl rfl ?_
  refine gw_iload C dL_join_7 rfl ?_
  refine gw_iload C dL_join_9 rfl ?_
  refine gw_iload C dL_join_11 rfl ?_
  refine gw_callV C (as := [vI x1, vI x2, vI x3, vI x4, vI x5, vI x6]) (st := [vI 0, vR 236]) (ci := 6) (T0 := TX7) (N := 3) (c_X7_join hl0 G I J hCI x1 x2 x3 x4 x5 x6 hx1 hx2 hx3 hx4 hx5 hx6) dL_join_13 kL_35 qX7_join hdX7_join ⟨Nat.le_of_ble_eq_true rfl, Nat.le_of_ble_eq_true rfl⟩ ⟨Nat.le_of_ble_eq_true rfl, Nat.le_of_ble_eq_true rfl⟩ (Nat.le_of_ble_eq_true rfl) rfl xs_0 xn_0 rfl ?_ ?_
  · intro E9 z9 I9 J9 hx9
    obtain ⟨hx9, eI, eJ⟩ := hx9
    rw [eI, eJ]
    rcases hx9 with ⟨hk, e9⟩ | ⟨hk, e9⟩ | ⟨hk, e9⟩
    · skip
      rw [e9]
      refine gwx_catch C (name := "java/lang/IndexOutOfBoundsException") [] (⟨0, 18, 21, 27⟩ : ExceptionTableEntry) [(⟨0, 18, 25, 13⟩ : ExceptionTableEntry), (⟨0, 18, 29, 22⟩ : ExceptionTableEntry)] ht (fun y hy => absurd hy List.not_mem_nil) (by decide) (by decide) kL_27 (List.mem_of_getElem? (i := 2) rfl) (fun q9 => ?_)
      refine gw_astoreA C (lo1 := [some (vR 0), some (vI x1), some (vI x2), some (vI x3), some (vI x4), some (vI x5), some (vI x6), some (vR 236), some (vA q9)]) dL_join_21 (by decide) rfl ?_
      refine gw_iconst C dL_join_23 ?_
      exact gw_iret C (Nat.le_of_ble_eq_true rfl) (Nat.le_of_ble_eq_true rfl) dL_join_24 (lm_1 (hk) (by decide))
    · skip
      rw [e9]
      refine gwx_catch C (name := "java/lang/IllegalArgumentException") [(⟨0, 18, 21, 27⟩ : ExceptionTableEntry)] (⟨0, 18, 25, 13⟩ : ExceptionTableEntry) [(⟨0, 18, 29, 22⟩ : ExceptionTableEntry)] ht (List.forall_mem_cons.mpr ⟨Or.inr ⟨by decide, "java/lang/IndexOutOfBoundsException", kL_27, List.mem_of_getElem? (i := 1) rfl⟩, fun _ h => absurd h List.not_mem_nil⟩) (by decide) (by decide) kL_13 (List.mem_of_getElem? (i := 0) rfl) (fun q9 => ?_)
      refine gw_astoreA C (lo1 := [some (vR 0), some (vI x1), some (vI x2), some (vI x3), some (vI x4), some (vI x5), some (vI x6), some (vR 236), some (vA q9)]) dL_join_25 (by decide) rfl ?_
      refine gw_iconst C dL_join_27 ?_
      exact gw_iret C (Nat.le_of_ble_eq_true rfl) (Nat.le_of_ble_eq_true rfl) dL_join_28 (lm_1 (hk) (by decide))
    · skip
      rw [e9]
      refine gwx_catch C (name := "java/lang/IllegalStateException") [(⟨0, 18, 21, 27⟩ : ExceptionTableEntry), (⟨0, 18, 25, 13⟩ : ExceptionTableEntry)] (⟨0, 18, 29, 22⟩ : ExceptionTableEntry) [] ht (List.forall_mem_cons.mpr ⟨Or.inr ⟨by decide, "java/lang/IndexOutOfBoundsException", kL_27, List.mem_of_getElem? (i := 3) rfl⟩, List.forall_mem_cons.mpr ⟨Or.inr ⟨by decide, "java/lang/IllegalArgumentException", kL_13, List.mem_of_getElem? (i := 2) rfl⟩, fun _ h => absurd h List.not_mem_nil⟩⟩) (by decide) (by decide) kL_22 (List.mem_of_getElem? (i := 1) rfl) (fun q9 => ?_)
      refine gw_astoreA C (lo1 := [some (vR 0), some (vI x1), some (vI x2), some (vI x3), some (vI x4), some (vI x5), some (vI x6), some (vR 236), some (vA q9)]) dL_join_29 (by decide) rfl ?_
      refine gw_iconst C dL_join_31 ?_
      exact gw_iret C (Nat.le_of_ble_eq_true rfl) (Nat.le_of_ble_eq_true rfl) dL_join_32 (lm_1 (hk) (by decide))
  · intro v9 z9 I9 J9 hv9
    obtain ⟨⟨hk0, ev⟩, hm, eJ⟩ := hv9
    rw [ev, eJ]
    refine gw_norm ?_
    show GW G p l e ({ frames := 7, cells := 1, slots := 6, locals := 146 } : Room) s m args below meth c 9 z9 N0 SH RR I9 J 1 6 (vx_MQ below (GQ G N0 SH RR (lmQ (kJoin S x1 x2 x3 x4 x5 x6) (i32 (S 4)) I J (oJoin S (S 4).toNat x1 x2 x3 x4 x5 x6) (psh S D9) (cN c9))) (GX G N0 SH RR gNo) args s 1 6 (ge G)) 16 [some (vR 0), some (vI x1), some (vI x2), some (vI x3), some (vI x4), some (vI x5), some (vI x6), some (vR 236), none] [vI (i32 (S 4)), vI 0, vR 236]
    refine gw_i2l C dL_join_16 (i32_in _) ?_
    refine gw_last C 0 dL_join_17 xs_236 xn_236 (by omega) (by omega) (by decide) ?_
    refine gw_goto C (tgt := 33) dL_join_18 (by decide) ?_
    refine gw_iconst C dL_join_33 ?_
    exact gw_iret C (Nat.le_of_ble_eq_true rfl) (Nat.le_of_ble_eq_true rfl) dL_join_34 (lm_0 hk0 hm)
set_option maxHeartbeats 4000000 in
set_option maxRecDepth 100000 in
theorem c_L_begin {l : Launch} (hl0 : l.stackTraces = false) (G : GG) (I J : GI) {z : Nat} {S : Nat → Int} {D9 : Nat → Nat → Int} {c9 : Nat} (hCI : CI I S D9 c9) (x1 : Int) (hx1 : inI x1) : GM l yL_begin (.codeWith yL_begin cL_begin 4 (some .int) [(0, 9, 12, 27), (0, 9, 15, 22)]) 7 141 1 6 G N0 SH RR [vR 0, vI x1, vR 236] z I J (lmQ (kBegin S x1) (i32 (S 5)) I J (oBegin S (S 5).toNat x1) (psh S D9) (cN c9)) gNo := by
  refine gm_ofH (lo0 := [some (vR 0), some (vI x1), some (vR 236), none]) hl0 (by decide) rfl (Nat.le_of_ble_eq_true rfl) ?_
  intro p e s m args below meth c C ht hgi
  have C : gC G p l s m args meth c cL_begin 4 RL (some .int) "begin" := C
  refine gw_aload_n C 2 dL_begin_0 rfl rfl ?_
  refine gw_iconst C dL_begin_1 ?_
  refine gw_aload_n C 0 dL_begin_2 rfl rfl ?_
  refine gw_iload_n C 1 dL_begin_3 rfl rfl ?_
  refine gw_callV C (as := [vI x1]) (st := [vI 0, vR 236]) (ci := 6) (T0 := TX7) (N := 3) (c_X7_begin hl0 G I J hCI x1 hx1) dL_begin_4 kL_45 qX7_begin hdX7_begin ⟨Nat.le_of_ble_eq_true rfl, Nat.le_of_ble_eq_true rfl⟩ ⟨Nat.le_of_ble_eq_true rfl, Nat.le_of_ble_eq_true rfl⟩ (Nat.le_of_ble_eq_true rfl) rfl xs_0 xn_0 rfl ?_ ?_
  · intro E9 z9 I9 J9 hx9
    obtain ⟨hx9, eI, eJ⟩ := hx9
    rw [eI, eJ]
    rcases hx9 with ⟨hk, e9⟩ | ⟨hk, e9⟩ | ⟨hk, e9⟩
    · skip
      rw [e9]
      refine gwx_catch C (name := "java/lang/IndexOutOfBoundsException") [] (⟨0, 9, 12, 27⟩ : ExceptionTableEntry) [(⟨0, 9, 15, 22⟩ : ExceptionTableEntry)] ht (fun y hy => absurd hy List.not_mem_nil) (by decide) (by decide) kL_27 (List.mem_of_getElem? (i := 2) rfl) (fun q9 => ?_)
      refine gw_astoreA_n C (lo1 := [some (vR 0), some (vI x1), some (vR 236), some (vA q9)]) 3 dL_begin_12 rfl (by decide) rfl ?_
      refine gw_iconst C dL_begin_13 ?_
      exact gw_iret C (Nat.le_of_ble_eq_true rfl) (Nat.le_of_ble_eq_true rfl) dL_begin_14 (lm_1 (hk) (by decide))
    · skip
      rw [e9]
      refine gwx_catch C (name := "java/lang/IllegalStateException") [(⟨0, 9, 12, 27⟩ : ExceptionTableEntry)] (⟨0, 9, 15, 22⟩ : ExceptionTableEntry) [] ht (List.forall_mem_cons.mpr ⟨Or.inr ⟨by decide, "java/lang/IndexOutOfBoundsException", kL_27, List.mem_of_getElem? (i := 3) rfl⟩, fun _ h => absurd h List.not_mem_nil⟩) (by decide) (by decide) kL_22 (List.mem_of_getElem? (i := 1) rfl) (fun q9 => ?_)
      refine gw_astoreA_n C (lo1 := [some (vR 0), some (vI x1), some (vR 236), some (vA q9)]) 3 dL_begin_15 rfl (by decide) rfl ?_
      refine gw_iconst C dL_begin_16 ?_
      exact gw_iret C (Nat.le_of_ble_eq_true rfl) (Nat.le_of_ble_eq_true rfl) dL_begin_17 (lm_1 (hk) (by decide))
    · skip
      exact absurd hk (by unfold kBegin; (repeat' split) <;> decide)
  · intro v9 z9 I9 J9 hv9
    obtain ⟨⟨hk0, ev⟩, hm, eJ⟩ := hv9
    rw [ev, eJ]
    refine gw_norm ?_
    show GW G p l e ({ frames := 7, cells := 1, slots := 6, locals := 141 } : Room) s m args below meth c 4 z9 N0 SH RR I9 J 1 6 (vx_MQ below (GQ G N0 SH RR (lmQ (kBegin S x1) (i32 (S 5)) I J (oBegin S (S 5).toNat x1) (psh S D9) (cN c9))) (GX G N0 SH RR gNo) args s 1 6 (ge G)) 7 [some (vR 0), some (vI x1), some (vR 236), none] [vI (i32 (S 5)), vI 0, vR 236]
    refine gw_i2l C dL_begin_7 (i32_in _) ?_
    refine gw_last C 0 dL_begin_8 xs_236 xn_236 (by omega) (by omega) (by decide) ?_
    refine gw_goto C (tgt := 18) dL_begin_9 (by decide) ?_
    refine gw_iconst C dL_begin_18 ?_
    exact gw_iret C (Nat.le_of_ble_eq_true rfl) (Nat.le_of_ble_eq_true rfl) dL_begin_19 (lm_0 hk0 hm)
set_option maxHeartbeats 4000000 in
set_option maxRecDepth 100000 in
theorem c_L_still {l : Launch} (hl0 : l.stackTraces = false) (G : GG) (I J : GI) {z : Nat} {S : Nat → Int} {D9 : Nat → Nat → Int} {c9 : Nat} (hCI : CI I S D9 c9) (x1 : Int) (hx1 : inI x1) : GM l yL_still (.codeWith yL_still cL_still 4 (some .int) [(0, 9, 12, 27)]) 7 142 1 6 G N0 SH RR [vR 0, vI x1, vR 236] z I J (lmQ (kStill S x1) (i32 (S (8 + 12 * x1.toNat))) I J (oStill S x1.toNat) (psh S D9) (cN c9)) gNo := by
  refine gm_ofH (lo0 := [some (vR 0), some (vI x1), some (vR 236), none]) hl0 (by decide) rfl (Nat.le_of_ble_eq_true rfl) ?_
  intro p e s m args below meth c C ht hgi
  have C : gC G p l s m args meth c cL_still 4 RL (some .int) "still" := C
  refine gw_aload_n C 2 dL_still_0 rfl rfl ?_
  refine gw_iconst C dL_still_1 ?_
  refine gw_aload_n C 0 dL_still_2 rfl rfl ?_
  refine gw_iload_n C 1 dL_still_3 rfl rfl ?_
  refine gw_callV C (as := [vI x1]) (st := [vI 0, vR 236]) (ci := 6) (T0 := TX7) (N := 3) (c_X7_still hl0 G I J hCI x1 hx1) dL_still_4 kL_29 qX7_still hdX7_still ⟨Nat.le_of_ble_eq_true rfl, Nat.le_of_ble_eq_true rfl⟩ ⟨Nat.le_of_ble_eq_true rfl, Nat.le_of_ble_eq_true rfl⟩ (Nat.le_of_ble_eq_true rfl) rfl xs_0 xn_0 rfl ?_ ?_
  · intro E9 z9 I9 J9 hx9
    obtain ⟨hx9, eI, eJ⟩ := hx9
    rw [eI, eJ]
    rcases hx9 with ⟨hk, e9⟩ | ⟨hk, e9⟩ | ⟨hk, e9⟩
    · skip
      rw [e9]
      refine gwx_catch C (name := "java/lang/IndexOutOfBoundsException") [] (⟨0, 9, 12, 27⟩ : ExceptionTableEntry) [] ht (fun y hy => absurd hy List.not_mem_nil) (by decide) (by decide) kL_27 (List.mem_of_getElem? (i := 2) rfl) (fun q9 => ?_)
      refine gw_astoreA_n C (lo1 := [some (vR 0), some (vI x1), some (vR 236), some (vA q9)]) 3 dL_still_12 rfl (by decide) rfl ?_
      refine gw_iconst C dL_still_13 ?_
      exact gw_iret C (Nat.le_of_ble_eq_true rfl) (Nat.le_of_ble_eq_true rfl) dL_still_14 (lm_1 (hk) (by decide))
    · skip
      exact absurd hk (by unfold kStill; (repeat' split) <;> decide)
    · skip
      exact absurd hk (by unfold kStill; (repeat' split) <;> decide)
  · intro v9 z9 I9 J9 hv9
    obtain ⟨⟨hk0, ev⟩, hm, eJ⟩ := hv9
    rw [ev, eJ]
    refine gw_norm ?_
    show GW G p l e ({ frames := 7, cells := 1, slots := 6, locals := 142 } : Room) s m args below meth c 4 z9 N0 SH RR I9 J 1 6 (vx_MQ below (GQ G N0 SH RR (lmQ (kStill S x1) (i32 (S (8 + 12 * x1.toNat))) I J (oStill S x1.toNat) (psh S D9) (cN c9))) (GX G N0 SH RR gNo) args s 1 6 (ge G)) 7 [some (vR 0), some (vI x1), some (vR 236), none] [vI (i32 (S (8 + 12 * x1.toNat))), vI 0, vR 236]
    refine gw_i2l C dL_still_7 (i32_in _) ?_
    refine gw_last C 0 dL_still_8 xs_236 xn_236 (by omega) (by omega) (by decide) ?_
    refine gw_goto C (tgt := 15) dL_still_9 (by decide) ?_
    refine gw_iconst C dL_still_15 ?_
    exact gw_iret C (Nat.le_of_ble_eq_true rfl) (Nat.le_of_ble_eq_true rfl) dL_still_16 (lm_0 hk0 hm)
set_option maxHeartbeats 4000000 in
set_option maxRecDepth 100000 in
theorem c_L_measure {l : Launch} (hl0 : l.stackTraces = false) (G : GG) (I J : GI) {z : Nat} {S : Nat → Int} {D9 : Nat → Nat → Int} {c9 : Nat} (hCI : CI I S D9 c9) (x1 x2 : Int) (hx1 : inI x1) (hx2 : inI x2) : GM l yL_measure (.codeWith yL_measure cL_measure 5 (some .int) [(0, 10, 13, 27), (0, 10, 17, 13)]) 7 143 1 6 G N0 SH RR [vR 0, vI x1, vI x2, vR 236] z I J (lmQ (kMeas S x1 x2) (i32 (S (83 + 6 * x1.toNat))) I J (oMeas S x1.toNat x2) (psh S D9) (cN c9)) gNo := by
  refine gm_ofH (lo0 := [some (vR 0), some (vI x1), some (vI x2), some (vR 236), none]) hl0 (by decide) rfl (Nat.le_of_ble_eq_true rfl) ?_
  intro p e s m args below meth c C ht hgi
  have C : gC G p l s m args meth c cL_measure 5 RL (some .int) "measure" := C
  refine gw_aload_n C 3 dL_measure_0 rfl rfl ?_
  refine gw_iconst C dL_measure_1 ?_
  refine gw_aload_n C 0 dL_measure_2 rfl rfl ?_
  refine gw_iload_n C 1 dL_measure_3 rfl rfl ?_
  refine gw_iload_n C 2 dL_measure_4 rfl rfl ?_
  refine gw_callV C (as := [vI x1, vI x2]) (st := [vI 0, vR 236]) (ci := 6) (T0 := TX7) (N := 3) (c_X7_measure hl0 G I J hCI x1 x2 hx1 hx2) dL_measure_5 kL_39 qX7_measure hdX7_measure ⟨Nat.le_of_ble_eq_true rfl, Nat.le_of_ble_eq_true rfl⟩ ⟨Nat.le_of_ble_eq_true rfl, Nat.le_of_ble_eq_true rfl⟩ (Nat.le_of_ble_eq_true rfl) rfl xs_0 xn_0 rfl ?_ ?_
  · intro E9 z9 I9 J9 hx9
    obtain ⟨hx9, eI, eJ⟩ := hx9
    rw [eI, eJ]
    rcases hx9 with ⟨hk, e9⟩ | ⟨hk, e9⟩ | ⟨hk, e9⟩
    · skip
      rw [e9]
      refine gwx_catch C (name := "java/lang/IndexOutOfBoundsException") [] (⟨0, 10, 13, 27⟩ : ExceptionTableEntry) [(⟨0, 10, 17, 13⟩ : ExceptionTableEntry)] ht (fun y hy => absurd hy List.not_mem_nil) (by decide) (by decide) kL_27 (List.mem_of_getElem? (i := 2) rfl) (fun q9 => ?_)
      refine gw_astoreA C (lo1 := [some (vR 0), some (vI x1), some (vI x2), some (vR 236), some (vA q9)]) dL_measure_13 (by decide) rfl ?_
      refine gw_iconst C dL_measure_15 ?_
      exact gw_iret C (Nat.le_of_ble_eq_true rfl) (Nat.le_of_ble_eq_true rfl) dL_measure_16 (lm_1 (hk) (by decide))
    · skip
      rw [e9]
      refine gwx_catch C (name := "java/lang/IllegalArgumentException") [(⟨0, 10, 13, 27⟩ : ExceptionTableEntry)] (⟨0, 10, 17, 13⟩ : ExceptionTableEntry) [] ht (List.forall_mem_cons.mpr ⟨Or.inr ⟨by decide, "java/lang/IndexOutOfBoundsException", kL_27, List.mem_of_getElem? (i := 1) rfl⟩, fun _ h => absurd h List.not_mem_nil⟩) (by decide) (by decide) kL_13 (List.mem_of_getElem? (i := 0) rfl) (fun q9 => ?_)
      refine gw_astoreA C (lo1 := [some (vR 0), some (vI x1), some (vI x2), some (vR 236), some (vA q9)]) dL_measure_17 (by decide) rfl ?_
      refine gw_iconst C dL_measure_19 ?_
      exact gw_iret C (Nat.le_of_ble_eq_true rfl) (Nat.le_of_ble_eq_true rfl) dL_measure_20 (lm_1 (hk) (by decide))
    · skip
      exact absurd hk (by unfold kMeas; (repeat' split) <;> decide)
  · intro v9 z9 I9 J9 hv9
    obtain ⟨⟨hk0, ev⟩, hm, eJ⟩ := hv9
    rw [ev, eJ]
    refine gw_norm ?_
    show GW G p l e ({ frames := 7, cells := 1, slots := 6, locals := 143 } : Room) s m args below meth c 5 z9 N0 SH RR I9 J 1 6 (vx_MQ below (GQ G N0 SH RR (lmQ (kMeas S x1 x2) (i32 (S (83 + 6 * x1.toNat))) I J (oMeas S x1.toNat x2) (psh S D9) (cN c9))) (GX G N0 SH RR gNo) args s 1 6 (ge G)) 8 [some (vR 0), some (vI x1), some (vI x2), some (vR 236), none] [vI (i32 (S (83 + 6 * x1.toNat))), vI 0, vR 236]
    refine gw_i2l C dL_measure_8 (i32_in _) ?_
    refine gw_last C 0 dL_measure_9 xs_236 xn_236 (by omega) (by omega) (by decide) ?_
    refine gw_goto C (tgt := 21) dL_measure_10 (by decide) ?_
    refine gw_iconst C dL_measure_21 ?_
    exact gw_iret C (Nat.le_of_ble_eq_true rfl) (Nat.le_of_ble_eq_true rfl) dL_measure_22 (lm_0 hk0 hm)
set_option maxHeartbeats 4000000 in
set_option maxRecDepth 100000 in
theorem c_L_close {l : Launch} (hl0 : l.stackTraces = false) (G : GG) (I J : GI) {z : Nat} {S : Nat → Int} {D9 : Nat → Nat → Int} {c9 : Nat} (hCI : CI I S D9 c9) (x1 x2 x3 : Int) (hx1 : inI x1) (hx2 : inI x2) (hx3 : inI x3) : GM l yL_close (.codeWith yL_close cL_close 6 (some .int) [(0, 12, 15, 27), (0, 12, 19, 13), (0, 12, 23, 22)]) 7 143 1 6 G N0 SH RR [vR 0, vI x1, vI x2, vI x3, vR 236] z I J (lmQ (kClose S x1 x2 x3) (i32 (sTT (oClose S x1.toNat x2 x3) x1.toNat)) I J (oClose S x1.toNat x2 x3) (psh S D9) (cN c9)) gNo := by
  refine gm_ofH (lo0 := [some (vR 0), some (vI x1), some (vI x2), some (vI x3), some (vR 236), none]) hl0 (by decide) rfl (Nat.le_of_ble_eq_true rfl) ?_
  intro p e s m args below meth c C ht hgi
  have C : gC G p l s m args meth c cL_close 6 RL (some .int) "close" := C
  refine gw_aload C dL_close_0 rfl ?_
  refine gw_iconst C dL_close_2 ?_
  refine gw_aload_n C 0 dL_close_3 rfl rfl ?_
  refine gw_iload_n C 1 dL_close_4 rfl rfl ?_
  refine gw_iload_n C 2 dL_close_5 rfl rfl ?_
  refine gw_iload_n C 3 dL_close_6 rfl rfl ?_
  refine gw_callV C (as := [vI x1, vI x2, vI x3]) (st := [vI 0, vR 236]) (ci := 6) (T0 := TX7) (N := 3) (c_X7_close hl0 G I J hCI x1 x2 x3 hx1 hx2 hx3) dL_close_7 kL_55 qX7_close hdX7_close ⟨Nat.le_of_ble_eq_true rfl, Nat.le_of_ble_eq_true rfl⟩ ⟨Nat.le_of_ble_eq_true rfl, Nat.le_of_ble_eq_true rfl⟩ (Nat.le_of_ble_eq_true rfl) rfl xs_0 xn_0 rfl ?_ ?_
  · intro E9 z9 I9 J9 hx9
    obtain ⟨hx9, eI, eJ⟩ := hx9
    rw [eI, eJ]
    rcases hx9 with ⟨hk, e9⟩ | ⟨hk, e9⟩ | ⟨hk, e9⟩
    · skip
      rw [e9]
      refine gwx_catch C (name := "java/lang/IndexOutOfBoundsException") [] (⟨0, 12, 15, 27⟩ : ExceptionTableEntry) [(⟨0, 12, 19, 13⟩ : ExceptionTableEntry), (⟨0, 12, 23, 22⟩ : ExceptionTableEntry)] ht (fun y hy => absurd hy List.not_mem_nil) (by decide) (by decide) kL_27 (List.mem_of_getElem? (i := 2) rfl) (fun q9 => ?_)
      refine gw_astoreA C (lo1 := [some (vR 0), some (vI x1), some (vI x2), some (vI x3), some (vR 236), some (vA q9)]) dL_close_15 (by decide) rfl ?_
      refine gw_iconst C dL_close_17 ?_
      exact gw_iret C (Nat.le_of_ble_eq_true rfl) (Nat.le_of_ble_eq_true rfl) dL_close_18 (lm_1 (hk) (by decide))
    · skip
      rw [e9]
      refine gwx_catch C (name := "java/lang/IllegalArgumentException") [(⟨0, 12, 15, 27⟩ : ExceptionTableEntry)] (⟨0, 12, 19, 13⟩ : ExceptionTableEntry) [(⟨0, 12, 23, 22⟩ : ExceptionTableEntry)] ht (List.forall_mem_cons.mpr ⟨Or.inr ⟨by decide, "java/lang/IndexOutOfBoundsException", kL_27, List.mem_of_getElem? (i := 1) rfl⟩, fun _ h => absurd h List.not_mem_nil⟩) (by decide) (by decide) kL_13 (List.mem_of_getElem? (i := 0) rfl) (fun q9 => ?_)
      refine gw_astoreA C (lo1 := [some (vR 0), some (vI x1), some (vI x2), some (vI x3), some (vR 236), some (vA q9)]) dL_close_19 (by decide) rfl ?_
      refine gw_iconst C dL_close_21 ?_
      exact gw_iret C (Nat.le_of_ble_eq_true rfl) (Nat.le_of_ble_eq_true rfl) dL_close_22 (lm_1 (hk) (by decide))
    · skip
      rw [e9]
      refine gwx_catch C (name := "java/lang/IllegalStateException") [(⟨0, 12, 15, 27⟩ : ExceptionTableEntry), (⟨0, 12, 19, 13⟩ : ExceptionTableEntry)] (⟨0, 12, 23, 22⟩ : ExceptionTableEntry) [] ht (List.forall_mem_cons.mpr ⟨Or.inr ⟨by decide, "java/lang/IndexOutOfBoundsException", kL_27, List.mem_of_getElem? (i := 3) rfl⟩, List.forall_mem_cons.mpr ⟨Or.inr ⟨by decide, "java/lang/IllegalArgumentException", kL_13, List.mem_of_getElem? (i := 2) rfl⟩, fun _ h => absurd h List.not_mem_nil⟩⟩) (by decide) (by decide) kL_22 (List.mem_of_getElem? (i := 1) rfl) (fun q9 => ?_)
      refine gw_astoreA C (lo1 := [some (vR 0), some (vI x1), some (vI x2), some (vI x3), some (vR 236), some (vA q9)]) dL_close_23 (by decide) rfl ?_
      refine gw_iconst C dL_close_25 ?_
      exact gw_iret C (Nat.le_of_ble_eq_true rfl) (Nat.le_of_ble_eq_true rfl) dL_close_26 (lm_1 (hk) (by decide))
  · intro v9 z9 I9 J9 hv9
    obtain ⟨⟨hk0, ev⟩, hm, eJ⟩ := hv9
    rw [ev, eJ]
    refine gw_norm ?_
    show GW G p l e ({ frames := 7, cells := 1, slots := 6, locals := 143 } : Room) s m args below meth c 6 z9 N0 SH RR I9 J 1 6 (vx_MQ below (GQ G N0 SH RR (lmQ (kClose S x1 x2 x3) (i32 (sTT (oClose S x1.toNat x2 x3) x1.toNat)) I J (oClose S x1.toNat x2 x3) (psh S D9) (cN c9))) (GX G N0 SH RR gNo) args s 1 6 (ge G)) 10 [some (vR 0), some (vI x1), some (vI x2), some (vI x3), some (vR 236), none] [vI (i32 (sTT (oClose S x1.toNat x2 x3) x1.toNat)), vI 0, vR 236]
    refine gw_i2l C dL_close_10 (i32_in _) ?_
    refine gw_last C 0 dL_close_11 xs_236 xn_236 (by omega) (by omega) (by decide) ?_
    refine gw_goto C (tgt := 27) dL_close_12 (by decide) ?_
    refine gw_iconst C dL_close_27 ?_
    exact gw_iret C (Nat.le_of_ble_eq_true rfl) (Nat.le_of_ble_eq_true rfl) dL_close_28 (lm_0 hk0 hm)
set_option maxHeartbeats 4000000 in
set_option maxRecDepth 100000 in
theorem c_L_swing {l : Launch} (hl0 : l.stackTraces = false) (G : GG) (I J : GI) {z : Nat} {S : Nat → Int} {D9 : Nat → Nat → Int} {c9 : Nat} (hCI : CI I S D9 c9) (x1 x2 : Int) (hx1 : inI x1) (hx2 : inI x2) : GM l yL_swing (.codeWith yL_swing cL_swing 5 (some .int) [(0, 10, 13, 27), (0, 10, 17, 13), (0, 10, 21, 22)]) 8 167 1 6 G N0 SH RR [vR 0, vI x1, vI x2, vR 236] z I J (lmQ (rfT S x1 x2) (i32 (S (8 + 12 * x1.toNat) + 1)) I J (oSwing S x1.toNat (S (8 + 12 * x1.toNat)).toNat x2) (psh S D9) (cN c9)) gNo := by
  refine gm_ofH (lo0 := [some (vR 0), some (vI x1), some (vI x2), some (vR 236), none]) hl0 (by decide) rfl (Nat.le_of_ble_eq_true rfl) ?_
  intro p e s m args below meth c C ht hgi
  have C : gC G p l s m args meth c cL_swing 5 RL (some .int) "swing" := C
  refine gw_aload_n C 3 dL_swing_0 rfl rfl ?_
  refine gw_iconst C dL_swing_1 ?_
  refine gw_aload_n C 0 dL_swing_2 rfl rfl ?_
  refine gw_iload_n C 1 dL_swing_3 rfl rfl ?_
  refine gw_iload_n C 2 dL_swing_4 rfl rfl ?_
  refine gw_callV C (as := [vI x1, vI x2]) (st := [vI 0, vR 236]) (ci := 6) (T0 := TX7) (N := 3) (c_X7_swing hl0 G I J hCI x1 x2 hx1 hx2) dL_swing_5 kL_24 qX7_swing hdX7_swing ⟨Nat.le_of_ble_eq_true rfl, Nat.le_of_ble_eq_true rfl⟩ ⟨Nat.le_of_ble_eq_true rfl, Nat.le_of_ble_eq_true rfl⟩ (Nat.le_of_ble_eq_true rfl) rfl xs_0 xn_0 rfl ?_ ?_
  · intro E9 z9 I9 J9 hx9
    obtain ⟨hx9, eI, eJ⟩ := hx9
    rw [eI, eJ]
    rcases hx9 with ⟨hk, e9⟩ | ⟨hk, e9⟩ | ⟨hk, e9⟩
    · skip
      rw [e9]
      refine gwx_catch C (name := "java/lang/IndexOutOfBoundsException") [] (⟨0, 10, 13, 27⟩ : ExceptionTableEntry) [(⟨0, 10, 17, 13⟩ : ExceptionTableEntry), (⟨0, 10, 21, 22⟩ : ExceptionTableEntry)] ht (fun y hy => absurd hy List.not_mem_nil) (by decide) (by decide) kL_27 (List.mem_of_getElem? (i := 2) rfl) (fun q9 => ?_)
      refine gw_astoreA C (lo1 := [some (vR 0), some (vI x1), some (vI x2), some (vR 236), some (vA q9)]) dL_swing_13 (by decide) rfl ?_
      refine gw_iconst C dL_swing_15 ?_
      exact gw_iret C (Nat.le_of_ble_eq_true rfl) (Nat.le_of_ble_eq_true rfl) dL_swing_16 (lm_1 (hk) (by decide))
    · skip
      rw [e9]
      refine gwx_catch C (name := "java/lang/IllegalArgumentException") [(⟨0, 10, 13, 27⟩ : ExceptionTableEntry)] (⟨0, 10, 17, 13⟩ : ExceptionTableEntry) [(⟨0, 10, 21, 22⟩ : ExceptionTableEntry)] ht (List.forall_mem_cons.mpr ⟨Or.inr ⟨by decide, "java/lang/IndexOutOfBoundsException", kL_27, List.mem_of_getElem? (i := 1) rfl⟩, fun _ h => absurd h List.not_mem_nil⟩) (by decide) (by decide) kL_13 (List.mem_of_getElem? (i := 0) rfl) (fun q9 => ?_)
      refine gw_astoreA C (lo1 := [some (vR 0), some (vI x1), some (vI x2), some (vR 236), some (vA q9)]) dL_swing_17 (by decide) rfl ?_
      refine gw_iconst C dL_swing_19 ?_
      exact gw_iret C (Nat.le_of_ble_eq_true rfl) (Nat.le_of_ble_eq_true rfl) dL_swing_20 (lm_1 (hk) (by decide))
    · skip
      rw [e9]
      refine gwx_catch C (name := "java/lang/IllegalStateException") [(⟨0, 10, 13, 27⟩ : ExceptionTableEntry), (⟨0, 10, 17, 13⟩ : ExceptionTableEntry)] (⟨0, 10, 21, 22⟩ : ExceptionTableEntry) [] ht (List.forall_mem_cons.mpr ⟨Or.inr ⟨by decide, "java/lang/IndexOutOfBoundsException", kL_27, List.mem_of_getElem? (i := 3) rfl⟩, List.forall_mem_cons.mpr ⟨Or.inr ⟨by decide, "java/lang/IllegalArgumentException", kL_13, List.mem_of_getElem? (i := 2) rfl⟩, fun _ h => absurd h List.not_mem_nil⟩⟩) (by decide) (by decide) kL_22 (List.mem_of_getElem? (i := 1) rfl) (fun q9 => ?_)
      refine gw_astoreA C (lo1 := [some (vR 0), some (vI x1), some (vI x2), some (vR 236), some (vA q9)]) dL_swing_21 (by decide) rfl ?_
      refine gw_iconst C dL_swing_23 ?_
      exact gw_iret C (Nat.le_of_ble_eq_true rfl) (Nat.le_of_ble_eq_true rfl) dL_swing_24 (lm_1 (hk) (by decide))
  · intro v9 z9 I9 J9 hv9
    obtain ⟨⟨hk0, ev⟩, hm, eJ⟩ := hv9
    rw [ev, eJ]
    refine gw_norm ?_
    show GW G p l e ({ frames := 8, cells := 1, slots := 6, locals := 167 } : Room) s m args below meth c 5 z9 N0 SH RR I9 J 1 6 (vx_MQ below (GQ G N0 SH RR (lmQ (rfT S x1 x2) (i32 (S (8 + 12 * x1.toNat) + 1)) I J (oSwing S x1.toNat (S (8 + 12 * x1.toNat)).toNat x2) (psh S D9) (cN c9))) (GX G N0 SH RR gNo) args s 1 6 (ge G)) 8 [some (vR 0), some (vI x1), some (vI x2), some (vR 236), none] [vI (i32 (S (8 + 12 * x1.toNat) + 1)), vI 0, vR 236]
    refine gw_i2l C dL_swing_8 (i32_in _) ?_
    refine gw_last C 0 dL_swing_9 xs_236 xn_236 (by omega) (by omega) (by decide) ?_
    refine gw_goto C (tgt := 25) dL_swing_10 (by decide) ?_
    refine gw_iconst C dL_swing_25 ?_
    exact gw_iret C (Nat.le_of_ble_eq_true rfl) (Nat.le_of_ble_eq_true rfl) dL_swing_26 (lm_0 hk0 hm)
set_option maxHeartbeats 4000000 in
set_option maxRecDepth 100000 in
theorem c_L_addLeg {l : Launch} (hl0 : l.stackTraces = false) (G : GG) (I J : GI) {z : Nat} {S : Nat → Int} {D9 : Nat → Nat → Int} {c9 : Nat} (hCI : CI I S D9 c9) (x1 x2 x3 : Int) (hx1 : inI x1) (hx2 : inI x2) (hx3 : inI x3) : GM l yL_addLeg (.codeWith yL_addLeg cL_addLeg 6 (some .int) [(0, 12, 15, 27), (0, 12, 19, 13), (0, 12, 23, 22)]) 8 168 1 6 G N0 SH RR [vR 0, vI x1, vI x2, vI x3, vR 236] z I J (lmQ (rfL S x1 x2 x3) (i32 (S (103 + 28 * x1.toNat))) I J (oAdd S x1.toNat (S (103 + 28 * x1.toNat)).toNat x2 x3) (psh S D9) (cN c9)) gNo := by
  refine gm_ofH (lo0 := [some (vR 0), some (vI x1), some (vI x2), some (vI x3), some (vR 236), none]) hl0 (by decide) rfl (Nat.le_of_ble_eq_true rfl) ?_
  intro p e s m args below meth c C ht hgi
  have C : gC G p l s m args meth c cL_addLeg 6 RL (some .int) "addLeg" := C
  refine gw_aload C dL_addLeg_0 rfl ?_
  refine gw_iconst C dL_addLeg_2 ?_
  refine gw_aload_n C 0 dL_addLeg_3 rfl rfl ?_
  refine gw_iload_n C 1 dL_addLeg_4 rfl rfl ?_
  refine gw_iload_n C 2 dL_addLeg_5 rfl rfl ?_
  refine gw_iload_n C 3 dL_addLeg_6 rfl rfl ?_
  refine gw_callV C (as := [vI x1, vI x2, vI x3]) (st := [vI 0, vR 236]) (ci := 6) (T0 := TX7) (N := 3) (c_X7_addLeg hl0 G I J hCI x1 x2 x3 hx1 hx2 hx3) dL_addLeg_7 kL_48 qX7_addLeg hdX7_addLeg ⟨Nat.le_of_ble_eq_true rfl, Nat.le_of_ble_eq_true rfl⟩ ⟨Nat.le_of_ble_eq_true rfl, Nat.le_of_ble_eq_true rfl⟩ (Nat.le_of_ble_eq_true rfl) rfl xs_0 xn_0 rfl ?_ ?_
  · intro E9 z9 I9 J9 hx9
    obtain ⟨hx9, eI, eJ⟩ := hx9
    rw [eI, eJ]
    rcases hx9 with ⟨hk, e9⟩ | ⟨hk, e9⟩ | ⟨hk, e9⟩
    · skip
      rw [e9]
      refine gwx_catch C (name := "java/lang/IndexOutOfBoundsException") [] (⟨0, 12, 15, 27⟩ : ExceptionTableEntry) [(⟨0, 12, 19, 13⟩ : ExceptionTableEntry), (⟨0, 12, 23, 22⟩ : ExceptionTableEntry)] ht (fun y hy => absurd hy List.not_mem_nil) (by decide) (by decide) kL_27 (List.mem_of_getElem? (i := 2) rfl) (fun q9 => ?_)
      refine gw_astoreA C (lo1 := [some (vR 0), some (vI x1), some (vI x2), some (vI x3), some (vR 236), some (vA q9)]) dL_addLeg_15 (by decide) rfl ?_
      refine gw_iconst C dL_addLeg_17 ?_
      exact gw_iret C (Nat.le_of_ble_eq_true rfl) (Nat.le_of_ble_eq_true rfl) dL_addLeg_18 (lm_1 (hk) (by decide))
    · skip
      rw [e9]
      refine gwx_catch C (name := "java/lang/IllegalArgumentException") [(⟨0, 12, 15, 27⟩ : ExceptionTableEntry)] (⟨0, 12, 19, 13⟩ : ExceptionTableEntry) [(⟨0, 12, 23, 22⟩ : ExceptionTableEntry)] ht (List.forall_mem_cons.mpr ⟨Or.inr ⟨by decide, "java/lang/IndexOutOfBoundsException", kL_27, List.mem_of_getElem? (i := 1) rfl⟩, fun _ h => absurd h List.not_mem_nil⟩) (by decide) (by decide) kL_13 (List.mem_of_getElem? (i := 0) rfl) (fun q9 => ?_)
      refine gw_astoreA C (lo1 := [some (vR 0), some (vI x1), some (vI x2), some (vI x3), some (vR 236), some (vA q9)]) dL_addLeg_19 (by decide) rfl ?_
      refine gw_iconst C dL_addLeg_21 ?_
      exact gw_iret C (Nat.le_of_ble_eq_true rfl) (Nat.le_of_ble_eq_true rfl) dL_addLeg_22 (lm_1 (hk) (by decide))
    · skip
      rw [e9]
      refine gwx_catch C (name := "java/lang/IllegalStateException") [(⟨0, 12, 15, 27⟩ : ExceptionTableEntry), (⟨0, 12, 19, 13⟩ : ExceptionTableEntry)] (⟨0, 12, 23, 22⟩ : ExceptionTableEntry) [] ht (List.forall_mem_cons.mpr ⟨Or.inr ⟨by decide, "java/lang/IndexOutOfBoundsException", kL_27, List.mem_of_getElem? (i := 3) rfl⟩, List.forall_mem_cons.mpr ⟨Or.inr ⟨by decide, "java/lang/IllegalArgumentException", kL_13, List.mem_of_getElem? (i := 2) rfl⟩, fun _ h => absurd h List.not_mem_nil⟩⟩) (by decide) (by decide) kL_22 (List.mem_of_getElem? (i := 1) rfl) (fun q9 => ?_)
      refine gw_astoreA C (lo1 := [some (vR 0), some (vI x1), some (vI x2), some (vI x3), some (vR 236), some (vA q9)]) dL_addLeg_23 (by decide) rfl ?_
      refine gw_iconst C dL_addLeg_25 ?_
      exact gw_iret C (Nat.le_of_ble_eq_true rfl) (Nat.le_of_ble_eq_true rfl) dL_addLeg_26 (lm_1 (hk) (by decide))
  · intro v9 z9 I9 J9 hv9
    obtain ⟨⟨hk0, ev⟩, hm, eJ⟩ := hv9
    rw [ev, eJ]
    refine gw_norm ?_
    show GW G p l e ({ frames := 8, cells := 1, slots := 6, locals := 168 } : Room) s m args below meth c 6 z9 N0 SH RR I9 J 1 6 (vx_MQ below (GQ G N0 SH RR (lmQ (rfL S x1 x2 x3) (i32 (S (103 + 28 * x1.toNat))) I J (oAdd S x1.toNat (S (103 + 28 * x1.toNat)).toNat x2 x3) (psh S D9) (cN c9))) (GX G N0 SH RR gNo) args s 1 6 (ge G)) 10 [some (vR 0), some (vI x1), some (vI x2), some (vI x3), some (vR 236), none] [vI (i32 (S (103 + 28 * x1.toNat))), vI 0, vR 236]
    refine gw_i2l C dL_addLeg_10 (i32_in _) ?_
    refine gw_last C 0 dL_addLeg_11 xs_236 xn_236 (by omega) (by omega) (by decide) ?_
    refine gw_goto C (tgt := 27) dL_addLeg_12 (by decide) ?_
    refine gw_iconst C dL_addLeg_27 ?_
    exact gw_iret C (Nat.le_of_ble_eq_true rfl) (Nat.le_of_ble_eq_true rfl) dL_addLeg_28 (lm_0 hk0 hm)
set_option maxHeartbeats 4000000 in
set_option maxRecDepth 100000 in
theorem c_L_dropLeg {l : Launch} (hl0 : l.stackTraces = false) (G : GG) (I J : GI) {z : Nat} {S : Nat → Int} {D9 : Nat → Nat → Int} {c9 : Nat} (hCI : CI I S D9 c9) (x1 : Int) (hx1 : inI x1) : GM l yL_dropLeg (.codeWith yL_dropLeg cL_dropLeg 4 (some .int) [(0, 9, 12, 27), (0, 9, 15, 22)]) 8 166 1 6 G N0 SH RR [vR 0, vI x1, vR 236] z I J (lmQ (kDrop S x1) (i32 (S (103 + 28 * x1.toNat) - 1)) I J (oDrop S x1.toNat) (psh S D9) (cN c9)) gNo := by
  refine gm_ofH (lo0 := [some (vR 0), some (vI x1), some (vR 236), none]) hl0 (by decide) rfl (Nat.le_of_ble_eq_true rfl) ?_
  intro p e s m args below meth c C ht hgi
  have C : gC G p l s m args meth c cL_dropLeg 4 RL (some .int) "dropLeg" := C
  refine gw_aload_n C 2 dL_dropLeg_0 rfl rfl ?_
  refine gw_iconst C dL_dropLeg_1 ?_
  refine gw_aload_n C 0 dL_dropLeg_2 rfl rfl ?_
  refine gw_iload_n C 1 dL_dropLeg_3 rfl rfl ?_
  refine gw_callV C (as := [vI x1]) (st := [vI 0, vR 236]) (ci := 6) (T0 := TX7) (N := 3) (c_X7_dropLeg hl0 G I J hCI x1 hx1) dL_dropLeg_4 kL_52 qX7_dropLeg hdX7_dropLeg ⟨Nat.le_of_ble_eq_true rfl, Nat.le_of_ble_eq_true rfl⟩ ⟨Nat.le_of_ble_eq_true rfl, Nat.le_of_ble_eq_true rfl⟩ (Nat.le_of_ble_eq_true rfl) rfl xs_0 xn_0 rfl ?_ ?_
  · intro E9 z9 I9 J9 hx9
    obtain ⟨hx9, eI, eJ⟩ := hx9
    rw [eI, eJ]
    rcases hx9 with ⟨hk, e9⟩ | ⟨hk, e9⟩ | ⟨hk, e9⟩
    · skip
      rw [e9]
      refine gwx_catch C (name := "java/lang/IndexOutOfBoundsException") [] (⟨0, 9, 12, 27⟩ : ExceptionTableEntry) [(⟨0, 9, 15, 22⟩ : ExceptionTableEntry)] ht (fun y hy => absurd hy List.not_mem_nil) (by decide) (by decide) kL_27 (List.mem_of_getElem? (i := 2) rfl) (fun q9 => ?_)
      refine gw_astoreA_n C (lo1 := [some (vR 0), some (vI x1), some (vR 236), some (vA q9)]) 3 dL_dropLeg_12 rfl (by decide) rfl ?_
      refine gw_iconst C dL_dropLeg_13 ?_
      exact gw_iret C (Nat.le_of_ble_eq_true rfl) (Nat.le_of_ble_eq_true rfl) dL_dropLeg_14 (lm_1 (drop_3.2.1 hk) (by decide))
    · skip
      exact absurd hk (by exact drop_3.2.2.1)
    · skip
      rw [e9]
      refine gwx_catch C (name := "java/lang/IllegalStateException") [(⟨0, 9, 12, 27⟩ : ExceptionTableEntry)] (⟨0, 9, 15, 22⟩ : ExceptionTableEntry) [] ht (List.forall_mem_cons.mpr ⟨Or.inr ⟨by decide, "java/lang/IndexOutOfBoundsException", kL_27, List.mem_of_getElem? (i := 3) rfl⟩, fun _ h => absurd h List.not_mem_nil⟩) (by decide) (by decide) kL_22 (List.mem_of_getElem? (i := 1) rfl) (fun q9 => ?_)
      refine gw_astoreA_n C (lo1 := [some (vR 0), some (vI x1), some (vR 236), some (vA q9)]) 3 dL_dropLeg_15 rfl (by decide) rfl ?_
      refine gw_iconst C dL_dropLeg_16 ?_
      exact gw_iret C (Nat.le_of_ble_eq_true rfl) (Nat.le_of_ble_eq_true rfl) dL_dropLeg_17 (lm_1 (drop_3.2.2.2 hk) (by decide))
  · intro v9 z9 I9 J9 hv9
    obtain ⟨⟨hk0, ev⟩, hm, eJ⟩ := hv9
    rw [ev, eJ]
    refine gw_norm ?_
    show GW G p l e ({ frames := 8, cells := 1, slots := 6, locals := 166 } : Room) s m args below meth c 4 z9 N0 SH RR I9 J 1 6 (vx_MQ below (GQ G N0 SH RR (lmQ (kDrop S x1) (i32 (S (103 + 28 * x1.toNat) - 1)) I J (oDrop S x1.toNat) (psh S D9) (cN c9))) (GX G N0 SH RR gNo) args s 1 6 (ge G)) 7 [some (vR 0), some (vI x1), some (vR 236), none] [vI (i32 (S (103 + 28 * x1.toNat) - 1)), vI 0, vR 236]
    refine gw_i2l C dL_dropLeg_7 (i32_in _) ?_
    refine gw_last C 0 dL_dropLeg_8 xs_236 xn_236 (by omega) (by omega) (by decide) ?_
    refine gw_goto C (tgt := 18) dL_dropLeg_9 (by decide) ?_
    refine gw_iconst C dL_dropLeg_18 ?_
    exact gw_iret C (Nat.le_of_ble_eq_true rfl) (Nat.le_of_ble_eq_true rfl) dL_dropLeg_19 (lm_0 (drop_3.1 hk0) hm)
set_option maxHeartbeats 4000000 in
set_option maxRecDepth 100000 in
theorem c_L_adjust {l : Launch} (hl0 : l.stackTraces = false) (G : GG) (I J : GI) {z : Nat} {S : Nat → Int} {D9 : Nat → Nat → Int} {c9 : Nat} (hCI : CI I S D9 c9) (x1 : Int) (hx1 : inI x1) : GM l yL_adjust (.codeWith yL_adjust cL_adjust 4 (some .int) [(0, 9, 12, 27), (0, 9, 15, 22)]) 8 166 1 6 G N0 SH RR [vR 0, vI x1, vR 236] z I J (lmQ (kAdj S x1) (i32 (sG S x1.toNat)) I J (oAdj S x1.toNat) (psh S D9) (cN c9)) gNo := by
  refine gm_ofH (lo0 := [some (vR 0), some (vI x1), some (vR 236), none]) hl0 (by decide) rfl (Nat.le_of_ble_eq_true rfl) ?_
  intro p e s m args below meth c C ht hgi
  have C : gC G p l s m args meth c cL_adjust 4 RL (some .int) "adjust" := C
  refine gw_aload_n C 2 dL_adjust_0 rfl rfl ?_
  refine gw_iconst C dL_adjust_1 ?_
  refine gw_aload_n C 0 dL_adjust_2 rfl rfl ?_
  refine gw_iload_n C 1 dL_adjust_3 rfl rfl ?_
  refine gw_callV C (as := [vI x1]) (st := [vI 0, vR 236]) (ci := 6) (T0 := TX7) (N := 3) (c_X7_adjust hl0 G I J hCI x1 hx1) dL_adjust_4 kL_58 qX7_adjust hdX7_adjust ⟨Nat.le_of_ble_eq_true rfl, Nat.le_of_ble_eq_true rfl⟩ ⟨Nat.le_of_ble_eq_true rfl, Nat.le_of_ble_eq_true rfl⟩ (Nat.le_of_ble_eq_true rfl) rfl xs_0 xn_0 rfl ?_ ?_
  · intro E9 z9 I9 J9 hx9
    obtain ⟨hx9, eI, eJ⟩ := hx9
    rw [eI, eJ]
    rcases hx9 with ⟨hk, e9⟩ | ⟨hk, e9⟩ | ⟨hk, e9⟩
    · skip
      rw [e9]
      refine gwx_catch C (name := "java/lang/IndexOutOfBoundsException") [] (⟨0, 9, 12, 27⟩ : ExceptionTableEntry) [(⟨0, 9, 15, 22⟩ : ExceptionTableEntry)] ht (fun y hy => absurd hy List.not_mem_nil) (by decide) (by decide) kL_27 (List.mem_of_getElem? (i := 2) rfl) (fun q9 => ?_)
      refine gw_astoreA_n C (lo1 := [some (vR 0), some (vI x1), some (vR 236), some (vA q9)]) 3 dL_adjust_12 rfl (by decide) rfl ?_
      refine gw_iconst C dL_adjust_13 ?_
      exact gw_iret C (Nat.le_of_ble_eq_true rfl) (Nat.le_of_ble_eq_true rfl) dL_adjust_14 (lm_1 (adj_3.2.1 hk) (by decide))
    · skip
      exact absurd hk (by exact adj_3.2.2.1)
    · skip
      rw [e9]
      refine gwx_catch C (name := "java/lang/IllegalStateException") [(⟨0, 9, 12, 27⟩ : ExceptionTableEntry)] (⟨0, 9, 15, 22⟩ : ExceptionTableEntry) [] ht (List.forall_mem_cons.mpr ⟨Or.inr ⟨by decide, "java/lang/IndexOutOfBoundsException", kL_27, List.mem_of_getElem? (i := 3) rfl⟩, fun _ h => absurd h List.not_mem_nil⟩) (by decide) (by decide) kL_22 (List.mem_of_getElem? (i := 1) rfl) (fun q9 => ?_)
      refine gw_astoreA_n C (lo1 := [some (vR 0), some (vI x1), some (vR 236), some (vA q9)]) 3 dL_adjust_15 rfl (by decide) rfl ?_
      refine gw_iconst C dL_adjust_16 ?_
      exact gw_iret C (Nat.le_of_ble_eq_true rfl) (Nat.le_of_ble_eq_true rfl) dL_adjust_17 (lm_1 (adj_3.2.2.2 hk) (by decide))
  · intro v9 z9 I9 J9 hv9
    obtain ⟨⟨hk0, ev⟩, hm, eJ⟩ := hv9
    rw [ev, eJ]
    refine gw_norm ?_
    show GW G p l e ({ frames := 8, cells := 1, slots := 6, locals := 166 } : Room) s m args below meth c 4 z9 N0 SH RR I9 J 1 6 (vx_MQ below (GQ G N0 SH RR (lmQ (kAdj S x1) (i32 (sG S x1.toNat)) I J (oAdj S x1.toNat) (psh S D9) (cN c9))) (GX G N0 SH RR gNo) args s 1 6 (ge G)) 7 [some (vR 0), some (vI x1), some (vR 236), none] [vI (i32 (sG S x1.toNat)), vI 0, vR 236]
    refine gw_i2l C dL_adjust_7 (i32_in _) ?_
    refine gw_last C 0 dL_adjust_8 xs_236 xn_236 (by omega) (by omega) (by decide) ?_
    refine gw_goto C (tgt := 18) dL_adjust_9 (by decide) ?_
    refine gw_iconst C dL_adjust_18 ?_
    exact gw_iret C (Nat.le_of_ble_eq_true rfl) (Nat.le_of_ble_eq_true rfl) dL_adjust_19 (lm_0 (adj_3.1 hk0) hm)
set_option maxHeartbeats 4000000 in
set_option maxRecDepth 100000 in
theorem c_L_undo {l : Launch} (hl0 : l.stackTraces = false) (G : GG) (I J : GI) {z : Nat} {S : Nat → Int} {D9 : Nat → Nat → Int} {c9 : Nat} (hCI : CI I S D9 c9) : GM l yL_undo (.codeWith yL_undo cL_undo 3 (some .int) [(0, 8, 11, 22)]) 7 140 1 6 G N0 SH RR [vR 0, vR 236] z I J (lmQ (kUndo c9) (i32 ((c9 : Int) - 1)) I J (D9 0) (fun d => D9 (d + 1)) (c9 - 1)) gNo := by
  refine gm_ofH (lo0 := [some (vR 0), some (vR 236), none]) hl0 (by decide) rfl (Nat.le_of_ble_eq_true rfl) ?_
  intro p e s m args below meth c C ht hgi
  have C : gC G p l s m args meth c cL_undo 3 RL (some .int) "undo" := C
  refine gw_aload_n C 1 dL_undo_0 rfl rfl ?_
  refine gw_iconst C dL_undo_1 ?_
  refine gw_aload_n C 0 dL_undo_2 rfl rfl ?_
  refine gw_callV C (as := []) (st := [vI 0, vR 236]) (ci := 6) (T0 := TX7) (N := 3) (c_X7_undo hl0 G I J hCI  ) dL_undo_3 kL_97 qX7_undo hdX7_undo ⟨Nat.le_of_ble_eq_true rfl, Nat.le_of_ble_eq_true rfl⟩ ⟨Nat.le_of_ble_eq_true rfl, Nat.le_of_ble_eq_true rfl⟩ (Nat.le_of_ble_eq_true rfl) rfl xs_0 xn_0 rfl ?_ ?_
  · intro E9 z9 I9 J9 hx9
    obtain ⟨hx9, eI, eJ⟩ := hx9
    rw [eI, eJ]
    rcases hx9 with ⟨hk, e9⟩ | ⟨hk, e9⟩ | ⟨hk, e9⟩
    · skip
      rw [e9]
      refine gwx_catch C (name := "java/lang/IllegalStateException") [] (⟨0, 8, 11, 22⟩ : ExceptionTableEntry) [] ht (fun y hy => absurd hy List.not_mem_nil) (by decide) (by decide) kL_22 (List.mem_of_getElem? (i := 1) rfl) (fun q9 => ?_)
      refine gw_astoreA_n C (lo1 := [some (vR 0), some (vR 236), some (vA q9)]) 2 dL_undo_11 rfl (by decide) rfl ?_
      refine gw_iconst C dL_undo_12 ?_
      exact gw_iret C (Nat.le_of_ble_eq_true rfl) (Nat.le_of_ble_eq_true rfl) dL_undo_13 (lm_1 (hk) (by decide))
    · skip
      exact absurd hk (by unfold kUndo; (repeat' split) <;> decide)
    · skip
      exact absurd hk (by unfold kUndo; (repeat' split) <;> decide)
  · intro v9 z9 I9 J9 hv9
    obtain ⟨⟨hk0, ev⟩, hm, eJ⟩ := hv9
    rw [ev, eJ]
    refine gw_norm ?_
    show GW G p l e ({ frames := 7, cells := 1, slots := 6, locals := 140 } : Room) s m args below meth c 3 z9 N0 SH RR I9 J 1 6 (vx_MQ below (GQ G N0 SH RR (lmQ (kUndo c9) (i32 ((c9 : Int) - 1)) I J (D9 0) (fun d => D9 (d + 1)) (c9 - 1))) (GX G N0 SH RR gNo) args s 1 6 (ge G)) 6 [some (vR 0), some (vR 236), none] [vI (i32 ((c9 : Int) - 1)), vI 0, vR 236]
    refine gw_i2l C dL_undo_6 (i32_in _) ?_
    refine gw_last C 0 dL_undo_7 xs_236 xn_236 (by omega) (by omega) (by decide) ?_
    refine gw_goto C (tgt := 14) dL_undo_8 (by decide) ?_
    refine gw_iconst C dL_undo_14 ?_
    exact gw_iret C (Nat.le_of_ble_eq_true rfl) (Nat.le_of_ble_eq_true rfl) dL_undo_15 (lm_0 hk0 hm)
