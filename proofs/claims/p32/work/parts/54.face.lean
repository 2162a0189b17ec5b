theorem rApart_i {S : Nat → Int} {t u : Nat} (ho : Oks S) (ht9 : (t : Int) < S 5) (hu9 : (u : Int) < S 5) : inI (rApart S t u) := by
  have a := ho.2.2.2.2 t ht9
  have b := ho.2.2.2.2 u hu9
  have e1 := sEa_b ho ht9 (sLg S t) (by unfold sLg; omega)
  have e2 := sEa_b ho hu9 (sLg S u) (by unfold sLg; omega)
  unfold rApart
  split
  · have m1 := mul_b (a := sEa S t (sLg S t) - sEa S u (sLg S u)) (b := sEa S t (sLg S t) - sEa S u (sLg S u)) (m := 6800000) (k := 6800000) (by omega) (by omega)
    have m2 := mul_b (a := sNo S t (sLg S t) - sNo S u (sLg S u)) (b := sNo S t (sLg S t) - sNo S u (sLg S u)) (m := 6800000) (k := 6800000) (by omega) (by omega)
    have s1 : 0 ≤ (sEa S t (sLg S t) - sEa S u (sLg S u)) * (sEa S t (sLg S t) - sEa S u (sLg S u)) := by
      rcases Int.le_total 0 (sEa S t (sLg S t) - sEa S u (sLg S u)) with q | q
      · exact Int.mul_nonneg q q
      · exact Int.mul_nonneg_of_nonpos_of_nonpos q q
    have s2 : 0 ≤ (sNo S t (sLg S t) - sNo S u (sLg S u)) * (sNo S t (sLg S t) - sNo S u (sLg S u)) := by
      rcases Int.le_total 0 (sNo S t (sLg S t) - sNo S u (sLg S u)) with q | q
      · exact Int.mul_nonneg q q
      · exact Int.mul_nonneg_of_nonpos_of_nonpos q q
    have h := rootZ_le (v := (sEa S t (sLg S t) - sEa S u (sLg S u)) * (sEa S t (sLg S t) - sEa S u (sLg S u)) + (sNo S t (sLg S t) - sNo S u (sLg S u)) * (sNo S t (sLg S t) - sNo S u (sLg S u))) (m := 10000000) (by omega) (by decide) (by omega)
    have g := (rootZ_s (v := (sEa S t (sLg S t) - sEa S u (sLg S u)) * (sEa S t (sLg S t) - sEa S u (sLg S u)) + (sNo S t (sLg S t) - sNo S u (sLg S u)) * (sNo S t (sLg S t) - sNo S u (sLg S u))) (by omega)).1
    exact ⟨by omega, by omega⟩
  · exact ⟨by decide, by decide⟩
def rMeets (S : Nat → Int) (t u : Nat) : Int := if rApart S t u ≠ -2000000000 ∧ rApart S t u ≤ S 2 then 1 else 0
set_option maxHeartbeats 4000000 in
set_option maxRecDepth 100000 in
theorem c_X7_info {l : Launch} (hl0 : l.stackTraces = false) (G : GG) (I J : GI) {z : Nat} {S : Nat → Int} {D9 : Nat → Nat → Int} {c9 : Nat} (hCI : CI I S D9 c9) (x1 : Int) (hx1 : inI x1) : GM l yX7_info (.code yX7_info cX7_info 2 (some .int)) 6 90 1 6 G N0 SH RR [vR 0, vI x1] z I J (rdQ (kInfo x1) (rInfo S x1) I J) (xcQ (kInfo x1) nIA nIA nIA I J) := by
  refine gm_of (lo0 := [some (vR 0), some (vI x1)]) hl0 (by decide) rfl (Nat.le_of_ble_eq_true rfl) ?_
  intro p e s m args below meth c C ht hgi
  have C : gC G p l s m args meth c cX7_info 2 RX7 (some .int) "info" := C
  have hR := hCI.1.1.1
  have ho := hCI.1.1.2.1
  have hw := hCI.1.1.2.2
  have hj := hCI.2
  have hcnt := hR.2.1
  have hobd := ho.2.1
  refine gw_iload_n C 1 dX7_info_0 rfl rfl ?_
  refine gw_iconst C dX7_info_1 ?_
  refine gw_bipush C dX7_info_2 rfl ?_
  refine gw_callSb C (as := [vI x1, vI 0, vI 7]) (st := []) (c_X7_isIn hl0 G x1 0 7 hx1 ⟨by decide, by decide⟩ ⟨by decide, by decide⟩) dX7_info_4 kX7_52 qX7_isIn hdX7_isIn ⟨Nat.le_of_ble_eq_true rfl, Nat.le_of_ble_eq_true rfl⟩ ⟨Nat.le_of_ble_eq_true rfl, Nat.le_of_ble_eq_true rfl⟩ (Nat.le_of_ble_eq_true rfl) rfl (fun h_4 z_4 => ?_) (fun h_4 z_4 => ?_)
  · skip
    refine gw_if_ne C (tgt := 20) dX7_info_7 (by decide) ⟨by decide, by decide⟩ (fun _ => ?_) (fun h => absurd h (by decide))
    refine gw_aload_n C 0 dX7_info_20 rfl rfl ?_
    refine gw_getRs (ci := 6) (Cn := RX7) (T0 := TX7) (N := 3) C 1 0 kX7_10 fX7 rfl (by decide) rfl rfl dX7_info_21 xs_0 xn_0 xr_0_0 ?_
    refine gw_iload_n C 1 dX7_info_24 rfl rfl ?_
    refine gw_callVm C (as := [vI x1]) (st := []) (ci := 2) (T0 := TX2) (N := 7) (c_X2_number hl0 G I J mineQ_live (by omega) (fun k hk => (hw.2 k hk).2.1.1) (by omega) (fun k hk => (hw.1 k hk).2.1) x1 (by omega)) dX7_info_25 kX7_58 qX2_number hdX2_number ⟨Nat.le_of_ble_eq_true rfl, Nat.le_of_ble_eq_true rfl⟩ ⟨Nat.le_of_ble_eq_true rfl, Nat.le_of_ble_eq_true rfl⟩ (Nat.le_of_ble_eq_true rfl) rfl (mq_s mineQ_live) (mq_n mineQ_live) rfl (fun z_25 => ?_)
    rw [info_v hR x1 (by omega)]
    exact gw_iret C (Nat.le_of_ble_eq_true rfl) (Nat.le_of_ble_eq_true rfl) dX7_info_28 (⟨⟨(by unfold kInfo; (repeat (first | rw [if_pos (by omega)] | rw [if_neg (by omega)]))), congrArg (fun q => some (vI q)) (by rfl)⟩, rfl, rfl⟩)
  · skip
    refine gw_if_ne C (tgt := 20) dX7_info_7 (by decide) ⟨by decide, by decide⟩ (fun h => absurd h (by decide)) (fun _ => ?_)
    exact gw_throw C (cls := "java/lang/IllegalArgumentException") (text := "what is 0 to 7") (ik := 34) (is := 56) (ic := 38) ht (by decide) (by decide) kX7_34 n_IllegalArgumentException (List.mem_of_getElem? (i := 15) rfl) gt_IA_38_1 gt_IA_38_2 (by decide) gt_IA_38_3 dX7_info_10 dX7_info_13 dX7_info_14 dX7_info_16 dX7_info_19 (Nat.le_of_ble_eq_true rfl) (Nat.le_of_ble_eq_true rfl) (Nat.le_of_ble_eq_true rfl) (Nat.le_of_ble_eq_true rfl) (Nat.le_of_ble_eq_true rfl) (Nat.le_of_ble_eq_true rfl) (fun _ => ⟨Or.inl ⟨(by unfold kInfo; (repeat (first | rw [if_pos (by omega)] | rw [if_neg (by omega)]))), rfl⟩, rfl, rfl⟩)
set_option maxHeartbeats 4000000 in
set_option maxRecDepth 100000 in
theorem c_X7_wire {l : Launch} (hl0 : l.stackTraces = false) (G : GG) (I J : GI) {z : Nat} {S : Nat → Int} {D9 : Nat → Nat → Int} {c9 : Nat} (hCI : CI I S D9 c9) (x1 x2 : Int) (hx1 : inI x1) (hx2 : inI x2) : GM l yX7_wire (.code yX7_wire cX7_wire 4 (some .int)) 6 90 1 6 G N0 SH RR [vR 0, vI x1, vI x2] z I J (rdQ (kWire S x1 x2) (rWire S x1.toNat x2) I J) (xcQ (kWire S x1 x2) nIX nIA nIA I J) := by
  refine gm_of (lo0 := [some (vR 0), some (vI x1), some (vI x2), none]) hl0 (by decide) rfl (Nat.le_of_ble_eq_true rfl) ?_
  intro p e s m args below meth c C ht hgi
  have C : gC G p l s m args meth c cX7_wire 4 RX7 (some .int) "wire" := C
  have hR := hCI.1.1.1
  have ho := hCI.1.1.2.1
  have hw := hCI.1.1.2.2
  have hj := hCI.2
  have hcnt := hR.2.1
  have hobd := ho.2.1
  refine gw_aload_n C 0 dX7_wire_0 rfl rfl ?_
  refine gw_getRs (ci := 6) (Cn := RX7) (T0 := TX7) (N := 3) C 1 0 kX7_10 fX7 rfl (by decide) rfl rfl dX7_wire_1 xs_0 xn_0 xr_0_0 ?_
  refine gw_iload_n C 1 dX7_wire_4 rfl rfl ?_
  refine gw_callV C (as := [vI x1]) (st := []) (ci := 2) (T0 := TX2) (N := 7) (c_X2_wireAt hl0 G I J mineQ_live (by omega) x1 hx1) dX7_wire_5 kX7_82 qX2_wireAt hdX2_wireAt ⟨Nat.le_of_ble_eq_true rfl, Nat.le_of_ble_eq_true rfl⟩ ⟨Nat.le_of_ble_eq_true rfl, Nat.le_of_ble_eq_true rfl⟩ (Nat.le_of_ble_eq_true rfl) rfl (mq_s mineQ_live) (mq_n mineQ_live) rfl (fun _ _ _ _ h => h.elim) ?_
  intro v_5 zq_5 I_5 J_5 hq_5_2
  obtain ⟨⟨hq_5_2, rfl⟩ | ⟨hq_5_2, rfl⟩, eI_5, eJ_5⟩ := hq_5_2
  all_goals rw [eI_5, eJ_5]
  · skip
    show GW G p l e ({ frames := 6, cells := 1, slots := 6, locals := 90 } : Room) s m args below meth c 4 zq_5 N0 SH RR I J 0 0 (vx_MQ below (GQ G N0 SH RR (rdQ (kWire S x1 x2) (rWire S x1.toNat x2) I J)) (GX G N0 SH RR (xcQ (kWire S x1 x2) nIX nIA nIA I J)) args s 1 6 (ge G)) 8 [some (vR 0), some (vI x1), some (vI x2), none] [vR (1 + 5 + 2 * (x1).toNat)]
    refine gw_astore_n C (lo1 := [some (vR 0), some (vI x1), some (vI x2), some (vR (1 + 5 + 2 * (x1).toNat))]) 3 dX7_wire_8 rfl (by decide) rfl ?_
    refine gw_aload_n C 3 dX7_wire_9 rfl rfl ?_
    refine gw_ifnonnull C (tgt := 23) dX7_wire_10 (by decide) ?_
    refine gw_iload_n C 2 dX7_wire_23 rfl rfl ?_
    refine gw_iconst C dX7_wire_24 ?_
    refine gw_iconst C dX7_wire_25 ?_
    refine gw_callSb C (as := [vI x2, vI 0, vI 5]) (st := []) (c_X7_isIn hl0 G x2 0 5 hx2 ⟨by decide, by decide⟩ ⟨by decide, by decide⟩) dX7_wire_26 kX7_52 qX7_isIn hdX7_isIn ⟨Nat.le_of_ble_eq_true rfl, Nat.le_of_ble_eq_true rfl⟩ ⟨Nat.le_of_ble_eq_true rfl, Nat.le_of_ble_eq_true rfl⟩ (Nat.le_of_ble_eq_true rfl) rfl (fun h_26 z_26 => ?_) (fun h_26 z_26 => ?_)
    · skip
      refine gw_if_ne C (tgt := 42) dX7_wire_29 (by decide) ⟨by decide, by decide⟩ (fun _ => ?_) (fun h => absurd h (by decide))
      refine gw_aload_n C 3 dX7_wire_42 rfl rfl ?_
      refine gw_iload_n C 2 dX7_wire_43 rfl rfl ?_
      refine gw_callVm C (as := [vI x2]) (st := []) (ci := 5) (T0 := TX6) (N := 7) (c_X6_number hl0 G I J (mq_wq mineQ_live (x1).toNat (by omega))  x2 hx2) dX7_wire_44 kX7_99 qX6_number hdX6_number ⟨Nat.le_of_ble_eq_true rfl, Nat.le_of_ble_eq_true rfl⟩ ⟨Nat.le_of_ble_eq_true rfl, Nat.le_of_ble_eq_true rfl⟩ (Nat.le_of_ble_eq_true rfl) rfl (wq_s (mq_wq mineQ_live (x1).toNat (by omega))) (wq_n (mq_wq mineQ_live (x1).toNat (by omega))) rfl (fun z_44 => ?_)
      rw [wire_v hR hj (i := ((x1).toNat)) (by omega) x2]
      exact gw_iret C (Nat.le_of_ble_eq_true rfl) (Nat.le_of_ble_eq_true rfl) dX7_wire_47 (⟨⟨(by unfold kWire; (repeat (first | rw [if_pos (by omega)] | rw [if_neg (by omega)]))), congrArg (fun q => some (vI q)) (by rfl)⟩, rfl, rfl⟩)
    · skip
      refine gw_if_ne C (tgt := 42) dX7_wire_29 (by decide) ⟨by decide, by decide⟩ (fun h => absurd h (by decide)) (fun _ => ?_)
      exact gw_throw C (cls := "java/lang/IllegalArgumentException") (text := "what is 0 to 5") (ik := 34) (is := 97) (ic := 38) ht (by decide) (by decide) kX7_34 n_IllegalArgumentException (List.mem_of_getElem? (i := 16) rfl) gt_IA_38_1 gt_IA_38_2 (by decide) gt_IA_38_3 dX7_wire_32 dX7_wire_35 dX7_wire_36 dX7_wire_38 dX7_wire_41 (Nat.le_of_ble_eq_true rfl) (Nat.le_of_ble_eq_true rfl) (Nat.le_of_ble_eq_true rfl) (Nat.le_of_ble_eq_true rfl) (Nat.le_of_ble_eq_true rfl) (Nat.le_of_ble_eq_true rfl) (fun _ => ⟨Or.inr (Or.inl ⟨(by unfold kWire; (repeat (first | rw [if_pos (by omega)] | rw [if_neg (by omega)]))), rfl⟩), rfl, rfl⟩)
  · skip
    show GW G p l e ({ frames := 6, cells := 1, slots := 6, locals := 90 } : Room) s m args below meth c 4 zq_5 N0 SH RR I J 0 0 (vx_MQ below (GQ G N0 SH RR (rdQ (kWire S x1 x2) (rWire S x1.toNat x2) I J)) (GX G N0 SH RR (xcQ (kWire S x1 x2) nIX nIA nIA I J)) args s 1 6 (ge G)) 8 [some (vR 0), some (vI x1), some (vI x2), none] [vN]
    refine gw_astoreN_n C (lo1 := [some (vR 0), some (vI x1), some (vI x2), some (vN)]) 3 dX7_wire_8 rfl (by decide) rfl ?_
    refine gw_aloadN_n C 3 dX7_wire_9 rfl rfl ?_
    refine gw_ifnonnullN C dX7_wire_10 ?_
    exact gw_throw C (cls := "java/lang/IndexOutOfBoundsException") (text := "no such wire") (ik := 86) (is := 88) (ic := 90) ht (by decide) (by decide) kX7_86 n_IndexOutOfBoundsException (List.mem_of_getElem? (i := 5) rfl) gt_IX_90_1 gt_IX_90_2 (by decide) gt_IX_90_3 dX7_wire_13 dX7_wire_16 dX7_wire_17 dX7_wire_19 dX7_wire_22 (Nat.le_of_ble_eq_true rfl) (Nat.le_of_ble_eq_true rfl) (Nat.le_of_ble_eq_true rfl) (Nat.le_of_ble_eq_true rfl) (Nat.le_of_ble_eq_true rfl) (Nat.le_of_ble_eq_true rfl) (fun _ => ⟨Or.inl ⟨(by unfold kWire; (repeat (first | rw [if_pos (by omega)] | rw [if_neg (by omega)]))), rfl⟩, rfl, rfl⟩)
set_option maxHeartbeats 4000000 in
set_option maxRecDepth 100000 in
theorem c_X7_joinOf {l : Launch} (hl0 : l.stackTraces = false) (G : GG) (I J : GI) {z : Nat} {S : Nat → Int} {D9 : Nat → Nat → Int} {c9 : Nat} (hCI : CI I S D9 c9) (x1 x2 : Int) (hx1 : inI x1) (hx2 : inI x2) : GM l yX7_joinOf (.code yX7_joinOf cX7_joinOf 4 (some .int)) 6 90 1 6 G N0 SH RR [vR 0, vI x1, vI x2] z I J (rdQ (kJoinOf S x1 x2) (rJoinOf S x1.toNat x2) I J) (xcQ (kJoinOf S x1 x2) nIX nIA nIA I J) := by
  refine gm_of (lo0 := [some (vR 0), some (vI x1), some (vI x2), none]) hl0 (by decide) rfl (Nat.le_of_ble_eq_true rfl) ?_
  intro p e s m args below meth c C ht hgi
  have C : gC G p l s m args meth c cX7_joinOf 4 RX7 (some .int) "joinOf" := C
  have hR := hCI.1.1.1
  have ho := hCI.1.1.2.1
  have hw := hCI.1.1.2.2
  have hj := hCI.2
  have hcnt := hR.2.1
  have hobd := ho.2.1
  refine gw_aload_n C 0 dX7_joinOf_0 rfl rfl ?_
  refine gw_getRs (ci := 6) (Cn := RX7) (T0 := TX7) (N := 3) C 1 0 kX7_10 fX7 rfl (by decide) rfl rfl dX7_joinOf_1 xs_0 xn_0 xr_0_0 ?_
  refine gw_iload_n C 1 dX7_joinOf_4 rfl rfl ?_
  refine gw_callV C (as := [vI x1]) (st := []) (ci := 2) (T0 := TX2) (N := 7) (c_X2_joinAt hl0 G I J mineQ_live (by omega) x1 hx1) dX7_joinOf_5 kX7_119 qX2_joinAt hdX2_joinAt ⟨Nat.le_of_ble_eq_true rfl, Nat.le_of_ble_eq_true rfl⟩ ⟨Nat.le_of_ble_eq_true rfl, Nat.le_of_ble_eq_true rfl⟩ (Nat.le_of_ble_eq_true rfl) rfl (mq_s mineQ_live) (mq_n mineQ_live) rfl (fun _ _ _ _ h => h.elim) ?_
  intro v_5 zq_5 I_5 J_5 hq_5_2
  obtain ⟨⟨hq_5_2, rfl⟩ | ⟨hq_5_2, rfl⟩, eI_5, eJ_5⟩ := hq_5_2
  all_goals rw [eI_5, eJ_5]
  · skip
    show GW G p l e ({ frames := 6, cells := 1, slots := 6, locals := 90 } : Room) s m args below meth c 4 zq_5 N0 SH RR I J 0 0 (vx_MQ below (GQ G N0 SH RR (rdQ (kJoinOf S x1 x2) (rJoinOf S x1.toNat x2) I J)) (GX G N0 SH RR (xcQ (kJoinOf S x1 x2) nIX nIA nIA I J)) args s 1 6 (ge G)) 8 [some (vR 0), some (vI x1), some (vI x2), none] [vR (1 + 17 + (x1).toNat)]
    refine gw_astore_n C (lo1 := [some (vR 0), some (vI x1), some (vI x2), some (vR (1 + 17 + (x1).toNat))]) 3 dX7_joinOf_8 rfl (by decide) rfl ?_
    refine gw_aload_n C 3 dX7_joinOf_9 rfl rfl ?_
    refine gw_ifnonnull C (tgt := 23) dX7_joinOf_10 (by decide) ?_
    refine gw_iload_n C 2 dX7_joinOf_23 rfl rfl ?_
    refine gw_iconst C dX7_joinOf_24 ?_
    refine gw_bipush C dX7_joinOf_25 rfl ?_
    refine gw_callSb C (as := [vI x2, vI 0, vI 7]) (st := []) (c_X7_isIn hl0 G x2 0 7 hx2 ⟨by decide, by decide⟩ ⟨by decide, by decide⟩) dX7_joinOf_27 kX7_52 qX7_isIn hdX7_isIn ⟨Nat.le_of_ble_eq_true rfl, Nat.le_of_ble_eq_true rfl⟩ ⟨Nat.le_of_ble_eq_true rfl, Nat.le_of_ble_eq_true rfl⟩ (Nat.le_of_ble_eq_true rfl) rfl (fun h_27 z_27 => ?_) (fun h_27 z_27 => ?_)
    · skip
      refine gw_if_ne C (tgt := 43) dX7_joinOf_30 (by decide) ⟨by decide, by decide⟩ (fun _ => ?_) (fun h => absurd h (by decide))
      refine gw_aload_n C 3 dX7_joinOf_43 rfl rfl ?_
      refine gw_iload_n C 2 dX7_joinOf_44 rfl rfl ?_
      refine gw_callVm C (as := [vI x2]) (st := []) (ci := 1) (T0 := TX1) (N := 12) (c_X1_number hl0 G I J (mq_jq mineQ_live (x1).toNat (by omega))  x2 hx2) dX7_joinOf_45 kX7_132 qX1_number hdX1_number ⟨Nat.le_of_ble_eq_true rfl, Nat.le_of_ble_eq_true rfl⟩ ⟨Nat.le_of_ble_eq_true rfl, Nat.le_of_ble_eq_true rfl⟩ (Nat.le_of_ble_eq_true rfl) rfl (jq_s (mq_jq mineQ_live (x1).toNat (by omega))) (jq_n (mq_jq mineQ_live (x1).toNat (by omega))) rfl (fun z_45 => ?_)
      rw [join_v hR hj (i := ((x1).toNat)) (by omega) x2]
      exact gw_iret C (Nat.le_of_ble_eq_true rfl) (Nat.le_of_ble_eq_true rfl) dX7_joinOf_48 (⟨⟨(by unfold kJoinOf; (repeat (first | rw [if_pos (by omega)] | rw [if_neg (by omega)]))), congrArg (fun q => some (vI q)) (by rfl)⟩, rfl, rfl⟩)
    · skip
      refine gw_if_ne C (tgt := 43) dX7_joinOf_30 (by decide) ⟨by decide, by decide⟩ (fun h => absurd h (by decide)) (fun _ => ?_)
      exact gw_throw C (cls := "java/lang/IllegalArgumentException") (text := "what is 0 to 7") (ik := 34) (is := 56) (ic := 38) ht (by decide) (by decide) kX7_34 n_IllegalArgumentException (List.mem_of_getElem? (i := 15) rfl) gt_IA_38_1 gt_IA_38_2 (by decide) gt_IA_38_3 dX7_joinOf_33 dX7_joinOf_36 dX7_joinOf_37 dX7_joinOf_39 dX7_joinOf_42 (Nat.le_of_ble_eq_true rfl) (Nat.le_of_ble_eq_true rfl) (Nat.le_of_ble_eq_true rfl) (Nat.le_of_ble_eq_true rfl) (Nat.le_of_ble_eq_true rfl) (Nat.le_of_ble_eq_true rfl) (fun _ => ⟨Or.inr (Or.inl ⟨(by unfold kJoinOf; (repeat (first | rw [if_pos (by omega)] | rw [if_neg (by omega)]))), rfl⟩), rfl, rfl⟩)
  · skip
    show GW G p l e ({ frames := 6, cells := 1, slots := 6, locals := 90 } : Room) s m args below meth c 4 zq_5 N0 SH RR I J 0 0 (vx_MQ below (GQ G N0 SH RR (rdQ (kJoinOf S x1 x2) (rJoinOf S x1.toNat x2) I J)) (GX G N0 SH RR (xcQ (kJoinOf S x1 x2) nIX nIA nIA I J)) args s 1 6 (ge G)) 8 [some (vR 0), some (vI x1), some (vI x2), none] [vN]
    refine gw_astoreN_n C (lo1 := [some (vR 0), some (vI x1), some (vI x2), some (vN)]) 3 dX7_joinOf_8 rfl (by decide) rfl ?_
    refine gw_aloadN_n C 3 dX7_joinOf_9 rfl rfl ?_
    refine gw_ifnonnullN C dX7_joinOf_10 ?_
    exact gw_throw C (cls := "java/lang/IndexOutOfBoundsException") (text := "no such join") (ik := 86) (is := 123) (ic := 90) ht (by decide) (by decide) kX7_86 n_IndexOutOfBoundsException (List.mem_of_getElem? (i := 9) rfl) gt_IX_90_1 gt_IX_90_2 (by decide) gt_IX_90_3 dX7_joinOf_13 dX7_joinOf_16 dX7_joinOf_17 dX7_joinOf_19 dX7_joinOf_22 (Nat.le_of_ble_eq_true rfl) (Nat.le_of_ble_eq_true rfl) (Nat.le_of_ble_eq_true rfl) (Nat.le_of_ble_eq_true rfl) (Nat.le_of_ble_eq_true rfl) (Nat.le_of_ble_eq_true rfl) (fun _ => ⟨Or.inl ⟨(by unfold kJoinOf; (repeat (first | rw [if_pos (by omega)] | rw [if_neg (by omega)]))), rfl⟩, rfl, rfl⟩)
set_option maxHeartbeats 4000000 in
set_option maxRecDepth 100000 in
theorem c_X7_traverse {l : Launch} (hl0 : l.stackTraces = false) (G : GG) (I J : GI) {z : Nat} {S : Nat → Int} {D9 : Nat → Nat → Int} {c9 : Nat} (hCI : CI I S D9 c9) (x1 x2 : Int) (hx1 : inI x1) (hx2 : inI x2) : GM l yX7_traverse (.code yX7_traverse cX7_traverse 4 (some .int)) 6 91 1 6 G N0 SH RR [vR 0, vI x1, vI x2] z I J (rdQ (kTrav S x1 x2) (rTrav S x1.toNat x2) I J) (xcQ (kTrav S x1 x2) nIX nIA nIA I J) := by
  refine gm_of (lo0 := [some (vR 0), some (vI x1), some (vI x2), none]) hl0 (by decide) rfl (Nat.le_of_ble_eq_true rfl) ?_
  intro p e s m args below meth c C ht hgi
  have C : gC G p l s m args meth c cX7_traverse 4 RX7 (some .int) "traverse" := C
  have hR := hCI.1.1.1
  have ho := hCI.1.1.2.1
  have hw := hCI.1.1.2.2
  have hj := hCI.2
  have hcnt := hR.2.1
  have hobd := ho.2.1
  refine gw_aload_n C 0 dX7_traverse_0 rfl rfl ?_
  refine gw_getRs (ci := 6) (Cn := RX7) (T0 := TX7) (N := 3) C 1 0 kX7_10 fX7 rfl (by decide) rfl rfl dX7_traverse_1 xs_0 xn_0 xr_0_0 ?_
  refine gw_iload_n C 1 dX7_traverse_4 rfl rfl ?_
  refine gw_callV C (as := [vI x1]) (st := []) (ci := 2) (T0 := TX2) (N := 7) (c_X2_traverseAt hl0 G I J mineQ_live (by omega) x1 hx1) dX7_traverse_5 kX7_141 qX2_traverseAt hdX2_traverseAt ⟨Nat.le_of_ble_eq_true rfl, Nat.le_of_ble_eq_true rfl⟩ ⟨Nat.le_of_ble_eq_true rfl, Nat.le_of_ble_eq_true rfl⟩ (Nat.le_of_ble_eq_true rfl) rfl (mq_s mineQ_live) (mq_n mineQ_live) rfl (fun _ _ _ _ h => h.elim) ?_
  intro v_5 zq_5 I_5 J_5 hq_5_2
  obtain ⟨⟨hq_5_2, rfl⟩ | ⟨hq_5_2, rfl⟩, eI_5, eJ_5⟩ := hq_5_2
  all_goals rw [eI_5, eJ_5]
  · skip
    show GW G p l e ({ frames := 6, cells := 1, slots := 6, locals := 91 } : Room) s m args below meth c 4 zq_5 N0 SH RR I J 0 0 (vx_MQ below (GQ G N0 SH RR (rdQ (kTrav S x1 x2) (rTrav S x1.toNat x2) I J)) (GX G N0 SH RR (xcQ (kTrav S x1 x2) nIX nIA nIA I J)) args s 1 6 (ge G)) 8 [some (vR 0), some (vI x1), some (vI x2), none] [vR (1 + 21 + 6 * (x1).toNat)]
    refine gw_astore_n C (lo1 := [some (vR 0), some (vI x1), some (vI x2), some (vR (1 + 21 + 6 * (x1).toNat))]) 3 dX7_traverse_8 rfl (by decide) rfl ?_
    refine gw_aload_n C 3 dX7_traverse_9 rfl rfl ?_
    refine gw_ifnonnull C (tgt := 23) dX7_traverse_10 (by decide) ?_
    refine gw_iload_n C 2 dX7_traverse_23 rfl rfl ?_
    refine gw_iconst C dX7_traverse_24 ?_
    refine gw_bipush C dX7_traverse_25 rfl ?_
    refine gw_callSb C (as := [vI x2, vI 0, vI 9]) (st := []) (c_X7_isIn hl0 G x2 0 9 hx2 ⟨by decide, by decide⟩ ⟨by decide, by decide⟩) dX7_traverse_27 kX7_52 qX7_isIn hdX7_isIn ⟨Nat.le_of_ble_eq_true rfl, Nat.le_of_ble_eq_true rfl⟩ ⟨Nat.le_of_ble_eq_true rfl, Nat.le_of_ble_eq_true rfl⟩ (Nat.le_of_ble_eq_true rfl) rfl (fun h_27 z_27 => ?_) (fun h_27 z_27 => ?_)
    · skip
      refine gw_if_ne C (tgt := 43) dX7_traverse_30 (by decide) ⟨by decide, by decide⟩ (fun _ => ?_) (fun h => absurd h (by decide))
      refine gw_aload_n C 3 dX7_traverse_43 rfl rfl ?_
      refine gw_iload_n C 2 dX7_traverse_44 rfl rfl ?_
      refine gw_callVm C (as := [vI x2]) (st := []) (ci := 4) (T0 := TX5) (N := 15) (c_X5_number hl0 G I J (mq_tq mineQ_live (x1).toNat (by omega)) (hw.2 ((x1).toNat) (by omega)) (msd_v hR ho hj (t := ((x1).toNat)) (by omega)) x2 (by omega)) dX7_traverse_45 kX7_170 qX5_number hdX5_number ⟨Nat.le_of_ble_eq_true rfl, Nat.le_of_ble_eq_true rfl⟩ ⟨Nat.le_of_ble_eq_true rfl, Nat.le_of_ble_eq_true rfl⟩ (Nat.le_of_ble_eq_true rfl) rfl (tq_s (mq_tq mineQ_live (x1).toNat (by omega))) (tq_n (mq_tq mineQ_live (x1).toNat (by omega))) rfl (fun z_45 => ?_)
      rw [trav_v hR ho hj (t := ((x1).toNat)) (by omega) x2]
      exact gw_iret C (Nat.le_of_ble_eq_true rfl) (Nat.le_of_ble_eq_true rfl) dX7_traverse_48 (⟨⟨(by unfold kTrav; (repeat (first | rw [if_pos (by omega)] | rw [if_neg (by omega)]))), congrArg (fun q => some (vI q)) (by rfl)⟩, rfl, rfl⟩)
    · skip
      refine gw_if_ne C (tgt := 43) dX7_traverse_30 (by decide) ⟨by decide, by decide⟩ (fun h => absurd h (by decide)) (fun _ => ?_)
      exact gw_throw C (cls := "java/lang/IllegalArgumentException") (text := "what is 0 to 9") (ik := 34) (is := 168) (ic := 38) ht (by decide) (by decide) kX7_34 n_IllegalArgumentException (List.mem_of_getElem? (i := 18) rfl) gt_IA_38_1 gt_IA_38_2 (by decide) gt_IA_38_3 dX7_traverse_33 dX7_traverse_36 dX7_traverse_37 dX7_traverse_39 dX7_traverse_42 (Nat.le_of_ble_eq_true rfl) (Nat.le_of_ble_eq_true rfl) (Nat.le_of_ble_eq_true rfl) (Nat.le_of_ble_eq_true rfl) (Nat.le_of_ble_eq_true rfl) (Nat.le_of_ble_eq_true rfl) (fun _ => ⟨Or.inr (Or.inl ⟨(by unfold kTrav; (repeat (first | rw [if_pos (by omega)] | rw [if_neg (by omega)]))), rfl⟩), rfl, rfl⟩)
  · skip
    show GW G p l e ({ frames := 6, cells := 1, slots := 6, locals := 91 } : Room) s m args below meth c 4 zq_5 N0 SH RR I J 0 0 (vx_MQ below (GQ G N0 SH RR (rdQ (kTrav S x1 x2) (rTrav S x1.toNat x2) I J)) (GX G N0 SH RR (xcQ (kTrav S x1 x2) nIX nIA nIA I J)) args s 1 6 (ge G)) 8 [some (vR 0), some (vI x1), some (vI x2), none] [vN]
    refine gw_astoreN_n C (lo1 := [some (vR 0), some (vI x1), some (vI x2), some (vN)]) 3 dX7_traverse_8 rfl (by decide) rfl ?_
    refine gw_aloadN_n C 3 dX7_traverse_9 rfl rfl ?_
    refine gw_ifnonnullN C dX7_traverse_10 ?_
    exact gw_throw C (cls := "java/lang/IndexOutOfBoundsException") (text := "no such traverse") (ik := 86) (is := 166) (ic := 90) ht (by decide) (by decide) kX7_86 n_IndexOutOfBoundsException (List.mem_of_getElem? (i := 17) rfl) gt_IX_90_1 gt_IX_90_2 (by decide) gt_IX_90_3 dX7_traverse_13 dX7_traverse_16 dX7_traverse_17 dX7_traverse_19 dX7_traverse_22 (Nat.le_of_ble_eq_true rfl) (Nat.le_of_ble_eq_true rfl) (Nat.le_of_ble_eq_true rfl) (Nat.le_of_ble_eq_true rfl) (Nat.le_of_ble_eq_true rfl) (Nat.le_of_ble_eq_true rfl) (fun _ => ⟨Or.inl ⟨(by unfold kTrav; (repeat (first | rw [if_pos (by omega)] | rw [if_neg (by omega)]))), rfl⟩, rfl, rfl⟩)
set_option maxHeartbeats 4000000 in
set_option maxRecDepth 100000 in
theorem c_X7_leg {l : Launch} (hl0 : l.stackTraces = false) (G : GG) (I J : GI) {z : Nat} {S : Nat → Int} {D9 : Nat → Nat → Int} {c9 : Nat} (hCI : CI I S D9 c9) (x1 x2 x3 : Int) (hx1 : inI x1) (hx2 : inI x2) (hx3 : inI x3) : GM l yX7_leg (.code yX7_leg cX7_leg 5 (some .int)) 6 90 1 6 G N0 SH RR [vR 0, vI x1, vI x2, vI x3] z I J (rdQ (kLeg S x1 x2 x3) (rLeg S x1.toNat x2.toNat x3) I J) (xcQ (kLeg S x1 x2 x3) nIX nIA nIA I J) := by
  refine gm_of (lo0 := [some (vR 0), some (vI x1), some (vI x2), some (vI x3), none]) hl0 (by decide) rfl (Nat.le_of_ble_eq_true rfl) ?_
  intro p e s m args below meth c C ht hgi
  have C : gC G p l s m args meth c cX7_leg 5 RX7 (some .int) "leg" := C
  have hR := hCI.1.1.1
  have ho := hCI.1.1.2.1
  have hw := hCI.1.1.2.2
  have hj := hCI.2
  have hcnt := hR.2.1
  have hobd := ho.2.1
  refine gw_aload_n C 0 dX7_leg_0 rfl rfl ?_
  refine gw_getRs (ci := 6) (Cn := RX7) (T0 := TX7) (N := 3) C 1 0 kX7_10 fX7 rfl (by decide) rfl rfl dX7_leg_1 xs_0 xn_0 xr_0_0 ?_
  refine gw_iload_n C 1 dX7_leg_4 rfl rfl ?_
  refine gw_callV C (as := [vI x1]) (st := []) (ci := 2) (T0 := TX2) (N := 7) (c_X2_traverseAt hl0 G I J mineQ_live (by omega) x1 hx1) dX7_leg_5 kX7_141 qX2_traverseAt hdX2_traverseAt ⟨Nat.le_of_ble_eq_true rfl, Nat.le_of_ble_eq_true rfl⟩ ⟨Nat.le_of_ble_eq_true rfl, Nat.le_of_ble_eq_true rfl⟩ (Nat.le_of_ble_eq_true rfl) rfl (mq_s mineQ_live) (mq_n mineQ_live) rfl (fun _ _ _ _ h => h.elim) ?_
  intro v_5 zq_5 I_5 J_5 hq_5_2
  obtain ⟨⟨hq_5_2, rfl⟩ | ⟨hq_5_2, rfl⟩, eI_5, eJ_5⟩ := hq_5_2
  all_goals rw [eI_5, eJ_5]
  · skip
    show GW G p l e ({ frames := 6, cells := 1, slots := 6, locals := 90 } : Room) s m args below meth c 5 zq_5 N0 SH RR I J 0 0 (vx_MQ below (GQ G N0 SH RR (rdQ (kLeg S x1 x2 x3) (rLeg S x1.toNat x2.toNat x3) I J)) (GX G N0 SH RR (xcQ (kLeg S x1 x2 x3) nIX nIA nIA I J)) args s 1 6 (ge G)) 8 [some (vR 0), some (vI x1), some (vI x2), some (vI x3), none] [vR (1 + 21 + 6 * (x1).toNat)]
    refine gw_astore C (lo1 := [some (vR 0), some (vI x1), some (vI x2), some (vI x3), some (vR (1 + 21 + 6 * (x1).toNat))]) dX7_leg_8 (by decide) rfl ?_
    refine gw_aload C dX7_leg_10 rfl ?_
    refine gw_ifnull C dX7_leg_12 ?_
    refine gw_aload C dX7_leg_15 rfl ?_
    refine gw_iload_n C 2 dX7_leg_17 rfl rfl ?_
    have hlc := (rel_tr hR (t := x1.toNat) (by omega)).1.2
    have hob := (ho.2.2.2.2 x1.toNat (by omega)).1.2.1
    unfold tP at hlc
    refine gw_callVb C (as := [vI x2]) (st := []) (ci := 4) (T0 := TX5) (N := 15) (c_X5_hasLeg hl0 G I J (mq_tq mineQ_live (x1).toNat (by omega)) x2 hx2) dX7_leg_18 kX7_171 qX5_hasLeg hdX5_hasLeg ⟨Nat.le_of_ble_eq_true rfl, Nat.le_of_ble_eq_true rfl⟩ ⟨Nat.le_of_ble_eq_true rfl, Nat.le_of_ble_eq_true rfl⟩ (Nat.le_of_ble_eq_true rfl) rfl (tq_s (mq_tq mineQ_live (x1).toNat (by omega))) (tq_n (mq_tq mineQ_live (x1).toNat (by omega))) rfl (fun h_18 z_18 => ?_) (fun h_18 z_18 => ?_)
    · skip
      refine gw_if_ne C (tgt := 34) dX7_leg_21 (by decide) ⟨by decide, by decide⟩ (fun _ => ?_) (fun h => absurd h (by decide))
      refine gw_iload_n C 3 dX7_leg_34 rfl rfl ?_
      refine gw_iconst C dX7_leg_35 ?_
      refine gw_iconst C dX7_leg_36 ?_
      refine gw_callSb C (as := [vI x3, vI 0, vI 4]) (st := []) (c_X7_isIn hl0 G x3 0 4 hx3 ⟨by decide, by decide⟩ ⟨by decide, by decide⟩) dX7_leg_37 kX7_52 qX7_isIn hdX7_isIn ⟨Nat.le_of_ble_eq_true rfl, Nat.le_of_ble_eq_true rfl⟩ ⟨Nat.le_of_ble_eq_true rfl, Nat.le_of_ble_eq_true rfl⟩ (Nat.le_of_ble_eq_true rfl) rfl (fun h_37 z_37 => ?_) (fun h_37 z_37 => ?_)
      · skip
        refine gw_if_ne C (tgt := 53) dX7_leg_40 (by decide) ⟨by decide, by decide⟩ (fun _ => ?_) (fun h => absurd h (by decide))
        obtain ⟨k9, hk9⟩ : ∃ k : Nat, x2 = (k : Int) := ⟨x2.toNat, by omega⟩
        subst hk9
        refine gw_aload C dX7_leg_53 rfl ?_
        refine gw_iload_n C 2 dX7_leg_55 rfl rfl ?_
        refine gw_iload_n C 3 dX7_leg_56 rfl rfl ?_
        have hlc_57 := (rel_tr hR (t := ((x1).toNat)) (by omega)).1.2
        have hob_57 := (ho.2.2.2.2 ((x1).toNat) (by omega)).1.2.1
        unfold tP at hlc_57
        refine gw_callVm C (as := [vI (k9 : Int), vI x3]) (st := []) (ci := 4) (T0 := TX5) (N := 15) (c_X5_numberOfLeg hl0 G I J (mq_tq mineQ_live (x1).toNat (by omega)) (by omega) k9 (by omega) x3 (by omega)) dX7_leg_57 kX7_178 qX5_numberOfLeg hdX5_numberOfLeg ⟨Nat.le_of_ble_eq_true rfl, Nat.le_of_ble_eq_true rfl⟩ ⟨Nat.le_of_ble_eq_true rfl, Nat.le_of_ble_eq_true rfl⟩ (Nat.le_of_ble_eq_true rfl) rfl (tq_s (mq_tq mineQ_live (x1).toNat (by omega))) (tq_n (mq_tq mineQ_live (x1).toNat (by omega))) rfl (fun z_57 => ?_)
        rw [leg_v hR hj (t := ((x1).toNat)) (k := k9) (by omega) (by omega) x3]
        exact gw_iret C (Nat.le_of_ble_eq_true rfl) (Nat.le_of_ble_eq_true rfl) dX7_leg_60 (⟨⟨(by unfold kLeg; (repeat (first | rw [if_pos (by omega)] | rw [if_neg (by omega)]))), congrArg (fun q => some (vI q)) (by rfl)⟩, rfl, rfl⟩)
      · skip
        refine gw_if_ne C (tgt := 53) dX7_leg_40 (by decide) ⟨by decide, by decide⟩ (fun h => absurd h (by decide)) (fun _ => ?_)
        exact gw_throw C (cls := "java/lang/IllegalArgumentException") (text := "what is 0 to 4") (ik := 34) (is := 176) (ic := 38) ht (by decide) (by decide) kX7_34 n_IllegalArgumentException (List.mem_of_getElem? (i := 20) rfl) gt_IA_38_1 gt_IA_38_2 (by decide) gt_IA_38_3 dX7_leg_43 dX7_leg_46 dX7_leg_47 dX7_leg_49 dX7_leg_52 (Nat.le_of_ble_eq_true rfl) (Nat.le_of_ble_eq_true rfl) (Nat.le_of_ble_eq_true rfl) (Nat.le_of_ble_eq_true rfl) (Nat.le_of_ble_eq_true rfl) (Nat.le_of_ble_eq_true rfl) (fun _ => ⟨Or.inr (Or.inl ⟨(by unfold kLeg; (repeat (first | rw [if_pos (by omega)] | rw [if_neg (by omega)]))), rfl⟩), rfl, rfl⟩)
    · skip
      refine gw_if_ne C (tgt := 34) dX7_leg_21 (by decide) ⟨by decide, by decide⟩ (fun h => absurd h (by decide)) (fun _ => ?_)
      exact gw_throw C (cls := "java/lang/IndexOutOfBoundsException") (text := "no such traverse or leg") (ik := 86) (is := 174) (ic := 90) ht (by decide) (by decide) kX7_86 n_IndexOutOfBoundsException (List.mem_of_getElem? (i := 19) rfl) gt_IX_90_1 gt_IX_90_2 (by decide) gt_IX_90_3 dX7_leg_24 dX7_leg_27 dX7_leg_28 dX7_leg_30 dX7_leg_33 (Nat.le_of_ble_eq_true rfl) (Nat.le_of_ble_eq_true rfl) (Nat.le_of_ble_eq_true rfl) (Nat.le_of_ble_eq_true rfl) (Nat.le_of_ble_eq_true rfl) (Nat.le_of_ble_eq_true rfl) (fun _ => ⟨Or.inl ⟨(by unfold kLeg; (repeat (first | rw [if_pos (by omega)] | rw [if_neg (by omega)]))), rfl⟩, rfl, rfl⟩)
  · skip
    show GW G p l e ({ frames := 6, cells := 1, slots := 6, locals := 90 } : Room) s m args below meth c 5 zq_5 N0 SH RR I J 0 0 (vx_MQ below (GQ G N0 SH RR (rdQ (kLeg S x1 x2 x3) (rLeg S x1.toNat x2.toNat x3) I J)) (GX G N0 SH RR (xcQ (kLeg S x1 x2 x3) nIX nIA nIA I J)) args s 1 6 (ge G)) 8 [some (vR 0), some (vI x1), some (vI x2), some (vI x3), none] [vN]
    refine gw_astoreN C (lo1 := [some (vR 0), some (vI x1), some (vI x2), some (vI x3), some (vN)]) dX7_leg_8 (by decide) rfl ?_
    refine gw_aloadN C dX7_leg_10 rfl ?_
    refine gw_ifnullN C (tgt := 24) dX7_leg_12 (by decide) ?_
    exact gw_throw C (cls := "java/lang/IndexOutOfBoundsException") (text := "no such traverse or leg") (ik := 86) (is := 174) (ic := 90) ht (by decide) (by decide) kX7_86 n_IndexOutOfBoundsException (List.mem_of_getElem? (i := 19) rfl) gt_IX_90_1 gt_IX_90_2 (by decide) gt_IX_90_3 dX7_leg_24 dX7_leg_27 dX7_leg_28 dX7_leg_30 dX7_leg_33 (Nat.le_of_ble_eq_true rfl) (Nat.le_of_ble_eq_true rfl) (Nat.le_of_ble_eq_true rfl) (Nat.le_of_ble_eq_true rfl) (Nat.le_of_ble_eq_true rfl) (Nat.le_of_ble_eq_true rfl) (fun _ => ⟨Or.inl ⟨(by unfold kLeg; (repeat (first | rw [if_pos (by omega)] | rw [if_neg (by omega)]))), rfl⟩, rfl, rfl⟩)
set_option maxHeartbeats 4000000 in
set_option maxRecDepth 100000 in
theorem c_X7_trouble {l : Launch} (hl0 : l.stackTraces = false) (G : GG) (I J : GI) {z : Nat} {S : Nat → Int} {D9 : Nat → Nat → Int} {c9 : Nat} (hCI : CI I S D9 c9) (x1 x2 : Int) (hx1 : inI x1) (hx2 : inI x2) : GM l yX7_trouble (.code yX7_trouble cX7_trouble 4 (some .int)) 6 90 1 6 G N0 SH RR [vR 0, vI x1, vI x2] z I J (rdQ (kTrb S x1) (rTrb S x1.toNat x2) I J) (xcQ (kTrb S x1) nIX nIA nIA I J) := by
  refine gm_of (lo0 := [some (vR 0), some (vI x1), some (vI x2), none]) hl0 (by decide) rfl (Nat.le_of_ble_eq_true rfl) ?_
  intro p e s m args below meth c C ht hgi
  have C : gC G p l s m args meth c cX7_trouble 4 RX7 (some .int) "trouble" := C
  have hR := hCI.1.1.1
  have ho := hCI.1.1.2.1
  have hw := hCI.1.1.2.2
  have hj := hCI.2
  have hcnt := hR.2.1
  have hobd := ho.2.1
  refine gw_aload_n C 0 dX7_trouble_0 rfl rfl ?_
  refine gw_getRs (ci := 6) (Cn := RX7) (T0 := TX7) (N := 3) C 1 0 kX7_10 fX7 rfl (by decide) rfl rfl dX7_trouble_1 xs_0 xn_0 xr_0_0 ?_
  refine gw_iload_n C 1 dX7_trouble_4 rfl rfl ?_
  refine gw_callV C (as := [vI x1]) (st := []) (ci := 2) (T0 := TX2) (N := 7) (c_X2_traverseAt hl0 G I J mineQ_live (by omega) x1 hx1) dX7_trouble_5 kX7_141 qX2_traverseAt hdX2_traverseAt ⟨Nat.le_of_ble_eq_true rfl, Nat.le_of_ble_eq_true rfl⟩ ⟨Nat.le_of_ble_eq_true rfl, Nat.le_of_ble_eq_true rfl⟩ (Nat.le_of_ble_eq_true rfl) rfl (mq_s mineQ_live) (mq_n mineQ_live) rfl (fun _ _ _ _ h => h.elim) ?_
  intro v_5 zq_5 I_5 J_5 hq_5_2
  obtain ⟨⟨hq_5_2, rfl⟩ | ⟨hq_5_2, rfl⟩, eI_5, eJ_5⟩ := hq_5_2
  all_goals rw [eI_5, eJ_5]
  · skip
    show GW G p l e ({ frames := 6, cells := 1, slots := 6, locals := 90 } : Room) s m args below meth c 4 zq_5 N0 SH RR I J 0 0 (vx_MQ below (GQ G N0 SH RR (rdQ (kTrb S x1) (rTrb S x1.toNat x2) I J)) (GX G N0 SH RR (xcQ (kTrb S x1) nIX nIA nIA I J)) args s 1 6 (ge G)) 8 [some (vR 0), some (vI x1), some (vI x2), none] [vR (1 + 21 + 6 * (x1).toNat)]
    refine gw_astore_n C (lo1 := [some (vR 0), some (vI x1), some (vI x2), some (vR (1 + 21 + 6 * (x1).toNat))]) 3 dX7_trouble_8 rfl (by decide) rfl ?_
    refine gw_aload_n C 3 dX7_trouble_9 rfl rfl ?_
    refine gw_ifnonnull C (tgt := 23) dX7_trouble_10 (by decide) ?_
    refine gw_aload_n C 0 dX7_trouble_23 rfl rfl ?_
    refine gw_getRs (ci := 6) (Cn := RX7) (T0 := TX7) (N := 3) C 1 0 kX7_10 fX7 rfl (by decide) rfl rfl dX7_trouble_24 xs_0 xn_0 xr_0_0 ?_
    refine gw_aload_n C 3 dX7_trouble_27 rfl rfl ?_
    refine gw_iload_n C 2 dX7_trouble_28 rfl rfl ?_
    refine gw_callVm C (as := [vR (1 + 21 + 6 * (x1).toNat), vI x2]) (st := []) (ci := 2) (T0 := TX2) (N := 7) (c_X2_troubleOf hl0 G I J mineQ_live (mq_tq mineQ_live (x1).toNat (by omega)) (by omega) x2 hx2) dX7_trouble_29 kX7_181 qX2_troubleOf hdX2_troubleOf ⟨Nat.le_of_ble_eq_true rfl, Nat.le_of_ble_eq_true rfl⟩ ⟨Nat.le_of_ble_eq_true rfl, Nat.le_of_ble_eq_true rfl⟩ (Nat.le_of_ble_eq_true rfl) rfl (mq_s mineQ_live) (mq_n mineQ_live) rfl (fun z_29 => ?_)
    rw [trb_v hR ho hj (t := ((x1).toNat)) (by omega) x2]
    exact gw_iret C (Nat.le_of_ble_eq_true rfl) (Nat.le_of_ble_eq_true rfl) dX7_trouble_32 (⟨⟨(by unfold kTrb; (repeat (first | rw [if_pos (by omega)] | rw [if_neg (by omega)]))), congrArg (fun q => some (vI q)) (by rfl)⟩, rfl, rfl⟩)
  · skip
    show GW G p l e ({ frames := 6, cells := 1, slots := 6, locals := 90 } : Room) s m args below meth c 4 zq_5 N0 SH RR I J 0 0 (vx_MQ below (GQ G N0 SH RR (rdQ (kTrb S x1) (rTrb S x1.toNat x2) I J)) (GX G N0 SH RR (xcQ (kTrb S x1) nIX nIA nIA I J)) args s 1 6 (ge G)) 8 [some (vR 0), some (vI x1), some (vI x2), none] [vN]
    refine gw_astoreN_n C (lo1 := [some (vR 0), some (vI x1), some (vI x2), some (vN)]) 3 dX7_trouble_8 rfl (by decide) rfl ?_
    refine gw_aloadN_n C 3 dX7_trouble_9 rfl rfl ?_
    refine gw_ifnonnullN C dX7_trouble_10 ?_
    exact gw_throw C (cls := "java/lang/IndexOutOfBoundsException") (text := "no such traverse") (ik := 86) (is := 166) (ic := 90) ht (by decide) (by decide) kX7_86 n_IndexOutOfBoundsException (List.mem_of_getElem? (i := 17) rfl) gt_IX_90_1 gt_IX_90_2 (by decide) gt_IX_90_3 dX7_trouble_13 dX7_trouble_16 dX7_trouble_17 dX7_trouble_19 dX7_trouble_22 (Nat.le_of_ble_eq_true rfl) (Nat.le_of_ble_eq_true rfl) (Nat.le_of_ble_eq_true rfl) (Nat.le_of_ble_eq_true rfl) (Nat.le_of_ble_eq_true rfl) (Nat.le_of_ble_eq_true rfl) (fun _ => ⟨Or.inl ⟨(by unfold kTrb; (repeat (first | rw [if_pos (by omega)] | rw [if_neg (by omega)]))), rfl⟩, rfl, rfl⟩)
