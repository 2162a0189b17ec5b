theorem mr_0 {I J : GI} {k r x : Int} {z : Nat} (hk : k = 0) (hx : x = r) : mrQ k r I J (some (vI x)) z (up I 231 6 0) J := by
  subst hk hx
  exact ⟨by rw [if_pos rfl], rfl, rfl⟩
theorem mr_1 {I J : GI} {k r x : Int} {z : Nat} (hk : k = x) (h0 : x ≠ 0) : mrQ k r I J (some (vI 0)) z (up I 231 6 x) J := by
  subst hk
  exact ⟨by rw [if_neg h0], rfl, rfl⟩
theorem sv_232 {I K : GI} (h : svR (up I 231 6 0) K) : K 232 = I 232 := by
  funext f
  rw [h.2.2 232 f (by omega) (by decide), up_ne (by decide)]
set_option maxHeartbeats 4000000 in
set_option maxRecDepth 100000 in
theorem c_X8_info {l : Launch} (hl0 : l.stackTraces = false) (G : GG) (I J : GI) {z : Nat} (ho : Oks (I 232)) (x1 : Int) (hx1 : inI x1) : GM l yX8_info (.code yX8_info cX8_info 2 (some .int)) 3 66 0 0 G N0 SH RR [vR 231, vI x1] z I J (mrQ (kInfo x1) (rInfo (I 232) x1) I J) gNo := by
  refine gm_of (lo0 := [some (vR 231), some (vI x1)]) hl0 (by decide) rfl (Nat.le_of_ble_eq_true rfl) ?_
  intro p e s m args below meth c C ht hgi
  have C : gC G p l s m args meth c cX8_info 2 RX8 (some .int) "info" := C
  have h3 := ho.2.1
  have h0 := ho.1
  refine gw_aload_n C 0 dX8_info_0 rfl rfl ?_
  refine gw_iload_n C 1 dX8_info_1 rfl rfl ?_
  refine gw_i2l C dX8_info_2 hx1 ?_
  refine gw_lconst C 0 dX8_info_3 (by decide) ?_
  refine gw_ldc2 C (x := 7) dX8_info_4 kX8_84 (by decide) ?_
  refine gw_callSb C (as := [vL x1, vL 0, vL 7]) (st := [vR 231]) (c_X8_in hl0 G x1 0 7 (by omega) ⟨by decide, by decide⟩ ⟨by decide, by decide⟩) dX8_info_7 kX8_62 qX8_in hdX8_in ⟨Nat.le_of_ble_eq_true rfl, Nat.le_of_ble_eq_true rfl⟩ ⟨Nat.le_of_ble_eq_true rfl, Nat.le_of_ble_eq_true rfl⟩ (Nat.le_of_ble_eq_true rfl) rfl (fun h_7 z_7 => ?_) (fun h_7 z_7 => ?_)
  · skip
    refine gw_if_eq C (tgt := 17) dX8_info_10 (by decide) ⟨by decide, by decide⟩ (fun h => absurd h (by decide)) (fun _ => ?_)
    refine gw_iconst C dX8_info_13 ?_
    refine gw_goto C (tgt := 18) dX8_info_14 (by decide) ?_
    refine gw_callVm C (as := [vI 0]) (st := []) (ci := 7) (T0 := TX8) (N := 10) (c_X8_throwsAt hl0 G I J 0 ⟨by decide, by decide⟩) dX8_info_18 kX8_70 qX8_throwsAt hdX8_throwsAt ⟨Nat.le_of_ble_eq_true rfl, Nat.le_of_ble_eq_true rfl⟩ ⟨Nat.le_of_ble_eq_true rfl, Nat.le_of_ble_eq_true rfl⟩ (Nat.le_of_ble_eq_true rfl) rfl xs_231 xn_231 rfl (fun z_18 => ?_)
    rw [show (if (0 : Int) < 0 then (1 : Int) else 0) = 0 from by decide]
    refine gw_if_eq C (tgt := 28) dX8_info_21 (by decide) ⟨by decide, by decide⟩ (fun _ => ?_) (fun h => absurd h (by decide))
    refine gw_aload_n C 0 dX8_info_28 rfl rfl ?_
    refine gw_iload_n C 1 dX8_info_29 rfl rfl ?_
    refine gw_callVm C (as := [vI x1]) (st := []) (ci := 7) (T0 := TX8) (N := 10) (c_X8_infoOf hl0 G (up I 231 6 0) J (by rw [show (up I 231 6 0) 232 = I 232 from up_ne (by decide)]; exact ho) x1 (by first | (rw [show (up I 231 6 0) 232 = I 232 from up_ne (by decide)]; omega) | (omega))) dX8_info_30 kX8_86 qX8_infoOf hdX8_infoOf ⟨Nat.le_of_ble_eq_true rfl, Nat.le_of_ble_eq_true rfl⟩ ⟨Nat.le_of_ble_eq_true rfl, Nat.le_of_ble_eq_true rfl⟩ (Nat.le_of_ble_eq_true rfl) rfl xs_231 xn_231 rfl (fun z_30 => ?_)
    rw [show (up I 231 6 0) 232 = I 232 from up_ne (by decide)]
    exact gw_iret C (Nat.le_of_ble_eq_true rfl) (Nat.le_of_ble_eq_true rfl) dX8_info_33 (mr_0 (by unfold kInfo; (repeat (first | rw [if_pos (by omega)] | rw [if_neg (by omega)]))) (by rfl))
  · skip
    refine gw_if_eq C (tgt := 17) dX8_info_10 (by decide) ⟨by decide, by decide⟩ (fun _ => ?_) (fun h => absurd h (by decide))
    refine gw_iconst C dX8_info_17 ?_
    refine gw_callVm C (as := [vI 1]) (st := []) (ci := 7) (T0 := TX8) (N := 10) (c_X8_throwsAt hl0 G I J 1 ⟨by decide, by decide⟩) dX8_info_18 kX8_70 qX8_throwsAt hdX8_throwsAt ⟨Nat.le_of_ble_eq_true rfl, Nat.le_of_ble_eq_true rfl⟩ ⟨Nat.le_of_ble_eq_true rfl, Nat.le_of_ble_eq_true rfl⟩ (Nat.le_of_ble_eq_true rfl) rfl xs_231 xn_231 rfl (fun z_18_2 => ?_)
    rw [show (if (0 : Int) < 1 then (1 : Int) else 0) = 1 from by decide]
    refine gw_if_eq C (tgt := 28) dX8_info_21 (by decide) ⟨by decide, by decide⟩ (fun h => absurd h (by decide)) (fun _ => ?_)
    refine gw_iconst C dX8_info_24 ?_
    refine gw_goto C (tgt := 33) dX8_info_25 (by decide) ?_
    exact gw_iret C (Nat.le_of_ble_eq_true rfl) (Nat.le_of_ble_eq_true rfl) dX8_info_33 (mr_1 (by unfold kInfo; (repeat (first | rw [if_pos (by omega)] | rw [if_neg (by omega)]))) (by decide))
set_option maxHeartbeats 4000000 in
set_option maxRecDepth 100000 in
theorem c_X8_wire {l : Launch} (hl0 : l.stackTraces = false) (G : GG) (I J : GI) {z : Nat} (ho : Oks (I 232)) (x1 x2 : Int) (hx1 : inI x1) (hx2 : inI x2) : GM l yX8_wire (.code yX8_wire cX8_wire 3 (some .int)) 4 89 0 0 G N0 SH RR [vR 231, vI x1, vI x2] z I J (mrQ (kWire (I 232) x1 x2) (rWire (I 232) x1.toNat x2) I J) gNo := by
  refine gm_of (lo0 := [some (vR 231), some (vI x1), some (vI x2)]) hl0 (by decide) rfl (Nat.le_of_ble_eq_true rfl) ?_
  intro p e s m args below meth c C ht hgi
  have C : gC G p l s m args meth c cX8_wire 3 RX8 (some .int) "wire" := C
  have h3 := ho.2.1
  have h0 := ho.1
  refine gw_aload_n C 0 dX8_wire_0 rfl rfl ?_
  refine gw_aload_n C 0 dX8_wire_1 rfl rfl ?_
  refine gw_iload_n C 1 dX8_wire_2 rfl rfl ?_
  refine gw_callVb C (as := [vI x1]) (st := [vR 231]) (ci := 7) (T0 := TX8) (N := 10) (c_X8_isWire hl0 G I J ho x1 (by first | assumption | omega)) dX8_wire_3 kX8_96 qX8_isWire hdX8_isWire ⟨Nat.le_of_ble_eq_true rfl, Nat.le_of_ble_eq_true rfl⟩ ⟨Nat.le_of_ble_eq_true rfl, Nat.le_of_ble_eq_true rfl⟩ (Nat.le_of_ble_eq_true rfl) rfl xs_231 xn_231 rfl (fun h_3 z_3 => ?_) (fun h_3 z_3 => ?_)
  · skip
    refine gw_if_ne C (tgt := 13) dX8_wire_6 (by decide) ⟨by decide, by decide⟩ (fun _ => ?_) (fun h => absurd h (by decide))
    refine gw_iload_n C 2 dX8_wire_13 rfl rfl ?_
    refine gw_i2l C dX8_wire_14 hx2 ?_
    refine gw_lconst C 0 dX8_wire_15 (by decide) ?_
    refine gw_ldc2 C (x := 5) dX8_wire_16 kX8_112 (by decide) ?_
    refine gw_callSb C (as := [vL x2, vL 0, vL 5]) (st := [vR 231]) (c_X8_in hl0 G x2 0 5 (by omega) ⟨by decide, by decide⟩ ⟨by decide, by decide⟩) dX8_wire_19 kX8_62 qX8_in hdX8_in ⟨Nat.le_of_ble_eq_true rfl, Nat.le_of_ble_eq_true rfl⟩ ⟨Nat.le_of_ble_eq_true rfl, Nat.le_of_ble_eq_true rfl⟩ (Nat.le_of_ble_eq_true rfl) rfl (fun h_19 z_19 => ?_) (fun h_19 z_19 => ?_)
    · skip
      refine gw_if_eq C (tgt := 29) dX8_wire_22 (by decide) ⟨by decide, by decide⟩ (fun h => absurd h (by decide)) (fun _ => ?_)
      refine gw_iconst C dX8_wire_25 ?_
      refine gw_goto C (tgt := 30) dX8_wire_26 (by decide) ?_
      refine gw_callVm C (as := [vI 0]) (st := []) (ci := 7) (T0 := TX8) (N := 10) (c_X8_throwsAt hl0 G I J 0 ⟨by decide, by decide⟩) dX8_wire_30 kX8_70 qX8_throwsAt hdX8_throwsAt ⟨Nat.le_of_ble_eq_true rfl, Nat.le_of_ble_eq_true rfl⟩ ⟨Nat.le_of_ble_eq_true rfl, Nat.le_of_ble_eq_true rfl⟩ (Nat.le_of_ble_eq_true rfl) rfl xs_231 xn_231 rfl (fun z_30 => ?_)
      rw [show (if (0 : Int) < 0 then (1 : Int) else 0) = 0 from by decide]
      refine gw_if_eq C (tgt := 40) dX8_wire_33 (by decide) ⟨by decide, by decide⟩ (fun _ => ?_) (fun h => absurd h (by decide))
      refine gw_aload_n C 0 dX8_wire_40 rfl rfl ?_
      refine gw_iload_n C 1 dX8_wire_41 rfl rfl ?_
      refine gw_iload_n C 2 dX8_wire_42 rfl rfl ?_
      refine gw_callVm C (as := [vI x1, vI x2]) (st := []) (ci := 7) (T0 := TX8) (N := 10) (c_X8_wireOf hl0 G (up I 231 6 0) J (by rw [show (up I 231 6 0) 232 = I 232 from up_ne (by decide)]; exact ho) x1 x2 (by first | (rw [show (up I 231 6 0) 232 = I 232 from up_ne (by decide)]; omega) | (omega)) (by first | (rw [show (up I 231 6 0) 232 = I 232 from up_ne (by decide)]; omega) | (omega))) dX8_wire_43 kX8_114 qX8_wireOf hdX8_wireOf ⟨Nat.le_of_ble_eq_true rfl, Nat.le_of_ble_eq_true rfl⟩ ⟨Nat.le_of_ble_eq_true rfl, Nat.le_of_ble_eq_true rfl⟩ (Nat.le_of_ble_eq_true rfl) rfl xs_231 xn_231 rfl (fun z_43 => ?_)
      rw [show (up I 231 6 0) 232 = I 232 from up_ne (by decide)]
      exact gw_iret C (Nat.le_of_ble_eq_true rfl) (Nat.le_of_ble_eq_true rfl) dX8_wire_46 (mr_0 (by unfold kWire; (repeat (first | rw [if_pos (by omega)] | rw [if_neg (by omega)]))) (by rfl))
    · skip
      refine gw_if_eq C (tgt := 29) dX8_wire_22 (by decide) ⟨by decide, by decide⟩ (fun _ => ?_) (fun h => absurd h (by decide))
      refine gw_iconst C dX8_wire_29 ?_
      refine gw_callVm C (as := [vI 2]) (st := []) (ci := 7) (T0 := TX8) (N := 10) (c_X8_throwsAt hl0 G I J 2 ⟨by decide, by decide⟩) dX8_wire_30 kX8_70 qX8_throwsAt hdX8_throwsAt ⟨Nat.le_of_ble_eq_true rfl, Nat.le_of_ble_eq_true rfl⟩ ⟨Nat.le_of_ble_eq_true rfl, Nat.le_of_ble_eq_true rfl⟩ (Nat.le_of_ble_eq_true rfl) rfl xs_231 xn_231 rfl (fun z_30_2 => ?_)
      rw [show (if (0 : Int) < 2 then (1 : Int) else 0) = 1 from by decide]
      refine gw_if_eq C (tgt := 40) dX8_wire_33 (by decide) ⟨by decide, by decide⟩ (fun h => absurd h (by decide)) (fun _ => ?_)
      refine gw_iconst C dX8_wire_36 ?_
      refine gw_goto C (tgt := 46) dX8_wire_37 (by decide) ?_
      exact gw_iret C (Nat.le_of_ble_eq_true rfl) (Nat.le_of_ble_eq_true rfl) dX8_wire_46 (mr_1 (by unfold kWire; (repeat (first | rw [if_pos (by omega)] | rw [if_neg (by omega)]))) (by decide))
  · skip
    refine gw_if_ne C (tgt := 13) dX8_wire_6 (by decide) ⟨by decide, by decide⟩ (fun h => absurd h (by decide)) (fun _ => ?_)
    refine gw_iconst C dX8_wire_9 ?_
    refine gw_goto C (tgt := 30) dX8_wire_10 (by decide) ?_
    refine gw_callVm C (as := [vI 1]) (st := []) (ci := 7) (T0 := TX8) (N := 10) (c_X8_throwsAt hl0 G I J 1 ⟨by decide, by decide⟩) dX8_wire_30 kX8_70 qX8_throwsAt hdX8_throwsAt ⟨Nat.le_of_ble_eq_true rfl, Nat.le_of_ble_eq_true rfl⟩ ⟨Nat.le_of_ble_eq_true rfl, Nat.le_of_ble_eq_true rfl⟩ (Nat.le_of_ble_eq_true rfl) rfl xs_231 xn_231 rfl (fun z_30_3 => ?_)
    rw [show (if (0 : Int) < 1 then (1 : Int) else 0) = 1 from by decide]
    refine gw_if_eq C (tgt := 40) dX8_wire_33 (by decide) ⟨by decide, by decide⟩ (fun h => absurd h (by decide)) (fun _ => ?_)
    refine gw_iconst C dX8_wire_36 ?_
    refine gw_goto C (tgt := 46) dX8_wire_37 (by decide) ?_
    exact gw_iret C (Nat.le_of_ble_eq_true rfl) (Nat.le_of_ble_eq_true rfl) dX8_wire_46 (mr_1 (by unfold kWire; (repeat (first | rw [if_pos (by omega)] | rw [if_neg (by omega)]))) (by decide))
set_option maxHeartbeats 4000000 in
set_option maxRecDepth 100000 in
theorem c_X8_joinOf {l : Launch} (hl0 : l.stackTraces = false) (G : GG) (I J : GI) {z : Nat} (ho : Oks (I 232)) (x1 x2 : Int) (hx1 : inI x1) (hx2 : inI x2) : GM l yX8_joinOf (.code yX8_joinOf cX8_joinOf 3 (some .int)) 6 133 0 0 G N0 SH RR [vR 231, vI x1, vI x2] z I J (mrQ (kJoinOf (I 232) x1 x2) (rJoinOf (I 232) x1.toNat x2) I J) gNo := by
  refine gm_of (lo0 := [some (vR 231), some (vI x1), some (vI x2)]) hl0 (by decide) rfl (Nat.le_of_ble_eq_true rfl) ?_
  intro p e s m args below meth c C ht hgi
  have C : gC G p l s m args meth c cX8_joinOf 3 RX8 (some .int) "joinOf" := C
  have h3 := ho.2.1
  have h0 := ho.1
  refine gw_aload_n C 0 dX8_joinOf_0 rfl rfl ?_
  refine gw_aload_n C 0 dX8_joinOf_1 rfl rfl ?_
  refine gw_iload_n C 1 dX8_joinOf_2 rfl rfl ?_
  refine gw_callVb C (as := [vI x1]) (st := [vR 231]) (ci := 7) (T0 := TX8) (N := 10) (c_X8_isJoin hl0 G I J ho x1 (by first | assumption | omega)) dX8_joinOf_3 kX8_135 qX8_isJoin hdX8_isJoin ⟨Nat.le_of_ble_eq_true rfl, Nat.le_of_ble_eq_true rfl⟩ ⟨Nat.le_of_ble_eq_true rfl, Nat.le_of_ble_eq_true rfl⟩ (Nat.le_of_ble_eq_true rfl) rfl xs_231 xn_231 rfl (fun h_3 z_3 => ?_) (fun h_3 z_3 => ?_)
  · skip
    refine gw_if_ne C (tgt := 13) dX8_joinOf_6 (by decide) ⟨by decide, by decide⟩ (fun _ => ?_) (fun h => absurd h (by decide))
    refine gw_iload_n C 2 dX8_joinOf_13 rfl rfl ?_
    refine gw_i2l C dX8_joinOf_14 hx2 ?_
    refine gw_lconst C 0 dX8_joinOf_15 (by decide) ?_
    refine gw_ldc2 C (x := 7) dX8_joinOf_16 kX8_84 (by decide) ?_
    refine gw_callSb C (as := [vL x2, vL 0, vL 7]) (st := [vR 231]) (c_X8_in hl0 G x2 0 7 (by omega) ⟨by decide, by decide⟩ ⟨by decide, by decide⟩) dX8_joinOf_19 kX8_62 qX8_in hdX8_in ⟨Nat.le_of_ble_eq_true rfl, Nat.le_of_ble_eq_true rfl⟩ ⟨Nat.le_of_ble_eq_true rfl, Nat.le_of_ble_eq_true rfl⟩ (Nat.le_of_ble_eq_true rfl) rfl (fun h_19 z_19 => ?_) (fun h_19 z_19 => ?_)
    · skip
      refine gw_if_eq C (tgt := 29) dX8_joinOf_22 (by decide) ⟨by decide, by decide⟩ (fun h => absurd h (by decide)) (fun _ => ?_)
      refine gw_iconst C dX8_joinOf_25 ?_
      refine gw_goto C (tgt := 30) dX8_joinOf_26 (by decide) ?_
      refine gw_callVm C (as := [vI 0]) (st := []) (ci := 7) (T0 := TX8) (N := 10) (c_X8_throwsAt hl0 G I J 0 ⟨by decide, by decide⟩) dX8_joinOf_30 kX8_70 qX8_throwsAt hdX8_throwsAt ⟨Nat.le_of_ble_eq_true rfl, Nat.le_of_ble_eq_true rfl⟩ ⟨Nat.le_of_ble_eq_true rfl, Nat.le_of_ble_eq_true rfl⟩ (Nat.le_of_ble_eq_true rfl) rfl xs_231 xn_231 rfl (fun z_30 => ?_)
      rw [show (if (0 : Int) < 0 then (1 : Int) else 0) = 0 from by decide]
      refine gw_if_eq C (tgt := 40) dX8_joinOf_33 (by decide) ⟨by decide, by decide⟩ (fun _ => ?_) (fun h => absurd h (by decide))
      refine gw_aload_n C 0 dX8_joinOf_40 rfl rfl ?_
      refine gw_iload_n C 1 dX8_joinOf_41 rfl rfl ?_
      refine gw_iload_n C 2 dX8_joinOf_42 rfl rfl ?_
      refine gw_callVm C (as := [vI x1, vI x2]) (st := []) (ci := 7) (T0 := TX8) (N := 10) (c_X8_joinTold hl0 G (up I 231 6 0) J (by rw [show (up I 231 6 0) 232 = I 232 from up_ne (by decide)]; exact ho) x1 x2 (by first | (rw [show (up I 231 6 0) 232 = I 232 from up_ne (by decide)]; omega) | (omega)) (by first | (rw [show (up I 231 6 0) 232 = I 232 from up_ne (by decide)]; omega) | (omega))) dX8_joinOf_43 kX8_150 qX8_joinTold hdX8_joinTold ⟨Nat.le_of_ble_eq_true rfl, Nat.le_of_ble_eq_true rfl⟩ ⟨Nat.le_of_ble_eq_true rfl, Nat.le_of_ble_eq_true rfl⟩ (Nat.le_of_ble_eq_true rfl) rfl xs_231 xn_231 rfl (fun z_43 => ?_)
      rw [show (up I 231 6 0) 232 = I 232 from up_ne (by decide)]
      exact gw_iret C (Nat.le_of_ble_eq_true rfl) (Nat.le_of_ble_eq_true rfl) dX8_joinOf_46 (mr_0 (by unfold kJoinOf; (repeat (first | rw [if_pos (by omega)] | rw [if_neg (by omega)]))) (by rfl))
    · skip
      refine gw_if_eq C (tgt := 29) dX8_joinOf_22 (by decide) ⟨by decide, by decide⟩ (fun _ => ?_) (fun h => absurd h (by decide))
      refine gw_iconst C dX8_joinOf_29 ?_
      refine gw_callVm C (as := [vI 2]) (st := []) (ci := 7) (T0 := TX8) (N := 10) (c_X8_throwsAt hl0 G I J 2 ⟨by decide, by decide⟩) dX8_joinOf_30 kX8_70 qX8_throwsAt hdX8_throwsAt ⟨Nat.le_of_ble_eq_true rfl, Nat.le_of_ble_eq_true rfl⟩ ⟨Nat.le_of_ble_eq_true rfl, Nat.le_of_ble_eq_true rfl⟩ (Nat.le_of_ble_eq_true rfl) rfl xs_231 xn_231 rfl (fun z_30_2 => ?_)
      rw [show (if (0 : Int) < 2 then (1 : Int) else 0) = 1 from by decide]
      refine gw_if_eq C (tgt := 40) dX8_joinOf_33 (by decide) ⟨by decide, by decide⟩ (fun h => absurd h (by decide)) (fun _ => ?_)
      refine gw_iconst C dX8_joinOf_36 ?_
      refine gw_goto C (tgt := 46) dX8_joinOf_37 (by decide) ?_
      exact gw_iret C (Nat.le_of_ble_eq_true rfl) (Nat.le_of_ble_eq_true rfl) dX8_joinOf_46 (mr_1 (by unfold kJoinOf; (repeat (first | rw [if_pos (by omega)] | rw [if_neg (by omega)]))) (by decide))
  · skip
    refine gw_if_ne C (tgt := 13) dX8_joinOf_6 (by decide) ⟨by decide, by decide⟩ (fun h => absurd h (by decide)) (fun _ => ?_)
    refine gw_iconst C dX8_joinOf_9 ?_
    refine gw_goto C (tgt := 30) dX8_joinOf_10 (by decide) ?_
    refine gw_callVm C (as := [vI 1]) (st := []) (ci := 7) (T0 := TX8) (N := 10) (c_X8_throwsAt hl0 G I J 1 ⟨by decide, by decide⟩) dX8_joinOf_30 kX8_70 qX8_throwsAt hdX8_throwsAt ⟨Nat.le_of_ble_eq_true rfl, Nat.le_of_ble_eq_true rfl⟩ ⟨Nat.le_of_ble_eq_true rfl, Nat.le_of_ble_eq_true rfl⟩ (Nat.le_of_ble_eq_true rfl) rfl xs_231 xn_231 rfl (fun z_30_3 => ?_)
    rw [show (if (0 : Int) < 1 then (1 : Int) else 0) = 1 from by decide]
    refine gw_if_eq C (tgt := 40) dX8_joinOf_33 (by decide) ⟨by decide, by decide⟩ (fun h => absurd h (by decide)) (fun _ => ?_)
    refine gw_iconst C dX8_joinOf_36 ?_
    refine gw_goto C (tgt := 46) dX8_joinOf_37 (by decide) ?_
    exact gw_iret C (Nat.le_of_ble_eq_true rfl) (Nat.le_of_ble_eq_true rfl) dX8_joinOf_46 (mr_1 (by unfold kJoinOf; (repeat (first | rw [if_pos (by omega)] | rw [if_neg (by omega)]))) (by decide))
set_option maxHeartbeats 4000000 in
set_option maxRecDepth 100000 in
theorem c_X8_traverse {l : Launch} (hl0 : l.stackTraces = false) (G : GG) (I J : GI) {z : Nat} (ho : Oks (I 232)) (x1 x2 : Int) (hx1 : inI x1) (hx2 : inI x2) : GM l yX8_traverse (.code yX8_traverse cX8_traverse 3 (some .int)) 8 181 0 0 G N0 SH RR [vR 231, vI x1, vI x2] z I J (mrQ (kTrav (I 232) x1 x2) (rTrav (I 232) x1.toNat x2) I J) gNo := by
  refine gm_of (lo0 := [some (vR 231), some (vI x1), some (vI x2)]) hl0 (by decide) rfl (Nat.le_of_ble_eq_true rfl) ?_
  intro p e s m args below meth c C ht hgi
  have C : gC G p l s m args meth c cX8_traverse 3 RX8 (some .int) "traverse" := C
  have h3 := ho.2.1
  have h0 := ho.1
  refine gw_aload_n C 0 dX8_traverse_0 rfl rfl ?_
  refine gw_aload_n C 0 dX8_traverse_1 rfl rfl ?_
  refine gw_iload_n C 1 dX8_traverse_2 rfl rfl ?_
  refine gw_callVb C (as := [vI x1]) (st := [vR 231]) (ci := 7) (T0 := TX8) (N := 10) (c_X8_isTraverse hl0 G I J ho x1 (by first | assumption | omega)) dX8_traverse_3 kX8_155 qX8_isTraverse hdX8_isTraverse ⟨Nat.le_of_ble_eq_true rfl, Nat.le_of_ble_eq_true rfl⟩ ⟨Nat.le_of_ble_eq_true rfl, Nat.le_of_ble_eq_true rfl⟩ (Nat.le_of_ble_eq_true rfl) rfl xs_231 xn_231 rfl (fun h_3 z_3 => ?_) (fun h_3 z_3 => ?_)
  · skip
    refine gw_if_ne C (tgt := 13) dX8_traverse_6 (by decide) ⟨by decide, by decide⟩ (fun _ => ?_) (fun h => absurd h (by decide))
    refine gw_iload_n C 2 dX8_traverse_13 rfl rfl ?_
    refine gw_i2l C dX8_traverse_14 hx2 ?_
    refine gw_lconst C 0 dX8_traverse_15 (by decide) ?_
    refine gw_ldc2 C (x := 9) dX8_traverse_16 kX8_206 (by decide) ?_
    refine gw_callSb C (as := [vL x2, vL 0, vL 9]) (st := [vR 231]) (c_X8_in hl0 G x2 0 9 (by omega) ⟨by decide, by decide⟩ ⟨by decide, by decide⟩) dX8_traverse_19 kX8_62 qX8_in hdX8_in ⟨Nat.le_of_ble_eq_true rfl, Nat.le_of_ble_eq_true rfl⟩ ⟨Nat.le_of_ble_eq_true rfl, Nat.le_of_ble_eq_true rfl⟩ (Nat.le_of_ble_eq_true rfl) rfl (fun h_19 z_19 => ?_) (fun h_19 z_19 => ?_)
    · skip
      refine gw_if_eq C (tgt := 29) dX8_traverse_22 (by decide) ⟨by decide, by decide⟩ (fun h => absurd h (by decide)) (fun _ => ?_)
      refine gw_iconst C dX8_traverse_25 ?_
      refine gw_goto C (tgt := 30) dX8_traverse_26 (by decide) ?_
      refine gw_callVm C (as := [vI 0]) (st := []) (ci := 7) (T0 := TX8) (N := 10) (c_X8_throwsAt hl0 G I J 0 ⟨by decide, by decide⟩) dX8_traverse_30 kX8_70 qX8_throwsAt hdX8_throwsAt ⟨Nat.le_of_ble_eq_true rfl, Nat.le_of_ble_eq_true rfl⟩ ⟨Nat.le_of_ble_eq_true rfl, Nat.le_of_ble_eq_true rfl⟩ (Nat.le_of_ble_eq_true rfl) rfl xs_231 xn_231 rfl (fun z_30 => ?_)
      rw [show (if (0 : Int) < 0 then (1 : Int) else 0) = 0 from by decide]
      refine gw_if_eq C (tgt := 40) dX8_traverse_33 (by decide) ⟨by decide, by decide⟩ (fun _ => ?_) (fun h => absurd h (by decide))
      refine gw_aload_n C 0 dX8_traverse_40 rfl rfl ?_
      refine gw_iload_n C 1 dX8_traverse_41 rfl rfl ?_
      refine gw_iload_n C 2 dX8_traverse_42 rfl rfl ?_
      refine gw_callVm C (as := [vI x1, vI x2]) (st := []) (ci := 7) (T0 := TX8) (N := 10) (c_X8_traverseOf hl0 G (up I 231 6 0) J (by rw [show (up I 231 6 0) 232 = I 232 from up_ne (by decide)]; exact ho) x1 x2 (by first | (rw [show (up I 231 6 0) 232 = I 232 from up_ne (by decide)]; omega) | (omega)) (by first | (rw [show (up I 231 6 0) 232 = I 232 from up_ne (by decide)]; omega) | (omega))) dX8_traverse_43 kX8_208 qX8_traverseOf hdX8_traverseOf ⟨Nat.le_of_ble_eq_true rfl, Nat.le_of_ble_eq_true rfl⟩ ⟨Nat.le_of_ble_eq_true rfl, Nat.le_of_ble_eq_true rfl⟩ (Nat.le_of_ble_eq_true rfl) rfl xs_231 xn_231 rfl (fun z_43 => ?_)
      rw [show (up I 231 6 0) 232 = I 232 from up_ne (by decide)]
      exact gw_iret C (Nat.le_of_ble_eq_true rfl) (Nat.le_of_ble_eq_true rfl) dX8_traverse_46 (mr_0 (by unfold kTrav; (repeat (first | rw [if_pos (by omega)] | rw [if_neg (by omega)]))) (by rfl))
    · skip
      refine gw_if_eq C (tgt := 29) dX8_traverse_22 (by decide) ⟨by decide, by decide⟩ (fun _ => ?_) (fun h => absurd h (by decide))
      refine gw_iconst C dX8_traverse_29 ?_
      refine gw_callVm C (as := [vI 2]) (st := []) (ci := 7) (T0 := TX8) (N := 10) (c_X8_throwsAt hl0 G I J 2 ⟨by decide, by decide⟩) dX8_traverse_30 kX8_70 qX8_throwsAt hdX8_throwsAt ⟨Nat.le_of_ble_eq_true rfl, Nat.le_of_ble_eq_true rfl⟩ ⟨Nat.le_of_ble_eq_true rfl, Nat.le_of_ble_eq_true rfl⟩ (Nat.le_of_ble_eq_true rfl) rfl xs_231 xn_231 rfl (fun z_30_2 => ?_)
      rw [show (if (0 : Int) < 2 then (1 : Int) else 0) = 1 from by decide]
      refine gw_if_eq C (tgt := 40) dX8_traverse_33 (by decide) ⟨by decide, by decide⟩ (fun h => absurd h (by decide)) (fun _ => ?_)
      refine gw_iconst C dX8_traverse_36 ?_
      refine gw_goto C (tgt := 46) dX8_traverse_37 (by decide) ?_
      exact gw_iret C (Nat.le_of_ble_eq_true rfl) (Nat.le_of_ble_eq_true rfl) dX8_traverse_46 (mr_1 (by unfold kTrav; (repeat (first | rw [if_pos (by omega)] | rw [if_neg (by omega)]))) (by decide))
  · skip
    refine gw_if_ne C (tgt := 13) dX8_traverse_6 (by decide) ⟨by decide, by decide⟩ (fun h => absurd h (by decide)) (fun _ => ?_)
    refine gw_iconst C dX8_traverse_9 ?_
    refine gw_goto C (tgt := 30) dX8_traverse_10 (by decide) ?_
    refine gw_callVm C (as := [vI 1]) (st := []) (ci := 7) (T0 := TX8) (N := 10) (c_X8_throwsAt hl0 G I J 1 ⟨by decide, by decide⟩) dX8_traverse_30 kX8_70 qX8_throwsAt hdX8_throwsAt ⟨Nat.le_of_ble_eq_true rfl, Nat.le_of_ble_eq_true rfl⟩ ⟨Nat.le_of_ble_eq_true rfl, Nat.le_of_ble_eq_true rfl⟩ (Nat.le_of_ble_eq_true rfl) rfl xs_231 xn_231 rfl (fun z_30_3 => ?_)
    rw [show (if (0 : Int) < 1 then (1 : Int) else 0) = 1 from by decide]
    refine gw_if_eq C (tgt := 40) dX8_traverse_33 (by decide) ⟨by decide, by decide⟩ (fun h => absurd h (by decide)) (fun _ => ?_)
    refine gw_iconst C dX8_traverse_36 ?_
    refine gw_goto C (tgt := 46) dX8_traverse_37 (by decide) ?_
    exact gw_iret C (Nat.le_of_ble_eq_true rfl) (Nat.le_of_ble_eq_true rfl) dX8_traverse_46 (mr_1 (by unfold kTrav; (repeat (first | rw [if_pos (by omega)] | rw [if_neg (by omega)]))) (by decide))
set_option maxHeartbeats 4000000 in
set_option maxRecDepth 100000 in
theorem c_X8_leg {l : Launch} (hl0 : l.stackTraces = false) (G : GG) (I J : GI) {z : Nat} (ho : Oks (I 232)) (x1 x2 x3 : Int) (hx1 : inI x1) (hx2 : inI x2) (hx3 : inI x3) : GM l yX8_leg (.code yX8_leg cX8_leg 5 (some .int)) 6 143 0 0 G N0 SH RR [vR 231, vI x1, vI x2, vI x3] z I J (mrQ (kLeg (I 232) x1 x2 x3) (rLeg (I 232) x1.toNat x2.toNat x3) I J) gNo := by
  refine gm_of (lo0 := [some (vR 231), some (vI x1), some (vI x2), some (vI x3), none]) hl0 (by decide) rfl (Nat.le_of_ble_eq_true rfl) ?_
  intro p e s m args below meth c C ht hgi
  have C : gC G p l s m args meth c cX8_leg 5 RX8 (some .int) "leg" := C
  have h3 := ho.2.1
  have h0 := ho.1
  refine gw_aload_n C 0 dX8_leg_0 rfl rfl ?_
  refine gw_iload_n C 1 dX8_leg_1 rfl rfl ?_
  refine gw_callVb C (as := [vI x1]) (st := []) (ci := 7) (T0 := TX8) (N := 10) (c_X8_isTraverse hl0 G I J ho x1 (by first | assumption | omega)) dX8_leg_2 kX8_155 qX8_isTraverse hdX8_isTraverse ⟨Nat.le_of_ble_eq_true rfl, Nat.le_of_ble_eq_true rfl⟩ ⟨Nat.le_of_ble_eq_true rfl, Nat.le_of_ble_eq_true rfl⟩ (Nat.le_of_ble_eq_true rfl) rfl xs_231 xn_231 rfl (fun h_2 z_2 => ?_) (fun h_2 z_2 => ?_)
  · skip
    refine gw_if_eq C (tgt := 25) dX8_leg_5 (by decide) ⟨by decide, by decide⟩ (fun h => absurd h (by decide)) (fun _ => ?_)
    refine gw_iload_n C 2 dX8_leg_8 rfl rfl ?_
    refine gw_if_lt C (tgt := 25) dX8_leg_9 (by decide) hx2 (fun h_9 => ?_) (fun h_9 => ?_)
    · skip
      refine gw_iconst C dX8_leg_25 ?_
      refine gw_istore C (lo1 := [some (vR 231), some (vI x1), some (vI x2), some (vI x3), some (vI 0)]) dX8_leg_26 (by decide) rfl ?_
      refine gw_aload_n C 0 dX8_leg_28 rfl rfl ?_
      refine gw_iload C dX8_leg_29 rfl ?_
      refine gw_if_ne C (tgt := 38) dX8_leg_31 (by decide) ⟨by decide, by decide⟩ (fun h => absurd h (by decide)) (fun _ => ?_)
      refine gw_iconst C dX8_leg_34 ?_
      refine gw_goto C (tgt := 55) dX8_leg_35 (by decide) ?_
      refine gw_callVm C (as := [vI 1]) (st := []) (ci := 7) (T0 := TX8) (N := 10) (c_X8_throwsAt hl0 G I J 1 ⟨by decide, by decide⟩) dX8_leg_55 kX8_70 qX8_throwsAt hdX8_throwsAt ⟨Nat.le_of_ble_eq_true rfl, Nat.le_of_ble_eq_true rfl⟩ ⟨Nat.le_of_ble_eq_true rfl, Nat.le_of_ble_eq_true rfl⟩ (Nat.le_of_ble_eq_true rfl) rfl xs_231 xn_231 rfl (fun z_55 => ?_)
      rw [show (if (0 : Int) < 1 then (1 : Int) else 0) = 1 from by decide]
      refine gw_if_eq C (tgt := 65) dX8_leg_58 (by decide) ⟨by decide, by decide⟩ (fun h => absurd h (by decide)) (fun _ => ?_)
      refine gw_iconst C dX8_leg_61 ?_
      refine gw_goto C (tgt := 72) dX8_leg_62 (by decide) ?_
      exact gw_iret C (Nat.le_of_ble_eq_true rfl) (Nat.le_of_ble_eq_true rfl) dX8_leg_72 (mr_1 (by unfold kLeg; (repeat (first | rw [if_pos (by omega)] | rw [if_neg (by omega)]))) (by decide))
    · skip
      refine gw_iload_n C 2 dX8_leg_12 rfl rfl ?_
      refine gw_aload_n C 0 dX8_leg_13 rfl rfl ?_
      refine gw_iload_n C 1 dX8_leg_14 rfl rfl ?_
      refine gw_callVm C (as := [vI x1]) (st := [vI x2]) (ci := 7) (T0 := TX8) (N := 10) (c_X8_legs hl0 G I J ho x1 (by omega)) dX8_leg_15 kX8_77 qX8_legs hdX8_legs ⟨Nat.le_of_ble_eq_true rfl, Nat.le_of_ble_eq_true rfl⟩ ⟨Nat.le_of_ble_eq_true rfl, Nat.le_of_ble_eq_true rfl⟩ (Nat.le_of_ble_eq_true rfl) rfl xs_231 xn_231 rfl (fun z_15 => ?_)
      refine gw_icmp_ge C (tgt := 25) dX8_leg_18 (by decide) hx2 (by first | omega | exact hgi _ _) (fun h_18 => ?_) (fun h_18 => ?_)
      · skip
        refine gw_iconst C dX8_leg_25 ?_
        refine gw_istore C (lo1 := [some (vR 231), some (vI x1), some (vI x2), some (vI x3), some (vI 0)]) dX8_leg_26 (by decide) rfl ?_
        refine gw_aload_n C 0 dX8_leg_28 rfl rfl ?_
        refine gw_iload C dX8_leg_29 rfl ?_
        refine gw_if_ne C (tgt := 38) dX8_leg_31 (by decide) ⟨by decide, by decide⟩ (fun h => absurd h (by decide)) (fun _ => ?_)
        refine gw_iconst C dX8_leg_34 ?_
        refine gw_goto C (tgt := 55) dX8_leg_35 (by decide) ?_
        refine gw_callVm C (as := [vI 1]) (st := []) (ci := 7) (T0 := TX8) (N := 10) (c_X8_throwsAt hl0 G I J 1 ⟨by decide, by decide⟩) dX8_leg_55 kX8_70 qX8_throwsAt hdX8_throwsAt ⟨Nat.le_of_ble_eq_true rfl, Nat.le_of_ble_eq_true rfl⟩ ⟨Nat.le_of_ble_eq_true rfl, Nat.le_of_ble_eq_true rfl⟩ (Nat.le_of_ble_eq_true rfl) rfl xs_231 xn_231 rfl (fun z_55_2 => ?_)
        rw [show (if (0 : Int) < 1 then (1 : Int) else 0) = 1 from by decide]
        refine gw_if_eq C (tgt := 65) dX8_leg_58 (by decide) ⟨by decide, by decide⟩ (fun h => absurd h (by decide)) (fun _ => ?_)
        refine gw_iconst C dX8_leg_61 ?_
        refine gw_goto C (tgt := 72) dX8_leg_62 (by decide) ?_
        exact gw_iret C (Nat.le_of_ble_eq_true rfl) (Nat.le_of_ble_eq_true rfl) dX8_leg_72 (mr_1 (by unfold kLeg; (repeat (first | rw [if_pos (by omega)] | rw [if_neg (by omega)]))) (by decide))
      · skip
        refine gw_iconst C dX8_leg_21 ?_
        refine gw_goto C (tgt := 26) dX8_leg_22 (by decide) ?_
        refine gw_istore C (lo1 := [some (vR 231), some (vI x1), some (vI x2), some (vI x3), some (vI 1)]) dX8_leg_26 (by decide) rfl ?_
        refine gw_aload_n C 0 dX8_leg_28 rfl rfl ?_
        refine gw_iload C dX8_leg_29 rfl ?_
        refine gw_if_ne C (tgt := 38) dX8_leg_31 (by decide) ⟨by decide, by decide⟩ (fun _ => ?_) (fun h => absurd h (by decide))
        refine gw_iload_n C 3 dX8_leg_38 rfl rfl ?_
        refine gw_i2l C dX8_leg_39 hx3 ?_
        refine gw_lconst C 0 dX8_leg_40 (by decide) ?_
        refine gw_ldc2 C (x := 4) dX8_leg_41 kX8_211 (by decide) ?_
        refine gw_callSb C (as := [vL x3, vL 0, vL 4]) (st := [vR 231]) (c_X8_in hl0 G x3 0 4 (by omega) ⟨by decide, by decide⟩ ⟨by decide, by decide⟩) dX8_leg_44 kX8_62 qX8_in hdX8_in ⟨Nat.le_of_ble_eq_true rfl, Nat.le_of_ble_eq_true rfl⟩ ⟨Nat.le_of_ble_eq_true rfl, Nat.le_of_ble_eq_true rfl⟩ (Nat.le_of_ble_eq_true rfl) rfl (fun h_44 z_44 => ?_) (fun h_44 z_44 => ?_)
        · skip
          refine gw_if_eq C (tgt := 54) dX8_leg_47 (by decide) ⟨by decide, by decide⟩ (fun h => absurd h (by decide)) (fun _ => ?_)
          refine gw_iconst C dX8_leg_50 ?_
          refine gw_goto C (tgt := 55) dX8_leg_51 (by decide) ?_
          refine gw_callVm C (as := [vI 0]) (st := []) (ci := 7) (T0 := TX8) (N := 10) (c_X8_throwsAt hl0 G I J 0 ⟨by decide, by decide⟩) dX8_leg_55 kX8_70 qX8_throwsAt hdX8_throwsAt ⟨Nat.le_of_ble_eq_true rfl, Nat.le_of_ble_eq_true rfl⟩ ⟨Nat.le_of_ble_eq_true rfl, Nat.le_of_ble_eq_true rfl⟩ (Nat.le_of_ble_eq_true rfl) rfl xs_231 xn_231 rfl (fun z_55_3 => ?_)
          rw [show (if (0 : Int) < 0 then (1 : Int) else 0) = 0 from by decide]
          refine gw_if_eq C (tgt := 65) dX8_leg_58 (by decide) ⟨by decide, by decide⟩ (fun _ => ?_) (fun h => absurd h (by decide))
          refine gw_aload_n C 0 dX8_leg_65 rfl rfl ?_
          refine gw_iload_n C 1 dX8_leg_66 rfl rfl ?_
          refine gw_iload_n C 2 dX8_leg_67 rfl rfl ?_
          refine gw_iload_n C 3 dX8_leg_68 rfl rfl ?_
          refine gw_callVm C (as := [vI x1, vI x2, vI x3]) (st := []) (ci := 7) (T0 := TX8) (N := 10) (c_X8_legOf hl0 G (up I 231 6 0) J (by rw [show (up I 231 6 0) 232 = I 232 from up_ne (by decide)]; exact ho) x1 x2 x3 (by first | (rw [show (up I 231 6 0) 232 = I 232 from up_ne (by decide)]; omega) | (omega)) (by first | (rw [show (up I 231 6 0) 232 = I 232 from up_ne (by decide)]; omega) | (omega)) (by first | (rw [show (up I 231 6 0) 232 = I 232 from up_ne (by decide)]; omega) | (omega))) dX8_leg_69 kX8_213 qX8_legOf hdX8_legOf ⟨Nat.le_of_ble_eq_true rfl, Nat.le_of_ble_eq_true rfl⟩ ⟨Nat.le_of_ble_eq_true rfl, Nat.le_of_ble_eq_true rfl⟩ (Nat.le_of_ble_eq_true rfl) rfl xs_231 xn_231 rfl (fun z_69 => ?_)
          rw [show (up I 231 6 0) 232 = I 232 from up_ne (by decide)]
          exact gw_iret C (Nat.le_of_ble_eq_true rfl) (Nat.le_of_ble_eq_true rfl) dX8_leg_72 (mr_0 (by unfold kLeg; (repeat (first | rw [if_pos (by omega)] | rw [if_neg (by omega)]))) (by rfl))
        · skip
          refine gw_if_eq C (tgt := 54) dX8_leg_47 (by decide) ⟨by decide, by decide⟩ (fun _ => ?_) (fun h => absurd h (by decide))
          refine gw_iconst C dX8_leg_54 ?_
          refine gw_callVm C (as := [vI 2]) (st := []) (ci := 7) (T0 := TX8) (N := 10) (c_X8_throwsAt hl0 G I J 2 ⟨by decide, by decide⟩) dX8_leg_55 kX8_70 qX8_throwsAt hdX8_throwsAt ⟨Nat.le_of_ble_eq_true rfl, Nat.le_of_ble_eq_true rfl⟩ ⟨Nat.le_of_ble_eq_true rfl, Nat.le_of_ble_eq_true rfl⟩ (Nat.le_of_ble_eq_true rfl) rfl xs_231 xn_231 rfl (fun z_55_4 => ?_)
          rw [show (if (0 : Int) < 2 then (1 : Int) else 0) = 1 from by decide]
          refine gw_if_eq C (tgt := 65) dX8_leg_58 (by decide) ⟨by decide, by decide⟩ (fun h => absurd h (by decide)) (fun _ => ?_)
          refine gw_iconst C dX8_leg_61 ?_
          refine gw_goto C (tgt := 72) dX8_leg_62 (by decide) ?_
          exact gw_iret C (Nat.le_of_ble_eq_true rfl) (Nat.le_of_ble_eq_true rfl) dX8_leg_72 (mr_1 (by unfold kLeg; (repeat (first | rw [if_pos (by omega)] | rw [if_neg (by omega)]))) (by decide))
  · skip
    refine gw_if_eq C (tgt := 25) dX8_leg_5 (by decide) ⟨by decide, by decide⟩ (fun _ => ?_) (fun h => absurd h (by decide))
    refine gw_iconst C dX8_leg_25 ?_
    refine gw_istore C (lo1 := [some (vR 231), some (vI x1), some (vI x2), some (vI x3), some (vI 0)]) dX8_leg_26 (by decide) rfl ?_
    refine gw_aload_n C 0 dX8_leg_28 rfl rfl ?_
    refine gw_iload C dX8_leg_29 rfl ?_
    refine gw_if_ne C (tgt := 38) dX8_leg_31 (by decide) ⟨by decide, by decide⟩ (fun h => absurd h (by decide)) (fun _ => ?_)
    refine gw_iconst C dX8_leg_34 ?_
    refine gw_goto C (tgt := 55) dX8_leg_35 (by decide) ?_
    refine gw_callVm C (as := [vI 1]) (st := []) (ci := 7) (T0 := TX8) (N := 10) (c_X8_throwsAt hl0 G I J 1 ⟨by decide, by decide⟩) dX8_leg_55 kX8_70 qX8_throwsAt hdX8_throwsAt ⟨Nat.le_of_ble_eq_true rfl, Nat.le_of_ble_eq_true rfl⟩ ⟨Nat.le_of_ble_eq_true rfl, Nat.le_of_ble_eq_true rfl⟩ (Nat.le_of_ble_eq_true rfl) rfl xs_231 xn_231 rfl (fun z_55_5 => ?_)
    rw [show (if (0 : Int) < 1 then (1 : Int) else 0) = 1 from by decide]
    refine gw_if_eq C (tgt := 65) dX8_leg_58 (by decide) ⟨by decide, by decide⟩ (fun h => absurd h (by decide)) (fun _ => ?_)
    refine gw_iconst C dX8_leg_61 ?_
    refine gw_goto C (tgt := 72) dX8_leg_62 (by decide) ?_
    exact gw_iret C (Nat.le_of_ble_eq_true rfl) (Nat.le_of_ble_eq_true rfl) dX8_leg_72 (mr_1 (by unfold kLeg; (repeat (first | rw [if_pos (by omega)] | rw [if_neg (by omega)]))) (by decide))
set_option maxHeartbeats 4000000 in
set_option maxRecDepth 100000 in
theorem c_X8_trouble {l : Launch} (hl0 : l.stackTraces = false) (G : GG) (I J : GI) {z : Nat} (ho : Oks (I 232)) (x1 x2 : Int) (hx1 : inI x1) (hx2 : inI x2) : GM l yX8_trouble (.code yX8_trouble cX8_trouble 3 (some .int)) 7 163 0 0 G N0 SH RR [vR 231, vI x1, vI x2] z I J (mrQ (kTrb (I 232) x1) (rTrb (I 232) x1.toNat x2) I J) gNo := by
  refine gm_of (lo0 := [some (vR 231), some (vI x1), some (vI x2)]) hl0 (by decide) rfl (Nat.le_of_ble_eq_true rfl) ?_
  intro p e s m args below meth c C ht hgi
  have C : gC G p l s m args meth c cX8_trouble 3 RX8 (some .int) "trouble" := C
  have h3 := ho.2.1
  have h0 := ho.1
  refine gw_aload_n C 0 dX8_trouble_0 rfl rfl ?_
  refine gw_aload_n C 0 dX8_trouble_1 rfl rfl ?_
  refine gw_iload_n C 1 dX8_trouble_2 rfl rfl ?_
  refine gw_callVb C (as := [vI x1]) (st := [vR 231]) (ci := 7) (T0 := TX8) (N := 10) (c_X8_isTraverse hl0 G I J ho x1 (by first | assumption | omega)) dX8_trouble_3 kX8_155 qX8_isTraverse hdX8_isTraverse ⟨Nat.le_of_ble_eq_true rfl, Nat.le_of_ble_eq_true rfl⟩ ⟨Nat.le_of_ble_eq_true rfl, Nat.le_of_ble_eq_true rfl⟩ (Nat.le_of_ble_eq_true rfl) rfl xs_231 xn_231 rfl (fun h_3 z_3 => ?_) (fun h_3 z_3 => ?_)
  · skip
    refine gw_if_eq C (tgt := 13) dX8_trouble_6 (by decide) ⟨by decide, by decide⟩ (fun h => absurd h (by decide)) (fun _ => ?_)
    refine gw_iconst C dX8_trouble_9 ?_
    refine gw_goto C (tgt := 14) dX8_trouble_10 (by decide) ?_
    refine gw_callVm C (as := [vI 0]) (st := []) (ci := 7) (T0 := TX8) (N := 10) (c_X8_throwsAt hl0 G I J 0 ⟨by decide, by decide⟩) dX8_trouble_14 kX8_70 qX8_throwsAt hdX8_throwsAt ⟨Nat.le_of_ble_eq_true rfl, Nat.le_of_ble_eq_true rfl⟩ ⟨Nat.le_of_ble_eq_true rfl, Nat.le_of_ble_eq_true rfl⟩ (Nat.le_of_ble_eq_true rfl) rfl xs_231 xn_231 rfl (fun z_14 => ?_)
    rw [show (if (0 : Int) < 0 then (1 : Int) else 0) = 0 from by decide]
    refine gw_if_eq C (tgt := 24) dX8_trouble_17 (by decide) ⟨by decide, by decide⟩ (fun _ => ?_) (fun h => absurd h (by decide))
    refine gw_aload_n C 0 dX8_trouble_24 rfl rfl ?_
    refine gw_iload_n C 1 dX8_trouble_25 rfl rfl ?_
    refine gw_iload_n C 2 dX8_trouble_26 rfl rfl ?_
    refine gw_callVm C (as := [vI x1, vI x2]) (st := []) (ci := 7) (T0 := TX8) (N := 10) (c_X8_troubleAt hl0 G (up I 231 6 0) J (by rw [show (up I 231 6 0) 232 = I 232 from up_ne (by decide)]; exact ho) x1 x2 (by first | (rw [show (up I 231 6 0) 232 = I 232 from up_ne (by decide)]; omega) | (omega)) (by first | (rw [show (up I 231 6 0) 232 = I 232 from up_ne (by decide)]; first | assumption | omega) | (first | assumption | omega))) dX8_trouble_27 kX8_217 qX8_troubleAt hdX8_troubleAt ⟨Nat.le_of_ble_eq_true rfl, Nat.le_of_ble_eq_true rfl⟩ ⟨Nat.le_of_ble_eq_true rfl, Nat.le_of_ble_eq_true rfl⟩ (Nat.le_of_ble_eq_true rfl) rfl xs_231 xn_231 rfl (fun z_27 => ?_)
    rw [show (up I 231 6 0) 232 = I 232 from up_ne (by decide)]
    exact gw_iret C (Nat.le_of_ble_eq_true rfl) (Nat.le_of_ble_eq_true rfl) dX8_trouble_30 (mr_0 (by unfold kTrb; (repeat (first | rw [if_pos (by omega)] | rw [if_neg (by omega)]))) (by rfl))
  · skip
    refine gw_if_eq C (tgt := 13) dX8_trouble_6 (by decide) ⟨by decide, by decide⟩ (fun _ => ?_) (fun h => absurd h (by decide))
    refine gw_iconst C dX8_trouble_13 ?_
    refine gw_callVm C (as := [vI 1]) (st := []) (ci := 7) (T0 := TX8) (N := 10) (c_X8_throwsAt hl0 G I J 1 ⟨by decide, by decide⟩) dX8_trouble_14 kX8_70 qX8_throwsAt hdX8_throwsAt ⟨Nat.le_of_ble_eq_true rfl, Nat.le_of_ble_eq_true rfl⟩ ⟨Nat.le_of_ble_eq_true rfl, Nat.le_of_ble_eq_true rfl⟩ (Nat.le_of_ble_eq_true rfl) rfl xs_231 xn_231 rfl (fun z_14_2 => ?_)
    rw [show (if (0 : Int) < 1 then (1 : Int) else 0) = 1 from by decide]
    refine gw_if_eq C (tgt := 24) dX8_trouble_17 (by decide) ⟨by decide, by decide⟩ (fun h => absurd h (by decide)) (fun _ => ?_)
    refine gw_iconst C dX8_trouble_20 ?_
    refine gw_goto C (tgt := 30) dX8_trouble_21 (by decide) ?_
    exact gw_iret C (Nat.le_of_ble_eq_true rfl) (Nat.le_of_ble_eq_true rfl) dX8_trouble_30 (mr_1 (by unfold kTrb; (repeat (first | rw [if_pos (by omega)] | rw [if_neg (by omega)]))) (by decide))
set_option maxHeartbeats 4000000 in
set_option maxRecDepth 100000 in
theorem c_X8_apart {l : Launch} (hl0 : l.stackTraces = false) (G : GG) (I J : GI) {z : Nat} (ho : Oks (I 232)) (x1 x2 : Int) (hx1 : inI x1) (hx2 : inI x2) : GM l yX8_apart (.code yX8_apart cX8_apart 3 (some .int)) 8 180 0 0 G N0 SH RR [vR 231, vI x1, vI x2] z I J (mrQ (kTwo (I 232) x1 x2) (rApart (I 232) x1.toNat x2.toNat) I J) gNo := by
  refine gm_of (lo0 := [some (vR 231), some (vI x1), some (vI x2)]) hl0 (by decide) rfl (Nat.le_of_ble_eq_true rfl) ?_
  intro p e s m args below meth c C ht hgi
  have C : gC G p l s m args meth c cX8_apart 3 RX8 (some .int) "apart" := C
  have h3 := ho.2.1
  have h0 := ho.1
  refine gw_aload_n C 0 dX8_apart_0 rfl rfl ?_
  refine gw_aload_n C 0 dX8_apart_1 rfl rfl ?_
  refine gw_iload_n C 1 dX8_apart_2 rfl rfl ?_
  refine gw_callVb C (as := [vI x1]) (st := [vR 231]) (ci := 7) (T0 := TX8) (N := 10) (c_X8_isTraverse hl0 G I J ho x1 (by first | assumption | omega)) dX8_apart_3 kX8_155 qX8_isTraverse hdX8_isTraverse ⟨Nat.le_of_ble_eq_true rfl, Nat.le_of_ble_eq_true rfl⟩ ⟨Nat.le_of_ble_eq_true rfl, Nat.le_of_ble_eq_true rfl⟩ (Nat.le_of_ble_eq_true rfl) rfl xs_231 xn_231 rfl (fun h_3 z_3 => ?_) (fun h_3 z_3 => ?_)
  · skip
    refine gw_if_eq C (tgt := 21) dX8_apart_6 (by decide) ⟨by decide, by decide⟩ (fun h => absurd h (by decide)) (fun _ => ?_)
    refine gw_aload_n C 0 dX8_apart_9 rfl rfl ?_
    refine gw_iload_n C 2 dX8_apart_10 rfl rfl ?_
    refine gw_callVb C (as := [vI x2]) (st := [vR 231]) (ci := 7) (T0 := TX8) (N := 10) (c_X8_isTraverse hl0 G I J ho x2 (by first | assumption | omega)) dX8_apart_11 kX8_155 qX8_isTraverse hdX8_isTraverse ⟨Nat.le_of_ble_eq_true rfl, Nat.le_of_ble_eq_true rfl⟩ ⟨Nat.le_of_ble_eq_true rfl, Nat.le_of_ble_eq_true rfl⟩ (Nat.le_of_ble_eq_true rfl) rfl xs_231 xn_231 rfl (fun h_11 z_11 => ?_) (fun h_11 z_11 => ?_)
    · skip
      refine gw_if_eq C (tgt := 21) dX8_apart_14 (by decide) ⟨by decide, by decide⟩ (fun h => absurd h (by decide)) (fun _ => ?_)
      refine gw_iconst C dX8_apart_17 ?_
      refine gw_goto C (tgt := 22) dX8_apart_18 (by decide) ?_
      refine gw_callVm C (as := [vI 0]) (st := []) (ci := 7) (T0 := TX8) (N := 10) (c_X8_throwsAt hl0 G I J 0 ⟨by decide, by decide⟩) dX8_apart_22 kX8_70 qX8_throwsAt hdX8_throwsAt ⟨Nat.le_of_ble_eq_true rfl, Nat.le_of_ble_eq_true rfl⟩ ⟨Nat.le_of_ble_eq_true rfl, Nat.le_of_ble_eq_true rfl⟩ (Nat.le_of_ble_eq_true rfl) rfl xs_231 xn_231 rfl (fun z_22 => ?_)
      rw [show (if (0 : Int) < 0 then (1 : Int) else 0) = 0 from by decide]
      refine gw_if_eq C (tgt := 32) dX8_apart_25 (by decide) ⟨by decide, by decide⟩ (fun _ => ?_) (fun h => absurd h (by decide))
      refine gw_aload_n C 0 dX8_apart_32 rfl rfl ?_
      refine gw_iload_n C 1 dX8_apart_33 rfl rfl ?_
      refine gw_iload_n C 2 dX8_apart_34 rfl rfl ?_
      refine gw_callVm C (as := [vI x1, vI x2]) (st := []) (ci := 7) (T0 := TX8) (N := 10) (c_X8_between hl0 G (up I 231 6 0) J (by rw [show (up I 231 6 0) 232 = I 232 from up_ne (by decide)]; exact ho) x1 x2 (by first | (rw [show (up I 231 6 0) 232 = I 232 from up_ne (by decide)]; omega) | (omega)) (by first | (rw [show (up I 231 6 0) 232 = I 232 from up_ne (by decide)]; omega) | (omega))) dX8_apart_35 kX8_223 qX8_between hdX8_between ⟨Nat.le_of_ble_eq_true rfl, Nat.le_of_ble_eq_true rfl⟩ ⟨Nat.le_of_ble_eq_true rfl, Nat.le_of_ble_eq_true rfl⟩ (Nat.le_of_ble_eq_true rfl) rfl xs_231 xn_231 rfl (fun z_35 => ?_)
      rw [show (up I 231 6 0) 232 = I 232 from up_ne (by decide)]
      have hr_35 := @rApart_i _ ((x1).toNat) ((x2).toNat) ho (by omega) (by omega)
      exact gw_iret C (Nat.le_of_ble_eq_true rfl) (Nat.le_of_ble_eq_true rfl) dX8_apart_38 (mr_0 (by unfold kTwo; (repeat (first | rw [if_pos (by omega)] | rw [if_neg (by omega)]))) (by rfl))
    · skip
      refine gw_if_eq C (tgt := 21) dX8_apart_14 (by decide) ⟨by decide, by decide⟩ (fun _ => ?_) (fun h => absurd h (by decide))
      refine gw_iconst C dX8_apart_21 ?_
      refine gw_callVm C (as := [vI 1]) (st := []) (ci := 7) (T0 := TX8) (N := 10) (c_X8_throwsAt hl0 G I J 1 ⟨by decide, by decide⟩) dX8_apart_22 kX8_70 qX8_throwsAt hdX8_throwsAt ⟨Nat.le_of_ble_eq_true rfl, Nat.le_of_ble_eq_true rfl⟩ ⟨Nat.le_of_ble_eq_true rfl, Nat.le_of_ble_eq_true rfl⟩ (Nat.le_of_ble_eq_true rfl) rfl xs_231 xn_231 rfl (fun z_22_2 => ?_)
      rw [show (if (0 : Int) < 1 then (1 : Int) else 0) = 1 from by decide]
      refine gw_if_eq C (tgt := 32) dX8_apart_25 (by decide) ⟨by decide, by decide⟩ (fun h => absurd h (by decide)) (fun _ => ?_)
      refine gw_iconst C dX8_apart_28 ?_
      refine gw_goto C (tgt := 38) dX8_apart_29 (by decide) ?_
      exact gw_iret C (Nat.le_of_ble_eq_true rfl) (Nat.le_of_ble_eq_true rfl) dX8_apart_38 (mr_1 (by unfold kTwo; (repeat (first | rw [if_pos (by omega)] | rw [if_neg (by omega)]))) (by decide))
  · skip
    refine gw_if_eq C (tgt := 21) dX8_apart_6 (by decide) ⟨by decide, by decide⟩ (fun _ => ?_) (fun h => absurd h (by decide))
    refine gw_iconst C dX8_apart_21 ?_
    refine gw_callVm C (as := [vI 1]) (st := []) (ci := 7) (T0 := TX8) (N := 10) (c_X8_throwsAt hl0 G I J 1 ⟨by decide, by decide⟩) dX8_apart_22 kX8_70 qX8_throwsAt hdX8_throwsAt ⟨Nat.le_of_ble_eq_true rfl, Nat.le_of_ble_eq_true rfl⟩ ⟨Nat.le_of_ble_eq_true rfl, Nat.le_of_ble_eq_true rfl⟩ (Nat.le_of_ble_eq_true rfl) rfl xs_231 xn_231 rfl (fun z_22_3 => ?_)
    rw [show (if (0 : Int) < 1 then (1 : Int) else 0) = 1 from by decide]
    refine gw_if_eq C (tgt := 32) dX8_apart_25 (by decide) ⟨by decide, by decide⟩ (fun h => absurd h (by decide)) (fun _ => ?_)
    refine gw_iconst C dX8_apart_28 ?_
    refine gw_goto C (tgt := 38) dX8_apart_29 (by decide) ?_
    exact gw_iret C (Nat.le_of_ble_eq_true rfl) (Nat.le_of_ble_eq_true rfl) dX8_apart_38 (mr_1 (by unfold kTwo; (repeat (first | rw [if_pos (by omega)] | rw [if_neg (by omega)]))) (by decide))
set_option maxHeartbeats 4000000 in
set_option maxRecDepth 100000 in
theorem c_X8_meets {l : Launch} (hl0 : l.stackTraces = false) (G : GG) (I J : GI) {z : Nat} (ho : Oks (I 232)) (x1 x2 : Int) (hx1 : inI x1) (hx2 : inI x2) : GM l yX8_meets (.code yX8_meets cX8_meets 3 (some .boolean)) 8 180 0 0 G N0 SH RR [vR 231, vI x1, vI x2] z I J (mrQ (kTwo (I 232) x1 x2) (rMeets (I 232) x1.toNat x2.toNat) I J) gNo := by
  refine gm_of (lo0 := [some (vR 231), some (vI x1), some (vI x2)]) hl0 (by decide) rfl (Nat.le_of_ble_eq_true rfl) ?_
  intro p e s m args below meth c C ht hgi
  have C : gC G p l s m args meth c cX8_meets 3 RX8 (some .boolean) "meets" := C
  have h3 := ho.2.1
  have h0 := ho.1
  refine gw_aload_n C 0 dX8_meets_0 rfl rfl ?_
  refine gw_aload_n C 0 dX8_meets_1 rfl rfl ?_
  refine gw_iload_n C 1 dX8_meets_2 rfl rfl ?_
  refine gw_callVb C (as := [vI x1]) (st := [vR 231]) (ci := 7) (T0 := TX8) (N := 10) (c_X8_isTraverse hl0 G I J ho x1 (by first | assumption | omega)) dX8_meets_3 kX8_155 qX8_isTraverse hdX8_isTraverse ⟨Nat.le_of_ble_eq_true rfl, Nat.le_of_ble_eq_true rfl⟩ ⟨Nat.le_of_ble_eq_true rfl, Nat.le_of_ble_eq_true rfl⟩ (Nat.le_of_ble_eq_true rfl) rfl xs_231 xn_231 rfl (fun h_3 z_3 => ?_) (fun h_3 z_3 => ?_)
  · skip
    refine gw_if_eq C (tgt := 21) dX8_meets_6 (by decide) ⟨by decide, by decide⟩ (fun h => absurd h (by decide)) (fun _ => ?_)
    refine gw_aload_n C 0 dX8_meets_9 rfl rfl ?_
    refine gw_iload_n C 2 dX8_meets_10 rfl rfl ?_
    refine gw_callVb C (as := [vI x2]) (st := [vR 231]) (ci := 7) (T0 := TX8) (N := 10) (c_X8_isTraverse hl0 G I J ho x2 (by first | assumption | omega)) dX8_meets_11 kX8_155 qX8_isTraverse hdX8_isTraverse ⟨Nat.le_of_ble_eq_true rfl, Nat.le_of_ble_eq_true rfl⟩ ⟨Nat.le_of_ble_eq_true rfl, Nat.le_of_ble_eq_true rfl⟩ (Nat.le_of_ble_eq_true rfl) rfl xs_231 xn_231 rfl (fun h_11 z_11 => ?_) (fun h_11 z_11 => ?_)
    · skip
      refine gw_if_eq C (tgt := 21) dX8_meets_14 (by decide) ⟨by decide, by decide⟩ (fun h => absurd h (by decide)) (fun _ => ?_)
      refine gw_iconst C dX8_meets_17 ?_
      refine gw_goto C (tgt := 22) dX8_meets_18 (by decide) ?_
      refine gw_callVm C (as := [vI 0]) (st := []) (ci := 7) (T0 := TX8) (N := 10) (c_X8_throwsAt hl0 G I J 0 ⟨by decide, by decide⟩) dX8_meets_22 kX8_70 qX8_throwsAt hdX8_throwsAt ⟨Nat.le_of_ble_eq_true rfl, Nat.le_of_ble_eq_true rfl⟩ ⟨Nat.le_of_ble_eq_true rfl, Nat.le_of_ble_eq_true rfl⟩ (Nat.le_of_ble_eq_true rfl) rfl xs_231 xn_231 rfl (fun z_22 => ?_)
      rw [show (if (0 : Int) < 0 then (1 : Int) else 0) = 0 from by decide]
      refine gw_if_eq C (tgt := 30) dX8_meets_25 (by decide) ⟨by decide, by decide⟩ (fun _ => ?_) (fun h => absurd h (by decide))
      refine gw_aload_n C 0 dX8_meets_30 rfl rfl ?_
      refine gw_iload_n C 1 dX8_meets_31 rfl rfl ?_
      refine gw_iload_n C 2 dX8_meets_32 rfl rfl ?_
      refine gw_callVm C (as := [vI x1, vI x2]) (st := []) (ci := 7) (T0 := TX8) (N := 10) (c_X8_between hl0 G (up I 231 6 0) J (by rw [show (up I 231 6 0) 232 = I 232 from up_ne (by decide)]; exact ho) x1 x2 (by first | (rw [show (up I 231 6 0) 232 = I 232 from up_ne (by decide)]; omega) | (omega)) (by first | (rw [show (up I 231 6 0) 232 = I 232 from up_ne (by decide)]; omega) | (omega))) dX8_meets_33 kX8_223 qX8_between hdX8_between ⟨Nat.le_of_ble_eq_true rfl, Nat.le_of_ble_eq_true rfl⟩ ⟨Nat.le_of_ble_eq_true rfl, Nat.le_of_ble_eq_true rfl⟩ (Nat.le_of_ble_eq_true rfl) rfl xs_231 xn_231 rfl (fun z_33 => ?_)
      rw [show (up I 231 6 0) 232 = I 232 from up_ne (by decide)]
      have hr_33 := @rApart_i _ ((x1).toNat) ((x2).toNat) ho (by omega) (by omega)
      refine gw_ldc C (x := (-2000000000)) dX8_meets_36 kX8_105 (by decide) ?_
      refine gw_icmp_eq C (tgt := 60) dX8_meets_38 (by decide) (by first | omega | exact hgi _ _) ⟨by decide, by decide⟩ (fun h_38 => ?_) (fun h_38 => ?_)
      · skip
        refine gw_iconst C dX8_meets_60 ?_
        exact gw_zret C (Nat.le_of_ble_eq_true rfl) (Nat.le_of_ble_eq_true rfl) dX8_meets_61 (Or.inl rfl) (mr_0 (by unfold kTwo; (repeat (first | rw [if_pos (by omega)] | rw [if_neg (by omega)]))) (by unfold rMeets; first | rw [if_pos (by omega)] | rw [if_neg (by omega)]))
      · skip
        refine gw_aload_n C 0 dX8_meets_41 rfl rfl ?_
        refine gw_iload_n C 1 dX8_meets_42 rfl rfl ?_
        refine gw_iload_n C 2 dX8_meets_43 rfl rfl ?_
        refine gw_callVm C (as := [vI x1, vI x2]) (st := []) (ci := 7) (T0 := TX8) (N := 10) (c_X8_between hl0 G (up I 231 6 0) J (by rw [show (up I 231 6 0) 232 = I 232 from up_ne (by decide)]; exact ho) x1 x2 (by first | (rw [show (up I 231 6 0) 232 = I 232 from up_ne (by decide)]; omega) | (omega)) (by first | (rw [show (up I 231 6 0) 232 = I 232 from up_ne (by decide)]; omega) | (omega))) dX8_meets_44 kX8_223 qX8_between hdX8_between ⟨Nat.le_of_ble_eq_true rfl, Nat.le_of_ble_eq_true rfl⟩ ⟨Nat.le_of_ble_eq_true rfl, Nat.le_of_ble_eq_true rfl⟩ (Nat.le_of_ble_eq_true rfl) rfl xs_231 xn_231 rfl (fun z_44 => ?_)
        rw [show (up I 231 6 0) 232 = I 232 from up_ne (by decide)]
        have hr_44 := @rApart_i _ ((x1).toNat) ((x2).toNat) ho (by omega) (by omega)
        refine gw_aload_n C 0 dX8_meets_47 rfl rfl ?_
        refine gw_getRs (ci := 7) (Cn := RX8) (T0 := TX8) (N := 10) C 232 0 kX8_7 fX8 rfl (by decide) rfl rfl dX8_meets_48 xs_231 xn_231 xr_231_0 ?_
        refine gw_iconst C dX8_meets_51 ?_
        refine gw_iald C 2 dX8_meets_52 xs_232 xn_232 (by omega) (by omega) (by decide) (fun hI_52 => ?_)
        rw [show ((up I 231 6 0) 232 2) = I 232 2 from up_nn (by decide)] at hI_52 ⊢
        refine gw_icmp_gt C (tgt := 60) dX8_meets_53 (by decide) (by first | omega | exact hgi _ _) hI_52 (fun h_53 => ?_) (fun h_53 => ?_)
        · skip
          refine gw_iconst C dX8_meets_60 ?_
          exact gw_zret C (Nat.le_of_ble_eq_true rfl) (Nat.le_of_ble_eq_true rfl) dX8_meets_61 (Or.inl rfl) (mr_0 (by unfold kTwo; (repeat (first | rw [if_pos (by omega)] | rw [if_neg (by omega)]))) (by unfold rMeets; first | rw [if_pos (by omega)] | rw [if_neg (by omega)]))
        · skip
          refine gw_iconst C dX8_meets_56 ?_
          refine gw_goto C (tgt := 61) dX8_meets_57 (by decide) ?_
          exact gw_zret C (Nat.le_of_ble_eq_true rfl) (Nat.le_of_ble_eq_true rfl) dX8_meets_61 (Or.inr rfl) (mr_0 (by unfold kTwo; (repeat (first | rw [if_pos (by omega)] | rw [if_neg (by omega)]))) (by unfold rMeets; first | rw [if_pos (by omega)] | rw [if_neg (by omega)]))
    · skip
      refine gw_if_eq C (tgt := 21) dX8_meets_14 (by decide) ⟨by decide, by decide⟩ (fun _ => ?_) (fun h => absurd h (by decide))
      refine gw_iconst C dX8_meets_21 ?_
      refine gw_callVm C (as := [vI 1]) (st := []) (ci := 7) (T0 := TX8) (N := 10) (c_X8_throwsAt hl0 G I J 1 ⟨by decide, by decide⟩) dX8_meets_22 kX8_70 qX8_throwsAt hdX8_throwsAt ⟨Nat.le_of_ble_eq_true rfl, Nat.le_of_ble_eq_true rfl⟩ ⟨Nat.le_of_ble_eq_true rfl, Nat.le_of_ble_eq_true rfl⟩ (Nat.le_of_ble_eq_true rfl) rfl xs_231 xn_231 rfl (fun z_22_2 => ?_)
      rw [show (if (0 : Int) < 1 then (1 : Int) else 0) = 1 from by decide]
      refine gw_if_eq C (tgt := 30) dX8_meets_25 (by decide) ⟨by decide, by decide⟩ (fun h => absurd h (by decide)) (fun _ => ?_)
      refine gw_iconst C dX8_meets_28 ?_
      exact gw_zret C (Nat.le_of_ble_eq_true rfl) (Nat.le_of_ble_eq_true rfl) dX8_meets_29 (Or.inl rfl) (mr_1 (by unfold kTwo; (repeat (first | rw [if_pos (by omega)] | rw [if_neg (by omega)]))) (by decide))
  · skip
    refine gw_if_eq C (tgt := 21) dX8_meets_6 (by decide) ⟨by decide, by decide⟩ (fun _ => ?_) (fun h => absurd h (by decide))
    refine gw_iconst C dX8_meets_21 ?_
    refine gw_callVm C (as := [vI 1]) (st := []) (ci := 7) (T0 := TX8) (N := 10) (c_X8_throwsAt hl0 G I J 1 ⟨by decide, by decide⟩) dX8_meets_22 kX8_70 qX8_throwsAt hdX8_throwsAt ⟨Nat.le_of_ble_eq_true rfl, Nat.le_of_ble_eq_true rfl⟩ ⟨Nat.le_of_ble_eq_true rfl, Nat.le_of_ble_eq_true rfl⟩ (Nat.le_of_ble_eq_true rfl) rfl xs_231 xn_231 rfl (fun z_22_3 => ?_)
    rw [show (if (0 : Int) < 1 then (1 : Int) else 0) = 1 from by decide]
    refine gw_if_eq C (tgt := 30) dX8_meets_25 (by decide) ⟨by decide, by decide⟩ (fun h => absurd h (by decide)) (fun _ => ?_)
    refine gw_iconst C dX8_meets_28 ?_
    exact gw_zret C (Nat.le_of_ble_eq_true rfl) (Nat.le_of_ble_eq_true rfl) dX8_meets_29 (Or.inl rfl) (mr_1 (by unfold kTwo; (repeat (first | rw [if_pos (by omega)] | rw [if_neg (by omega)]))) (by decide))
set_option maxHeartbeats 4000000 in
set_option maxRecDepth 100000 in
theorem c_X8_sine {l : Launch} (hl0 : l.stackTraces = false) (G : GG) (I J : GI) {z : Nat} (ho : Oks (I 232)) (x1 : Int) (hx1 : inI x1) : GM l yX8_sine (.code yX8_sine cX8_sine 2 (some .int)) 2 51 0 0 G N0 SH RR [vR 231, vI x1] z I J (mrQ (kSine x1) (sinZ x1) I J) gNo := by
  refine gm_of (lo0 := [some (vR 231), some (vI x1)]) hl0 (by decide) rfl (Nat.le_of_ble_eq_true rfl) ?_
  intro p e s m args below meth c C ht hgi
  have C : gC G p l s m args meth c cX8_sine 2 RX8 (some .int) "sine" := C
  have h3 := ho.2.1
  have h0 := ho.1
  refine gw_aload_n C 0 dX8_sine_0 rfl rfl ?_
  refine gw_iload_n C 1 dX8_sine_1 rfl rfl ?_
  refine gw_i2l C dX8_sine_2 hx1 ?_
  refine gw_ldc2 C (x := (-10000000)) dX8_sine_3 kX8_226 (by decide) ?_
  refine gw_ldc2 C (x := 10000000) dX8_sine_6 kX8_228 (by decide) ?_
  refine gw_callSb C (as := [vL x1, vL (-10000000), vL 10000000]) (st := [vR 231]) (c_X8_in hl0 G x1 (-10000000) 10000000 (by omega) ⟨by decide, by decide⟩ ⟨by decide, by decide⟩) dX8_sine_9 kX8_62 qX8_in hdX8_in ⟨Nat.le_of_ble_eq_true rfl, Nat.le_of_ble_eq_true rfl⟩ ⟨Nat.le_of_ble_eq_true rfl, Nat.le_of_ble_eq_true rfl⟩ (Nat.le_of_ble_eq_true rfl) rfl (fun h_9 z_9 => ?_) (fun h_9 z_9 => ?_)
  · skip
    refine gw_if_eq C (tgt := 19) dX8_sine_12 (by decide) ⟨by decide, by decide⟩ (fun h => absurd h (by decide)) (fun _ => ?_)
    refine gw_iconst C dX8_sine_15 ?_
    refine gw_goto C (tgt := 20) dX8_sine_16 (by decide) ?_
    refine gw_callVm C (as := [vI 0]) (st := []) (ci := 7) (T0 := TX8) (N := 10) (c_X8_throwsAt hl0 G I J 0 ⟨by decide, by decide⟩) dX8_sine_20 kX8_70 qX8_throwsAt hdX8_throwsAt ⟨Nat.le_of_ble_eq_true rfl, Nat.le_of_ble_eq_true rfl⟩ ⟨Nat.le_of_ble_eq_true rfl, Nat.le_of_ble_eq_true rfl⟩ (Nat.le_of_ble_eq_true rfl) rfl xs_231 xn_231 rfl (fun z_20 => ?_)
    rw [show (if (0 : Int) < 0 then (1 : Int) else 0) = 0 from by decide]
    refine gw_if_eq C (tgt := 30) dX8_sine_23 (by decide) ⟨by decide, by decide⟩ (fun _ => ?_) (fun h => absurd h (by decide))
    refine gw_iload_n C 1 dX8_sine_30 rfl rfl ?_
    refine gw_i2l C dX8_sine_31 hx1 ?_
    refine gw_callSm C (as := [vL x1]) (st := []) (c_X8_sineOf hl0 G x1 (by omega)) dX8_sine_32 kX8_53 qX8_sineOf hdX8_sineOf ⟨Nat.le_of_ble_eq_true rfl, Nat.le_of_ble_eq_true rfl⟩ ⟨Nat.le_of_ble_eq_true rfl, Nat.le_of_ble_eq_true rfl⟩ (Nat.le_of_ble_eq_true rfl) rfl (fun z_32 => ?_)
    have hr_32 := sinZ_b x1
    exact gw_iret C (Nat.le_of_ble_eq_true rfl) (Nat.le_of_ble_eq_true rfl) dX8_sine_35 (mr_0 (by unfold kSine; (repeat (first | rw [if_pos (by omega)] | rw [if_neg (by omega)]))) (by rfl))
  · skip
    refine gw_if_eq C (tgt := 19) dX8_sine_12 (by decide) ⟨by decide, by decide⟩ (fun _ => ?_) (fun h => absurd h (by decide))
    refine gw_iconst C dX8_sine_19 ?_
    refine gw_callVm C (as := [vI 1]) (st := []) (ci := 7) (T0 := TX8) (N := 10) (c_X8_throwsAt hl0 G I J 1 ⟨by decide, by decide⟩) dX8_sine_20 kX8_70 qX8_throwsAt hdX8_throwsAt ⟨Nat.le_of_ble_eq_true rfl, Nat.le_of_ble_eq_true rfl⟩ ⟨Nat.le_of_ble_eq_true rfl, Nat.le_of_ble_eq_true rfl⟩ (Nat.le_of_ble_eq_true rfl) rfl xs_231 xn_231 rfl (fun z_20_2 => ?_)
    rw [show (if (0 : Int) < 1 then (1 : Int) else 0) = 1 from by decide]
    refine gw_if_eq C (tgt := 30) dX8_sine_23 (by decide) ⟨by decide, by decide⟩ (fun h => absurd h (by decide)) (fun _ => ?_)
    refine gw_iconst C dX8_sine_26 ?_
    refine gw_goto C (tgt := 35) dX8_sine_27 (by decide) ?_
    exact gw_iret C (Nat.le_of_ble_eq_true rfl) (Nat.le_of_ble_eq_true rfl) dX8_sine_35 (mr_1 (by unfold kSine; (repeat (first | rw [if_pos (by omega)] | rw [if_neg (by omega)]))) (by decide))
set_option maxHeartbeats 4000000 in
set_option maxRecDepth 100000 in
theorem c_X8_suspect {l : Launch} (hl0 : l.stackTraces = false) (G : GG) (I J : GI) {z : Nat} (ho : Oks (I 232)) (x1 : Int) (hx1 : inI x1) : GM l yX8_suspect (.code yX8_suspect cX8_suspect 2 (some .int)) 8 188 0 0 G N0 SH RR [vR 231, vI x1] z I J (mrQ (kTrb (I 232) x1) (rSus (I 232) x1.toNat) I J) gNo := by
  refine gm_of (lo0 := [some (vR 231), some (vI x1)]) hl0 (by decide) rfl (Nat.le_of_ble_eq_true rfl) ?_
  intro p e s m args below meth c C ht hgi
  have C : gC G p l s m args meth c cX8_suspect 2 RX8 (some .int) "suspect" := C
  have h3 := ho.2.1
  have h0 := ho.1
  refine gw_aload_n C 0 dX8_suspect_0 rfl rfl ?_
  refine gw_aload_n C 0 dX8_suspect_1 rfl rfl ?_
  refine gw_iload_n C 1 dX8_suspect_2 rfl rfl ?_
  refine gw_callVb C (as := [vI x1]) (st := [vR 231]) (ci := 7) (T0 := TX8) (N := 10) (c_X8_isTraverse hl0 G I J ho x1 (by first | assumption | omega)) dX8_suspect_3 kX8_155 qX8_isTraverse hdX8_isTraverse ⟨Nat.le_of_ble_eq_true rfl, Nat.le_of_ble_eq_true rfl⟩ ⟨Nat.le_of_ble_eq_true rfl, Nat.le_of_ble_eq_true rfl⟩ (Nat.le_of_ble_eq_true rfl) rfl xs_231 xn_231 rfl (fun h_3 z_3 => ?_) (fun h_3 z_3 => ?_)
  · skip
    refine gw_if_eq C (tgt := 13) dX8_suspect_6 (by decide) ⟨by decide, by decide⟩ (fun h => absurd h (by decide)) (fun _ => ?_)
    refine gw_iconst C dX8_suspect_9 ?_
    refine gw_goto C (tgt := 14) dX8_suspect_10 (by decide) ?_
    refine gw_callVm C (as := [vI 0]) (st := []) (ci := 7) (T0 := TX8) (N := 10) (c_X8_throwsAt hl0 G I J 0 ⟨by decide, by decide⟩) dX8_suspect_14 kX8_70 qX8_throwsAt hdX8_throwsAt ⟨Nat.le_of_ble_eq_true rfl, Nat.le_of_ble_eq_true rfl⟩ ⟨Nat.le_of_ble_eq_true rfl, Nat.le_of_ble_eq_true rfl⟩ (Nat.le_of_ble_eq_true rfl) rfl xs_231 xn_231 rfl (fun z_14 => ?_)
    rw [show (if (0 : Int) < 0 then (1 : Int) else 0) = 0 from by decide]
    refine gw_if_eq C (tgt := 24) dX8_suspect_17 (by decide) ⟨by decide, by decide⟩ (fun _ => ?_) (fun h => absurd h (by decide))
    refine gw_aload_n C 0 dX8_suspect_24 rfl rfl ?_
    refine gw_iload_n C 1 dX8_suspect_25 rfl rfl ?_
    refine gw_callVm C (as := [vI x1]) (st := []) (ci := 7) (T0 := TX8) (N := 10) (c_X8_suspectOf hl0 G (up I 231 6 0) J (by rw [show (up I 231 6 0) 232 = I 232 from up_ne (by decide)]; exact ho) x1 (by first | (rw [show (up I 231 6 0) 232 = I 232 from up_ne (by decide)]; omega) | (omega))) dX8_suspect_26 kX8_232 qX8_suspectOf hdX8_suspectOf ⟨Nat.le_of_ble_eq_true rfl, Nat.le_of_ble_eq_true rfl⟩ ⟨Nat.le_of_ble_eq_true rfl, Nat.le_of_ble_eq_true rfl⟩ (Nat.le_of_ble_eq_true rfl) rfl xs_231 xn_231 rfl (fun z_26 => ?_)
    rw [show (up I 231 6 0) 232 = I 232 from up_ne (by decide)]
    exact gw_iret C (Nat.le_of_ble_eq_true rfl) (Nat.le_of_ble_eq_true rfl) dX8_suspect_29 (mr_0 (by unfold kTrb; (repeat (first | rw [if_pos (by omega)] | rw [if_neg (by omega)]))) (by rfl))
  · skip
    refine gw_if_eq C (tgt := 13) dX8_suspect_6 (by decide) ⟨by decide, by decide⟩ (fun _ => ?_) (fun h => absurd h (by decide))
    refine gw_iconst C dX8_suspect_13 ?_
    refine gw_callVm C (as := [vI 1]) (st := []) (ci := 7) (T0 := TX8) (N := 10) (c_X8_throwsAt hl0 G I J 1 ⟨by decide, by decide⟩) dX8_suspect_14 kX8_70 qX8_throwsAt hdX8_throwsAt ⟨Nat.le_of_ble_eq_true rfl, Nat.le_of_ble_eq_true rfl⟩ ⟨Nat.le_of_ble_eq_true rfl, Nat.le_of_ble_eq_true rfl⟩ (Nat.le_of_ble_eq_true rfl) rfl xs_231 xn_231 rfl (fun z_14_2 => ?_)
    rw [show (if (0 : Int) < 1 then (1 : Int) else 0) = 1 from by decide]
    refine gw_if_eq C (tgt := 24) dX8_suspect_17 (by decide) ⟨by decide, by decide⟩ (fun h => absurd h (by decide)) (fun _ => ?_)
    refine gw_iconst C dX8_suspect_20 ?_
    refine gw_goto C (tgt := 29) dX8_suspect_21 (by decide) ?_
    exact gw_iret C (Nat.le_of_ble_eq_true rfl) (Nat.le_of_ble_eq_true rfl) dX8_suspect_29 (mr_1 (by unfold kTrb; (repeat (first | rw [if_pos (by omega)] | rw [if_neg (by omega)]))) (by decide))
set_option maxHeartbeats 4000000 in
set_option maxRecDepth 100000 in
theorem c_X8_set {l : Launch} (hl0 : l.stackTraces = false) (G : GG) (I J : GI) {z : Nat} (ho : Oks (I 232)) (hp : 0 ≤ I 231 2 ∧ I 231 2 ≤ 4) (hru : 0 ≤ I 231 3 ∧ I 231 3 ≤ 1) (x1 x2 : Int) (hx1 : inI x1) (hx2 : inI x2) : GM l yX8_set (.code yX8_set cX8_set 5 (some .int)) 1 25 0 0 G N0 SH RR [vR 231, vI x1, vI x2] z I J (mmQ (kSet x1 x2) (I 232 x1.toNat) I J (oSet (I 232) x1.toNat x2)) gNo := by
  refine gm_of (lo0 := [some (vR 231), some (vI x1), some (vI x2), none, none]) hl0 (by decide) rfl (Nat.le_of_ble_eq_true rfl) ?_
  intro p e s m args below meth c C ht hgi
  have C : gC G p l s m args meth c cX8_set 5 RX8 (some .int) "set" := C
  have h3 := ho.2.1
  have h0 := ho.1
  refine gw_iload_n C 1 dX8_set_0 rfl rfl ?_
  refine gw_if_ne C (tgt := 16) dX8_set_1 (by decide) hx1 (fun h_1 => ?_) (fun h_1 => ?_)
  · skip
    refine gw_iload_n C 1 dX8_set_16 rfl rfl ?_
    refine gw_iconst C dX8_set_17 ?_
    refine gw_icmp_ne C (tgt := 33) dX8_set_18 (by decide) hx1 ⟨by decide, by decide⟩ (fun h_18 => ?_) (fun h_18 => ?_)
    · skip
      refine gw_iload_n C 1 dX8_set_33 rfl rfl ?_
      refine gw_iconst C dX8_set_34 ?_
      refine gw_icmp_ne C (tgt := 54) dX8_set_35 (by decide) hx1 ⟨by decide, by decide⟩ (fun h_35 => ?_) (fun h_35 => ?_)
      · skip
        refine gw_iconst C dX8_set_54 ?_
        refine gw_istore_n C (lo1 := [some (vR 231), some (vI x1), some (vI x2), some (vI 0), none]) 3 dX8_set_55 rfl (by decide) rfl ?_
        refine gw_aload_n C 0 dX8_set_56 rfl rfl ?_
        refine gw_iload_n C 3 dX8_set_57 rfl rfl ?_
        refine gw_if_eq C (tgt := 65) dX8_set_58 (by decide) ⟨by decide, by decide⟩ (fun _ => ?_) (fun h => absurd h (by decide))
        refine gw_iconst C dX8_set_65 ?_
        refine gw_callVm C (as := [vI 1]) (st := []) (ci := 7) (T0 := TX8) (N := 10) (c_X8_throwsAt hl0 G I J 1 ⟨by decide, by decide⟩) dX8_set_66 kX8_70 qX8_throwsAt hdX8_throwsAt ⟨Nat.le_of_ble_eq_true rfl, Nat.le_of_ble_eq_true rfl⟩ ⟨Nat.le_of_ble_eq_true rfl, Nat.le_of_ble_eq_true rfl⟩ (Nat.le_of_ble_eq_true rfl) rfl xs_231 xn_231 rfl (fun z_66 => ?_)
        rw [show (if (0 : Int) < 1 then (1 : Int) else 0) = 1 from by decide]
        refine gw_if_eq C (tgt := 74) dX8_set_69 (by decide) ⟨by decide, by decide⟩ (fun h => absurd h (by decide)) (fun _ => ?_)
        refine gw_iconst C dX8_set_72 ?_
        exact gw_iret C (Nat.le_of_ble_eq_true rfl) (Nat.le_of_ble_eq_true rfl) dX8_set_73 (mm_1 (by unfold kSet; (repeat (first | rw [if_pos (by omega)] | rw [if_neg (by omega)]))) (by decide))
      · skip
        refine gw_iload_n C 2 dX8_set_38 rfl rfl ?_
        refine gw_i2l C dX8_set_39 hx2 ?_
        refine gw_lconst C 0 dX8_set_40 (by decide) ?_
        refine gw_ldc2 C (x := 999999) dX8_set_41 kX8_68 (by decide) ?_
        refine gw_callSb C (as := [vL x2, vL 0, vL 999999]) (st := []) (c_X8_in hl0 G x2 0 999999 (by omega) ⟨by decide, by decide⟩ ⟨by decide, by decide⟩) dX8_set_44 kX8_62 qX8_in hdX8_in ⟨Nat.le_of_ble_eq_true rfl, Nat.le_of_ble_eq_true rfl⟩ ⟨Nat.le_of_ble_eq_true rfl, Nat.le_of_ble_eq_true rfl⟩ (Nat.le_of_ble_eq_true rfl) rfl (fun h_44 z_44 => ?_) (fun h_44 z_44 => ?_)
        · skip
          refine gw_if_eq C (tgt := 54) dX8_set_47 (by decide) ⟨by decide, by decide⟩ (fun h => absurd h (by decide)) (fun _ => ?_)
          refine gw_iconst C dX8_set_50 ?_
          refine gw_goto C (tgt := 55) dX8_set_51 (by decide) ?_
          refine gw_istore_n C (lo1 := [some (vR 231), some (vI x1), some (vI x2), some (vI 1), none]) 3 dX8_set_55 rfl (by decide) rfl ?_
          refine gw_aload_n C 0 dX8_set_56 rfl rfl ?_
          refine gw_iload_n C 3 dX8_set_57 rfl rfl ?_
          refine gw_if_eq C (tgt := 65) dX8_set_58 (by decide) ⟨by decide, by decide⟩ (fun h => absurd h (by decide)) (fun _ => ?_)
          refine gw_iconst C dX8_set_61 ?_
          refine gw_goto C (tgt := 66) dX8_set_62 (by decide) ?_
          refine gw_callVm C (as := [vI 0]) (st := []) (ci := 7) (T0 := TX8) (N := 10) (c_X8_throwsAt hl0 G I J 0 ⟨by decide, by decide⟩) dX8_set_66 kX8_70 qX8_throwsAt hdX8_throwsAt ⟨Nat.le_of_ble_eq_true rfl, Nat.le_of_ble_eq_true rfl⟩ ⟨Nat.le_of_ble_eq_true rfl, Nat.le_of_ble_eq_true rfl⟩ (Nat.le_of_ble_eq_true rfl) rfl xs_231 xn_231 rfl (fun z_66_2 => ?_)
          rw [show (if (0 : Int) < 0 then (1 : Int) else 0) = 0 from by decide]
          refine gw_if_eq C (tgt := 74) dX8_set_69 (by decide) ⟨by decide, by decide⟩ (fun _ => ?_) (fun h => absurd h (by decide))
          refine gw_aload_n C 0 dX8_set_74 rfl rfl ?_
          refine gw_callV C (as := []) (st := []) (ci := 7) (T0 := TX8) (N := 10) (c_X8_saves hl0 G (up I 231 6 0) J (by rw [show up I 231 6 0 231 2 = I 231 2 from up_ne2 (by decide)]; exact hp) (by rw [show up I 231 6 0 231 3 = I 231 3 from up_ne2 (by decide)]; exact hru)) dX8_set_75 kX8_74 qX8_saves hdX8_saves ⟨Nat.le_of_ble_eq_true rfl, Nat.le_of_ble_eq_true rfl⟩ ⟨Nat.le_of_ble_eq_true rfl, Nat.le_of_ble_eq_true rfl⟩ (Nat.le_of_ble_eq_true rfl) rfl xs_231 xn_231 rfl (fun _ _ _ _ h => h.elim) ?_
          intro v_75 z_75_2 Ks J_75 hv_75
          obtain ⟨ev_75, hsv, eJ_75⟩ := hv_75
          rw [ev_75, eJ_75]
          have hK232 := sv_232 hsv
          show GW G p l e ({ frames := 1, cells := 0, slots := 0, locals := 25 } : Room) s m args below meth c 5 z_75_2 N0 SH RR Ks J 0 0 (vx_MQ below (GQ G N0 SH RR (mmQ (kSet x1 x2) (I 232 x1.toNat) I J (oSet (I 232) x1.toNat x2))) (GX G N0 SH RR gNo) args s 0 0 (ge G)) 78 [some (vR 231), some (vI x1), some (vI x2), some (vI 1), none] []
          refine gw_aload_n C 0 dX8_set_78 rfl rfl ?_
          refine gw_getRs (ci := 7) (Cn := RX8) (T0 := TX8) (N := 10) C 232 0 kX8_7 fX8 rfl (by decide) rfl rfl dX8_set_79 xs_231 xn_231 xr_231_0 ?_
          refine gw_iload_n C 1 dX8_set_82 rfl rfl ?_
          refine gw_iald C x1.toNat dX8_set_83 xs_232 xn_232 (by omega) (by omega) (by decide) (fun hI_83 => ?_)
          rw [show (Ks 232 x1.toNat) = (I 232 x1.toNat) from by rw [hK232]] at hI_83 ⊢
          refine gw_istore C (lo1 := [some (vR 231), some (vI x1), some (vI x2), some (vI 1), some (vI (I 232 x1.toNat))]) dX8_set_84 (by decide) rfl ?_
          refine gw_aload_n C 0 dX8_set_86 rfl rfl ?_
          refine gw_getRs (ci := 7) (Cn := RX8) (T0 := TX8) (N := 10) C 232 0 kX8_7 fX8 rfl (by decide) rfl rfl dX8_set_87 xs_231 xn_231 xr_231_0 ?_
          refine gw_iload_n C 1 dX8_set_90 rfl rfl ?_
          refine gw_iload_n C 2 dX8_set_91 rfl rfl ?_
          refine gw_iast C x1.toNat dX8_set_92 xs_232 xn_232 (by omega) (by omega) (by decide) hx2 ?_
          refine gw_iload C dX8_set_93 rfl ?_
          exact gw_iret C (Nat.le_of_ble_eq_true rfl) (Nat.le_of_ble_eq_true rfl) dX8_set_95 (mm_0 (by unfold kSet; (repeat (first | rw [if_pos (by omega)] | rw [if_neg (by omega)]))) (by rfl) (md_of hsv (by rw [up_us, hK232]; rfl) (fun q f hq => by (repeat rw [up_ne hq]); try rfl)))
        · skip
          refine gw_if_eq C (tgt := 54) dX8_set_47 (by decide) ⟨by decide, by decide⟩ (fun _ => ?_) (fun h => absurd h (by decide))
          refine gw_iconst C dX8_set_54 ?_
          refine gw_istore_n C (lo1 := [some (vR 231), some (vI x1), some (vI x2), some (vI 0), none]) 3 dX8_set_55 rfl (by decide) rfl ?_
          refine gw_aload_n C 0 dX8_set_56 rfl rfl ?_
          refine gw_iload_n C 3 dX8_set_57 rfl rfl ?_
          refine gw_if_eq C (tgt := 65) dX8_set_58 (by decide) ⟨by decide, by decide⟩ (fun _ => ?_) (fun h => absurd h (by decide))
          refine gw_iconst C dX8_set_65 ?_
          refine gw_callVm C (as := [vI 1]) (st := []) (ci := 7) (T0 := TX8) (N := 10) (c_X8_throwsAt hl0 G I J 1 ⟨by decide, by decide⟩) dX8_set_66 kX8_70 qX8_throwsAt hdX8_throwsAt ⟨Nat.le_of_ble_eq_true rfl, Nat.le_of_ble_eq_true rfl⟩ ⟨Nat.le_of_ble_eq_true rfl, Nat.le_of_ble_eq_true rfl⟩ (Nat.le_of_ble_eq_true rfl) rfl xs_231 xn_231 rfl (fun z_66_3 => ?_)
          rw [show (if (0 : Int) < 1 then (1 : Int) else 0) = 1 from by decide]
          refine gw_if_eq C (tgt := 74) dX8_set_69 (by decide) ⟨by decide, by decide⟩ (fun h => absurd h (by decide)) (fun _ => ?_)
          refine gw_iconst C dX8_set_72 ?_
          exact gw_iret C (Nat.le_of_ble_eq_true rfl) (Nat.le_of_ble_eq_true rfl) dX8_set_73 (mm_1 (by unfold kSet; (repeat (first | rw [if_pos (by omega)] | rw [if_neg (by omega)]))) (by decide))
    · skip
      refine gw_iload_n C 2 dX8_set_21 rfl rfl ?_
      refine gw_i2l C dX8_set_22 hx2 ?_
      refine gw_lconst C 1 dX8_set_23 (by decide) ?_
      refine gw_ldc2 C (x := 600) dX8_set_24 kX8_66 (by decide) ?_
      refine gw_callSb C (as := [vL x2, vL 1, vL 600]) (st := []) (c_X8_in hl0 G x2 1 600 (by omega) ⟨by decide, by decide⟩ ⟨by decide, by decide⟩) dX8_set_27 kX8_62 qX8_in hdX8_in ⟨Nat.le_of_ble_eq_true rfl, Nat.le_of_ble_eq_true rfl⟩ ⟨Nat.le_of_ble_eq_true rfl, Nat.le_of_ble_eq_true rfl⟩ (Nat.le_of_ble_eq_true rfl) rfl (fun h_27 z_27 => ?_) (fun h_27 z_27 => ?_)
      · skip
        refine gw_goto C (tgt := 55) dX8_set_30 (by decide) ?_
        refine gw_istore_n C (lo1 := [some (vR 231), some (vI x1), some (vI x2), some (vI 1), none]) 3 dX8_set_55 rfl (by decide) rfl ?_
        refine gw_aload_n C 0 dX8_set_56 rfl rfl ?_
        refine gw_iload_n C 3 dX8_set_57 rfl rfl ?_
        refine gw_if_eq C (tgt := 65) dX8_set_58 (by decide) ⟨by decide, by decide⟩ (fun h => absurd h (by decide)) (fun _ => ?_)
        refine gw_iconst C dX8_set_61 ?_
        refine gw_goto C (tgt := 66) dX8_set_62 (by decide) ?_
        refine gw_callVm C (as := [vI 0]) (st := []) (ci := 7) (T0 := TX8) (N := 10) (c_X8_throwsAt hl0 G I J 0 ⟨by decide, by decide⟩) dX8_set_66 kX8_70 qX8_throwsAt hdX8_throwsAt ⟨Nat.le_of_ble_eq_true rfl, Nat.le_of_ble_eq_true rfl⟩ ⟨Nat.le_of_ble_eq_true rfl, Nat.le_of_ble_eq_true rfl⟩ (Nat.le_of_ble_eq_true rfl) rfl xs_231 xn_231 rfl (fun z_66_4 => ?_)
        rw [show (if (0 : Int) < 0 then (1 : Int) else 0) = 0 from by decide]
        refine gw_if_eq C (tgt := 74) dX8_set_69 (by decide) ⟨by decide, by decide⟩ (fun _ => ?_) (fun h => absurd h (by decide))
        refine gw_aload_n C 0 dX8_set_74 rfl rfl ?_
        refine gw_callV C (as := []) (st := []) (ci := 7) (T0 := TX8) (N := 10) (c_X8_saves hl0 G (up I 231 6 0) J (by rw [show up I 231 6 0 231 2 = I 231 2 from up_ne2 (by decide)]; exact hp) (by rw [show up I 231 6 0 231 3 = I 231 3 from up_ne2 (by decide)]; exact hru)) dX8_set_75 kX8_74 qX8_saves hdX8_saves ⟨Nat.le_of_ble_eq_true rfl, Nat.le_of_ble_eq_true rfl⟩ ⟨Nat.le_of_ble_eq_true rfl, Nat.le_of_ble_eq_true rfl⟩ (Nat.le_of_ble_eq_true rfl) rfl xs_231 xn_231 rfl (fun _ _ _ _ h => h.elim) ?_
        intro v_75 z_75_4 Ks J_75 hv_75
        obtain ⟨ev_75, hsv, eJ_75⟩ := hv_75
        rw [ev_75, eJ_75]
        have hK232 := sv_232 hsv
        show GW G p l e ({ frames := 1, cells := 0, slots := 0, locals := 25 } : Room) s m args below meth c 5 z_75_4 N0 SH RR Ks J 0 0 (vx_MQ below (GQ G N0 SH RR (mmQ (kSet x1 x2) (I 232 x1.toNat) I J (oSet (I 232) x1.toNat x2))) (GX G N0 SH RR gNo) args s 0 0 (ge G)) 78 [some (vR 231), some (vI x1), some (vI x2), some (vI 1), none] []
        refine gw_aload_n C 0 dX8_set_78 rfl rfl ?_
        refine gw_getRs (ci := 7) (Cn := RX8) (T0 := TX8) (N := 10) C 232 0 kX8_7 fX8 rfl (by decide) rfl rfl dX8_set_79 xs_231 xn_231 xr_231_0 ?_
        refine gw_iload_n C 1 dX8_set_82 rfl rfl ?_
        refine gw_iald C x1.toNat dX8_set_83 xs_232 xn_232 (by omega) (by omega) (by decide) (fun hI_83_2 => ?_)
        rw [show (Ks 232 x1.toNat) = (I 232 x1.toNat) from by rw [hK232]] at hI_83_2 ⊢
        refine gw_istore C (lo1 := [some (vR 231), some (vI x1), some (vI x2), some (vI 1), some (vI (I 232 x1.toNat))]) dX8_set_84 (by decide) rfl ?_
        refine gw_aload_n C 0 dX8_set_86 rfl rfl ?_
        refine gw_getRs (ci := 7) (Cn := RX8) (T0 := TX8) (N := 10) C 232 0 kX8_7 fX8 rfl (by decide) rfl rfl dX8_set_87 xs_231 xn_231 xr_231_0 ?_
        refine gw_iload_n C 1 dX8_set_90 rfl rfl ?_
        refine gw_iload_n C 2 dX8_set_91 rfl rfl ?_
        refine gw_iast C x1.toNat dX8_set_92 xs_232 xn_232 (by omega) (by omega) (by decide) hx2 ?_
        refine gw_iload C dX8_set_93 rfl ?_
        exact gw_iret C (Nat.le_of_ble_eq_true rfl) (Nat.le_of_ble_eq_true rfl) dX8_set_95 (mm_0 (by unfold kSet; (repeat (first | rw [if_pos (by omega)] | rw [if_neg (by omega)]))) (by rfl) (md_of hsv (by rw [up_us, hK232]; rfl) (fun q f hq => by (repeat rw [up_ne hq]); try rfl)))
      · skip
        refine gw_goto C (tgt := 55) dX8_set_30 (by decide) ?_
        refine gw_istore_n C (lo1 := [some (vR 231), some (vI x1), some (vI x2), some (vI 0), none]) 3 dX8_set_55 rfl (by decide) rfl ?_
        refine gw_aload_n C 0 dX8_set_56 rfl rfl ?_
        refine gw_iload_n C 3 dX8_set_57 rfl rfl ?_
        refine gw_if_eq C (tgt := 65) dX8_set_58 (by decide) ⟨by decide, by decide⟩ (fun _ => ?_) (fun h => absurd h (by decide))
        refine gw_iconst C dX8_set_65 ?_
        refine gw_callVm C (as := [vI 1]) (st := []) (ci := 7) (T0 := TX8) (N := 10) (c_X8_throwsAt hl0 G I J 1 ⟨by decide, by decide⟩) dX8_set_66 kX8_70 qX8_throwsAt hdX8_throwsAt ⟨Nat.le_of_ble_eq_true rfl, Nat.le_of_ble_eq_true rfl⟩ ⟨Nat.le_of_ble_eq_true rfl, Nat.le_of_ble_eq_true rfl⟩ (Nat.le_of_ble_eq_true rfl) rfl xs_231 xn_231 rfl (fun z_66_5 => ?_)
        rw [show (if (0 : Int) < 1 then (1 : Int) else 0) = 1 from by decide]
        refine gw_if_eq C (tgt := 74) dX8_set_69 (by decide) ⟨by decide, by decide⟩ (fun h => absurd h (by decide)) (fun _ => ?_)
        refine gw_iconst C dX8_set_72 ?_
        exact gw_iret C (Nat.le_of_ble_eq_true rfl) (Nat.le_of_ble_eq_true rfl) dX8_set_73 (mm_1 (by unfold kSet; (repeat (first | rw [if_pos (by omega)] | rw [if_neg (by omega)]))) (by decide))
  · skip
    refine gw_iload_n C 2 dX8_set_4 rfl rfl ?_
    refine gw_i2l C dX8_set_5 hx2 ?_
    refine gw_lconst C 0 dX8_set_6 (by decide) ?_
    refine gw_ldc2 C (x := 999) dX8_set_7 kX8_60 (by decide) ?_
    refine gw_callSb C (as := [vL x2, vL 0, vL 999]) (st := []) (c_X8_in hl0 G x2 0 999 (by omega) ⟨by decide, by decide⟩ ⟨by decide, by decide⟩) dX8_set_10 kX8_62 qX8_in hdX8_in ⟨Nat.le_of_ble_eq_true rfl, Nat.le_of_ble_eq_true rfl⟩ ⟨Nat.le_of_ble_eq_true rfl, Nat.le_of_ble_eq_true rfl⟩ (Nat.le_of_ble_eq_true rfl) rfl (fun h_10 z_10 => ?_) (fun h_10 z_10 => ?_)
    · skip
      refine gw_goto C (tgt := 55) dX8_set_13 (by decide) ?_
      refine gw_istore_n C (lo1 := [some (vR 231), some (vI x1), some (vI x2), some (vI 1), none]) 3 dX8_set_55 rfl (by decide) rfl ?_
      refine gw_aload_n C 0 dX8_set_56 rfl rfl ?_
      refine gw_iload_n C 3 dX8_set_57 rfl rfl ?_
      refine gw_if_eq C (tgt := 65) dX8_set_58 (by decide) ⟨by decide, by decide⟩ (fun h => absurd h (by decide)) (fun _ => ?_)
      refine gw_iconst C dX8_set_61 ?_
      refine gw_goto C (tgt := 66) dX8_set_62 (by decide) ?_
      refine gw_callVm C (as := [vI 0]) (st := []) (ci := 7) (T0 := TX8) (N := 10) (c_X8_throwsAt hl0 G I J 0 ⟨by decide, by decide⟩) dX8_set_66 kX8_70 qX8_throwsAt hdX8_throwsAt ⟨Nat.le_of_ble_eq_true rfl, Nat.le_of_ble_eq_true rfl⟩ ⟨Nat.le_of_ble_eq_true rfl, Nat.le_of_ble_eq_true rfl⟩ (Nat.le_of_ble_eq_true rfl) rfl xs_231 xn_231 rfl (fun z_66_6 => ?_)
      rw [show (if (0 : Int) < 0 then (1 : Int) else 0) = 0 from by decide]
      refine gw_if_eq C (tgt := 74) dX8_set_69 (by decide) ⟨by decide, by decide⟩ (fun _ => ?_) (fun h => absurd h (by decide))
      refine gw_aload_n C 0 dX8_set_74 rfl rfl ?_
      refine gw_callV C (as := []) (st := []) (ci := 7) (T0 := TX8) (N := 10) (c_X8_saves hl0 G (up I 231 6 0) J (by rw [show up I 231 6 0 231 2 = I 231 2 from up_ne2 (by decide)]; exact hp) (by rw [show up I 231 6 0 231 3 = I 231 3 from up_ne2 (by decide)]; exact hru)) dX8_set_75 kX8_74 qX8_saves hdX8_saves ⟨Nat.le_of_ble_eq_true rfl, Nat.le_of_ble_eq_true rfl⟩ ⟨Nat.le_of_ble_eq_true rfl, Nat.le_of_ble_eq_true rfl⟩ (Nat.le_of_ble_eq_true rfl) rfl xs_231 xn_231 rfl (fun _ _ _ _ h => h.elim) ?_
      intro v_75 z_75_6 Ks J_75 hv_75
      obtain ⟨ev_75, hsv, eJ_75⟩ := hv_75
      rw [ev_75, eJ_75]
      have hK232 := sv_232 hsv
      show GW G p l e ({ frames := 1, cells := 0, slots := 0, locals := 25 } : Room) s m args below meth c 5 z_75_6 N0 SH RR Ks J 0 0 (vx_MQ below (GQ G N0 SH RR (mmQ (kSet x1 x2) (I 232 x1.toNat) I J (oSet (I 232) x1.toNat x2))) (GX G N0 SH RR gNo) args s 0 0 (ge G)) 78 [some (vR 231), some (vI x1), some (vI x2), some (vI 1), none] []
      refine gw_aload_n C 0 dX8_set_78 rfl rfl ?_
      refine gw_getRs (ci := 7) (Cn := RX8) (T0 := TX8) (N := 10) C 232 0 kX8_7 fX8 rfl (by decide) rfl rfl dX8_set_79 xs_231 xn_231 xr_231_0 ?_
      refine gw_iload_n C 1 dX8_set_82 rfl rfl ?_
      refine gw_iald C x1.toNat dX8_set_83 xs_232 xn_232 (by omega) (by omega) (by decide) (fun hI_83_3 => ?_)
      rw [show (Ks 232 x1.toNat) = (I 232 x1.toNat) from by rw [hK232]] at hI_83_3 ⊢
      refine gw_istore C (lo1 := [some (vR 231), some (vI x1), some (vI x2), some (vI 1), some (vI (I 232 x1.toNat))]) dX8_set_84 (by decide) rfl ?_
      refine gw_aload_n C 0 dX8_set_86 rfl rfl ?_
      refine gw_getRs (ci := 7) (Cn := RX8) (T0 := TX8) (N := 10) C 232 0 kX8_7 fX8 rfl (by decide) rfl rfl dX8_set_87 xs_231 xn_231 xr_231_0 ?_
      refine gw_iload_n C 1 dX8_set_90 rfl rfl ?_
      refine gw_iload_n C 2 dX8_set_91 rfl rfl ?_
      refine gw_iast C x1.toNat dX8_set_92 xs_232 xn_232 (by omega) (by omega) (by decide) hx2 ?_
      refine gw_iload C dX8_set_93 rfl ?_
      exact gw_iret C (Nat.le_of_ble_eq_true rfl) (Nat.le_of_ble_eq_true rfl) dX8_set_95 (mm_0 (by unfold kSet; (repeat (first | rw [if_pos (by omega)] | rw [if_neg (by omega)]))) (by rfl) (md_of hsv (by rw [up_us, hK232]; rfl) (fun q f hq => by (repeat rw [up_ne hq]); try rfl)))
    · skip
      refine gw_goto C (tgt := 55) dX8_set_13 (by decide) ?_
      refine gw_istore_n C (lo1 := [some (vR 231), some (vI x1), some (vI x2), some (vI 0), none]) 3 dX8_set_55 rfl (by decide) rfl ?_
      refine gw_aload_n C 0 dX8_set_56 rfl rfl ?_
      refine gw_iload_n C 3 dX8_set_57 rfl rfl ?_
      refine gw_if_eq C (tgt := 65) dX8_set_58 (by decide) ⟨by decide, by decide⟩ (fun _ => ?_) (fun h => absurd h (by decide))
      refine gw_iconst C dX8_set_65 ?_
      refine gw_callVm C (as := [vI 1]) (st := []) (ci := 7) (T0 := TX8) (N := 10) (c_X8_throwsAt hl0 G I J 1 ⟨by decide, by decide⟩) dX8_set_66 kX8_70 qX8_throwsAt hdX8_throwsAt ⟨Nat.le_of_ble_eq_true rfl, Nat.le_of_ble_eq_true rfl⟩ ⟨Nat.le_of_ble_eq_true rfl, Nat.le_of_ble_eq_true rfl⟩ (Nat.le_of_ble_eq_true rfl) rfl xs_231 xn_231 rfl (fun z_66_7 => ?_)
      rw [show (if (0 : Int) < 1 then (1 : Int) else 0) = 1 from by decide]
      refine gw_if_eq C (tgt := 74) dX8_set_69 (by decide) ⟨by decide, by decide⟩ (fun h => absurd h (by decide)) (fun _ => ?_)
      refine gw_iconst C dX8_set_72 ?_
      exact gw_iret C (Nat.le_of_ble_eq_true rfl) (Nat.le_of_ble_eq_true rfl) dX8_set_73 (mm_1 (by unfold kSet; (repeat (first | rw [if_pos (by omega)] | rw [if_neg (by omega)]))) (by decide))
set_option maxHeartbeats 4000000 in
set_option maxRecDepth 100000 in
theorem c_X8_hang {l : Launch} (hl0 : l.stackTraces = false) (G : GG) (I J : GI) {z : Nat} (ho : Oks (I 232)) (hp : 0 ≤ I 231 2 ∧ I 231 2 ≤ 4) (hru : 0 ≤ I 231 3 ∧ I 231 3 ≤ 1) (x1 x2 : Int) (hx1 : inI x1) (hx2 : inI x2) : GM l yX8_hang (.code yX8_hang cX8_hang 4 (some .int)) 2 45 0 0 G N0 SH RR [vR 231, vI x1, vI x2] z I J (mmQ (kHang (I 232) x1 x2) (I 232 3) I J (oHang (I 232) (I 232 3).toNat x1 x2)) gNo := by
  refine gm_of (lo0 := [some (vR 231), some (vI x1), some (vI x2), none]) hl0 (by decide) rfl (Nat.le_of_ble_eq_true rfl) ?_
  intro p e s m args below meth c C ht hgi
  have C : gC G p l s m args meth c cX8_hang 4 RX8 (some .int) "hang" := C
  have h3 := ho.2.1
  have h0 := ho.1
  refine gw_aload_n C 0 dX8_hang_0 rfl rfl ?_
  refine gw_iload_n C 1 dX8_hang_1 rfl rfl ?_
  refine gw_callSb C (as := [vI x1]) (st := [vR 231]) (c_X8_isFar hl0 G x1 hx1) dX8_hang_2 kX8_93 qX8_isFar hdX8_isFar ⟨Nat.le_of_ble_eq_true rfl, Nat.le_of_ble_eq_true rfl⟩ ⟨Nat.le_of_ble_eq_true rfl, Nat.le_of_ble_eq_true rfl⟩ (Nat.le_of_ble_eq_true rfl) rfl (fun h_2 z_2 => ?_) (fun h_2 z_2 => ?_)
  · skip
    refine gw_if_eq C (tgt := 15) dX8_hang_5 (by decide) ⟨by decide, by decide⟩ (fun h => absurd h (by decide)) (fun _ => ?_)
    refine gw_iload_n C 2 dX8_hang_8 rfl rfl ?_
    refine gw_callSb C (as := [vI x2]) (st := [vR 231]) (c_X8_isFar hl0 G x2 hx2) dX8_hang_9 kX8_93 qX8_isFar hdX8_isFar ⟨Nat.le_of_ble_eq_true rfl, Nat.le_of_ble_eq_true rfl⟩ ⟨Nat.le_of_ble_eq_true rfl, Nat.le_of_ble_eq_true rfl⟩ (Nat.le_of_ble_eq_true rfl) rfl (fun h_9 z_9 => ?_) (fun h_9 z_9 => ?_)
    · skip
      refine gw_if_ne C (tgt := 19) dX8_hang_12 (by decide) ⟨by decide, by decide⟩ (fun _ => ?_) (fun h => absurd h (by decide))
      refine gw_aload_n C 0 dX8_hang_19 rfl rfl ?_
      refine gw_getRs (ci := 7) (Cn := RX8) (T0 := TX8) (N := 10) C 232 0 kX8_7 fX8 rfl (by decide) rfl rfl dX8_hang_20 xs_231 xn_231 xr_231_0 ?_
      refine gw_iconst C dX8_hang_23 ?_
      refine gw_iald C 3 dX8_hang_24 xs_232 xn_232 (by omega) (by omega) (by decide) (fun hI_24 => ?_)
      refine gw_bipush C dX8_hang_25 rfl ?_
      refine gw_icmp_ne C (tgt := 34) dX8_hang_27 (by decide) hI_24 ⟨by decide, by decide⟩ (fun h_27 => ?_) (fun h_27 => ?_)
      · skip
        refine gw_iconst C dX8_hang_34 ?_
        refine gw_callVm C (as := [vI 0]) (st := []) (ci := 7) (T0 := TX8) (N := 10) (c_X8_throwsAt hl0 G I J 0 ⟨by decide, by decide⟩) dX8_hang_35 kX8_70 qX8_throwsAt hdX8_throwsAt ⟨Nat.le_of_ble_eq_true rfl, Nat.le_of_ble_eq_true rfl⟩ ⟨Nat.le_of_ble_eq_true rfl, Nat.le_of_ble_eq_true rfl⟩ (Nat.le_of_ble_eq_true rfl) rfl xs_231 xn_231 rfl (fun z_35 => ?_)
        rw [show (if (0 : Int) < 0 then (1 : Int) else 0) = 0 from by decide]
        refine gw_if_eq C (tgt := 43) dX8_hang_38 (by decide) ⟨by decide, by decide⟩ (fun _ => ?_) (fun h => absurd h (by decide))
        refine gw_aload_n C 0 dX8_hang_43 rfl rfl ?_
        refine gw_callV C (as := []) (st := []) (ci := 7) (T0 := TX8) (N := 10) (c_X8_saves hl0 G (up I 231 6 0) J (by rw [show up I 231 6 0 231 2 = I 231 2 from up_ne2 (by decide)]; exact hp) (by rw [show up I 231 6 0 231 3 = I 231 3 from up_ne2 (by decide)]; exact hru)) dX8_hang_44 kX8_74 qX8_saves hdX8_saves ⟨Nat.le_of_ble_eq_true rfl, Nat.le_of_ble_eq_true rfl⟩ ⟨Nat.le_of_ble_eq_true rfl, Nat.le_of_ble_eq_true rfl⟩ (Nat.le_of_ble_eq_true rfl) rfl xs_231 xn_231 rfl (fun _ _ _ _ h => h.elim) ?_
        intro v_44 z_44_2 Ks J_44 hv_44
        obtain ⟨ev_44, hsv, eJ_44⟩ := hv_44
        rw [ev_44, eJ_44]
        have hK232 := sv_232 hsv
        show GW G p l e ({ frames := 2, cells := 0, slots := 0, locals := 45 } : Room) s m args below meth c 4 z_44_2 N0 SH RR Ks J 0 0 (vx_MQ below (GQ G N0 SH RR (mmQ (kHang (I 232) x1 x2) (I 232 3) I J (oHang (I 232) (I 232 3).toNat x1 x2))) (GX G N0 SH RR gNo) args s 0 0 (ge G)) 47 [some (vR 231), some (vI x1), some (vI x2), none] []
        refine gw_bipush C dX8_hang_47 rfl ?_
        refine gw_bipush C dX8_hang_49 rfl ?_
        refine gw_aload_n C 0 dX8_hang_51 rfl rfl ?_
        refine gw_getRs (ci := 7) (Cn := RX8) (T0 := TX8) (N := 10) C 232 0 kX8_7 fX8 rfl (by decide) rfl rfl dX8_hang_52 xs_231 xn_231 xr_231_0 ?_
        refine gw_iconst C dX8_hang_55 ?_
        refine gw_iald C 3 dX8_hang_56 xs_232 xn_232 (by omega) (by omega) (by decide) (fun hI_56 => ?_)
        rw [show (Ks 232 3) = (I 232 3) from by rw [hK232]] at hI_56 ⊢
        refine gw_imul C dX8_hang_57 ?_
        refine gw_iadd C dX8_hang_58 ?_
        refine gw_istore_n C (lo1 := [some (vR 231), some (vI x1), some (vI x2), some (vI (6 + (12 * (I 232 3))))]) 3 dX8_hang_59 rfl (by decide) rfl ?_
        refine gw_aload_n C 0 dX8_hang_60 rfl rfl ?_
        refine gw_getRs (ci := 7) (Cn := RX8) (T0 := TX8) (N := 10) C 232 0 kX8_7 fX8 rfl (by decide) rfl rfl dX8_hang_61 xs_231 xn_231 xr_231_0 ?_
        refine gw_iload_n C 3 dX8_hang_64 rfl rfl ?_
        refine gw_iload_n C 1 dX8_hang_65 rfl rfl ?_
        refine gw_iast C (6 + 12 * (I 232 3).toNat) dX8_hang_66 xs_232 xn_232 (by omega) (by omega) (by decide) hx1 ?_
        refine gw_aload_n C 0 dX8_hang_67 rfl rfl ?_
        refine gw_getRs (ci := 7) (Cn := RX8) (T0 := TX8) (N := 10) C 232 0 kX8_7 fX8 rfl (by decide) rfl rfl dX8_hang_68 xs_231 xn_231 xr_231_0 ?_
        refine gw_iload_n C 3 dX8_hang_71 rfl rfl ?_
        refine gw_iconst C dX8_hang_72 ?_
        refine gw_iadd C dX8_hang_73 ?_
        refine gw_iload_n C 2 dX8_hang_74 rfl rfl ?_
        refine gw_iast C (7 + 12 * (I 232 3).toNat) dX8_hang_75 xs_232 xn_232 (by omega) (by omega) (by decide) hx2 ?_
        refine gw_aload_n C 0 dX8_hang_76 rfl rfl ?_
        refine gw_getRs (ci := 7) (Cn := RX8) (T0 := TX8) (N := 10) C 232 0 kX8_7 fX8 rfl (by decide) rfl rfl dX8_hang_77 xs_231 xn_231 xr_231_0 ?_
        refine gw_iload_n C 3 dX8_hang_80 rfl rfl ?_
        refine gw_iconst C dX8_hang_81 ?_
        refine gw_iadd C dX8_hang_82 ?_
        refine gw_iconst C dX8_hang_83 ?_
        refine gw_iast C (8 + 12 * (I 232 3).toNat) dX8_hang_84 xs_232 xn_232 (by omega) (by omega) (by decide) ⟨by decide, by decide⟩ ?_
        refine gw_aload_n C 0 dX8_hang_85 rfl rfl ?_
        refine gw_getRs (ci := 7) (Cn := RX8) (T0 := TX8) (N := 10) C 232 0 kX8_7 fX8 rfl (by decide) rfl rfl dX8_hang_86 xs_231 xn_231 xr_231_0 ?_
        refine gw_iconst C dX8_hang_89 ?_
        refine gw_dup2IR C dX8_hang_90 ?_
        refine gw_iald C 3 dX8_hang_91 xs_232 xn_232 (by omega) (by omega) (by decide) (fun hI_91 => ?_)
        rw [show ((up (up (up Ks 232 (6 + 12 * (I 232 3).toNat) x1) 232 (7 + 12 * (I 232 3).toNat) x2) 232 (8 + 12 * (I 232 3).toNat) 0) 232 3) = (I 232 3) from by (repeat (first | rw [up_eq] | rw [up_ne (by decide)] | rw [up_ne2 (by first | decide | omega)])); rw [hK232]] at hI_91 ⊢
        refine gw_iconst C dX8_hang_92 ?_
        refine gw_iadd C dX8_hang_93 ?_
        refine gw_iast C 3 dX8_hang_94 xs_232 xn_232 (by omega) (by omega) (by decide) (by first | omega | exact hgi _ _) ?_
        refine gw_aload_n C 0 dX8_hang_95 rfl rfl ?_
        refine gw_getRs (ci := 7) (Cn := RX8) (T0 := TX8) (N := 10) C 232 0 kX8_7 fX8 rfl (by decide) rfl rfl dX8_hang_96 xs_231 xn_231 xr_231_0 ?_
        refine gw_iconst C dX8_hang_99 ?_
        refine gw_iald C 3 dX8_hang_100 xs_232 xn_232 (by omega) (by omega) (by decide) (fun hI_100 => ?_)
        rw [show ((up (up (up (up Ks 232 (6 + 12 * (I 232 3).toNat) x1) 232 (7 + 12 * (I 232 3).toNat) x2) 232 (8 + 12 * (I 232 3).toNat) 0) 232 3 ((I 232 3) + 1)) 232 3) = ((I 232 3) + 1) from by (repeat (first | rw [up_eq] | rw [up_ne (by decide)] | rw [up_ne2 (by first | decide | omega)]))] at hI_100 ⊢
        refine gw_iconst C dX8_hang_101 ?_
        refine gw_isub C dX8_hang_102 ?_
        exact gw_iret C (Nat.le_of_ble_eq_true rfl) (Nat.le_of_ble_eq_true rfl) dX8_hang_103 (mm_0 (by unfold kHang; (repeat (first | rw [if_pos (by omega)] | rw [if_neg (by omega)]))) (by omega) (md_of hsv (by rw [up_us, up_us, up_us, up_us, hK232]; rfl) (fun q f hq => by (repeat rw [up_ne hq]); try rfl)))
      · skip
        refine gw_iconst C dX8_hang_30 ?_
        refine gw_goto C (tgt := 35) dX8_hang_31 (by decide) ?_
        refine gw_callVm C (as := [vI 2]) (st := []) (ci := 7) (T0 := TX8) (N := 10) (c_X8_throwsAt hl0 G I J 2 ⟨by decide, by decide⟩) dX8_hang_35 kX8_70 qX8_throwsAt hdX8_throwsAt ⟨Nat.le_of_ble_eq_true rfl, Nat.le_of_ble_eq_true rfl⟩ ⟨Nat.le_of_ble_eq_true rfl, Nat.le_of_ble_eq_true rfl⟩ (Nat.le_of_ble_eq_true rfl) rfl xs_231 xn_231 rfl (fun z_35_2 => ?_)
        rw [show (if (0 : Int) < 2 then (1 : Int) else 0) = 1 from by decide]
        refine gw_if_eq C (tgt := 43) dX8_hang_38 (by decide) ⟨by decide, by decide⟩ (fun h => absurd h (by decide)) (fun _ => ?_)
        refine gw_iconst C dX8_hang_41 ?_
        exact gw_iret C (Nat.le_of_ble_eq_true rfl) (Nat.le_of_ble_eq_true rfl) dX8_hang_42 (mm_1 (by unfold kHang; (repeat (first | rw [if_pos (by omega)] | rw [if_neg (by omega)]))) (by decide))
    · skip
      refine gw_if_ne C (tgt := 19) dX8_hang_12 (by decide) ⟨by decide, by decide⟩ (fun h => absurd h (by decide)) (fun _ => ?_)
      refine gw_iconst C dX8_hang_15 ?_
      refine gw_goto C (tgt := 35) dX8_hang_16 (by decide) ?_
      refine gw_callVm C (as := [vI 1]) (st := []) (ci := 7) (T0 := TX8) (N := 10) (c_X8_throwsAt hl0 G I J 1 ⟨by decide, by decide⟩) dX8_hang_35 kX8_70 qX8_throwsAt hdX8_throwsAt ⟨Nat.le_of_ble_eq_true rfl, Nat.le_of_ble_eq_true rfl⟩ ⟨Nat.le_of_ble_eq_true rfl, Nat.le_of_ble_eq_true rfl⟩ (Nat.le_of_ble_eq_true rfl) rfl xs_231 xn_231 rfl (fun z_35_3 => ?_)
      rw [show (if (0 : Int) < 1 then (1 : Int) else 0) = 1 from by decide]
      refine gw_if_eq C (tgt := 43) dX8_hang_38 (by decide) ⟨by decide, by decide⟩ (fun h => absurd h (by decide)) (fun _ => ?_)
      refine gw_iconst C dX8_hang_41 ?_
      exact gw_iret C (Nat.le_of_ble_eq_true rfl) (Nat.le_of_ble_eq_true rfl) dX8_hang_42 (mm_1 (by unfold kHang; (repeat (first | rw [if_pos (by omega)] | rw [if_neg (by omega)]))) (by decide))
  · skip
    refine gw_if_eq C (tgt := 15) dX8_hang_5 (by decide) ⟨by decide, by decide⟩ (fun _ => ?_) (fun h => absurd h (by decide))
    refine gw_iconst C dX8_hang_15 ?_
    refine gw_goto C (tgt := 35) dX8_hang_16 (by decide) ?_
    refine gw_callVm C (as := [vI 1]) (st := []) (ci := 7) (T0 := TX8) (N := 10) (c_X8_throwsAt hl0 G I J 1 ⟨by decide, by decide⟩) dX8_hang_35 kX8_70 qX8_throwsAt hdX8_throwsAt ⟨Nat.le_of_ble_eq_true rfl, Nat.le_of_ble_eq_true rfl⟩ ⟨Nat.le_of_ble_eq_true rfl, Nat.le_of_ble_eq_true rfl⟩ (Nat.le_of_ble_eq_true rfl) rfl xs_231 xn_231 rfl (fun z_35_4 => ?_)
    rw [show (if (0 : Int) < 1 then (1 : Int) else 0) = 1 from by decide]
    refine gw_if_eq C (tgt := 43) dX8_hang_38 (by decide) ⟨by decide, by decide⟩ (fun h => absurd h (by decide)) (fun _ => ?_)
    refine gw_iconst C dX8_hang_41 ?_
    exact gw_iret C (Nat.le_of_ble_eq_true rfl) (Nat.le_of_ble_eq_true rfl) dX8_hang_42 (mm_1 (by unfold kHang; (repeat (first | rw [if_pos (by omega)] | rw [if_neg (by omega)]))) (by decide))
set_option maxHeartbeats 4000000 in
set_option maxRecDepth 100000 in
theorem c_X8_swing {l : Launch} (hl0 : l.stackTraces = false) (G : GG) (I J : GI) {z : Nat} (ho : Oks (I 232)) (hp : 0 ≤ I 231 2 ∧ I 231 2 ≤ 4) (hru : 0 ≤ I 231 3 ∧ I 231 3 ≤ 1) (x1 x2 : Int) (hx1 : inI x1) (hx2 : inI x2) : GM l yX8_swing (.code yX8_swing cX8_swing 4 (some .int)) 1 25 0 0 G N0 SH RR [vR 231, vI x1, vI x2] z I J (mmQ (rfT (I 232) x1 x2) (I 232 (8 + 12 * x1.toNat) + 1) I J (oSwing (I 232) x1.toNat (I 232 (8 + 12 * x1.toNat)).toNat x2)) gNo := by
  refine gm_of (lo0 := [some (vR 231), some (vI x1), some (vI x2), none]) hl0 (by decide) rfl (Nat.le_of_ble_eq_true rfl) ?_
  intro p e s m args below meth c C ht hgi
  have C : gC G p l s m args meth c cX8_swing 4 RX8 (some .int) "swing" := C
  have h3 := ho.2.1
  have h0 := ho.1
  have how := fun (h : 0 ≤ x1 ∧ x1 < I 232 3) => okW ho (i := x1.toNat) (by omega)
  refine gw_aload_n C 0 dX8_swing_0 rfl rfl ?_
  refine gw_aload_n C 0 dX8_swing_1 rfl rfl ?_
  refine gw_iload_n C 1 dX8_swing_2 rfl rfl ?_
  refine gw_callVb C (as := [vI x1]) (st := [vR 231]) (ci := 7) (T0 := TX8) (N := 10) (c_X8_isWire hl0 G I J ho x1 (by first | assumption | omega)) dX8_swing_3 kX8_96 qX8_isWire hdX8_isWire ⟨Nat.le_of_ble_eq_true rfl, Nat.le_of_ble_eq_true rfl⟩ ⟨Nat.le_of_ble_eq_true rfl, Nat.le_of_ble_eq_true rfl⟩ (Nat.le_of_ble_eq_true rfl) rfl xs_231 xn_231 rfl (fun h_3 z_3 => ?_) (fun h_3 z_3 => ?_)
  · skip
    refine gw_if_ne C (tgt := 13) dX8_swing_6 (by decide) ⟨by decide, by decide⟩ (fun _ => ?_) (fun h => absurd h (by decide))
    refine gw_iload_n C 2 dX8_swing_13 rfl rfl ?_
    refine gw_i2l C dX8_swing_14 hx2 ?_
    refine gw_lconst C 0 dX8_swing_15 (by decide) ?_
    refine gw_ldc2 C (x := 999) dX8_swing_16 kX8_60 (by decide) ?_
    refine gw_callSb C (as := [vL x2, vL 0, vL 999]) (st := [vR 231]) (c_X8_in hl0 G x2 0 999 (by omega) ⟨by decide, by decide⟩ ⟨by decide, by decide⟩) dX8_swing_19 kX8_62 qX8_in hdX8_in ⟨Nat.le_of_ble_eq_true rfl, Nat.le_of_ble_eq_true rfl⟩ ⟨Nat.le_of_ble_eq_true rfl, Nat.le_of_ble_eq_true rfl⟩ (Nat.le_of_ble_eq_true rfl) rfl (fun h_19 z_19 => ?_) (fun h_19 z_19 => ?_)
    · skip
      refine gw_if_ne C (tgt := 29) dX8_swing_22 (by decide) ⟨by decide, by decide⟩ (fun _ => ?_) (fun h => absurd h (by decide))
      have how_ := how (by omega)
      refine gw_aload_n C 0 dX8_swing_29 rfl rfl ?_
      refine gw_iload_n C 1 dX8_swing_30 rfl rfl ?_
      refine gw_iconst C dX8_swing_31 ?_
      refine gw_callVm C (as := [vI x1, vI 2]) (st := [vR 231]) (ci := 7) (T0 := TX8) (N := 10) (c_X8_ofWire hl0 G I J ho x1 2 (by omega)) dX8_swing_32 kX8_81 qX8_ofWire hdX8_ofWire ⟨Nat.le_of_ble_eq_true rfl, Nat.le_of_ble_eq_true rfl⟩ ⟨Nat.le_of_ble_eq_true rfl, Nat.le_of_ble_eq_true rfl⟩ (Nat.le_of_ble_eq_true rfl) rfl xs_231 xn_231 rfl (fun z_32 => ?_)
      rw [show (2 : Int).toNat = 2 from rfl]
      rw [show I 232 (6 + 12 * ((x1).toNat) + 2) = (I 232 (8 + 12 * ((x1).toNat))) from by first | rfl | (congr 1 <;> omega) | (congr 1; congr 1 <;> omega)]
      refine gw_bipush C dX8_swing_35 rfl ?_
      refine gw_icmp_ne C (tgt := 44) dX8_swing_37 (by decide) (by first | omega | exact hgi _ _) ⟨by decide, by decide⟩ (fun h_37 => ?_) (fun h_37 => ?_)
      · skip
        refine gw_iconst C dX8_swing_44 ?_
        refine gw_callVm C (as := [vI 0]) (st := []) (ci := 7) (T0 := TX8) (N := 10) (c_X8_throwsAt hl0 G I J 0 ⟨by decide, by decide⟩) dX8_swing_45 kX8_70 qX8_throwsAt hdX8_throwsAt ⟨Nat.le_of_ble_eq_true rfl, Nat.le_of_ble_eq_true rfl⟩ ⟨Nat.le_of_ble_eq_true rfl, Nat.le_of_ble_eq_true rfl⟩ (Nat.le_of_ble_eq_true rfl) rfl xs_231 xn_231 rfl (fun z_45 => ?_)
        rw [show (if (0 : Int) < 0 then (1 : Int) else 0) = 0 from by decide]
        refine gw_if_eq C (tgt := 53) dX8_swing_48 (by decide) ⟨by decide, by decide⟩ (fun _ => ?_) (fun h => absurd h (by decide))
        have how_ := how (by omega)
        refine gw_aload_n C 0 dX8_swing_53 rfl rfl ?_
        refine gw_callV C (as := []) (st := []) (ci := 7) (T0 := TX8) (N := 10) (c_X8_saves hl0 G (up I 231 6 0) J (by rw [show up I 231 6 0 231 2 = I 231 2 from up_ne2 (by decide)]; exact hp) (by rw [show up I 231 6 0 231 3 = I 231 3 from up_ne2 (by decide)]; exact hru)) dX8_swing_54 kX8_74 qX8_saves hdX8_saves ⟨Nat.le_of_ble_eq_true rfl, Nat.le_of_ble_eq_true rfl⟩ ⟨Nat.le_of_ble_eq_true rfl, Nat.le_of_ble_eq_true rfl⟩ (Nat.le_of_ble_eq_true rfl) rfl xs_231 xn_231 rfl (fun _ _ _ _ h => h.elim) ?_
        intro v_54 z_54_2 Ks J_54 hv_54
        obtain ⟨ev_54, hsv, eJ_54⟩ := hv_54
        rw [ev_54, eJ_54]
        have hK232 := sv_232 hsv
        show GW G p l e ({ frames := 1, cells := 0, slots := 0, locals := 25 } : Room) s m args below meth c 4 z_54_2 N0 SH RR Ks J 0 0 (vx_MQ below (GQ G N0 SH RR (mmQ (rfT (I 232) x1 x2) (I 232 (8 + 12 * x1.toNat) + 1) I J (oSwing (I 232) x1.toNat (I 232 (8 + 12 * x1.toNat)).toNat x2))) (GX G N0 SH RR gNo) args s 0 0 (ge G)) 57 [some (vR 231), some (vI x1), some (vI x2), none] []
        refine gw_bipush C dX8_swing_57 rfl ?_
        refine gw_bipush C dX8_swing_59 rfl ?_
        refine gw_iload_n C 1 dX8_swing_61 rfl rfl ?_
        refine gw_imul C dX8_swing_62 ?_
        refine gw_iadd C dX8_swing_63 ?_
        refine gw_istore_n C (lo1 := [some (vR 231), some (vI x1), some (vI x2), some (vI (6 + (12 * x1)))]) 3 dX8_swing_64 rfl (by decide) rfl ?_
        refine gw_aload_n C 0 dX8_swing_65 rfl rfl ?_
        refine gw_getRs (ci := 7) (Cn := RX8) (T0 := TX8) (N := 10) C 232 0 kX8_7 fX8 rfl (by decide) rfl rfl dX8_swing_66 xs_231 xn_231 xr_231_0 ?_
        refine gw_iload_n C 3 dX8_swing_69 rfl rfl ?_
        refine gw_iconst C dX8_swing_70 ?_
        refine gw_iadd C dX8_swing_71 ?_
        refine gw_aload_n C 0 dX8_swing_72 rfl rfl ?_
        refine gw_getRs (ci := 7) (Cn := RX8) (T0 := TX8) (N := 10) C 232 0 kX8_7 fX8 rfl (by decide) rfl rfl dX8_swing_73 xs_231 xn_231 xr_231_0 ?_
        refine gw_iload_n C 3 dX8_swing_76 rfl rfl ?_
        refine gw_iconst C dX8_swing_77 ?_
        refine gw_iadd C dX8_swing_78 ?_
        refine gw_iald C (8 + 12 * x1.toNat) dX8_swing_79 xs_232 xn_232 (by omega) (by omega) (by decide) (fun hI_79 => ?_)
        rw [show (Ks 232 (8 + 12 * x1.toNat)) = (I 232 (8 + 12 * x1.toNat)) from by rw [hK232]] at hI_79 ⊢
        refine gw_iadd C dX8_swing_80 ?_
        refine gw_iload_n C 2 dX8_swing_81 rfl rfl ?_
        refine gw_iast C (9 + 12 * x1.toNat + (I 232 (8 + 12 * x1.toNat)).toNat) dX8_swing_82 xs_232 xn_232 (by omega) (by omega) (by decide) hx2 ?_
        refine gw_aload_n C 0 dX8_swing_83 rfl rfl ?_
        refine gw_getRs (ci := 7) (Cn := RX8) (T0 := TX8) (N := 10) C 232 0 kX8_7 fX8 rfl (by decide) rfl rfl dX8_swing_84 xs_231 xn_231 xr_231_0 ?_
        refine gw_iload_n C 3 dX8_swing_87 rfl rfl ?_
        refine gw_iconst C dX8_swing_88 ?_
        refine gw_iadd C dX8_swing_89 ?_
        refine gw_dup2IR C dX8_swing_90 ?_
        refine gw_iald C (8 + 12 * x1.toNat) dX8_swing_91 xs_232 xn_232 (by omega) (by omega) (by decide) (fun hI_91 => ?_)
        rw [show ((up Ks 232 (9 + 12 * x1.toNat + (I 232 (8 + 12 * x1.toNat)).toNat) x2) 232 (8 + 12 * x1.toNat)) = (I 232 (8 + 12 * x1.toNat)) from by (repeat (first | rw [up_eq] | rw [up_ne (by decide)] | rw [up_ne2 (by first | decide | omega)])); rw [hK232]] at hI_91 ⊢
        refine gw_iconst C dX8_swing_92 ?_
        refine gw_iadd C dX8_swing_93 ?_
        refine gw_iast C (8 + 12 * x1.toNat) dX8_swing_94 xs_232 xn_232 (by omega) (by omega) (by decide) (by first | omega | exact hgi _ _) ?_
        refine gw_aload_n C 0 dX8_swing_95 rfl rfl ?_
        refine gw_getRs (ci := 7) (Cn := RX8) (T0 := TX8) (N := 10) C 232 0 kX8_7 fX8 rfl (by decide) rfl rfl dX8_swing_96 xs_231 xn_231 xr_231_0 ?_
        refine gw_iload_n C 3 dX8_swing_99 rfl rfl ?_
        refine gw_iconst C dX8_swing_100 ?_
        refine gw_iadd C dX8_swing_101 ?_
        refine gw_iald C (8 + 12 * x1.toNat) dX8_swing_102 xs_232 xn_232 (by omega) (by omega) (by decide) (fun hI_102 => ?_)
        rw [show ((up (up Ks 232 (9 + 12 * x1.toNat + (I 232 (8 + 12 * x1.toNat)).toNat) x2) 232 (8 + 12 * x1.toNat) ((I 232 (8 + 12 * x1.toNat)) + 1)) 232 (8 + 12 * x1.toNat)) = ((I 232 (8 + 12 * x1.toNat)) + 1) from by (repeat (first | rw [up_eq] | rw [up_ne (by decide)] | rw [up_ne2 (by first | decide | omega)]))] at hI_102 ⊢
        exact gw_iret C (Nat.le_of_ble_eq_true rfl) (Nat.le_of_ble_eq_true rfl) dX8_swing_103 (mm_0 (by unfold rfT; (repeat (first | rw [if_pos (by omega)] | rw [if_neg (by omega)]))) (by rfl) (md_of hsv (by rw [up_us, up_us, hK232]; rfl) (fun q f hq => by (repeat rw [up_ne hq]); try rfl)))
      · skip
        refine gw_iconst C dX8_swing_40 ?_
        refine gw_goto C (tgt := 45) dX8_swing_41 (by decide) ?_
        refine gw_callVm C (as := [vI 3]) (st := []) (ci := 7) (T0 := TX8) (N := 10) (c_X8_throwsAt hl0 G I J 3 ⟨by decide, by decide⟩) dX8_swing_45 kX8_70 qX8_throwsAt hdX8_throwsAt ⟨Nat.le_of_ble_eq_true rfl, Nat.le_of_ble_eq_true rfl⟩ ⟨Nat.le_of_ble_eq_true rfl, Nat.le_of_ble_eq_true rfl⟩ (Nat.le_of_ble_eq_true rfl) rfl xs_231 xn_231 rfl (fun z_45_2 => ?_)
        rw [show (if (0 : Int) < 3 then (1 : Int) else 0) = 1 from by decide]
        refine gw_if_eq C (tgt := 53) dX8_swing_48 (by decide) ⟨by decide, by decide⟩ (fun h => absurd h (by decide)) (fun _ => ?_)
        refine gw_iconst C dX8_swing_51 ?_
        exact gw_iret C (Nat.le_of_ble_eq_true rfl) (Nat.le_of_ble_eq_true rfl) dX8_swing_52 (mm_1 (by unfold rfT; (repeat (first | rw [if_pos (by omega)] | rw [if_neg (by omega)]))) (by decide))
    · skip
      refine gw_if_ne C (tgt := 29) dX8_swing_22 (by decide) ⟨by decide, by decide⟩ (fun h => absurd h (by decide)) (fun _ => ?_)
      refine gw_iconst C dX8_swing_25 ?_
      refine gw_goto C (tgt := 45) dX8_swing_26 (by decide) ?_
      refine gw_callVm C (as := [vI 2]) (st := []) (ci := 7) (T0 := TX8) (N := 10) (c_X8_throwsAt hl0 G I J 2 ⟨by decide, by decide⟩) dX8_swing_45 kX8_70 qX8_throwsAt hdX8_throwsAt ⟨Nat.le_of_ble_eq_true rfl, Nat.le_of_ble_eq_true rfl⟩ ⟨Nat.le_of_ble_eq_true rfl, Nat.le_of_ble_eq_true rfl⟩ (Nat.le_of_ble_eq_true rfl) rfl xs_231 xn_231 rfl (fun z_45_3 => ?_)
      rw [show (if (0 : Int) < 2 then (1 : Int) else 0) = 1 from by decide]
      refine gw_if_eq C (tgt := 53) dX8_swing_48 (by decide) ⟨by decide, by decide⟩ (fun h => absurd h (by decide)) (fun _ => ?_)
      refine gw_iconst C dX8_swing_51 ?_
      exact gw_iret C (Nat.le_of_ble_eq_true rfl) (Nat.le_of_ble_eq_true rfl) dX8_swing_52 (mm_1 (by unfold rfT; (repeat (first | rw [if_pos (by omega)] | rw [if_neg (by omega)]))) (by decide))
  · skip
    refine gw_if_ne C (tgt := 13) dX8_swing_6 (by decide) ⟨by decide, by decide⟩ (fun h => absurd h (by decide)) (fun _ => ?_)
    refine gw_iconst C dX8_swing_9 ?_
    refine gw_goto C (tgt := 45) dX8_swing_10 (by decide) ?_
    refine gw_callVm C (as := [vI 1]) (st := []) (ci := 7) (T0 := TX8) (N := 10) (c_X8_throwsAt hl0 G I J 1 ⟨by decide, by decide⟩) dX8_swing_45 kX8_70 qX8_throwsAt hdX8_throwsAt ⟨Nat.le_of_ble_eq_true rfl, Nat.le_of_ble_eq_true rfl⟩ ⟨Nat.le_of_ble_eq_true rfl, Nat.le_of_ble_eq_true rfl⟩ (Nat.le_of_ble_eq_true rfl) rfl xs_231 xn_231 rfl (fun z_45_4 => ?_)
    rw [show (if (0 : Int) < 1 then (1 : Int) else 0) = 1 from by decide]
    refine gw_if_eq C (tgt := 53) dX8_swing_48 (by decide) ⟨by decide, by decide⟩ (fun h => absurd h (by decide)) (fun _ => ?_)
    refine gw_iconst C dX8_swing_51 ?_
    exact gw_iret C (Nat.le_of_ble_eq_true rfl) (Nat.le_of_ble_eq_true rfl) dX8_swing_52 (mm_1 (by unfold rfT; (repeat (first | rw [if_pos (by omega)] | rw [if_neg (by omega)]))) (by decide))
set_option maxHeartbeats 4000000 in
set_option maxRecDepth 100000 in
theorem c_X8_still {l : Launch} (hl0 : l.stackTraces = false) (G : GG) (I J : GI) {z : Nat} (ho : Oks (I 232)) (hp : 0 ≤ I 231 2 ∧ I 231 2 ≤ 4) (hru : 0 ≤ I 231 3 ∧ I 231 3 ≤ 1) (x1 : Int) (hx1 : inI x1) : GM l yX8_still (.code yX8_still cX8_still 3 (some .int)) 1 22 0 0 G N0 SH RR [vR 231, vI x1] z I J (mmQ (kStill (I 232) x1) (I 232 (8 + 12 * x1.toNat)) I J (oStill (I 232) x1.toNat)) gNo := by
  refine gm_of (lo0 := [some (vR 231), some (vI x1), none]) hl0 (by decide) rfl (Nat.le_of_ble_eq_true rfl) ?_
  intro p e s m args below meth c C ht hgi
  have C : gC G p l s m args meth c cX8_still 3 RX8 (some .int) "still" := C
  have h3 := ho.2.1
  have h0 := ho.1
  refine gw_aload_n C 0 dX8_still_0 rfl rfl ?_
  refine gw_aload_n C 0 dX8_still_1 rfl rfl ?_
  refine gw_iload_n C 1 dX8_still_2 rfl rfl ?_
  refine gw_callVb C (as := [vI x1]) (st := [vR 231]) (ci := 7) (T0 := TX8) (N := 10) (c_X8_isWire hl0 G I J ho x1 (by first | assumption | omega)) dX8_still_3 kX8_96 qX8_isWire hdX8_isWire ⟨Nat.le_of_ble_eq_true rfl, Nat.le_of_ble_eq_true rfl⟩ ⟨Nat.le_of_ble_eq_true rfl, Nat.le_of_ble_eq_true rfl⟩ (Nat.le_of_ble_eq_true rfl) rfl xs_231 xn_231 rfl (fun h_3 z_3 => ?_) (fun h_3 z_3 => ?_)
  · skip
    refine gw_if_eq C (tgt := 13) dX8_still_6 (by decide) ⟨by decide, by decide⟩ (fun h => absurd h (by decide)) (fun _ => ?_)
    refine gw_iconst C dX8_still_9 ?_
    refine gw_goto C (tgt := 14) dX8_still_10 (by decide) ?_
    refine gw_callVm C (as := [vI 0]) (st := []) (ci := 7) (T0 := TX8) (N := 10) (c_X8_throwsAt hl0 G I J 0 ⟨by decide, by decide⟩) dX8_still_14 kX8_70 qX8_throwsAt hdX8_throwsAt ⟨Nat.le_of_ble_eq_true rfl, Nat.le_of_ble_eq_true rfl⟩ ⟨Nat.le_of_ble_eq_true rfl, Nat.le_of_ble_eq_true rfl⟩ (Nat.le_of_ble_eq_true rfl) rfl xs_231 xn_231 rfl (fun z_14 => ?_)
    rw [show (if (0 : Int) < 0 then (1 : Int) else 0) = 0 from by decide]
    refine gw_if_eq C (tgt := 22) dX8_still_17 (by decide) ⟨by decide, by decide⟩ (fun _ => ?_) (fun h => absurd h (by decide))
    refine gw_aload_n C 0 dX8_still_22 rfl rfl ?_
    refine gw_callV C (as := []) (st := []) (ci := 7) (T0 := TX8) (N := 10) (c_X8_saves hl0 G (up I 231 6 0) J (by rw [show up I 231 6 0 231 2 = I 231 2 from up_ne2 (by decide)]; exact hp) (by rw [show up I 231 6 0 231 3 = I 231 3 from up_ne2 (by decide)]; exact hru)) dX8_still_23 kX8_74 qX8_saves hdX8_saves ⟨Nat.le_of_ble_eq_true rfl, Nat.le_of_ble_eq_true rfl⟩ ⟨Nat.le_of_ble_eq_true rfl, Nat.le_of_ble_eq_true rfl⟩ (Nat.le_of_ble_eq_true rfl) rfl xs_231 xn_231 rfl (fun _ _ _ _ h => h.elim) ?_
    intro v_23 z_23_2 Ks J_23 hv_23
    obtain ⟨ev_23, hsv, eJ_23⟩ := hv_23
    rw [ev_23, eJ_23]
    have hK232 := sv_232 hsv
    show GW G p l e ({ frames := 1, cells := 0, slots := 0, locals := 22 } : Room) s m args below meth c 3 z_23_2 N0 SH RR Ks J 0 0 (vx_MQ below (GQ G N0 SH RR (mmQ (kStill (I 232) x1) (I 232 (8 + 12 * x1.toNat)) I J (oStill (I 232) x1.toNat))) (GX G N0 SH RR gNo) args s 0 0 (ge G)) 26 [some (vR 231), some (vI x1), none] []
    refine gw_aload_n C 0 dX8_still_26 rfl rfl ?_
    refine gw_iload_n C 1 dX8_still_27 rfl rfl ?_
    refine gw_iconst C dX8_still_28 ?_
    refine gw_callVm C (as := [vI x1, vI 2]) (st := []) (ci := 7) (T0 := TX8) (N := 10) (c_X8_ofWire hl0 G Ks J (by rw [show Ks 232 = I 232 from hK232]; exact ho) x1 2 (by first | (rw [show Ks 232 = I 232 from hK232]; omega) | (omega))) dX8_still_29 kX8_81 qX8_ofWire hdX8_ofWire ⟨Nat.le_of_ble_eq_true rfl, Nat.le_of_ble_eq_true rfl⟩ ⟨Nat.le_of_ble_eq_true rfl, Nat.le_of_ble_eq_true rfl⟩ (Nat.le_of_ble_eq_true rfl) rfl xs_231 xn_231 rfl (fun z_29 => ?_)
    rw [show (2 : Int).toNat = 2 from rfl]
    rw [show Ks 232 = I 232 from hK232]
    rw [show I 232 (6 + 12 * ((x1).toNat) + 2) = (I 232 (8 + 12 * ((x1).toNat))) from by first | rfl | (congr 1 <;> omega) | (congr 1; congr 1 <;> omega)]
    refine gw_istore_n C (lo1 := [some (vR 231), some (vI x1), some (vI (I 232 (8 + 12 * ((x1).toNat))))]) 2 dX8_still_32 rfl (by decide) rfl ?_
    refine gw_aload_n C 0 dX8_still_33 rfl rfl ?_
    refine gw_getRs (ci := 7) (Cn := RX8) (T0 := TX8) (N := 10) C 232 0 kX8_7 fX8 rfl (by decide) rfl rfl dX8_still_34 xs_231 xn_231 xr_231_0 ?_
    refine gw_bipush C dX8_still_37 rfl ?_
    refine gw_bipush C dX8_still_39 rfl ?_
    refine gw_iload_n C 1 dX8_still_41 rfl rfl ?_
    refine gw_imul C dX8_still_42 ?_
    refine gw_iadd C dX8_still_43 ?_
    refine gw_iconst C dX8_still_44 ?_
    refine gw_iadd C dX8_still_45 ?_
    refine gw_iconst C dX8_still_46 ?_
    refine gw_iast C (8 + 12 * x1.toNat) dX8_still_47 xs_232 xn_232 (by omega) (by omega) (by decide) ⟨by decide, by decide⟩ ?_
    refine gw_iload_n C 2 dX8_still_48 rfl rfl ?_
    exact gw_iret C (Nat.le_of_ble_eq_true rfl) (Nat.le_of_ble_eq_true rfl) dX8_still_49 (mm_0 (by unfold kStill; (repeat (first | rw [if_pos (by omega)] | rw [if_neg (by omega)]))) (by rfl) (md_of hsv (by rw [up_us, hK232]; rfl) (fun q f hq => by (repeat rw [up_ne hq]); try rfl)))
  · skip
    refine gw_if_eq C (tgt := 13) dX8_still_6 (by decide) ⟨by decide, by decide⟩ (fun _ => ?_) (fun h => absurd h (by decide))
    refine gw_iconst C dX8_still_13 ?_
    refine gw_callVm C (as := [vI 1]) (st := []) (ci := 7) (T0 := TX8) (N := 10) (c_X8_throwsAt hl0 G I J 1 ⟨by decide, by decide⟩) dX8_still_14 kX8_70 qX8_throwsAt hdX8_throwsAt ⟨Nat.le_of_ble_eq_true rfl, Nat.le_of_ble_eq_true rfl⟩ ⟨Nat.le_of_ble_eq_true rfl, Nat.le_of_ble_eq_true rfl⟩ (Nat.le_of_ble_eq_true rfl) rfl xs_231 xn_231 rfl (fun z_14_2 => ?_)
    rw [show (if (0 : Int) < 1 then (1 : Int) else 0) = 1 from by decide]
    refine gw_if_eq C (tgt := 22) dX8_still_17 (by decide) ⟨by decide, by decide⟩ (fun h => absurd h (by decide)) (fun _ => ?_)
    refine gw_iconst C dX8_still_20 ?_
    exact gw_iret C (Nat.le_of_ble_eq_true rfl) (Nat.le_of_ble_eq_true rfl) dX8_still_21 (mm_1 (by unfold kStill; (repeat (first | rw [if_pos (by omega)] | rw [if_neg (by omega)]))) (by decide))
set_option maxHeartbeats 4000000 in
set_option maxRecDepth 100000 in
theorem c_X8_join {l : Launch} (hl0 : l.stackTraces = false) (G : GG) (I J : GI) {z : Nat} (ho : Oks (I 232)) (hp : 0 ≤ I 231 2 ∧ I 231 2 ≤ 4) (hru : 0 ≤ I 231 3 ∧ I 231 3 ≤ 1) (x1 x2 x3 x4 x5 x6 : Int) (hx1 : inI x1) (hx2 : inI x2) (hx3 : inI x3) (hx4 : inI x4) (hx5 : inI x5) (hx6 : inI x6) : GM l yX8_join (.code yX8_join cX8_join 9 (some .int)) 2 45 0 0 G N0 SH RR [vR 231, vI x1, vI x2, vI x3, vI x4, vI x5, vI x6] z I J (mmQ (kJoin (I 232) x1 x2 x3 x4 x5 x6) (I 232 4) I J (oJoin (I 232) (I 232 4).toNat x1 x2 x3 x4 x5 x6)) gNo := by
  refine gm_of (lo0 := [some (vR 231), some (vI x1), some (vI x2), some (vI x3), some (vI x4), some (vI x5), some (vI x6), none, none]) hl0 (by decide) rfl (Nat.le_of_ble_eq_true rfl) ?_
  intro p e s m args below meth c C ht hgi
  have C : gC G p l s m args meth c cX8_join 9 RX8 (some .int) "join" := C
  have h3 := ho.2.1
  have h0 := ho.1
  refine gw_iload_n C 1 dX8_join_0 rfl rfl ?_
  refine gw_iload_n C 2 dX8_join_1 rfl rfl ?_
  refine gw_icmp_eq C (tgt := 54) dX8_join_2 (by decide) hx1 hx2 (fun h_2 => ?_) (fun h_2 => ?_)
  · skip
    refine gw_iconst C dX8_join_54 ?_
    refine gw_istore C (lo1 := [some (vR 231), some (vI x1), some (vI x2), some (vI x3), some (vI x4), some (vI x5), some (vI x6), some (vI 0), none]) dX8_join_55 (by decide) rfl ?_
    refine gw_aload_n C 0 dX8_join_57 rfl rfl ?_
    refine gw_aload_n C 0 dX8_join_58 rfl rfl ?_
    refine gw_iload_n C 1 dX8_join_59 rfl rfl ?_
    refine gw_callVb C (as := [vI x1]) (st := [vR 231]) (ci := 7) (T0 := TX8) (N := 10) (c_X8_isWire hl0 G I J ho x1 (by first | assumption | omega)) dX8_join_60 kX8_96 qX8_isWire hdX8_isWire ⟨Nat.le_of_ble_eq_true rfl, Nat.le_of_ble_eq_true rfl⟩ ⟨Nat.le_of_ble_eq_true rfl, Nat.le_of_ble_eq_true rfl⟩ (Nat.le_of_ble_eq_true rfl) rfl xs_231 xn_231 rfl (fun h_60 z_60 => ?_) (fun h_60 z_60 => ?_)
    · skip
      refine gw_if_eq C (tgt := 74) dX8_join_63 (by decide) ⟨by decide, by decide⟩ (fun h => absurd h (by decide)) (fun _ => ?_)
      refine gw_aload_n C 0 dX8_join_66 rfl rfl ?_
      refine gw_iload_n C 2 dX8_join_67 rfl rfl ?_
      refine gw_callVb C (as := [vI x2]) (st := [vR 231]) (ci := 7) (T0 := TX8) (N := 10) (c_X8_isWire hl0 G I J ho x2 (by first | assumption | omega)) dX8_join_68 kX8_96 qX8_isWire hdX8_isWire ⟨Nat.le_of_ble_eq_true rfl, Nat.le_of_ble_eq_true rfl⟩ ⟨Nat.le_of_ble_eq_true rfl, Nat.le_of_ble_eq_true rfl⟩ (Nat.le_of_ble_eq_true rfl) rfl xs_231 xn_231 rfl (fun h_68 z_68 => ?_) (fun h_68 z_68 => ?_)
      · skip
        refine gw_if_ne C (tgt := 78) dX8_join_71 (by decide) ⟨by decide, by decide⟩ (fun _ => ?_) (fun h => absurd h (by decide))
        refine gw_iload C dX8_join_78 rfl ?_
        refine gw_if_ne C (tgt := 87) dX8_join_80 (by decide) ⟨by decide, by decide⟩ (fun h => absurd h (by decide)) (fun _ => ?_)
        refine gw_iconst C dX8_join_83 ?_
        refine gw_goto C (tgt := 102) dX8_join_84 (by decide) ?_
        refine gw_callVm C (as := [vI 2]) (st := []) (ci := 7) (T0 := TX8) (N := 10) (c_X8_throwsAt hl0 G I J 2 ⟨by decide, by decide⟩) dX8_join_102 kX8_70 qX8_throwsAt hdX8_throwsAt ⟨Nat.le_of_ble_eq_true rfl, Nat.le_of_ble_eq_true rfl⟩ ⟨Nat.le_of_ble_eq_true rfl, Nat.le_of_ble_eq_true rfl⟩ (Nat.le_of_ble_eq_true rfl) rfl xs_231 xn_231 rfl (fun z_102 => ?_)
        rw [show (if (0 : Int) < 2 then (1 : Int) else 0) = 1 from by decide]
        refine gw_if_eq C (tgt := 110) dX8_join_105 (by decide) ⟨by decide, by decide⟩ (fun h => absurd h (by decide)) (fun _ => ?_)
        refine gw_iconst C dX8_join_108 ?_
        exact gw_iret C (Nat.le_of_ble_eq_true rfl) (Nat.le_of_ble_eq_true rfl) dX8_join_109 (mm_1 (by unfold kJoin; (repeat (first | rw [if_pos (by omega)] | rw [if_neg (by omega)]))) (by decide))
      · skip
        refine gw_if_ne C (tgt := 78) dX8_join_71 (by decide) ⟨by decide, by decide⟩ (fun h => absurd h (by decide)) (fun _ => ?_)
        refine gw_iconst C dX8_join_74 ?_
        refine gw_goto C (tgt := 102) dX8_join_75 (by decide) ?_
        refine gw_callVm C (as := [vI 1]) (st := []) (ci := 7) (T0 := TX8) (N := 10) (c_X8_throwsAt hl0 G I J 1 ⟨by decide, by decide⟩) dX8_join_102 kX8_70 qX8_throwsAt hdX8_throwsAt ⟨Nat.le_of_ble_eq_true rfl, Nat.le_of_ble_eq_true rfl⟩ ⟨Nat.le_of_ble_eq_true rfl, Nat.le_of_ble_eq_true rfl⟩ (Nat.le_of_ble_eq_true rfl) rfl xs_231 xn_231 rfl (fun z_102_2 => ?_)
        rw [show (if (0 : Int) < 1 then (1 : Int) else 0) = 1 from by decide]
        refine gw_if_eq C (tgt := 110) dX8_join_105 (by decide) ⟨by decide, by decide⟩ (fun h => absurd h (by decide)) (fun _ => ?_)
        refine gw_iconst C dX8_join_108 ?_
        exact gw_iret C (Nat.le_of_ble_eq_true rfl) (Nat.le_of_ble_eq_true rfl) dX8_join_109 (mm_1 (by unfold kJoin; (repeat (first | rw [if_pos (by omega)] | rw [if_neg (by omega)]))) (by decide))
    · skip
      refine gw_if_eq C (tgt := 74) dX8_join_63 (by decide) ⟨by decide, by decide⟩ (fun _ => ?_) (fun h => absurd h (by decide))
      refine gw_iconst C dX8_join_74 ?_
      refine gw_goto C (tgt := 102) dX8_join_75 (by decide) ?_
      refine gw_callVm C (as := [vI 1]) (st := []) (ci := 7) (T0 := TX8) (N := 10) (c_X8_throwsAt hl0 G I J 1 ⟨by decide, by decide⟩) dX8_join_102 kX8_70 qX8_throwsAt hdX8_throwsAt ⟨Nat.le_of_ble_eq_true rfl, Nat.le_of_ble_eq_true rfl⟩ ⟨Nat.le_of_ble_eq_true rfl, Nat.le_of_ble_eq_true rfl⟩ (Nat.le_of_ble_eq_true rfl) rfl xs_231 xn_231 rfl (fun z_102_3 => ?_)
      rw [show (if (0 : Int) < 1 then (1 : Int) else 0) = 1 from by decide]
      refine gw_if_eq C (tgt := 110) dX8_join_105 (by decide) ⟨by decide, by decide⟩ (fun h => absurd h (by decide)) (fun _ => ?_)
      refine gw_iconst C dX8_join_108 ?_
      exact gw_iret C (Nat.le_of_ble_eq_true rfl) (Nat.le_of_ble_eq_true rfl) dX8_join_109 (mm_1 (by unfold kJoin; (repeat (first | rw [if_pos (by omega)] | rw [if_neg (by omega)]))) (by decide))
  · skip
    refine gw_iload_n C 3 dX8_join_5 rfl rfl ?_
    refine gw_callSb C (as := [vI x3]) (st := []) (c_X8_isAngle hl0 G x3 hx3) dX8_join_6 kX8_123 qX8_isAngle hdX8_isAngle ⟨Nat.le_of_ble_eq_true rfl, Nat.le_of_ble_eq_true rfl⟩ ⟨Nat.le_of_ble_eq_true rfl, Nat.le_of_ble_eq_true rfl⟩ (Nat.le_of_ble_eq_true rfl) rfl (fun h_6 z_6 => ?_) (fun h_6 z_6 => ?_)
    · skip
      refine gw_if_eq C (tgt := 54) dX8_join_9 (by decide) ⟨by decide, by decide⟩ (fun h => absurd h (by decide)) (fun _ => ?_)
      refine gw_iload C dX8_join_12 rfl ?_
      refine gw_i2l C dX8_join_14 hx4 ?_
      refine gw_ldc2 C (x := 100) dX8_join_15 kX8_126 (by decide) ?_
      refine gw_ldc2 C (x := 20000) dX8_join_18 kX8_128 (by decide) ?_
      refine gw_callSb C (as := [vL x4, vL 100, vL 20000]) (st := []) (c_X8_in hl0 G x4 100 20000 (by omega) ⟨by decide, by decide⟩ ⟨by decide, by decide⟩) dX8_join_21 kX8_62 qX8_in hdX8_in ⟨Nat.le_of_ble_eq_true rfl, Nat.le_of_ble_eq_true rfl⟩ ⟨Nat.le_of_ble_eq_true rfl, Nat.le_of_ble_eq_true rfl⟩ (Nat.le_of_ble_eq_true rfl) rfl (fun h_21 z_21 => ?_) (fun h_21 z_21 => ?_)
      · skip
        refine gw_if_eq C (tgt := 54) dX8_join_24 (by decide) ⟨by decide, by decide⟩ (fun h => absurd h (by decide)) (fun _ => ?_)
        refine gw_iload C dX8_join_27 rfl ?_
        refine gw_i2l C dX8_join_29 hx5 ?_
        refine gw_ldc2 C (x := 100) dX8_join_30 kX8_126 (by decide) ?_
        refine gw_ldc2 C (x := 50000) dX8_join_33 kX8_130 (by decide) ?_
        refine gw_callSb C (as := [vL x5, vL 100, vL 50000]) (st := []) (c_X8_in hl0 G x5 100 50000 (by omega) ⟨by decide, by decide⟩ ⟨by decide, by decide⟩) dX8_join_36 kX8_62 qX8_in hdX8_in ⟨Nat.le_of_ble_eq_true rfl, Nat.le_of_ble_eq_true rfl⟩ ⟨Nat.le_of_ble_eq_true rfl, Nat.le_of_ble_eq_true rfl⟩ (Nat.le_of_ble_eq_true rfl) rfl (fun h_36 z_36 => ?_) (fun h_36 z_36 => ?_)
        · skip
          refine gw_if_eq C (tgt := 54) dX8_join_39 (by decide) ⟨by decide, by decide⟩ (fun h => absurd h (by decide)) (fun _ => ?_)
          refine gw_iload C dX8_join_42 rfl ?_
          refine gw_callSb C (as := [vI x6]) (st := []) (c_X8_isSmall hl0 G x6 hx6) dX8_join_44 kX8_132 qX8_isSmall hdX8_isSmall ⟨Nat.le_of_ble_eq_true rfl, Nat.le_of_ble_eq_true rfl⟩ ⟨Nat.le_of_ble_eq_true rfl, Nat.le_of_ble_eq_true rfl⟩ (Nat.le_of_ble_eq_true rfl) rfl (fun h_44 z_44 => ?_) (fun h_44 z_44 => ?_)
          · skip
            refine gw_if_eq C (tgt := 54) dX8_join_47 (by decide) ⟨by decide, by decide⟩ (fun h => absurd h (by decide)) (fun _ => ?_)
            refine gw_iconst C dX8_join_50 ?_
            refine gw_goto C (tgt := 55) dX8_join_51 (by decide) ?_
            refine gw_istore C (lo1 := [some (vR 231), some (vI x1), some (vI x2), some (vI x3), some (vI x4), some (vI x5), some (vI x6), some (vI 1), none]) dX8_join_55 (by decide) rfl ?_
            refine gw_aload_n C 0 dX8_join_57 rfl rfl ?_
            refine gw_aload_n C 0 dX8_join_58 rfl rfl ?_
            refine gw_iload_n C 1 dX8_join_59 rfl rfl ?_
            refine gw_callVb C (as := [vI x1]) (st := [vR 231]) (ci := 7) (T0 := TX8) (N := 10) (c_X8_isWire hl0 G I J ho x1 (by first | assumption | omega)) dX8_join_60 kX8_96 qX8_isWire hdX8_isWire ⟨Nat.le_of_ble_eq_true rfl, Nat.le_of_ble_eq_true rfl⟩ ⟨Nat.le_of_ble_eq_true rfl, Nat.le_of_ble_eq_true rfl⟩ (Nat.le_of_ble_eq_true rfl) rfl xs_231 xn_231 rfl (fun h_60_2 z_60_2 => ?_) (fun h_60_2 z_60_2 => ?_)
            · skip
              refine gw_if_eq C (tgt := 74) dX8_join_63 (by decide) ⟨by decide, by decide⟩ (fun h => absurd h (by decide)) (fun _ => ?_)
              refine gw_aload_n C 0 dX8_join_66 rfl rfl ?_
              refine gw_iload_n C 2 dX8_join_67 rfl rfl ?_
              refine gw_callVb C (as := [vI x2]) (st := [vR 231]) (ci := 7) (T0 := TX8) (N := 10) (c_X8_isWire hl0 G I J ho x2 (by first | assumption | omega)) dX8_join_68 kX8_96 qX8_isWire hdX8_isWire ⟨Nat.le_of_ble_eq_true rfl, Nat.le_of_ble_eq_true rfl⟩ ⟨Nat.le_of_ble_eq_true rfl, Nat.le_of_ble_eq_true rfl⟩ (Nat.le_of_ble_eq_true rfl) rfl xs_231 xn_231 rfl (fun h_68_2 z_68_2 => ?_) (fun h_68_2 z_68_2 => ?_)
              · skip
                refine gw_if_ne C (tgt := 78) dX8_join_71 (by decide) ⟨by decide, by decide⟩ (fun _ => ?_) (fun h => absurd h (by decide))
                refine gw_iload C dX8_join_78 rfl ?_
                refine gw_if_ne C (tgt := 87) dX8_join_80 (by decide) ⟨by decide, by decide⟩ (fun _ => ?_) (fun h => absurd h (by decide))
                refine gw_aload_n C 0 dX8_join_87 rfl rfl ?_
                refine gw_getRs (ci := 7) (Cn := RX8) (T0 := TX8) (N := 10) C 232 0 kX8_7 fX8 rfl (by decide) rfl rfl dX8_join_88 xs_231 xn_231 xr_231_0 ?_
                refine gw_iconst C dX8_join_91 ?_
                refine gw_iald C 4 dX8_join_92 xs_232 xn_232 (by omega) (by omega) (by decide) (fun hI_92 => ?_)
                refine gw_iconst C dX8_join_93 ?_
                refine gw_icmp_ne C (tgt := 101) dX8_join_94 (by decide) hI_92 ⟨by decide, by decide⟩ (fun h_94 => ?_) (fun h_94 => ?_)
                · skip
                  refine gw_iconst C dX8_join_101 ?_
                  refine gw_callVm C (as := [vI 0]) (st := []) (ci := 7) (T0 := TX8) (N := 10) (c_X8_throwsAt hl0 G I J 0 ⟨by decide, by decide⟩) dX8_join_102 kX8_70 qX8_throwsAt hdX8_throwsAt ⟨Nat.le_of_ble_eq_true rfl, Nat.le_of_ble_eq_true rfl⟩ ⟨Nat.le_of_ble_eq_true rfl, Nat.le_of_ble_eq_true rfl⟩ (Nat.le_of_ble_eq_true rfl) rfl xs_231 xn_231 rfl (fun z_102_4 => ?_)
                  rw [show (if (0 : Int) < 0 then (1 : Int) else 0) = 0 from by decide]
                  refine gw_if_eq C (tgt := 110) dX8_join_105 (by decide) ⟨by decide, by decide⟩ (fun _ => ?_) (fun h => absurd h (by decide))
                  refine gw_aload_n C 0 dX8_join_110 rfl rfl ?_
                  refine gw_callV C (as := []) (st := []) (ci := 7) (T0 := TX8) (N := 10) (c_X8_saves hl0 G (up I 231 6 0) J (by rw [show up I 231 6 0 231 2 = I 231 2 from up_ne2 (by decide)]; exact hp) (by rw [show up I 231 6 0 231 3 = I 231 3 from up_ne2 (by decide)]; exact hru)) dX8_join_111 kX8_74 qX8_saves hdX8_saves ⟨Nat.le_of_ble_eq_true rfl, Nat.le_of_ble_eq_true rfl⟩ ⟨Nat.le_of_ble_eq_true rfl, Nat.le_of_ble_eq_true rfl⟩ (Nat.le_of_ble_eq_true rfl) rfl xs_231 xn_231 rfl (fun _ _ _ _ h => h.elim) ?_
                  intro v_111 z_111_2 Ks J_111 hv_111
                  obtain ⟨ev_111, hsv, eJ_111⟩ := hv_111
                  rw [ev_111, eJ_111]
                  have hK232 := sv_232 hsv
                  show GW G p l e ({ frames := 2, cells := 0, slots := 0, locals := 45 } : Room) s m args below meth c 9 z_111_2 N0 SH RR Ks J 0 0 (vx_MQ below (GQ G N0 SH RR (mmQ (kJoin (I 232) x1 x2 x3 x4 x5 x6) (I 232 4) I J (oJoin (I 232) (I 232 4).toNat x1 x2 x3 x4 x5 x6))) (GX G N0 SH RR gNo) args s 0 0 (ge G)) 114 [some (vR 231), some (vI x1), some (vI x2), some (vI x3), some (vI x4), some (vI x5), some (vI x6), some (vI 1), none] []
                  refine gw_bipush C dX8_join_114 rfl ?_
                  refine gw_bipush C dX8_join_116 rfl ?_
                  refine gw_aload_n C 0 dX8_join_118 rfl rfl ?_
                  refine gw_getRs (ci := 7) (Cn := RX8) (T0 := TX8) (N := 10) C 232 0 kX8_7 fX8 rfl (by decide) rfl rfl dX8_join_119 xs_231 xn_231 xr_231_0 ?_
                  refine gw_iconst C dX8_join_122 ?_
                  refine gw_iald C 4 dX8_join_123 xs_232 xn_232 (by omega) (by omega) (by decide) (fun hI_123 => ?_)
                  rw [show (Ks 232 4) = (I 232 4) from by rw [hK232]] at hI_123 ⊢
                  refine gw_imul C dX8_join_124 ?_
                  refine gw_iadd C dX8_join_125 ?_
                  refine gw_istore C (lo1 := [some (vR 231), some (vI x1), some (vI x2), some (vI x3), some (vI x4), some (vI x5), some (vI x6), some (vI 1), some (vI (78 + (6 * (I 232 4))))]) dX8_join_126 (by decide) rfl ?_
                  refine gw_aload_n C 0 dX8_join_128 rfl rfl ?_
                  refine gw_getRs (ci := 7) (Cn := RX8) (T0 := TX8) (N := 10) C 232 0 kX8_7 fX8 rfl (by decide) rfl rfl dX8_join_129 xs_231 xn_231 xr_231_0 ?_
                  refine gw_iload C dX8_join_132 rfl ?_
                  refine gw_iload_n C 1 dX8_join_134 rfl rfl ?_
                  refine gw_iast C (78 + 6 * (I 232 4).toNat) dX8_join_135 xs_232 xn_232 (by omega) (by omega) (by decide) hx1 ?_
                  refine gw_aload_n C 0 dX8_join_136 rfl rfl ?_
                  refine gw_getRs (ci := 7) (Cn := RX8) (T0 := TX8) (N := 10) C 232 0 kX8_7 fX8 rfl (by decide) rfl rfl dX8_join_137 xs_231 xn_231 xr_231_0 ?_
                  refine gw_iload C dX8_join_140 rfl ?_
                  refine gw_iconst C dX8_join_142 ?_
                  refine gw_iadd C dX8_join_143 ?_
                  refine gw_iload_n C 2 dX8_join_144 rfl rfl ?_
                  refine gw_iast C (79 + 6 * (I 232 4).toNat) dX8_join_145 xs_232 xn_232 (by omega) (by omega) (by decide) hx2 ?_
                  refine gw_aload_n C 0 dX8_join_146 rfl rfl ?_
                  refine gw_getRs (ci := 7) (Cn := RX8) (T0 := TX8) (N := 10) C 232 0 kX8_7 fX8 rfl (by decide) rfl rfl dX8_join_147 xs_231 xn_231 xr_231_0 ?_
                  refine gw_iload C dX8_join_150 rfl ?_
                  refine gw_iconst C dX8_join_152 ?_
                  refine gw_iadd C dX8_join_153 ?_
                  refine gw_iload_n C 3 dX8_join_154 rfl rfl ?_
                  refine gw_iast C (80 + 6 * (I 232 4).toNat) dX8_join_155 xs_232 xn_232 (by omega) (by omega) (by decide) hx3 ?_
                  refine gw_aload_n C 0 dX8_join_156 rfl rfl ?_
                  refine gw_getRs (ci := 7) (Cn := RX8) (T0 := TX8) (N := 10) C 232 0 kX8_7 fX8 rfl (by decide) rfl rfl dX8_join_157 xs_231 xn_231 xr_231_0 ?_
                  refine gw_iload C dX8_join_160 rfl ?_
                  refine gw_iconst C dX8_join_162 ?_
                  refine gw_iadd C dX8_join_163 ?_
                  refine gw_iload C dX8_join_164 rfl ?_
                  refine gw_iast C (81 + 6 * (I 232 4).toNat) dX8_join_166 xs_232 xn_232 (by omega) (by omega) (by decide) hx4 ?_
                  refine gw_aload_n C 0 dX8_join_167 rfl rfl ?_
                  refine gw_getRs (ci := 7) (Cn := RX8) (T0 := TX8) (N := 10) C 232 0 kX8_7 fX8 rfl (by decide) rfl rfl dX8_join_168 xs_231 xn_231 xr_231_0 ?_
                  refine gw_iload C dX8_join_171 rfl ?_
                  refine gw_iconst C dX8_join_173 ?_
                  refine gw_iadd C dX8_join_174 ?_
                  refine gw_iload C dX8_join_175 rfl ?_
                  refine gw_iast C (82 + 6 * (I 232 4).toNat) dX8_join_177 xs_232 xn_232 (by omega) (by omega) (by decide) hx5 ?_
                  refine gw_aload_n C 0 dX8_join_178 rfl rfl ?_
                  refine gw_getRs (ci := 7) (Cn := RX8) (T0 := TX8) (N := 10) C 232 0 kX8_7 fX8 rfl (by decide) rfl rfl dX8_join_179 xs_231 xn_231 xr_231_0 ?_
                  refine gw_iload C dX8_join_182 rfl ?_
                  refine gw_iconst C dX8_join_184 ?_
                  refine gw_iadd C dX8_join_185 ?_
                  refine gw_iload C dX8_join_186 rfl ?_
                  refine gw_iast C (83 + 6 * (I 232 4).toNat) dX8_join_188 xs_232 xn_232 (by omega) (by omega) (by decide) hx6 ?_
                  refine gw_aload_n C 0 dX8_join_189 rfl rfl ?_
                  refine gw_getRs (ci := 7) (Cn := RX8) (T0 := TX8) (N := 10) C 232 0 kX8_7 fX8 rfl (by decide) rfl rfl dX8_join_190 xs_231 xn_231 xr_231_0 ?_
                  refine gw_iconst C dX8_join_193 ?_
                  refine gw_dup2IR C dX8_join_194 ?_
                  refine gw_iald C 4 dX8_join_195 xs_232 xn_232 (by omega) (by omega) (by decide) (fun hI_195 => ?_)
                  rw [show ((up (up (up (up (up (up Ks 232 (78 + 6 * (I 232 4).toNat) x1) 232 (79 + 6 * (I 232 4).toNat) x2) 232 (80 + 6 * (I 232 4).toNat) x3) 232 (81 + 6 * (I 232 4).toNat) x4) 232 (82 + 6 * (I 232 4).toNat) x5) 232 (83 + 6 * (I 232 4).toNat) x6) 232 4) = (I 232 4) from by (repeat (first | rw [up_eq] | rw [up_ne (by decide)] | rw [up_ne2 (by first | decide | omega)])); rw [hK232]] at hI_195 ⊢
                  refine gw_iconst C dX8_join_196 ?_
                  refine gw_iadd C dX8_join_197 ?_
                  refine gw_iast C 4 dX8_join_198 xs_232 xn_232 (by omega) (by omega) (by decide) (by first | omega | exact hgi _ _) ?_
                  refine gw_aload_n C 0 dX8_join_199 rfl rfl ?_
                  refine gw_getRs (ci := 7) (Cn := RX8) (T0 := TX8) (N := 10) C 232 0 kX8_7 fX8 rfl (by decide) rfl rfl dX8_join_200 xs_231 xn_231 xr_231_0 ?_
                  refine gw_iconst C dX8_join_203 ?_
                  refine gw_iald C 4 dX8_join_204 xs_232 xn_232 (by omega) (by omega) (by decide) (fun hI_204 => ?_)
                  rw [show ((up (up (up (up (up (up (up Ks 232 (78 + 6 * (I 232 4).toNat) x1) 232 (79 + 6 * (I 232 4).toNat) x2) 232 (80 + 6 * (I 232 4).toNat) x3) 232 (81 + 6 * (I 232 4).toNat) x4) 232 (82 + 6 * (I 232 4).toNat) x5) 232 (83 + 6 * (I 232 4).toNat) x6) 232 4 ((I 232 4) + 1)) 232 4) = ((I 232 4) + 1) from by (repeat (first | rw [up_eq] | rw [up_ne (by decide)] | rw [up_ne2 (by first | decide | omega)]))] at hI_204 ⊢
                  refine gw_iconst C dX8_join_205 ?_
                  refine gw_isub C dX8_join_206 ?_
                  exact gw_iret C (Nat.le_of_ble_eq_true rfl) (Nat.le_of_ble_eq_true rfl) dX8_join_207 (mm_0 (by unfold kJoin; (repeat (first | rw [if_pos (by omega)] | rw [if_neg (by omega)]))) (by omega) (md_of hsv (by rw [up_us, up_us, up_us, up_us, up_us, up_us, up_us, hK232]; rfl) (fun q f hq => by (repeat rw [up_ne hq]); try rfl)))
                · skip
                  refine gw_iconst C dX8_join_97 ?_
                  refine gw_goto C (tgt := 102) dX8_join_98 (by decide) ?_
                  refine gw_callVm C (as := [vI 3]) (st := []) (ci := 7) (T0 := TX8) (N := 10) (c_X8_throwsAt hl0 G I J 3 ⟨by decide, by decide⟩) dX8_join_102 kX8_70 qX8_throwsAt hdX8_throwsAt ⟨Nat.le_of_ble_eq_true rfl, Nat.le_of_ble_eq_true rfl⟩ ⟨Nat.le_of_ble_eq_true rfl, Nat.le_of_ble_eq_true rfl⟩ (Nat.le_of_ble_eq_true rfl) rfl xs_231 xn_231 rfl (fun z_102_5 => ?_)
                  rw [show (if (0 : Int) < 3 then (1 : Int) else 0) = 1 from by decide]
                  refine gw_if_eq C (tgt := 110) dX8_join_105 (by decide) ⟨by decide, by decide⟩ (fun h => absurd h (by decide)) (fun _ => ?_)
                  refine gw_iconst C dX8_join_108 ?_
                  exact gw_iret C (Nat.le_of_ble_eq_true rfl) (Nat.le_of_ble_eq_true rfl) dX8_join_109 (mm_1 (by unfold kJoin; (repeat (first | rw [if_pos (by omega)] | rw [if_neg (by omega)]))) (by decide))
              · skip
                refine gw_if_ne C (tgt := 78) dX8_join_71 (by decide) ⟨by decide, by decide⟩ (fun h => absurd h (by decide)) (fun _ => ?_)
                refine gw_iconst C dX8_join_74 ?_
                refine gw_goto C (tgt := 102) dX8_join_75 (by decide) ?_
                refine gw_callVm C (as := [vI 1]) (st := []) (ci := 7) (T0 := TX8) (N := 10) (c_X8_throwsAt hl0 G I J 1 ⟨by decide, by decide⟩) dX8_join_102 kX8_70 qX8_throwsAt hdX8_throwsAt ⟨Nat.le_of_ble_eq_true rfl, Nat.le_of_ble_eq_true rfl⟩ ⟨Nat.le_of_ble_eq_true rfl, Nat.le_of_ble_eq_true rfl⟩ (Nat.le_of_ble_eq_true rfl) rfl xs_231 xn_231 rfl (fun z_102_6 => ?_)
                rw [show (if (0 : Int) < 1 then (1 : Int) else 0) = 1 from by decide]
                refine gw_if_eq C (tgt := 110) dX8_join_105 (by decide) ⟨by decide, by decide⟩ (fun h => absurd h (by decide)) (fun _ => ?_)
                refine gw_iconst C dX8_join_108 ?_
                exact gw_iret C (Nat.le_of_ble_eq_true rfl) (Nat.le_of_ble_eq_true rfl) dX8_join_109 (mm_1 (by unfold kJoin; (repeat (first | rw [if_pos (by omega)] | rw [if_neg (by omega)]))) (by decide))
            · skip
              refine gw_if_eq C (tgt := 74) dX8_join_63 (by decide) ⟨by decide, by decide⟩ (fun _ => ?_) (fun h => absurd h (by decide))
              refine gw_iconst C dX8_join_74 ?_
              refine gw_goto C (tgt := 102) dX8_join_75 (by decide) ?_
              refine gw_callVm C (as := [vI 1]) (st := []) (ci := 7) (T0 := TX8) (N := 10) (c_X8_throwsAt hl0 G I J 1 ⟨by decide, by decide⟩) dX8_join_102 kX8_70 qX8_throwsAt hdX8_throwsAt ⟨Nat.le_of_ble_eq_true rfl, Nat.le_of_ble_eq_true rfl⟩ ⟨Nat.le_of_ble_eq_true rfl, Nat.le_of_ble_eq_true rfl⟩ (Nat.le_of_ble_eq_true rfl) rfl xs_231 xn_231 rfl (fun z_102_7 => ?_)
              rw [show (if (0 : Int) < 1 then (1 : Int) else 0) = 1 from by decide]
              refine gw_if_eq C (tgt := 110) dX8_join_105 (by decide) ⟨by decide, by decide⟩ (fun h => absurd h (by decide)) (fun _ => ?_)
              refine gw_iconst C dX8_join_108 ?_
              exact gw_iret C (Nat.le_of_ble_eq_true rfl) (Nat.le_of_ble_eq_true rfl) dX8_join_109 (mm_1 (by unfold kJoin; (repeat (first | rw [if_pos (by omega)] | rw [if_neg (by omega)]))) (by decide))
          · skip
            refine gw_if_eq C (tgt := 54) dX8_join_47 (by decide) ⟨by decide, by decide⟩ (fun _ => ?_) (fun h => absurd h (by decide))
            refine gw_iconst C dX8_join_54 ?_
            refine gw_istore C (lo1 := [some (vR 231), some (vI x1), some (vI x2), some (vI x3), some (vI x4), some (vI x5), some (vI x6), some (vI 0), none]) dX8_join_55 (by decide) rfl ?_
            refine gw_aload_n C 0 dX8_join_57 rfl rfl ?_
            refine gw_aload_n C 0 dX8_join_58 rfl rfl ?_
            refine gw_iload_n C 1 dX8_join_59 rfl rfl ?_
            refine gw_callVb C (as := [vI x1]) (st := [vR 231]) (ci := 7) (T0 := TX8) (N := 10) (c_X8_isWire hl0 G I J ho x1 (by first | assumption | omega)) dX8_join_60 kX8_96 qX8_isWire hdX8_isWire ⟨Nat.le_of_ble_eq_true rfl, Nat.le_of_ble_eq_true rfl⟩ ⟨Nat.le_of_ble_eq_true rfl, Nat.le_of_ble_eq_true rfl⟩ (Nat.le_of_ble_eq_true rfl) rfl xs_231 xn_231 rfl (fun h_60_3 z_60_3 => ?_) (fun h_60_3 z_60_3 => ?_)
            · skip
              refine gw_if_eq C (tgt := 74) dX8_join_63 (by decide) ⟨by decide, by decide⟩ (fun h => absurd h (by decide)) (fun _ => ?_)
              refine gw_aload_n C 0 dX8_join_66 rfl rfl ?_
              refine gw_iload_n C 2 dX8_join_67 rfl rfl ?_
              refine gw_callVb C (as := [vI x2]) (st := [vR 231]) (ci := 7) (T0 := TX8) (N := 10) (c_X8_isWire hl0 G I J ho x2 (by first | assumption | omega)) dX8_join_68 kX8_96 qX8_isWire hdX8_isWire ⟨Nat.le_of_ble_eq_true rfl, Nat.le_of_ble_eq_true rfl⟩ ⟨Nat.le_of_ble_eq_true rfl, Nat.le_of_ble_eq_true rfl⟩ (Nat.le_of_ble_eq_true rfl) rfl xs_231 xn_231 rfl (fun h_68_3 z_68_3 => ?_) (fun h_68_3 z_68_3 => ?_)
              · skip
                refine gw_if_ne C (tgt := 78) dX8_join_71 (by decide) ⟨by decide, by decide⟩ (fun _ => ?_) (fun h => absurd h (by decide))
                refine gw_iload C dX8_join_78 rfl ?_
                refine gw_if_ne C (tgt := 87) dX8_join_80 (by decide) ⟨by decide, by decide⟩ (fun h => absurd h (by decide)) (fun _ => ?_)
                refine gw_iconst C dX8_join_83 ?_
                refine gw_goto C (tgt := 102) dX8_join_84 (by decide) ?_
                refine gw_callVm C (as := [vI 2]) (st := []) (ci := 7) (T0 := TX8) (N := 10) (c_X8_throwsAt hl0 G I J 2 ⟨by decide, by decide⟩) dX8_join_102 kX8_70 qX8_throwsAt hdX8_throwsAt ⟨Nat.le_of_ble_eq_true rfl, Nat.le_of_ble_eq_true rfl⟩ ⟨Nat.le_of_ble_eq_true rfl, Nat.le_of_ble_eq_true rfl⟩ (Nat.le_of_ble_eq_true rfl) rfl xs_231 xn_231 rfl (fun z_102_8 => ?_)
                rw [show (if (0 : Int) < 2 then (1 : Int) else 0) = 1 from by decide]
                refine gw_if_eq C (tgt := 110) dX8_join_105 (by decide) ⟨by decide, by decide⟩ (fun h => absurd h (by decide)) (fun _ => ?_)
                refine gw_iconst C dX8_join_108 ?_
                exact gw_iret C (Nat.le_of_ble_eq_true rfl) (Nat.le_of_ble_eq_true rfl) dX8_join_109 (mm_1 (by unfold kJoin; (repeat (first | rw [if_pos (by omega)] | rw [if_neg (by omega)]))) (by decide))
              · skip
                refine gw_if_ne C (tgt := 78) dX8_join_71 (by decide) ⟨by decide, by decide⟩ (fun h => absurd h (by decide)) (fun _ => ?_)
                refine gw_iconst C dX8_join_74 ?_
                refine gw_goto C (tgt := 102) dX8_join_75 (by decide) ?_
                refine gw_callVm C (as := [vI 1]) (st := []) (ci := 7) (T0 := TX8) (N := 10) (c_X8_throwsAt hl0 G I J 1 ⟨by decide, by decide⟩) dX8_join_102 kX8_70 qX8_throwsAt hdX8_throwsAt ⟨Nat.le_of_ble_eq_true rfl, Nat.le_of_ble_eq_true rfl⟩ ⟨Nat.le_of_ble_eq_true rfl, Nat.le_of_ble_eq_true rfl⟩ (Nat.le_of_ble_eq_true rfl) rfl xs_231 xn_231 rfl (fun z_102_9 => ?_)
                rw [show (if (0 : Int) < 1 then (1 : Int) else 0) = 1 from by decide]
                refine gw_if_eq C (tgt := 110) dX8_join_105 (by decide) ⟨by decide, by decide⟩ (fun h => absurd h (by decide)) (fun _ => ?_)
                refine gw_iconst C dX8_join_108 ?_
                exact gw_iret C (Nat.le_of_ble_eq_true rfl) (Nat.le_of_ble_eq_true rfl) dX8_join_109 (mm_1 (by unfold kJoin; (repeat (first | rw [if_pos (by omega)] | rw [if_neg (by omega)]))) (by decide))
            · skip
              refine gw_if_eq C (tgt := 74) dX8_join_63 (by decide) ⟨by decide, by decide⟩ (fun _ => ?_) (fun h => absurd h (by decide))
              refine gw_iconst C dX8_join_74 ?_
              refine gw_goto C (tgt := 102) dX8_join_75 (by decide) ?_
              refine gw_callVm C (as := [vI 1]) (st := []) (ci := 7) (T0 := TX8) (N := 10) (c_X8_throwsAt hl0 G I J 1 ⟨by decide, by decide⟩) dX8_join_102 kX8_70 qX8_throwsAt hdX8_throwsAt ⟨Nat.le_of_ble_eq_true rfl, Nat.le_of_ble_eq_true rfl⟩ ⟨Nat.le_of_ble_eq_true rfl, Nat.le_of_ble_eq_true rfl⟩ (Nat.le_of_ble_eq_true rfl) rfl xs_231 xn_231 rfl (fun z_102_10 => ?_)
              rw [show (if (0 : Int) < 1 then (1 : Int) else 0) = 1 from by decide]
              refine gw_if_eq C (tgt := 110) dX8_join_105 (by decide) ⟨by decide, by decide⟩ (fun h => absurd h (by decide)) (fun _ => ?_)
              refine gw_iconst C dX8_join_108 ?_
              exact gw_iret C (Nat.le_of_ble_eq_true rfl) (Nat.le_of_ble_eq_true rfl) dX8_join_109 (mm_1 (by unfold kJoin; (repeat (first | rw [if_pos (by omega)] | rw [if_neg (by omega)]))) (by decide))
        · skip
          refine gw_if_eq C (tgt := 54) dX8_join_39 (by decide) ⟨by decide, by decide⟩ (fun _ => ?_) (fun h => absurd h (by decide))
          refine gw_iconst C dX8_join_54 ?_
          refine gw_istore C (lo1 := [some (vR 231), some (vI x1), some (vI x2), some (vI x3), some (vI x4), some (vI x5), some (vI x6), some (vI 0), none]) dX8_join_55 (by decide) rfl ?_
          refine gw_aload_n C 0 dX8_join_57 rfl rfl ?_
          refine gw_aload_n C 0 dX8_join_58 rfl rfl ?_
          refine gw_iload_n C 1 dX8_join_59 rfl rfl ?_
          refine gw_callVb C (as := [vI x1]) (st := [vR 231]) (ci := 7) (T0 := TX8) (N := 10) (c_X8_isWire hl0 G I J ho x1 (by first | assumption | omega)) dX8_join_60 kX8_96 qX8_isWire hdX8_isWire ⟨Nat.le_of_ble_eq_true rfl, Nat.le_of_ble_eq_true rfl⟩ ⟨Nat.le_of_ble_eq_true rfl, Nat.le_of_ble_eq_true rfl⟩ (Nat.le_of_ble_eq_true rfl) rfl xs_231 xn_231 rfl (fun h_60_4 z_60_4 => ?_) (fun h_60_4 z_60_4 => ?_)
          · skip
            refine gw_if_eq C (tgt := 74) dX8_join_63 (by decide) ⟨by decide, by decide⟩ (fun h => absurd h (by decide)) (fun _ => ?_)
            refine gw_aload_n C 0 dX8_join_66 rfl rfl ?_
            refine gw_iload_n C 2 dX8_join_67 rfl rfl ?_
            refine gw_callVb C (as := [vI x2]) (st := [vR 231]) (ci := 7) (T0 := TX8) (N := 10) (c_X8_isWire hl0 G I J ho x2 (by first | assumption | omega)) dX8_join_68 kX8_96 qX8_isWire hdX8_isWire ⟨Nat.le_of_ble_eq_true rfl, Nat.le_of_ble_eq_true rfl⟩ ⟨Nat.le_of_ble_eq_true rfl, Nat.le_of_ble_eq_true rfl⟩ (Nat.le_of_ble_eq_true rfl) rfl xs_231 xn_231 rfl (fun h_68_4 z_68_4 => ?_) (fun h_68_4 z_68_4 => ?_)
            · skip
              refine gw_if_ne C (tgt := 78) dX8_join_71 (by decide) ⟨by decide, by decide⟩ (fun _ => ?_) (fun h => absurd h (by decide))
              refine gw_iload C dX8_join_78 rfl ?_
              refine gw_if_ne C (tgt := 87) dX8_join_80 (by decide) ⟨by decide, by decide⟩ (fun h => absurd h (by decide)) (fun _ => ?_)
              refine gw_iconst C dX8_join_83 ?_
              refine gw_goto C (tgt := 102) dX8_join_84 (by decide) ?_
              refine gw_callVm C (as := [vI 2]) (st := []) (ci := 7) (T0 := TX8) (N := 10) (c_X8_throwsAt hl0 G I J 2 ⟨by decide, by decide⟩) dX8_join_102 kX8_70 qX8_throwsAt hdX8_throwsAt ⟨Nat.le_of_ble_eq_true rfl, Nat.le_of_ble_eq_true rfl⟩ ⟨Nat.le_of_ble_eq_true rfl, Nat.le_of_ble_eq_true rfl⟩ (Nat.le_of_ble_eq_true rfl) rfl xs_231 xn_231 rfl (fun z_102_11 => ?_)
              rw [show (if (0 : Int) < 2 then (1 : Int) else 0) = 1 from by decide]
              refine gw_if_eq C (tgt := 110) dX8_join_105 (by decide) ⟨by decide, by decide⟩ (fun h => absurd h (by decide)) (fun _ => ?_)
              refine gw_iconst C dX8_join_108 ?_
              exact gw_iret C (Nat.le_of_ble_eq_true rfl) (Nat.le_of_ble_eq_true rfl) dX8_join_109 (mm_1 (by unfold kJoin; (repeat (first | rw [if_pos (by omega)] | rw [if_neg (by omega)]))) (by decide))
            · skip
              refine gw_if_ne C (tgt := 78) dX8_join_71 (by decide) ⟨by decide, by decide⟩ (fun h => absurd h (by decide)) (fun _ => ?_)
              refine gw_iconst C dX8_join_74 ?_
              refine gw_goto C (tgt := 102) dX8_join_75 (by decide) ?_
              refine gw_callVm C (as := [vI 1]) (st := []) (ci := 7) (T0 := TX8) (N := 10) (c_X8_throwsAt hl0 G I J 1 ⟨by decide, by decide⟩) dX8_join_102 kX8_70 qX8_throwsAt hdX8_throwsAt ⟨Nat.le_of_ble_eq_true rfl, Nat.le_of_ble_eq_true rfl⟩ ⟨Nat.le_of_ble_eq_true rfl, Nat.le_of_ble_eq_true rfl⟩ (Nat.le_of_ble_eq_true rfl) rfl xs_231 xn_231 rfl (fun z_102_12 => ?_)
              rw [show (if (0 : Int) < 1 then (1 : Int) else 0) = 1 from by decide]
              refine gw_if_eq C (tgt := 110) dX8_join_105 (by decide) ⟨by decide, by decide⟩ (fun h => absurd h (by decide)) (fun _ => ?_)
              refine gw_iconst C dX8_join_108 ?_
              exact gw_iret C (Nat.le_of_ble_eq_true rfl) (Nat.le_of_ble_eq_true rfl) dX8_join_109 (mm_1 (by unfold kJoin; (repeat (first | rw [if_pos (by omega)] | rw [if_neg (by omega)]))) (by decide))
          · skip
            refine gw_if_eq C (tgt := 74) dX8_join_63 (by decide) ⟨by decide, by decide⟩ (fun _ => ?_) (fun h => absurd h (by decide))
            refine gw_iconst C dX8_join_74 ?_
            refine gw_goto C (tgt := 102) dX8_join_75 (by decide) ?_
            refine gw_callVm C (as := [vI 1]) (st := []) (ci := 7) (T0 := TX8) (N := 10) (c_X8_throwsAt hl0 G I J 1 ⟨by decide, by decide⟩) dX8_join_102 kX8_70 qX8_throwsAt hdX8_throwsAt ⟨Nat.le_of_ble_eq_true rfl, Nat.le_of_ble_eq_true rfl⟩ ⟨Nat.le_of_ble_eq_true rfl, Nat.le_of_ble_eq_true rfl⟩ (Nat.le_of_ble_eq_true rfl) rfl xs_231 xn_231 rfl (fun z_102_13 => ?_)
            rw [show (if (0 : Int) < 1 then (1 : Int) else 0) = 1 from by decide]
            refine gw_if_eq C (tgt := 110) dX8_join_105 (by decide) ⟨by decide, by decide⟩ (fun h => absurd h (by decide)) (fun _ => ?_)
            refine gw_iconst C dX8_join_108 ?_
            exact gw_iret C (Nat.le_of_ble_eq_true rfl) (Nat.le_of_ble_eq_true rfl) dX8_join_109 (mm_1 (by unfold kJoin; (repeat (first | rw [if_pos (by omega)] | rw [if_neg (by omega)]))) (by decide))
      · skip
        refine gw_if_eq C (tgt := 54) dX8_join_24 (by decide) ⟨by decide, by decide⟩ (fun _ => ?_) (fun h => absurd h (by decide))
        refine gw_iconst C dX8_join_54 ?_
        refine gw_istore C (lo1 := [some (vR 231), some (vI x1), some (vI x2), some (vI x3), some (vI x4), some (vI x5), some (vI x6), some (vI 0), none]) dX8_join_55 (by decide) rfl ?_
        refine gw_aload_n C 0 dX8_join_57 rfl rfl ?_
        refine gw_aload_n C 0 dX8_join_58 rfl rfl ?_
        refine gw_iload_n C 1 dX8_join_59 rfl rfl ?_
        refine gw_callVb C (as := [vI x1]) (st := [vR 231]) (ci := 7) (T0 := TX8) (N := 10) (c_X8_isWire hl0 G I J ho x1 (by first | assumption | omega)) dX8_join_60 kX8_96 qX8_isWire hdX8_isWire ⟨Nat.le_of_ble_eq_true rfl, Nat.le_of_ble_eq_true rfl⟩ ⟨Nat.le_of_ble_eq_true rfl, Nat.le_of_ble_eq_true rfl⟩ (Nat.le_of_ble_eq_true rfl) rfl xs_231 xn_231 rfl (fun h_60_5 z_60_5 => ?_) (fun h_60_5 z_60_5 => ?_)
        · skip
          refine gw_if_eq C (tgt := 74) dX8_join_63 (by decide) ⟨by decide, by decide⟩ (fun h => absurd h (by decide)) (fun _ => ?_)
          refine gw_aload_n C 0 dX8_join_66 rfl rfl ?_
          refine gw_iload_n C 2 dX8_join_67 rfl rfl ?_
          refine gw_callVb C (as := [vI x2]) (st := [vR 231]) (ci := 7) (T0 := TX8) (N := 10) (c_X8_isWire hl0 G I J ho x2 (by first | assumption | omega)) dX8_join_68 kX8_96 qX8_isWire hdX8_isWire ⟨Nat.le_of_ble_eq_true rfl, Nat.le_of_ble_eq_true rfl⟩ ⟨Nat.le_of_ble_eq_true rfl, Nat.le_of_ble_eq_true rfl⟩ (Nat.le_of_ble_eq_true rfl) rfl xs_231 xn_231 rfl (fun h_68_5 z_68_5 => ?_) (fun h_68_5 z_68_5 => ?_)
          · skip
            refine gw_if_ne C (tgt := 78) dX8_join_71 (by decide) ⟨by decide, by decide⟩ (fun _ => ?_) (fun h => absurd h (by decide))
            refine gw_iload C dX8_join_78 rfl ?_
            refine gw_if_ne C (tgt := 87) dX8_join_80 (by decide) ⟨by decide, by decide⟩ (fun h => absurd h (by decide)) (fun _ => ?_)
            refine gw_iconst C dX8_join_83 ?_
            refine gw_goto C (tgt := 102) dX8_join_84 (by decide) ?_
            refine gw_callVm C (as := [vI 2]) (st := []) (ci := 7) (T0 := TX8) (N := 10) (c_X8_throwsAt hl0 G I J 2 ⟨by decide, by decide⟩) dX8_join_102 kX8_70 qX8_throwsAt hdX8_throwsAt ⟨Nat.le_of_ble_eq_true rfl, Nat.le_of_ble_eq_true rfl⟩ ⟨Nat.le_of_ble_eq_true rfl, Nat.le_of_ble_eq_true rfl⟩ (Nat.le_of_ble_eq_true rfl) rfl xs_231 xn_231 rfl (fun z_102_14 => ?_)
            rw [show (if (0 : Int) < 2 then (1 : Int) else 0) = 1 from by decide]
            refine gw_if_eq C (tgt := 110) dX8_join_105 (by decide) ⟨by decide, by decide⟩ (fun h => absurd h (by decide)) (fun _ => ?_)
            refine gw_iconst C dX8_join_108 ?_
            exact gw_iret C (Nat.le_of_ble_eq_true rfl) (Nat.le_of_ble_eq_true rfl) dX8_join_109 (mm_1 (by unfold kJoin; (repeat (first | rw [if_pos (by omega)] | rw [if_neg (by omega)]))) (by decide))
          · skip
            refine gw_if_ne C (tgt := 78) dX8_join_71 (by decide) ⟨by decide, by decide⟩ (fun h => absurd h (by decide)) (fun _ => ?_)
            refine gw_iconst C dX8_join_74 ?_
            refine gw_goto C (tgt := 102) dX8_join_75 (by decide) ?_
            refine gw_callVm C (as := [vI 1]) (st := []) (ci := 7) (T0 := TX8) (N := 10) (c_X8_throwsAt hl0 G I J 1 ⟨by decide, by decide⟩) dX8_join_102 kX8_70 qX8_throwsAt hdX8_throwsAt ⟨Nat.le_of_ble_eq_true rfl, Nat.le_of_ble_eq_true rfl⟩ ⟨Nat.le_of_ble_eq_true rfl, Nat.le_of_ble_eq_true rfl⟩ (Nat.le_of_ble_eq_true rfl) rfl xs_231 xn_231 rfl (fun z_102_15 => ?_)
            rw [show (if (0 : Int) < 1 then (1 : Int) else 0) = 1 from by decide]
            refine gw_if_eq C (tgt := 110) dX8_join_105 (by decide) ⟨by decide, by decide⟩ (fun h => absurd h (by decide)) (fun _ => ?_)
            refine gw_iconst C dX8_join_108 ?_
            exact gw_iret C (Nat.le_of_ble_eq_true rfl) (Nat.le_of_ble_eq_true rfl) dX8_join_109 (mm_1 (by unfold kJoin; (repeat (first | rw [if_pos (by omega)] | rw [if_neg (by omega)]))) (by decide))
        · skip
          refine gw_if_eq C (tgt := 74) dX8_join_63 (by decide) ⟨by decide, by decide⟩ (fun _ => ?_) (fun h => absurd h (by decide))
          refine gw_iconst C dX8_join_74 ?_
          refine gw_goto C (tgt := 102) dX8_join_75 (by decide) ?_
          refine gw_callVm C (as := [vI 1]) (st := []) (ci := 7) (T0 := TX8) (N := 10) (c_X8_throwsAt hl0 G I J 1 ⟨by decide, by decide⟩) dX8_join_102 kX8_70 qX8_throwsAt hdX8_throwsAt ⟨Nat.le_of_ble_eq_true rfl, Nat.le_of_ble_eq_true rfl⟩ ⟨Nat.le_of_ble_eq_true rfl, Nat.le_of_ble_eq_true rfl⟩ (Nat.le_of_ble_eq_true rfl) rfl xs_231 xn_231 rfl (fun z_102_16 => ?_)
          rw [show (if (0 : Int) < 1 then (1 : Int) else 0) = 1 from by decide]
          refine gw_if_eq C (tgt := 110) dX8_join_105 (by decide) ⟨by decide, by decide⟩ (fun h => absurd h (by decide)) (fun _ => ?_)
          refine gw_iconst C dX8_join_108 ?_
          exact gw_iret C (Nat.le_of_ble_eq_true rfl) (Nat.le_of_ble_eq_true rfl) dX8_join_109 (mm_1 (by unfold kJoin; (repeat (first | rw [if_pos (by omega)] | rw [if_neg (by omega)]))) (by decide))
    · skip
      refine gw_if_eq C (tgt := 54) dX8_join_9 (by decide) ⟨by decide, by decide⟩ (fun _ => ?_) (fun h => absurd h (by decide))
      refine gw_iconst C dX8_join_54 ?_
      refine gw_istore C (lo1 := [some (vR 231), some (vI x1), some (vI x2), some (vI x3), some (vI x4), some (vI x5), some (vI x6), some (vI 0), none]) dX8_join_55 (by decide) rfl ?_
      refine gw_aload_n C 0 dX8_join_57 rfl rfl ?_
      refine gw_aload_n C 0 dX8_join_58 rfl rfl ?_
      refine gw_iload_n C 1 dX8_join_59 rfl rfl ?_
      refine gw_callVb C (as := [vI x1]) (st := [vR 231]) (ci := 7) (T0 := TX8) (N := 10) (c_X8_isWire hl0 G I J ho x1 (by first | assumption | omega)) dX8_join_60 kX8_96 qX8_isWire hdX8_isWire ⟨Nat.le_of_ble_eq_true rfl, Nat.le_of_ble_eq_true rfl⟩ ⟨Nat.le_of_ble_eq_true rfl, Nat.le_of_ble_eq_true rfl⟩ (Nat.le_of_ble_eq_true rfl) rfl xs_231 xn_231 rfl (fun h_60_6 z_60_6 => ?_) (fun h_60_6 z_60_6 => ?_)
      · skip
        refine gw_if_eq C (tgt := 74) dX8_join_63 (by decide) ⟨by decide, by decide⟩ (fun h => absurd h (by decide)) (fun _ => ?_)
        refine gw_aload_n C 0 dX8_join_66 rfl rfl ?_
        refine gw_iload_n C 2 dX8_join_67 rfl rfl ?_
        refine gw_callVb C (as := [vI x2]) (st := [vR 231]) (ci := 7) (T0 := TX8) (N := 10) (c_X8_isWire hl0 G I J ho x2 (by first | assumption | omega)) dX8_join_68 kX8_96 qX8_isWire hdX8_isWire ⟨Nat.le_of_ble_eq_true rfl, Nat.le_of_ble_eq_true rfl⟩ ⟨Nat.le_of_ble_eq_true rfl, Nat.le_of_ble_eq_true rfl⟩ (Nat.le_of_ble_eq_true rfl) rfl xs_231 xn_231 rfl (fun h_68_6 z_68_6 => ?_) (fun h_68_6 z_68_6 => ?_)
        · skip
          refine gw_if_ne C (tgt := 78) dX8_join_71 (by decide) ⟨by decide, by decide⟩ (fun _ => ?_) (fun h => absurd h (by decide))
          refine gw_iload C dX8_join_78 rfl ?_
          refine gw_if_ne C (tgt := 87) dX8_join_80 (by decide) ⟨by decide, by decide⟩ (fun h => absurd h (by decide)) (fun _ => ?_)
          refine gw_iconst C dX8_join_83 ?_
          refine gw_goto C (tgt := 102) dX8_join_84 (by decide) ?_
          refine gw_callVm C (as := [vI 2]) (st := []) (ci := 7) (T0 := TX8) (N := 10) (c_X8_throwsAt hl0 G I J 2 ⟨by decide, by decide⟩) dX8_join_102 kX8_70 qX8_throwsAt hdX8_throwsAt ⟨Nat.le_of_ble_eq_true rfl, Nat.le_of_ble_eq_true rfl⟩ ⟨Nat.le_of_ble_eq_true rfl, Nat.le_of_ble_eq_true rfl⟩ (Nat.le_of_ble_eq_true rfl) rfl xs_231 xn_231 rfl (fun z_102_17 => ?_)
          rw [show (if (0 : Int) < 2 then (1 : Int) else 0) = 1 from by decide]
          refine gw_if_eq C (tgt := 110) dX8_join_105 (by decide) ⟨by decide, by decide⟩ (fun h => absurd h (by decide)) (fun _ => ?_)
          refine gw_iconst C dX8_join_108 ?_
          exact gw_iret C (Nat.le_of_ble_eq_true rfl) (Nat.le_of_ble_eq_true rfl) dX8_join_109 (mm_1 (by unfold kJoin; (repeat (first | rw [if_pos (by omega)] | rw [if_neg (by omega)]))) (by decide))
        · skip
          refine gw_if_ne C (tgt := 78) dX8_join_71 (by decide) ⟨by decide, by decide⟩ (fun h => absurd h (by decide)) (fun _ => ?_)
          refine gw_iconst C dX8_join_74 ?_
          refine gw_goto C (tgt := 102) dX8_join_75 (by decide) ?_
          refine gw_callVm C (as := [vI 1]) (st := []) (ci := 7) (T0 := TX8) (N := 10) (c_X8_throwsAt hl0 G I J 1 ⟨by decide, by decide⟩) dX8_join_102 kX8_70 qX8_throwsAt hdX8_throwsAt ⟨Nat.le_of_ble_eq_true rfl, Nat.le_of_ble_eq_true rfl⟩ ⟨Nat.le_of_ble_eq_true rfl, Nat.le_of_ble_eq_true rfl⟩ (Nat.le_of_ble_eq_true rfl) rfl xs_231 xn_231 rfl (fun z_102_18 => ?_)
          rw [show (if (0 : Int) < 1 then (1 : Int) else 0) = 1 from by decide]
          refine gw_if_eq C (tgt := 110) dX8_join_105 (by decide) ⟨by decide, by decide⟩ (fun h => absurd h (by decide)) (fun _ => ?_)
          refine gw_iconst C dX8_join_108 ?_
          exact gw_iret C (Nat.le_of_ble_eq_true rfl) (Nat.le_of_ble_eq_true rfl) dX8_join_109 (mm_1 (by unfold kJoin; (repeat (first | rw [if_pos (by omega)] | rw [if_neg (by omega)]))) (by decide))
      · skip
        refine gw_if_eq C (tgt := 74) dX8_join_63 (by decide) ⟨by decide, by decide⟩ (fun _ => ?_) (fun h => absurd h (by decide))
        refine gw_iconst C dX8_join_74 ?_
        refine gw_goto C (tgt := 102) dX8_join_75 (by decide) ?_
        refine gw_callVm C (as := [vI 1]) (st := []) (ci := 7) (T0 := TX8) (N := 10) (c_X8_throwsAt hl0 G I J 1 ⟨by decide, by decide⟩) dX8_join_102 kX8_70 qX8_throwsAt hdX8_throwsAt ⟨Nat.le_of_ble_eq_true rfl, Nat.le_of_ble_eq_true rfl⟩ ⟨Nat.le_of_ble_eq_true rfl, Nat.le_of_ble_eq_true rfl⟩ (Nat.le_of_ble_eq_true rfl) rfl xs_231 xn_231 rfl (fun z_102_19 => ?_)
        rw [show (if (0 : Int) < 1 then (1 : Int) else 0) = 1 from by decide]
        refine gw_if_eq C (tgt := 110) dX8_join_105 (by decide) ⟨by decide, by decide⟩ (fun h => absurd h (by decide)) (fun _ => ?_)
        refine gw_iconst C dX8_join_108 ?_
        exact gw_iret C (Nat.le_of_ble_eq_true rfl) (Nat.le_of_ble_eq_true rfl) dX8_join_109 (mm_1 (by unfold kJoin; (repeat (first | rw [if_pos (by omega)] | rw [if_neg (by omega)]))) (by decide))
set_option maxHeartbeats 4000000 in
set_option maxRecDepth 100000 in
theorem c_X8_measure {l : Launch} (hl0 : l.stackTraces = false) (G : GG) (I J : GI) {z : Nat} (ho : Oks (I 232)) (hp : 0 ≤ I 231 2 ∧ I 231 2 ≤ 4) (hru : 0 ≤ I 231 3 ∧ I 231 3 ≤ 1) (x1 x2 : Int) (hx1 : inI x1) (hx2 : inI x2) : GM l yX8_measure (.code yX8_measure cX8_measure 4 (some .int)) 2 45 0 0 G N0 SH RR [vR 231, vI x1, vI x2] z I J (mmQ (kMeas (I 232) x1 x2) (I 232 (83 + 6 * x1.toNat)) I J (oMeas (I 232) x1.toNat x2)) gNo := by
  refine gm_of (lo0 := [some (vR 231), some (vI x1), some (vI x2), none]) hl0 (by decide) rfl (Nat.le_of_ble_eq_true rfl) ?_
  intro p e s m args below meth c C ht hgi
  have C : gC G p l s m args meth c cX8_measure 4 RX8 (some .int) "measure" := C
  have h3 := ho.2.1
  have h0 := ho.1
  refine gw_aload_n C 0 dX8_measure_0 rfl rfl ?_
  refine gw_aload_n C 0 dX8_measure_1 rfl rfl ?_
  refine gw_iload_n C 1 dX8_measure_2 rfl rfl ?_
  refine gw_callVb C (as := [vI x1]) (st := [vR 231]) (ci := 7) (T0 := TX8) (N := 10) (c_X8_isJoin hl0 G I J ho x1 (by first | assumption | omega)) dX8_measure_3 kX8_135 qX8_isJoin hdX8_isJoin ⟨Nat.le_of_ble_eq_true rfl, Nat.le_of_ble_eq_true rfl⟩ ⟨Nat.le_of_ble_eq_true rfl, Nat.le_of_ble_eq_true rfl⟩ (Nat.le_of_ble_eq_true rfl) rfl xs_231 xn_231 rfl (fun h_3 z_3 => ?_) (fun h_3 z_3 => ?_)
  · skip
    refine gw_if_ne C (tgt := 13) dX8_measure_6 (by decide) ⟨by decide, by decide⟩ (fun _ => ?_) (fun h => absurd h (by decide))
    refine gw_iload_n C 2 dX8_measure_13 rfl rfl ?_
    refine gw_callSb C (as := [vI x2]) (st := [vR 231]) (c_X8_isSmall hl0 G x2 hx2) dX8_measure_14 kX8_132 qX8_isSmall hdX8_isSmall ⟨Nat.le_of_ble_eq_true rfl, Nat.le_of_ble_eq_true rfl⟩ ⟨Nat.le_of_ble_eq_true rfl, Nat.le_of_ble_eq_true rfl⟩ (Nat.le_of_ble_eq_true rfl) rfl (fun h_14 z_14 => ?_) (fun h_14 z_14 => ?_)
    · skip
      refine gw_if_eq C (tgt := 24) dX8_measure_17 (by decide) ⟨by decide, by decide⟩ (fun h => absurd h (by decide)) (fun _ => ?_)
      refine gw_iconst C dX8_measure_20 ?_
      refine gw_goto C (tgt := 25) dX8_measure_21 (by decide) ?_
      refine gw_callVm C (as := [vI 0]) (st := []) (ci := 7) (T0 := TX8) (N := 10) (c_X8_throwsAt hl0 G I J 0 ⟨by decide, by decide⟩) dX8_measure_25 kX8_70 qX8_throwsAt hdX8_throwsAt ⟨Nat.le_of_ble_eq_true rfl, Nat.le_of_ble_eq_true rfl⟩ ⟨Nat.le_of_ble_eq_true rfl, Nat.le_of_ble_eq_true rfl⟩ (Nat.le_of_ble_eq_true rfl) rfl xs_231 xn_231 rfl (fun z_25 => ?_)
      rw [show (if (0 : Int) < 0 then (1 : Int) else 0) = 0 from by decide]
      refine gw_if_eq C (tgt := 33) dX8_measure_28 (by decide) ⟨by decide, by decide⟩ (fun _ => ?_) (fun h => absurd h (by decide))
      refine gw_aload_n C 0 dX8_measure_33 rfl rfl ?_
      refine gw_callV C (as := []) (st := []) (ci := 7) (T0 := TX8) (N := 10) (c_X8_saves hl0 G (up I 231 6 0) J (by rw [show up I 231 6 0 231 2 = I 231 2 from up_ne2 (by decide)]; exact hp) (by rw [show up I 231 6 0 231 3 = I 231 3 from up_ne2 (by decide)]; exact hru)) dX8_measure_34 kX8_74 qX8_saves hdX8_saves ⟨Nat.le_of_ble_eq_true rfl, Nat.le_of_ble_eq_true rfl⟩ ⟨Nat.le_of_ble_eq_true rfl, Nat.le_of_ble_eq_true rfl⟩ (Nat.le_of_ble_eq_true rfl) rfl xs_231 xn_231 rfl (fun _ _ _ _ h => h.elim) ?_
      intro v_34 z_34_2 Ks J_34 hv_34
      obtain ⟨ev_34, hsv, eJ_34⟩ := hv_34
      rw [ev_34, eJ_34]
      have hK232 := sv_232 hsv
      show GW G p l e ({ frames := 2, cells := 0, slots := 0, locals := 45 } : Room) s m args below meth c 4 z_34_2 N0 SH RR Ks J 0 0 (vx_MQ below (GQ G N0 SH RR (mmQ (kMeas (I 232) x1 x2) (I 232 (83 + 6 * x1.toNat)) I J (oMeas (I 232) x1.toNat x2))) (GX G N0 SH RR gNo) args s 0 0 (ge G)) 37 [some (vR 231), some (vI x1), some (vI x2), none] []
      refine gw_aload_n C 0 dX8_measure_37 rfl rfl ?_
      refine gw_iload_n C 1 dX8_measure_38 rfl rfl ?_
      refine gw_iconst C dX8_measure_39 ?_
      refine gw_callVm C (as := [vI x1, vI 5]) (st := []) (ci := 7) (T0 := TX8) (N := 10) (c_X8_ofJoin hl0 G Ks J (by rw [show Ks 232 = I 232 from hK232]; exact ho) x1 5 (by first | (rw [show Ks 232 = I 232 from hK232]; omega) | (omega))) dX8_measure_40 kX8_138 qX8_ofJoin hdX8_ofJoin ⟨Nat.le_of_ble_eq_true rfl, Nat.le_of_ble_eq_true rfl⟩ ⟨Nat.le_of_ble_eq_true rfl, Nat.le_of_ble_eq_true rfl⟩ (Nat.le_of_ble_eq_true rfl) rfl xs_231 xn_231 rfl (fun z_40 => ?_)
      rw [show (5 : Int).toNat = 5 from rfl]
      rw [show Ks 232 = I 232 from hK232]
      rw [show I 232 (78 + 6 * ((x1).toNat) + 5) = (I 232 (83 + 6 * ((x1).toNat))) from by first | rfl | (congr 1 <;> omega) | (congr 1; congr 1 <;> omega)]
      refine gw_istore_n C (lo1 := [some (vR 231), some (vI x1), some (vI x2), some (vI (I 232 (83 + 6 * ((x1).toNat))))]) 3 dX8_measure_43 rfl (by decide) rfl ?_
      refine gw_aload_n C 0 dX8_measure_44 rfl rfl ?_
      refine gw_getRs (ci := 7) (Cn := RX8) (T0 := TX8) (N := 10) C 232 0 kX8_7 fX8 rfl (by decide) rfl rfl dX8_measure_45 xs_231 xn_231 xr_231_0 ?_
      refine gw_bipush C dX8_measure_48 rfl ?_
      refine gw_bipush C dX8_measure_50 rfl ?_
      refine gw_iload_n C 1 dX8_measure_52 rfl rfl ?_
      refine gw_imul C dX8_measure_53 ?_
      refine gw_iadd C dX8_measure_54 ?_
      refine gw_iconst C dX8_measure_55 ?_
      refine gw_iadd C dX8_measure_56 ?_
      refine gw_iload_n C 2 dX8_measure_57 rfl rfl ?_
      refine gw_iast C (83 + 6 * x1.toNat) dX8_measure_58 xs_232 xn_232 (by omega) (by omega) (by decide) hx2 ?_
      refine gw_iload_n C 3 dX8_measure_59 rfl rfl ?_
      exact gw_iret C (Nat.le_of_ble_eq_true rfl) (Nat.le_of_ble_eq_true rfl) dX8_measure_60 (mm_0 (by unfold kMeas; (repeat (first | rw [if_pos (by omega)] | rw [if_neg (by omega)]))) (by rfl) (md_of hsv (by rw [up_us, hK232]; rfl) (fun q f hq => by (repeat rw [up_ne hq]); try rfl)))
    · skip
      refine gw_if_eq C (tgt := 24) dX8_measure_17 (by decide) ⟨by decide, by decide⟩ (fun _ => ?_) (fun h => absurd h (by decide))
      refine gw_iconst C dX8_measure_24 ?_
      refine gw_callVm C (as := [vI 2]) (st := []) (ci := 7) (T0 := TX8) (N := 10) (c_X8_throwsAt hl0 G I J 2 ⟨by decide, by decide⟩) dX8_measure_25 kX8_70 qX8_throwsAt hdX8_throwsAt ⟨Nat.le_of_ble_eq_true rfl, Nat.le_of_ble_eq_true rfl⟩ ⟨Nat.le_of_ble_eq_true rfl, Nat.le_of_ble_eq_true rfl⟩ (Nat.le_of_ble_eq_true rfl) rfl xs_231 xn_231 rfl (fun z_25_2 => ?_)
      rw [show (if (0 : Int) < 2 then (1 : Int) else 0) = 1 from by decide]
      refine gw_if_eq C (tgt := 33) dX8_measure_28 (by decide) ⟨by decide, by decide⟩ (fun h => absurd h (by decide)) (fun _ => ?_)
      refine gw_iconst C dX8_measure_31 ?_
      exact gw_iret C (Nat.le_of_ble_eq_true rfl) (Nat.le_of_ble_eq_true rfl) dX8_measure_32 (mm_1 (by unfold kMeas; (repeat (first | rw [if_pos (by omega)] | rw [if_neg (by omega)]))) (by decide))
  · skip
    refine gw_if_ne C (tgt := 13) dX8_measure_6 (by decide) ⟨by decide, by decide⟩ (fun h => absurd h (by decide)) (fun _ => ?_)
    refine gw_iconst C dX8_measure_9 ?_
    refine gw_goto C (tgt := 25) dX8_measure_10 (by decide) ?_
    refine gw_callVm C (as := [vI 1]) (st := []) (ci := 7) (T0 := TX8) (N := 10) (c_X8_throwsAt hl0 G I J 1 ⟨by decide, by decide⟩) dX8_measure_25 kX8_70 qX8_throwsAt hdX8_throwsAt ⟨Nat.le_of_ble_eq_true rfl, Nat.le_of_ble_eq_true rfl⟩ ⟨Nat.le_of_ble_eq_true rfl, Nat.le_of_ble_eq_true rfl⟩ (Nat.le_of_ble_eq_true rfl) rfl xs_231 xn_231 rfl (fun z_25_3 => ?_)
    rw [show (if (0 : Int) < 1 then (1 : Int) else 0) = 1 from by decide]
    refine gw_if_eq C (tgt := 33) dX8_measure_28 (by decide) ⟨by decide, by decide⟩ (fun h => absurd h (by decide)) (fun _ => ?_)
    refine gw_iconst C dX8_measure_31 ?_
    exact gw_iret C (Nat.le_of_ble_eq_true rfl) (Nat.le_of_ble_eq_true rfl) dX8_measure_32 (mm_1 (by unfold kMeas; (repeat (first | rw [if_pos (by omega)] | rw [if_neg (by omega)]))) (by decide))
set_option maxHeartbeats 4000000 in
set_option maxRecDepth 100000 in
theorem c_X8_begin {l : Launch} (hl0 : l.stackTraces = false) (G : GG) (I J : GI) {z : Nat} (ho : Oks (I 232)) (hp : 0 ≤ I 231 2 ∧ I 231 2 ≤ 4) (hru : 0 ≤ I 231 3 ∧ I 231 3 ≤ 1) (x1 : Int) (hx1 : inI x1) : GM l yX8_begin (.code yX8_begin cX8_begin 3 (some .int)) 1 21 0 0 G N0 SH RR [vR 231, vI x1] z I J (mmQ (kBegin (I 232) x1) (I 232 5) I J (oBegin (I 232) (I 232 5).toNat x1)) gNo := by
  refine gm_of (lo0 := [some (vR 231), some (vI x1), none]) hl0 (by decide) rfl (Nat.le_of_ble_eq_true rfl) ?_
  intro p e s m args below meth c C ht hgi
  have C : gC G p l s m args meth c cX8_begin 3 RX8 (some .int) "begin" := C
  have h3 := ho.2.1
  have h0 := ho.1
  refine gw_aload_n C 0 dX8_begin_0 rfl rfl ?_
  refine gw_aload_n C 0 dX8_begin_1 rfl rfl ?_
  refine gw_iload_n C 1 dX8_begin_2 rfl rfl ?_
  refine gw_callVb C (as := [vI x1]) (st := [vR 231]) (ci := 7) (T0 := TX8) (N := 10) (c_X8_isJoin hl0 G I J ho x1 (by first | assumption | omega)) dX8_begin_3 kX8_135 qX8_isJoin hdX8_isJoin ⟨Nat.le_of_ble_eq_true rfl, Nat.le_of_ble_eq_true rfl⟩ ⟨Nat.le_of_ble_eq_true rfl, Nat.le_of_ble_eq_true rfl⟩ (Nat.le_of_ble_eq_true rfl) rfl xs_231 xn_231 rfl (fun h_3 z_3 => ?_) (fun h_3 z_3 => ?_)
  · skip
    refine gw_if_ne C (tgt := 13) dX8_begin_6 (by decide) ⟨by decide, by decide⟩ (fun _ => ?_) (fun h => absurd h (by decide))
    refine gw_aload_n C 0 dX8_begin_13 rfl rfl ?_
    refine gw_getRs (ci := 7) (Cn := RX8) (T0 := TX8) (N := 10) C 232 0 kX8_7 fX8 rfl (by decide) rfl rfl dX8_begin_14 xs_231 xn_231 xr_231_0 ?_
    refine gw_iconst C dX8_begin_17 ?_
    refine gw_iald C 5 dX8_begin_18 xs_232 xn_232 (by omega) (by omega) (by decide) (fun hI_18 => ?_)
    refine gw_iconst C dX8_begin_19 ?_
    refine gw_icmp_ne C (tgt := 27) dX8_begin_20 (by decide) hI_18 ⟨by decide, by decide⟩ (fun h_20 => ?_) (fun h_20 => ?_)
    · skip
      refine gw_iconst C dX8_begin_27 ?_
      refine gw_callVm C (as := [vI 0]) (st := []) (ci := 7) (T0 := TX8) (N := 10) (c_X8_throwsAt hl0 G I J 0 ⟨by decide, by decide⟩) dX8_begin_28 kX8_70 qX8_throwsAt hdX8_throwsAt ⟨Nat.le_of_ble_eq_true rfl, Nat.le_of_ble_eq_true rfl⟩ ⟨Nat.le_of_ble_eq_true rfl, Nat.le_of_ble_eq_true rfl⟩ (Nat.le_of_ble_eq_true rfl) rfl xs_231 xn_231 rfl (fun z_28 => ?_)
      rw [show (if (0 : Int) < 0 then (1 : Int) else 0) = 0 from by decide]
      refine gw_if_eq C (tgt := 36) dX8_begin_31 (by decide) ⟨by decide, by decide⟩ (fun _ => ?_) (fun h => absurd h (by decide))
      refine gw_aload_n C 0 dX8_begin_36 rfl rfl ?_
      refine gw_callV C (as := []) (st := []) (ci := 7) (T0 := TX8) (N := 10) (c_X8_saves hl0 G (up I 231 6 0) J (by rw [show up I 231 6 0 231 2 = I 231 2 from up_ne2 (by decide)]; exact hp) (by rw [show up I 231 6 0 231 3 = I 231 3 from up_ne2 (by decide)]; exact hru)) dX8_begin_37 kX8_74 qX8_saves hdX8_saves ⟨Nat.le_of_ble_eq_true rfl, Nat.le_of_ble_eq_true rfl⟩ ⟨Nat.le_of_ble_eq_true rfl, Nat.le_of_ble_eq_true rfl⟩ (Nat.le_of_ble_eq_true rfl) rfl xs_231 xn_231 rfl (fun _ _ _ _ h => h.elim) ?_
      intro v_37 z_37_2 Ks J_37 hv_37
      obtain ⟨ev_37, hsv, eJ_37⟩ := hv_37
      rw [ev_37, eJ_37]
      have hK232 := sv_232 hsv
      show GW G p l e ({ frames := 1, cells := 0, slots := 0, locals := 21 } : Room) s m args below meth c 3 z_37_2 N0 SH RR Ks J 0 0 (vx_MQ below (GQ G N0 SH RR (mmQ (kBegin (I 232) x1) (I 232 5) I J (oBegin (I 232) (I 232 5).toNat x1))) (GX G N0 SH RR gNo) args s 0 0 (ge G)) 40 [some (vR 231), some (vI x1), none] []
      refine gw_bipush C dX8_begin_40 rfl ?_
      refine gw_bipush C dX8_begin_42 rfl ?_
      refine gw_aload_n C 0 dX8_begin_44 rfl rfl ?_
      refine gw_getRs (ci := 7) (Cn := RX8) (T0 := TX8) (N := 10) C 232 0 kX8_7 fX8 rfl (by decide) rfl rfl dX8_begin_45 xs_231 xn_231 xr_231_0 ?_
      refine gw_iconst C dX8_begin_48 ?_
      refine gw_iald C 5 dX8_begin_49 xs_232 xn_232 (by omega) (by omega) (by decide) (fun hI_49 => ?_)
      rw [show (Ks 232 5) = (I 232 5) from by rw [hK232]] at hI_49 ⊢
      refine gw_imul C dX8_begin_50 ?_
      refine gw_iadd C dX8_begin_51 ?_
      refine gw_istore_n C (lo1 := [some (vR 231), some (vI x1), some (vI (102 + (28 * (I 232 5))))]) 2 dX8_begin_52 rfl (by decide) rfl ?_
      refine gw_aload_n C 0 dX8_begin_53 rfl rfl ?_
      refine gw_getRs (ci := 7) (Cn := RX8) (T0 := TX8) (N := 10) C 232 0 kX8_7 fX8 rfl (by decide) rfl rfl dX8_begin_54 xs_231 xn_231 xr_231_0 ?_
      refine gw_iload_n C 2 dX8_begin_57 rfl rfl ?_
      refine gw_iload_n C 1 dX8_begin_58 rfl rfl ?_
      refine gw_iast C (102 + 28 * (I 232 5).toNat) dX8_begin_59 xs_232 xn_232 (by omega) (by omega) (by decide) hx1 ?_
      refine gw_aload_n C 0 dX8_begin_60 rfl rfl ?_
      refine gw_getRs (ci := 7) (Cn := RX8) (T0 := TX8) (N := 10) C 232 0 kX8_7 fX8 rfl (by decide) rfl rfl dX8_begin_61 xs_231 xn_231 xr_231_0 ?_
      refine gw_iload_n C 2 dX8_begin_64 rfl rfl ?_
      refine gw_iconst C dX8_begin_65 ?_
      refine gw_iadd C dX8_begin_66 ?_
      refine gw_iconst C dX8_begin_67 ?_
      refine gw_iast C (103 + 28 * (I 232 5).toNat) dX8_begin_68 xs_232 xn_232 (by omega) (by omega) (by decide) ⟨by decide, by decide⟩ ?_
      refine gw_aload_n C 0 dX8_begin_69 rfl rfl ?_
      refine gw_getRs (ci := 7) (Cn := RX8) (T0 := TX8) (N := 10) C 232 0 kX8_7 fX8 rfl (by decide) rfl rfl dX8_begin_70 xs_231 xn_231 xr_231_0 ?_
      refine gw_iload_n C 2 dX8_begin_73 rfl rfl ?_
      refine gw_iconst C dX8_begin_74 ?_
      refine gw_iadd C dX8_begin_75 ?_
      refine gw_iconst C dX8_begin_76 ?_
      refine gw_iast C (104 + 28 * (I 232 5).toNat) dX8_begin_77 xs_232 xn_232 (by omega) (by omega) (by decide) ⟨by decide, by decide⟩ ?_
      refine gw_aload_n C 0 dX8_begin_78 rfl rfl ?_
      refine gw_getRs (ci := 7) (Cn := RX8) (T0 := TX8) (N := 10) C 232 0 kX8_7 fX8 rfl (by decide) rfl rfl dX8_begin_79 xs_231 xn_231 xr_231_0 ?_
      refine gw_iconst C dX8_begin_82 ?_
      refine gw_dup2IR C dX8_begin_83 ?_
      refine gw_iald C 5 dX8_begin_84 xs_232 xn_232 (by omega) (by omega) (by decide) (fun hI_84 => ?_)
      rw [show ((up (up (up Ks 232 (102 + 28 * (I 232 5).toNat) x1) 232 (103 + 28 * (I 232 5).toNat) 0) 232 (104 + 28 * (I 232 5).toNat) (-1)) 232 5) = (I 232 5) from by (repeat (first | rw [up_eq] | rw [up_ne (by decide)] | rw [up_ne2 (by first | decide | omega)])); rw [hK232]] at hI_84 ⊢
      refine gw_iconst C dX8_begin_85 ?_
      refine gw_iadd C dX8_begin_86 ?_
      refine gw_iast C 5 dX8_begin_87 xs_232 xn_232 (by omega) (by omega) (by decide) (by first | omega | exact hgi _ _) ?_
      refine gw_aload_n C 0 dX8_begin_88 rfl rfl ?_
      refine gw_getRs (ci := 7) (Cn := RX8) (T0 := TX8) (N := 10) C 232 0 kX8_7 fX8 rfl (by decide) rfl rfl dX8_begin_89 xs_231 xn_231 xr_231_0 ?_
      refine gw_iconst C dX8_begin_92 ?_
      refine gw_iald C 5 dX8_begin_93 xs_232 xn_232 (by omega) (by omega) (by decide) (fun hI_93 => ?_)
      rw [show ((up (up (up (up Ks 232 (102 + 28 * (I 232 5).toNat) x1) 232 (103 + 28 * (I 232 5).toNat) 0) 232 (104 + 28 * (I 232 5).toNat) (-1)) 232 5 ((I 232 5) + 1)) 232 5) = ((I 232 5) + 1) from by (repeat (first | rw [up_eq] | rw [up_ne (by decide)] | rw [up_ne2 (by first | decide | omega)]))] at hI_93 ⊢
      refine gw_iconst C dX8_begin_94 ?_
      refine gw_isub C dX8_begin_95 ?_
      exact gw_iret C (Nat.le_of_ble_eq_true rfl) (Nat.le_of_ble_eq_true rfl) dX8_begin_96 (mm_0 (by unfold kBegin; (repeat (first | rw [if_pos (by omega)] | rw [if_neg (by omega)]))) (by omega) (md_of hsv (by rw [up_us, up_us, up_us, up_us, hK232]; rfl) (fun q f hq => by (repeat rw [up_ne hq]); try rfl)))
    · skip
      refine gw_iconst C dX8_begin_23 ?_
      refine gw_goto C (tgt := 28) dX8_begin_24 (by decide) ?_
      refine gw_callVm C (as := [vI 2]) (st := []) (ci := 7) (T0 := TX8) (N := 10) (c_X8_throwsAt hl0 G I J 2 ⟨by decide, by decide⟩) dX8_begin_28 kX8_70 qX8_throwsAt hdX8_throwsAt ⟨Nat.le_of_ble_eq_true rfl, Nat.le_of_ble_eq_true rfl⟩ ⟨Nat.le_of_ble_eq_true rfl, Nat.le_of_ble_eq_true rfl⟩ (Nat.le_of_ble_eq_true rfl) rfl xs_231 xn_231 rfl (fun z_28_2 => ?_)
      rw [show (if (0 : Int) < 2 then (1 : Int) else 0) = 1 from by decide]
      refine gw_if_eq C (tgt := 36) dX8_begin_31 (by decide) ⟨by decide, by decide⟩ (fun h => absurd h (by decide)) (fun _ => ?_)
      refine gw_iconst C dX8_begin_34 ?_
      exact gw_iret C (Nat.le_of_ble_eq_true rfl) (Nat.le_of_ble_eq_true rfl) dX8_begin_35 (mm_1 (by unfold kBegin; (repeat (first | rw [if_pos (by omega)] | rw [if_neg (by omega)]))) (by decide))
  · skip
    refine gw_if_ne C (tgt := 13) dX8_begin_6 (by decide) ⟨by decide, by decide⟩ (fun h => absurd h (by decide)) (fun _ => ?_)
    refine gw_iconst C dX8_begin_9 ?_
    refine gw_goto C (tgt := 28) dX8_begin_10 (by decide) ?_
    refine gw_callVm C (as := [vI 1]) (st := []) (ci := 7) (T0 := TX8) (N := 10) (c_X8_throwsAt hl0 G I J 1 ⟨by decide, by decide⟩) dX8_begin_28 kX8_70 qX8_throwsAt hdX8_throwsAt ⟨Nat.le_of_ble_eq_true rfl, Nat.le_of_ble_eq_true rfl⟩ ⟨Nat.le_of_ble_eq_true rfl, Nat.le_of_ble_eq_true rfl⟩ (Nat.le_of_ble_eq_true rfl) rfl xs_231 xn_231 rfl (fun z_28_3 => ?_)
    rw [show (if (0 : Int) < 1 then (1 : Int) else 0) = 1 from by decide]
    refine gw_if_eq C (tgt := 36) dX8_begin_31 (by decide) ⟨by decide, by decide⟩ (fun h => absurd h (by decide)) (fun _ => ?_)
    refine gw_iconst C dX8_begin_34 ?_
    exact gw_iret C (Nat.le_of_ble_eq_true rfl) (Nat.le_of_ble_eq_true rfl) dX8_begin_35 (mm_1 (by unfold kBegin; (repeat (first | rw [if_pos (by omega)] | rw [if_neg (by omega)]))) (by decide))
set_option maxHeartbeats 4000000 in
set_option maxRecDepth 100000 in
theorem c_X8_addLeg {l : Launch} (hl0 : l.stackTraces = false) (G : GG) (I J : GI) {z : Nat} (ho : Oks (I 232)) (hp : 0 ≤ I 231 2 ∧ I 231 2 ≤ 4) (hru : 0 ≤ I 231 3 ∧ I 231 3 ≤ 1) (x1 x2 x3 : Int) (hx1 : inI x1) (hx2 : inI x2) (hx3 : inI x3) : GM l yX8_addLeg (.code yX8_addLeg cX8_addLeg 6 (some .int)) 2 45 0 0 G N0 SH RR [vR 231, vI x1, vI x2, vI x3] z I J (mmQ (rfL (I 232) x1 x2 x3) (I 232 (103 + 28 * x1.toNat)) I J (oAdd (I 232) x1.toNat (I 232 (103 + 28 * x1.toNat)).toNat x2 x3)) gNo := by
  refine gm_of (lo0 := [some (vR 231), some (vI x1), some (vI x2), some (vI x3), none, none]) hl0 (by decide) rfl (Nat.le_of_ble_eq_true rfl) ?_
  intro p e s m args below meth c C ht hgi
  have C : gC G p l s m args meth c cX8_addLeg 6 RX8 (some .int) "addLeg" := C
  have h3 := ho.2.1
  have h0 := ho.1
  have hot := fun (h : 0 ≤ x1 ∧ x1 < I 232 5) => okT ho (t := x1.toNat) (by omega)
  refine gw_iload_n C 2 dX8_addLeg_0 rfl rfl ?_
  refine gw_callSb C (as := [vI x2]) (st := []) (c_X8_isAngle hl0 G x2 hx2) dX8_addLeg_1 kX8_123 qX8_isAngle hdX8_isAngle ⟨Nat.le_of_ble_eq_true rfl, Nat.le_of_ble_eq_true rfl⟩ ⟨Nat.le_of_ble_eq_true rfl, Nat.le_of_ble_eq_true rfl⟩ (Nat.le_of_ble_eq_true rfl) rfl (fun h_1 z_1 => ?_) (fun h_1 z_1 => ?_)
  · skip
    refine gw_if_eq C (tgt := 23) dX8_addLeg_4 (by decide) ⟨by decide, by decide⟩ (fun h => absurd h (by decide)) (fun _ => ?_)
    refine gw_iload_n C 3 dX8_addLeg_7 rfl rfl ?_
    refine gw_i2l C dX8_addLeg_8 hx3 ?_
    refine gw_lconst C 1 dX8_addLeg_9 (by decide) ?_
    refine gw_ldc2 C (x := 200000) dX8_addLeg_10 kX8_153 (by decide) ?_
    refine gw_callSb C (as := [vL x3, vL 1, vL 200000]) (st := []) (c_X8_in hl0 G x3 1 200000 (by omega) ⟨by decide, by decide⟩ ⟨by decide, by decide⟩) dX8_addLeg_13 kX8_62 qX8_in hdX8_in ⟨Nat.le_of_ble_eq_true rfl, Nat.le_of_ble_eq_true rfl⟩ ⟨Nat.le_of_ble_eq_true rfl, Nat.le_of_ble_eq_true rfl⟩ (Nat.le_of_ble_eq_true rfl) rfl (fun h_13 z_13 => ?_) (fun h_13 z_13 => ?_)
    · skip
      refine gw_if_eq C (tgt := 23) dX8_addLeg_16 (by decide) ⟨by decide, by decide⟩ (fun h => absurd h (by decide)) (fun _ => ?_)
      refine gw_iconst C dX8_addLeg_19 ?_
      refine gw_goto C (tgt := 24) dX8_addLeg_20 (by decide) ?_
      refine gw_istore C (lo1 := [some (vR 231), some (vI x1), some (vI x2), some (vI x3), some (vI 1), none]) dX8_addLeg_24 (by decide) rfl ?_
      refine gw_aload_n C 0 dX8_addLeg_26 rfl rfl ?_
      refine gw_aload_n C 0 dX8_addLeg_27 rfl rfl ?_
      refine gw_iload_n C 1 dX8_addLeg_28 rfl rfl ?_
      refine gw_callVb C (as := [vI x1]) (st := [vR 231]) (ci := 7) (T0 := TX8) (N := 10) (c_X8_isTraverse hl0 G I J ho x1 (by first | assumption | omega)) dX8_addLeg_29 kX8_155 qX8_isTraverse hdX8_isTraverse ⟨Nat.le_of_ble_eq_true rfl, Nat.le_of_ble_eq_true rfl⟩ ⟨Nat.le_of_ble_eq_true rfl, Nat.le_of_ble_eq_true rfl⟩ (Nat.le_of_ble_eq_true rfl) rfl xs_231 xn_231 rfl (fun h_29 z_29 => ?_) (fun h_29 z_29 => ?_)
      · skip
        refine gw_if_ne C (tgt := 39) dX8_addLeg_32 (by decide) ⟨by decide, by decide⟩ (fun _ => ?_) (fun h => absurd h (by decide))
        refine gw_iload C dX8_addLeg_39 rfl ?_
        refine gw_if_ne C (tgt := 48) dX8_addLeg_41 (by decide) ⟨by decide, by decide⟩ (fun _ => ?_) (fun h => absurd h (by decide))
        have hot_ := hot (by omega)
        refine gw_aload_n C 0 dX8_addLeg_48 rfl rfl ?_
        refine gw_iload_n C 1 dX8_addLeg_49 rfl rfl ?_
        refine gw_callVb C (as := [vI x1]) (st := [vR 231]) (ci := 7) (T0 := TX8) (N := 10) (c_X8_isClosed hl0 G I J ho x1 (by omega)) dX8_addLeg_50 kX8_158 qX8_isClosed hdX8_isClosed ⟨Nat.le_of_ble_eq_true rfl, Nat.le_of_ble_eq_true rfl⟩ ⟨Nat.le_of_ble_eq_true rfl, Nat.le_of_ble_eq_true rfl⟩ (Nat.le_of_ble_eq_true rfl) rfl xs_231 xn_231 rfl (fun h_50 z_50 => ?_) (fun h_50 z_50 => ?_)
        · skip
          refine gw_if_ne C (tgt := 66) dX8_addLeg_53 (by decide) ⟨by decide, by decide⟩ (fun _ => ?_) (fun h => absurd h (by decide))
          refine gw_iconst C dX8_addLeg_66 ?_
          refine gw_goto C (tgt := 71) dX8_addLeg_67 (by decide) ?_
          refine gw_callVm C (as := [vI 3]) (st := []) (ci := 7) (T0 := TX8) (N := 10) (c_X8_throwsAt hl0 G I J 3 ⟨by decide, by decide⟩) dX8_addLeg_71 kX8_70 qX8_throwsAt hdX8_throwsAt ⟨Nat.le_of_ble_eq_true rfl, Nat.le_of_ble_eq_true rfl⟩ ⟨Nat.le_of_ble_eq_true rfl, Nat.le_of_ble_eq_true rfl⟩ (Nat.le_of_ble_eq_true rfl) rfl xs_231 xn_231 rfl (fun z_71 => ?_)
          rw [show (if (0 : Int) < 3 then (1 : Int) else 0) = 1 from by decide]
          refine gw_if_eq C (tgt := 79) dX8_addLeg_74 (by decide) ⟨by decide, by decide⟩ (fun h => absurd h (by decide)) (fun _ => ?_)
          refine gw_iconst C dX8_addLeg_77 ?_
          exact gw_iret C (Nat.le_of_ble_eq_true rfl) (Nat.le_of_ble_eq_true rfl) dX8_addLeg_78 (mm_1 (by unfold rfL; (repeat (first | rw [if_pos (by omega)] | rw [if_neg (by omega)]))) (by decide))
        · skip
          refine gw_if_ne C (tgt := 66) dX8_addLeg_53 (by decide) ⟨by decide, by decide⟩ (fun h => absurd h (by decide)) (fun _ => ?_)
          refine gw_aload_n C 0 dX8_addLeg_56 rfl rfl ?_
          refine gw_iload_n C 1 dX8_addLeg_57 rfl rfl ?_
          refine gw_callVm C (as := [vI x1]) (st := [vR 231]) (ci := 7) (T0 := TX8) (N := 10) (c_X8_legs hl0 G I J ho x1 (by omega)) dX8_addLeg_58 kX8_77 qX8_legs hdX8_legs ⟨Nat.le_of_ble_eq_true rfl, Nat.le_of_ble_eq_true rfl⟩ ⟨Nat.le_of_ble_eq_true rfl, Nat.le_of_ble_eq_true rfl⟩ (Nat.le_of_ble_eq_true rfl) rfl xs_231 xn_231 rfl (fun z_58 => ?_)
          refine gw_bipush C dX8_addLeg_61 rfl ?_
          refine gw_icmp_ne C (tgt := 70) dX8_addLeg_63 (by decide) (by first | omega | exact hgi _ _) ⟨by decide, by decide⟩ (fun h_63 => ?_) (fun h_63 => ?_)
          · skip
            refine gw_iconst C dX8_addLeg_70 ?_
            refine gw_callVm C (as := [vI 0]) (st := []) (ci := 7) (T0 := TX8) (N := 10) (c_X8_throwsAt hl0 G I J 0 ⟨by decide, by decide⟩) dX8_addLeg_71 kX8_70 qX8_throwsAt hdX8_throwsAt ⟨Nat.le_of_ble_eq_true rfl, Nat.le_of_ble_eq_true rfl⟩ ⟨Nat.le_of_ble_eq_true rfl, Nat.le_of_ble_eq_true rfl⟩ (Nat.le_of_ble_eq_true rfl) rfl xs_231 xn_231 rfl (fun z_71_2 => ?_)
            rw [show (if (0 : Int) < 0 then (1 : Int) else 0) = 0 from by decide]
            refine gw_if_eq C (tgt := 79) dX8_addLeg_74 (by decide) ⟨by decide, by decide⟩ (fun _ => ?_) (fun h => absurd h (by decide))
            have hot_ := hot (by omega)
            refine gw_aload_n C 0 dX8_addLeg_79 rfl rfl ?_
            refine gw_callV C (as := []) (st := []) (ci := 7) (T0 := TX8) (N := 10) (c_X8_saves hl0 G (up I 231 6 0) J (by rw [show up I 231 6 0 231 2 = I 231 2 from up_ne2 (by decide)]; exact hp) (by rw [show up I 231 6 0 231 3 = I 231 3 from up_ne2 (by decide)]; exact hru)) dX8_addLeg_80 kX8_74 qX8_saves hdX8_saves ⟨Nat.le_of_ble_eq_true rfl, Nat.le_of_ble_eq_true rfl⟩ ⟨Nat.le_of_ble_eq_true rfl, Nat.le_of_ble_eq_true rfl⟩ (Nat.le_of_ble_eq_true rfl) rfl xs_231 xn_231 rfl (fun _ _ _ _ h => h.elim) ?_
            intro v_80 z_80_2 Ks J_80 hv_80
            obtain ⟨ev_80, hsv, eJ_80⟩ := hv_80
            rw [ev_80, eJ_80]
            have hK232 := sv_232 hsv
            show GW G p l e ({ frames := 2, cells := 0, slots := 0, locals := 45 } : Room) s m args below meth c 6 z_80_2 N0 SH RR Ks J 0 0 (vx_MQ below (GQ G N0 SH RR (mmQ (rfL (I 232) x1 x2 x3) (I 232 (103 + 28 * x1.toNat)) I J (oAdd (I 232) x1.toNat (I 232 (103 + 28 * x1.toNat)).toNat x2 x3))) (GX G N0 SH RR gNo) args s 0 0 (ge G)) 83 [some (vR 231), some (vI x1), some (vI x2), some (vI x3), some (vI 1), none] []
            refine gw_bipush C dX8_addLeg_83 rfl ?_
            refine gw_bipush C dX8_addLeg_85 rfl ?_
            refine gw_iload_n C 1 dX8_addLeg_87 rfl rfl ?_
            refine gw_imul C dX8_addLeg_88 ?_
            refine gw_iadd C dX8_addLeg_89 ?_
            refine gw_istore C (lo1 := [some (vR 231), some (vI x1), some (vI x2), some (vI x3), some (vI 1), some (vI (102 + (28 * x1)))]) dX8_addLeg_90 (by decide) rfl ?_
            refine gw_aload_n C 0 dX8_addLeg_92 rfl rfl ?_
            refine gw_getRs (ci := 7) (Cn := RX8) (T0 := TX8) (N := 10) C 232 0 kX8_7 fX8 rfl (by decide) rfl rfl dX8_addLeg_93 xs_231 xn_231 xr_231_0 ?_
            refine gw_iload C dX8_addLeg_96 rfl ?_
            refine gw_iconst C dX8_addLeg_98 ?_
            refine gw_iadd C dX8_addLeg_99 ?_
            refine gw_iconst C dX8_addLeg_100 ?_
            refine gw_aload_n C 0 dX8_addLeg_101 rfl rfl ?_
            refine gw_getRs (ci := 7) (Cn := RX8) (T0 := TX8) (N := 10) C 232 0 kX8_7 fX8 rfl (by decide) rfl rfl dX8_addLeg_102 xs_231 xn_231 xr_231_0 ?_
            refine gw_iload C dX8_addLeg_105 rfl ?_
            refine gw_iconst C dX8_addLeg_107 ?_
            refine gw_iadd C dX8_addLeg_108 ?_
            refine gw_iald C (103 + 28 * x1.toNat) dX8_addLeg_109 xs_232 xn_232 (by omega) (by omega) (by decide) (fun hI_109 => ?_)
            rw [show (Ks 232 (103 + 28 * x1.toNat)) = (I 232 (103 + 28 * x1.toNat)) from by rw [hK232]] at hI_109 ⊢
            refine gw_imul C dX8_addLeg_110 ?_
            refine gw_iadd C dX8_addLeg_111 ?_
            refine gw_iload_n C 2 dX8_addLeg_112 rfl rfl ?_
            refine gw_iast C (106 + 28 * x1.toNat + 2 * (I 232 (103 + 28 * x1.toNat)).toNat) dX8_addLeg_113 xs_232 xn_232 (by omega) (by omega) (by decide) hx2 ?_
            refine gw_aload_n C 0 dX8_addLeg_114 rfl rfl ?_
            refine gw_getRs (ci := 7) (Cn := RX8) (T0 := TX8) (N := 10) C 232 0 kX8_7 fX8 rfl (by decide) rfl rfl dX8_addLeg_115 xs_231 xn_231 xr_231_0 ?_
            refine gw_iload C dX8_addLeg_118 rfl ?_
            refine gw_iconst C dX8_addLeg_120 ?_
            refine gw_iadd C dX8_addLeg_121 ?_
            refine gw_iconst C dX8_addLeg_122 ?_
            refine gw_aload_n C 0 dX8_addLeg_123 rfl rfl ?_
            refine gw_getRs (ci := 7) (Cn := RX8) (T0 := TX8) (N := 10) C 232 0 kX8_7 fX8 rfl (by decide) rfl rfl dX8_addLeg_124 xs_231 xn_231 xr_231_0 ?_
            refine gw_iload C dX8_addLeg_127 rfl ?_
            refine gw_iconst C dX8_addLeg_129 ?_
            refine gw_iadd C dX8_addLeg_130 ?_
            refine gw_iald C (103 + 28 * x1.toNat) dX8_addLeg_131 xs_232 xn_232 (by omega) (by omega) (by decide) (fun hI_131 => ?_)
            rw [show ((up Ks 232 (106 + 28 * x1.toNat + 2 * (I 232 (103 + 28 * x1.toNat)).toNat) x2) 232 (103 + 28 * x1.toNat)) = (I 232 (103 + 28 * x1.toNat)) from by (repeat (first | rw [up_eq] | rw [up_ne (by decide)] | rw [up_ne2 (by first | decide | omega)])); rw [hK232]] at hI_131 ⊢
            refine gw_imul C dX8_addLeg_132 ?_
            refine gw_iadd C dX8_addLeg_133 ?_
            refine gw_iload_n C 3 dX8_addLeg_134 rfl rfl ?_
            refine gw_iast C (107 + 28 * x1.toNat + 2 * (I 232 (103 + 28 * x1.toNat)).toNat) dX8_addLeg_135 xs_232 xn_232 (by omega) (by omega) (by decide) hx3 ?_
            refine gw_aload_n C 0 dX8_addLeg_136 rfl rfl ?_
            refine gw_getRs (ci := 7) (Cn := RX8) (T0 := TX8) (N := 10) C 232 0 kX8_7 fX8 rfl (by decide) rfl rfl dX8_addLeg_137 xs_231 xn_231 xr_231_0 ?_
            refine gw_iload C dX8_addLeg_140 rfl ?_
            refine gw_iconst C dX8_addLeg_142 ?_
            refine gw_iadd C dX8_addLeg_143 ?_
            refine gw_dup2IR C dX8_addLeg_144 ?_
            refine gw_iald C (103 + 28 * x1.toNat) dX8_addLeg_145 xs_232 xn_232 (by omega) (by omega) (by decide) (fun hI_145 => ?_)
            rw [show ((up (up Ks 232 (106 + 28 * x1.toNat + 2 * (I 232 (103 + 28 * x1.toNat)).toNat) x2) 232 (107 + 28 * x1.toNat + 2 * (I 232 (103 + 28 * x1.toNat)).toNat) x3) 232 (103 + 28 * x1.toNat)) = (I 232 (103 + 28 * x1.toNat)) from by (repeat (first | rw [up_eq] | rw [up_ne (by decide)] | rw [up_ne2 (by first | decide | omega)])); rw [hK232]] at hI_145 ⊢
            refine gw_iconst C dX8_addLeg_146 ?_
            refine gw_iadd C dX8_addLeg_147 ?_
            refine gw_iast C (103 + 28 * x1.toNat) dX8_addLeg_148 xs_232 xn_232 (by omega) (by omega) (by decide) (by first | omega | exact hgi _ _) ?_
            refine gw_aload_n C 0 dX8_addLeg_149 rfl rfl ?_
            refine gw_getRs (ci := 7) (Cn := RX8) (T0 := TX8) (N := 10) C 232 0 kX8_7 fX8 rfl (by decide) rfl rfl dX8_addLeg_150 xs_231 xn_231 xr_231_0 ?_
            refine gw_iload C dX8_addLeg_153 rfl ?_
            refine gw_iconst C dX8_addLeg_155 ?_
            refine gw_iadd C dX8_addLeg_156 ?_
            refine gw_iald C (103 + 28 * x1.toNat) dX8_addLeg_157 xs_232 xn_232 (by omega) (by omega) (by decide) (fun hI_157 => ?_)
            rw [show ((up (up (up Ks 232 (106 + 28 * x1.toNat + 2 * (I 232 (103 + 28 * x1.toNat)).toNat) x2) 232 (107 + 28 * x1.toNat + 2 * (I 232 (103 + 28 * x1.toNat)).toNat) x3) 232 (103 + 28 * x1.toNat) ((I 232 (103 + 28 * x1.toNat)) + 1)) 232 (103 + 28 * x1.toNat)) = ((I 232 (103 + 28 * x1.toNat)) + 1) from by (repeat (first | rw [up_eq] | rw [up_ne (by decide)] | rw [up_ne2 (by first | decide | omega)]))] at hI_157 ⊢
            refine gw_iconst C dX8_addLeg_158 ?_
            refine gw_isub C dX8_addLeg_159 ?_
            exact gw_iret C (Nat.le_of_ble_eq_true rfl) (Nat.le_of_ble_eq_true rfl) dX8_addLeg_160 (mm_0 (by unfold rfL; (repeat (first | rw [if_pos (by omega)] | rw [if_neg (by omega)]))) (by omega) (md_of hsv (by rw [up_us, up_us, up_us, hK232]; rfl) (fun q f hq => by (repeat rw [up_ne hq]); try rfl)))
          · skip
            refine gw_iconst C dX8_addLeg_66 ?_
            refine gw_goto C (tgt := 71) dX8_addLeg_67 (by decide) ?_
            refine gw_callVm C (as := [vI 3]) (st := []) (ci := 7) (T0 := TX8) (N := 10) (c_X8_throwsAt hl0 G I J 3 ⟨by decide, by decide⟩) dX8_addLeg_71 kX8_70 qX8_throwsAt hdX8_throwsAt ⟨Nat.le_of_ble_eq_true rfl, Nat.le_of_ble_eq_true rfl⟩ ⟨Nat.le_of_ble_eq_true rfl, Nat.le_of_ble_eq_true rfl⟩ (Nat.le_of_ble_eq_true rfl) rfl xs_231 xn_231 rfl (fun z_71_3 => ?_)
            rw [show (if (0 : Int) < 3 then (1 : Int) else 0) = 1 from by decide]
            refine gw_if_eq C (tgt := 79) dX8_addLeg_74 (by decide) ⟨by decide, by decide⟩ (fun h => absurd h (by decide)) (fun _ => ?_)
            refine gw_iconst C dX8_addLeg_77 ?_
            exact gw_iret C (Nat.le_of_ble_eq_true rfl) (Nat.le_of_ble_eq_true rfl) dX8_addLeg_78 (mm_1 (by unfold rfL; (repeat (first | rw [if_pos (by omega)] | rw [if_neg (by omega)]))) (by decide))
      · skip
        refine gw_if_ne C (tgt := 39) dX8_addLeg_32 (by decide) ⟨by decide, by decide⟩ (fun h => absurd h (by decide)) (fun _ => ?_)
        refine gw_iconst C dX8_addLeg_35 ?_
        refine gw_goto C (tgt := 71) dX8_addLeg_36 (by decide) ?_
        refine gw_callVm C (as := [vI 1]) (st := []) (ci := 7) (T0 := TX8) (N := 10) (c_X8_throwsAt hl0 G I J 1 ⟨by decide, by decide⟩) dX8_addLeg_71 kX8_70 qX8_throwsAt hdX8_throwsAt ⟨Nat.le_of_ble_eq_true rfl, Nat.le_of_ble_eq_true rfl⟩ ⟨Nat.le_of_ble_eq_true rfl, Nat.le_of_ble_eq_true rfl⟩ (Nat.le_of_ble_eq_true rfl) rfl xs_231 xn_231 rfl (fun z_71_4 => ?_)
        rw [show (if (0 : Int) < 1 then (1 : Int) else 0) = 1 from by decide]
        refine gw_if_eq C (tgt := 79) dX8_addLeg_74 (by decide) ⟨by decide, by decide⟩ (fun h => absurd h (by decide)) (fun _ => ?_)
        refine gw_iconst C dX8_addLeg_77 ?_
        exact gw_iret C (Nat.le_of_ble_eq_true rfl) (Nat.le_of_ble_eq_true rfl) dX8_addLeg_78 (mm_1 (by unfold rfL; (repeat (first | rw [if_pos (by omega)] | rw [if_neg (by omega)]))) (by decide))
    · skip
      refine gw_if_eq C (tgt := 23) dX8_addLeg_16 (by decide) ⟨by decide, by decide⟩ (fun _ => ?_) (fun h => absurd h (by decide))
      refine gw_iconst C dX8_addLeg_23 ?_
      refine gw_istore C (lo1 := [some (vR 231), some (vI x1), some (vI x2), some (vI x3), some (vI 0), none]) dX8_addLeg_24 (by decide) rfl ?_
      refine gw_aload_n C 0 dX8_addLeg_26 rfl rfl ?_
      refine gw_aload_n C 0 dX8_addLeg_27 rfl rfl ?_
      refine gw_iload_n C 1 dX8_addLeg_28 rfl rfl ?_
      refine gw_callVb C (as := [vI x1]) (st := [vR 231]) (ci := 7) (T0 := TX8) (N := 10) (c_X8_isTraverse hl0 G I J ho x1 (by first | assumption | omega)) dX8_addLeg_29 kX8_155 qX8_isTraverse hdX8_isTraverse ⟨Nat.le_of_ble_eq_true rfl, Nat.le_of_ble_eq_true rfl⟩ ⟨Nat.le_of_ble_eq_true rfl, Nat.le_of_ble_eq_true rfl⟩ (Nat.le_of_ble_eq_true rfl) rfl xs_231 xn_231 rfl (fun h_29_2 z_29_2 => ?_) (fun h_29_2 z_29_2 => ?_)
      · skip
        refine gw_if_ne C (tgt := 39) dX8_addLeg_32 (by decide) ⟨by decide, by decide⟩ (fun _ => ?_) (fun h => absurd h (by decide))
        refine gw_iload C dX8_addLeg_39 rfl ?_
        refine gw_if_ne C (tgt := 48) dX8_addLeg_41 (by decide) ⟨by decide, by decide⟩ (fun h => absurd h (by decide)) (fun _ => ?_)
        refine gw_iconst C dX8_addLeg_44 ?_
        refine gw_goto C (tgt := 71) dX8_addLeg_45 (by decide) ?_
        refine gw_callVm C (as := [vI 2]) (st := []) (ci := 7) (T0 := TX8) (N := 10) (c_X8_throwsAt hl0 G I J 2 ⟨by decide, by decide⟩) dX8_addLeg_71 kX8_70 qX8_throwsAt hdX8_throwsAt ⟨Nat.le_of_ble_eq_true rfl, Nat.le_of_ble_eq_true rfl⟩ ⟨Nat.le_of_ble_eq_true rfl, Nat.le_of_ble_eq_true rfl⟩ (Nat.le_of_ble_eq_true rfl) rfl xs_231 xn_231 rfl (fun z_71_5 => ?_)
        rw [show (if (0 : Int) < 2 then (1 : Int) else 0) = 1 from by decide]
        refine gw_if_eq C (tgt := 79) dX8_addLeg_74 (by decide) ⟨by decide, by decide⟩ (fun h => absurd h (by decide)) (fun _ => ?_)
        refine gw_iconst C dX8_addLeg_77 ?_
        exact gw_iret C (Nat.le_of_ble_eq_true rfl) (Nat.le_of_ble_eq_true rfl) dX8_addLeg_78 (mm_1 (by unfold rfL; (repeat (first | rw [if_pos (by omega)] | rw [if_neg (by omega)]))) (by decide))
      · skip
        refine gw_if_ne C (tgt := 39) dX8_addLeg_32 (by decide) ⟨by decide, by decide⟩ (fun h => absurd h (by decide)) (fun _ => ?_)
        refine gw_iconst C dX8_addLeg_35 ?_
        refine gw_goto C (tgt := 71) dX8_addLeg_36 (by decide) ?_
        refine gw_callVm C (as := [vI 1]) (st := []) (ci := 7) (T0 := TX8) (N := 10) (c_X8_throwsAt hl0 G I J 1 ⟨by decide, by decide⟩) dX8_addLeg_71 kX8_70 qX8_throwsAt hdX8_throwsAt ⟨Nat.le_of_ble_eq_true rfl, Nat.le_of_ble_eq_true rfl⟩ ⟨Nat.le_of_ble_eq_true rfl, Nat.le_of_ble_eq_true rfl⟩ (Nat.le_of_ble_eq_true rfl) rfl xs_231 xn_231 rfl (fun z_71_6 => ?_)
        rw [show (if (0 : Int) < 1 then (1 : Int) else 0) = 1 from by decide]
        refine gw_if_eq C (tgt := 79) dX8_addLeg_74 (by decide) ⟨by decide, by decide⟩ (fun h => absurd h (by decide)) (fun _ => ?_)
        refine gw_iconst C dX8_addLeg_77 ?_
        exact gw_iret C (Nat.le_of_ble_eq_true rfl) (Nat.le_of_ble_eq_true rfl) dX8_addLeg_78 (mm_1 (by unfold rfL; (repeat (first | rw [if_pos (by omega)] | rw [if_neg (by omega)]))) (by decide))
  · skip
    refine gw_if_eq C (tgt := 23) dX8_addLeg_4 (by decide) ⟨by decide, by decide⟩ (fun _ => ?_) (fun h => absurd h (by decide))
    refine gw_iconst C dX8_addLeg_23 ?_
    refine gw_istore C (lo1 := [some (vR 231), some (vI x1), some (vI x2), some (vI x3), some (vI 0), none]) dX8_addLeg_24 (by decide) rfl ?_
    refine gw_aload_n C 0 dX8_addLeg_26 rfl rfl ?_
    refine gw_aload_n C 0 dX8_addLeg_27 rfl rfl ?_
    refine gw_iload_n C 1 dX8_addLeg_28 rfl rfl ?_
    refine gw_callVb C (as := [vI x1]) (st := [vR 231]) (ci := 7) (T0 := TX8) (N := 10) (c_X8_isTraverse hl0 G I J ho x1 (by first | assumption | omega)) dX8_addLeg_29 kX8_155 qX8_isTraverse hdX8_isTraverse ⟨Nat.le_of_ble_eq_true rfl, Nat.le_of_ble_eq_true rfl⟩ ⟨Nat.le_of_ble_eq_true rfl, Nat.le_of_ble_eq_true rfl⟩ (Nat.le_of_ble_eq_true rfl) rfl xs_231 xn_231 rfl (fun h_29_3 z_29_3 => ?_) (fun h_29_3 z_29_3 => ?_)
    · skip
      refine gw_if_ne C (tgt := 39) dX8_addLeg_32 (by decide) ⟨by decide, by decide⟩ (fun _ => ?_) (fun h => absurd h (by decide))
      refine gw_iload C dX8_addLeg_39 rfl ?_
      refine gw_if_ne C (tgt := 48) dX8_addLeg_41 (by decide) ⟨by decide, by decide⟩ (fun h => absurd h (by decide)) (fun _ => ?_)
      refine gw_iconst C dX8_addLeg_44 ?_
      refine gw_goto C (tgt := 71) dX8_addLeg_45 (by decide) ?_
      refine gw_callVm C (as := [vI 2]) (st := []) (ci := 7) (T0 := TX8) (N := 10) (c_X8_throwsAt hl0 G I J 2 ⟨by decide, by decide⟩) dX8_addLeg_71 kX8_70 qX8_throwsAt hdX8_throwsAt ⟨Nat.le_of_ble_eq_true rfl, Nat.le_of_ble_eq_true rfl⟩ ⟨Nat.le_of_ble_eq_true rfl, Nat.le_of_ble_eq_true rfl⟩ (Nat.le_of_ble_eq_true rfl) rfl xs_231 xn_231 rfl (fun z_71_7 => ?_)
      rw [show (if (0 : Int) < 2 then (1 : Int) else 0) = 1 from by decide]
      refine gw_if_eq C (tgt := 79) dX8_addLeg_74 (by decide) ⟨by decide, by decide⟩ (fun h => absurd h (by decide)) (fun _ => ?_)
      refine gw_iconst C dX8_addLeg_77 ?_
      exact gw_iret C (Nat.le_of_ble_eq_true rfl) (Nat.le_of_ble_eq_true rfl) dX8_addLeg_78 (mm_1 (by unfold rfL; (repeat (first | rw [if_pos (by omega)] | rw [if_neg (by omega)]))) (by decide))
    · skip
      refine gw_if_ne C (tgt := 39) dX8_addLeg_32 (by decide) ⟨by decide, by decide⟩ (fun h => absurd h (by decide)) (fun _ => ?_)
      refine gw_iconst C dX8_addLeg_35 ?_
      refine gw_goto C (tgt := 71) dX8_addLeg_36 (by decide) ?_
      refine gw_callVm C (as := [vI 1]) (st := []) (ci := 7) (T0 := TX8) (N := 10) (c_X8_throwsAt hl0 G I J 1 ⟨by decide, by decide⟩) dX8_addLeg_71 kX8_70 qX8_throwsAt hdX8_throwsAt ⟨Nat.le_of_ble_eq_true rfl, Nat.le_of_ble_eq_true rfl⟩ ⟨Nat.le_of_ble_eq_true rfl, Nat.le_of_ble_eq_true rfl⟩ (Nat.le_of_ble_eq_true rfl) rfl xs_231 xn_231 rfl (fun z_71_8 => ?_)
      rw [show (if (0 : Int) < 1 then (1 : Int) else 0) = 1 from by decide]
      refine gw_if_eq C (tgt := 79) dX8_addLeg_74 (by decide) ⟨by decide, by decide⟩ (fun h => absurd h (by decide)) (fun _ => ?_)
      refine gw_iconst C dX8_addLeg_77 ?_
      exact gw_iret C (Nat.le_of_ble_eq_true rfl) (Nat.le_of_ble_eq_true rfl) dX8_addLeg_78 (mm_1 (by unfold rfL; (repeat (first | rw [if_pos (by omega)] | rw [if_neg (by omega)]))) (by decide))
set_option maxHeartbeats 4000000 in
set_option maxRecDepth 100000 in
theorem c_X8_dropLeg {l : Launch} (hl0 : l.stackTraces = false) (G : GG) (I J : GI) {z : Nat} (ho : Oks (I 232)) (hp : 0 ≤ I 231 2 ∧ I 231 2 ≤ 4) (hru : 0 ≤ I 231 3 ∧ I 231 3 ≤ 1) (x1 : Int) (hx1 : inI x1) : GM l yX8_dropLeg (.code yX8_dropLeg cX8_dropLeg 3 (some .int)) 2 43 0 0 G N0 SH RR [vR 231, vI x1] z I J (mmQ (kDrop (I 232) x1) (I 232 (103 + 28 * x1.toNat) - 1) I J (oDrop (I 232) x1.toNat)) gNo := by
  refine gm_of (lo0 := [some (vR 231), some (vI x1), none]) hl0 (by decide) rfl (Nat.le_of_ble_eq_true rfl) ?_
  intro p e s m args below meth c C ht hgi
  have C : gC G p l s m args meth c cX8_dropLeg 3 RX8 (some .int) "dropLeg" := C
  have h3 := ho.2.1
  have h0 := ho.1
  have hot := fun (h : 0 ≤ x1 ∧ x1 < I 232 5) => okT ho (t := x1.toNat) (by omega)
  refine gw_aload_n C 0 dX8_dropLeg_0 rfl rfl ?_
  refine gw_aload_n C 0 dX8_dropLeg_1 rfl rfl ?_
  refine gw_iload_n C 1 dX8_dropLeg_2 rfl rfl ?_
  refine gw_callVb C (as := [vI x1]) (st := [vR 231]) (ci := 7) (T0 := TX8) (N := 10) (c_X8_isTraverse hl0 G I J ho x1 (by first | assumption | omega)) dX8_dropLeg_3 kX8_155 qX8_isTraverse hdX8_isTraverse ⟨Nat.le_of_ble_eq_true rfl, Nat.le_of_ble_eq_true rfl⟩ ⟨Nat.le_of_ble_eq_true rfl, Nat.le_of_ble_eq_true rfl⟩ (Nat.le_of_ble_eq_true rfl) rfl xs_231 xn_231 rfl (fun h_3 z_3 => ?_) (fun h_3 z_3 => ?_)
  · skip
    refine gw_if_ne C (tgt := 13) dX8_dropLeg_6 (by decide) ⟨by decide, by decide⟩ (fun _ => ?_) (fun h => absurd h (by decide))
    refine gw_aload_n C 0 dX8_dropLeg_13 rfl rfl ?_
    refine gw_iload_n C 1 dX8_dropLeg_14 rfl rfl ?_
    refine gw_callVm C (as := [vI x1]) (st := [vR 231]) (ci := 7) (T0 := TX8) (N := 10) (c_X8_legs hl0 G I J ho x1 (by omega)) dX8_dropLeg_15 kX8_77 qX8_legs hdX8_legs ⟨Nat.le_of_ble_eq_true rfl, Nat.le_of_ble_eq_true rfl⟩ ⟨Nat.le_of_ble_eq_true rfl, Nat.le_of_ble_eq_true rfl⟩ (Nat.le_of_ble_eq_true rfl) rfl xs_231 xn_231 rfl (fun z_15 => ?_)
    refine gw_if_ne C (tgt := 25) dX8_dropLeg_18 (by decide) (by first | omega | exact hgi _ _) (fun h_18 => ?_) (fun h_18 => ?_)
    · skip
      refine gw_iconst C dX8_dropLeg_25 ?_
      refine gw_callVm C (as := [vI 0]) (st := []) (ci := 7) (T0 := TX8) (N := 10) (c_X8_throwsAt hl0 G I J 0 ⟨by decide, by decide⟩) dX8_dropLeg_26 kX8_70 qX8_throwsAt hdX8_throwsAt ⟨Nat.le_of_ble_eq_true rfl, Nat.le_of_ble_eq_true rfl⟩ ⟨Nat.le_of_ble_eq_true rfl, Nat.le_of_ble_eq_true rfl⟩ (Nat.le_of_ble_eq_true rfl) rfl xs_231 xn_231 rfl (fun z_26 => ?_)
      rw [show (if (0 : Int) < 0 then (1 : Int) else 0) = 0 from by decide]
      refine gw_if_eq C (tgt := 34) dX8_dropLeg_29 (by decide) ⟨by decide, by decide⟩ (fun _ => ?_) (fun h => absurd h (by decide))
      refine gw_aload_n C 0 dX8_dropLeg_34 rfl rfl ?_
      refine gw_callV C (as := []) (st := []) (ci := 7) (T0 := TX8) (N := 10) (c_X8_saves hl0 G (up I 231 6 0) J (by rw [show up I 231 6 0 231 2 = I 231 2 from up_ne2 (by decide)]; exact hp) (by rw [show up I 231 6 0 231 3 = I 231 3 from up_ne2 (by decide)]; exact hru)) dX8_dropLeg_35 kX8_74 qX8_saves hdX8_saves ⟨Nat.le_of_ble_eq_true rfl, Nat.le_of_ble_eq_true rfl⟩ ⟨Nat.le_of_ble_eq_true rfl, Nat.le_of_ble_eq_true rfl⟩ (Nat.le_of_ble_eq_true rfl) rfl xs_231 xn_231 rfl (fun _ _ _ _ h => h.elim) ?_
      intro v_35 z_35_2 Ks J_35 hv_35
      obtain ⟨ev_35, hsv, eJ_35⟩ := hv_35
      rw [ev_35, eJ_35]
      have hK232 := sv_232 hsv
      show GW G p l e ({ frames := 2, cells := 0, slots := 0, locals := 43 } : Room) s m args below meth c 3 z_35_2 N0 SH RR Ks J 0 0 (vx_MQ below (GQ G N0 SH RR (mmQ (kDrop (I 232) x1) (I 232 (103 + 28 * x1.toNat) - 1) I J (oDrop (I 232) x1.toNat))) (GX G N0 SH RR gNo) args s 0 0 (ge G)) 38 [some (vR 231), some (vI x1), none] []
      refine gw_bipush C dX8_dropLeg_38 rfl ?_
      refine gw_bipush C dX8_dropLeg_40 rfl ?_
      refine gw_iload_n C 1 dX8_dropLeg_42 rfl rfl ?_
      refine gw_imul C dX8_dropLeg_43 ?_
      refine gw_iadd C dX8_dropLeg_44 ?_
      refine gw_istore_n C (lo1 := [some (vR 231), some (vI x1), some (vI (102 + (28 * x1)))]) 2 dX8_dropLeg_45 rfl (by decide) rfl ?_
      refine gw_aload_n C 0 dX8_dropLeg_46 rfl rfl ?_
      refine gw_getRs (ci := 7) (Cn := RX8) (T0 := TX8) (N := 10) C 232 0 kX8_7 fX8 rfl (by decide) rfl rfl dX8_dropLeg_47 xs_231 xn_231 xr_231_0 ?_
      refine gw_iload_n C 2 dX8_dropLeg_50 rfl rfl ?_
      refine gw_iconst C dX8_dropLeg_51 ?_
      refine gw_iadd C dX8_dropLeg_52 ?_
      refine gw_dup2IR C dX8_dropLeg_53 ?_
      refine gw_iald C (103 + 28 * x1.toNat) dX8_dropLeg_54 xs_232 xn_232 (by omega) (by omega) (by decide) (fun hI_54 => ?_)
      rw [show (Ks 232 (103 + 28 * x1.toNat)) = (I 232 (103 + 28 * x1.toNat)) from by rw [hK232]] at hI_54 ⊢
      refine gw_iconst C dX8_dropLeg_55 ?_
      refine gw_isub C dX8_dropLeg_56 ?_
      refine gw_iast C (103 + 28 * x1.toNat) dX8_dropLeg_57 xs_232 xn_232 (by omega) (by omega) (by decide) (by first | omega | exact hgi _ _) ?_
      refine gw_aload_n C 0 dX8_dropLeg_58 rfl rfl ?_
      refine gw_getRs (ci := 7) (Cn := RX8) (T0 := TX8) (N := 10) C 232 0 kX8_7 fX8 rfl (by decide) rfl rfl dX8_dropLeg_59 xs_231 xn_231 xr_231_0 ?_
      refine gw_iload_n C 2 dX8_dropLeg_62 rfl rfl ?_
      refine gw_iconst C dX8_dropLeg_63 ?_
      refine gw_iadd C dX8_dropLeg_64 ?_
      refine gw_iconst C dX8_dropLeg_65 ?_
      refine gw_iast C (104 + 28 * x1.toNat) dX8_dropLeg_66 xs_232 xn_232 (by omega) (by omega) (by decide) ⟨by decide, by decide⟩ ?_
      refine gw_aload_n C 0 dX8_dropLeg_67 rfl rfl ?_
      refine gw_getRs (ci := 7) (Cn := RX8) (T0 := TX8) (N := 10) C 232 0 kX8_7 fX8 rfl (by decide) rfl rfl dX8_dropLeg_68 xs_231 xn_231 xr_231_0 ?_
      refine gw_iload_n C 2 dX8_dropLeg_71 rfl rfl ?_
      refine gw_iconst C dX8_dropLeg_72 ?_
      refine gw_iadd C dX8_dropLeg_73 ?_
      refine gw_iald C (103 + 28 * x1.toNat) dX8_dropLeg_74 xs_232 xn_232 (by omega) (by omega) (by decide) (fun hI_74 => ?_)
      rw [show ((up (up Ks 232 (103 + 28 * x1.toNat) ((I 232 (103 + 28 * x1.toNat)) - 1)) 232 (104 + 28 * x1.toNat) (-1)) 232 (103 + 28 * x1.toNat)) = ((I 232 (103 + 28 * x1.toNat)) - 1) from by (repeat (first | rw [up_eq] | rw [up_ne (by decide)] | rw [up_ne2 (by first | decide | omega)]))] at hI_74 ⊢
      exact gw_iret C (Nat.le_of_ble_eq_true rfl) (Nat.le_of_ble_eq_true rfl) dX8_dropLeg_75 (mm_0 (by unfold kDrop; (repeat (first | rw [if_pos (by omega)] | rw [if_neg (by omega)]))) (by first | rfl | omega) (md_of hsv (by rw [up_us, up_us, hK232]; rfl) (fun q f hq => by (repeat rw [up_ne hq]); try rfl)))
    · skip
      refine gw_iconst C dX8_dropLeg_21 ?_
      refine gw_goto C (tgt := 26) dX8_dropLeg_22 (by decide) ?_
      refine gw_callVm C (as := [vI 2]) (st := []) (ci := 7) (T0 := TX8) (N := 10) (c_X8_throwsAt hl0 G I J 2 ⟨by decide, by decide⟩) dX8_dropLeg_26 kX8_70 qX8_throwsAt hdX8_throwsAt ⟨Nat.le_of_ble_eq_true rfl, Nat.le_of_ble_eq_true rfl⟩ ⟨Nat.le_of_ble_eq_true rfl, Nat.le_of_ble_eq_true rfl⟩ (Nat.le_of_ble_eq_true rfl) rfl xs_231 xn_231 rfl (fun z_26_2 => ?_)
      rw [show (if (0 : Int) < 2 then (1 : Int) else 0) = 1 from by decide]
      refine gw_if_eq C (tgt := 34) dX8_dropLeg_29 (by decide) ⟨by decide, by decide⟩ (fun h => absurd h (by decide)) (fun _ => ?_)
      refine gw_iconst C dX8_dropLeg_32 ?_
      exact gw_iret C (Nat.le_of_ble_eq_true rfl) (Nat.le_of_ble_eq_true rfl) dX8_dropLeg_33 (mm_1 (by unfold kDrop; (repeat (first | rw [if_pos (by omega)] | rw [if_neg (by omega)]))) (by decide))
  · skip
    refine gw_if_ne C (tgt := 13) dX8_dropLeg_6 (by decide) ⟨by decide, by decide⟩ (fun h => absurd h (by decide)) (fun _ => ?_)
    refine gw_iconst C dX8_dropLeg_9 ?_
    refine gw_goto C (tgt := 26) dX8_dropLeg_10 (by decide) ?_
    refine gw_callVm C (as := [vI 1]) (st := []) (ci := 7) (T0 := TX8) (N := 10) (c_X8_throwsAt hl0 G I J 1 ⟨by decide, by decide⟩) dX8_dropLeg_26 kX8_70 qX8_throwsAt hdX8_throwsAt ⟨Nat.le_of_ble_eq_true rfl, Nat.le_of_ble_eq_true rfl⟩ ⟨Nat.le_of_ble_eq_true rfl, Nat.le_of_ble_eq_true rfl⟩ (Nat.le_of_ble_eq_true rfl) rfl xs_231 xn_231 rfl (fun z_26_3 => ?_)
    rw [show (if (0 : Int) < 1 then (1 : Int) else 0) = 1 from by decide]
    refine gw_if_eq C (tgt := 34) dX8_dropLeg_29 (by decide) ⟨by decide, by decide⟩ (fun h => absurd h (by decide)) (fun _ => ?_)
    refine gw_iconst C dX8_dropLeg_32 ?_
    exact gw_iret C (Nat.le_of_ble_eq_true rfl) (Nat.le_of_ble_eq_true rfl) dX8_dropLeg_33 (mm_1 (by unfold kDrop; (repeat (first | rw [if_pos (by omega)] | rw [if_neg (by omega)]))) (by decide))
