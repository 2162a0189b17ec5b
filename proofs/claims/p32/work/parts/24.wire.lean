set_option maxHeartbeats 4000000 in
set_option maxRecDepth 100000 in
theorem c_X6_meanOfTurns {l : Launch} (hl0 : l.stackTraces = false) (G : GG) (I J : GI) {z : Nat} {r : Nat} (hr : wireQ r) (hw : wOk I r) : GM l yX6_meanOfTurns (.code yX6_meanOfTurns cX6_meanOfTurns 3 (some .int)) 1 23 0 0 G N0 SH RR [vR r] z I J (memQ (some (vI (wR I r))) I J) gNo := by
  refine gm_of (lo0 := [some (vR r), none, none]) hl0 (by decide) rfl (Nat.le_of_ble_eq_true rfl) ?_
  intro p e s m args below meth c C ht hgi
  have C : gC G p l s m args meth c cX6_meanOfTurns 3 RX6 (some .int) "meanOfTurns" := C
  obtain ⟨n, hn⟩ : ∃ n : Nat, I r 2 = (n : Int) := ⟨(I r 2).toNat, by have := hw.2.1; omega⟩
  have h9 : n ≤ 9 := by have := hw.2.1; omega
  have ht := hw.2.2
  have hn1 : (I r 2).toNat = n := by omega
  refine gw_aload_n C 0 dX6_meanOfTurns_0 rfl rfl ?_
  refine gw_getI (ci := 5) (Cn := RX6) (T0 := TX6) (N := 7) C 2 kX6_22 fX6 rfl (by decide) rfl rfl dX6_meanOfTurns_1 (wq_s hr) (wq_n hr) (fun hI_1 => ?_)
  rw [hn] at hI_1 ⊢
  refine gw_iconst C dX6_meanOfTurns_4 ?_
  refine gw_icmp_lt C (tgt := 20) dX6_meanOfTurns_5 (by decide) hI_1 ⟨by decide, by decide⟩ (fun h_5 => ?_) (fun h_5 => ?_)
  · skip
    refine gw_ldc C (x := (-2000000000)) dX6_meanOfTurns_20 kX6_47 (by decide) ?_
    exact gw_iret C (Nat.le_of_ble_eq_true rfl) (Nat.le_of_ble_eq_true rfl) dX6_meanOfTurns_22 (⟨congrArg (fun q => some (vI q)) (by unfold wR restF; rw [hn1, if_pos (by omega)]), rfl, rfl⟩)
  · skip
    refine gw_aload_n C 0 dX6_meanOfTurns_8 rfl rfl ?_
    refine gw_getI (ci := 5) (Cn := RX6) (T0 := TX6) (N := 7) C 2 kX6_22 fX6 rfl (by decide) rfl rfl dX6_meanOfTurns_9 (wq_s hr) (wq_n hr) (fun hI_9 => ?_)
    rw [hn] at hI_9 ⊢
    refine gw_aload_n C 0 dX6_meanOfTurns_12 rfl rfl ?_
    refine gw_getRs (ci := 5) (Cn := RX6) (T0 := TX6) (N := 7) C (r + 1) 6 kX6_9 fX6 rfl (by decide) rfl rfl dX6_meanOfTurns_13 (wq_s hr) (wq_n hr) (wq_R hr) ?_
    refine gw_alen C (t := 0) dX6_meanOfTurns_16 rfl (wq_s1 hr) (wq_n1 hr) ?_
    refine gw_icmp_le C (tgt := 23) dX6_meanOfTurns_17 (by decide) hI_9 ⟨by decide, by decide⟩ (fun _ => ?_) (fun h => absurd h (by omega))
    refine gw_aload_n C 0 dX6_meanOfTurns_23 rfl rfl ?_
    refine gw_getRs (ci := 5) (Cn := RX6) (T0 := TX6) (N := 7) C (r + 1) 6 kX6_9 fX6 rfl (by decide) rfl rfl dX6_meanOfTurns_24 (wq_s hr) (wq_n hr) (wq_R hr) ?_
    refine gw_iconst C dX6_meanOfTurns_27 ?_
    refine gw_iald C 0 dX6_meanOfTurns_28 (wq_s1 hr) (wq_n1 hr) (by omega) (by omega) (by decide) (fun hI_28 => ?_)
    have ha_28 := ht 0 (by omega)
    refine gw_aload_n C 0 dX6_meanOfTurns_29 rfl rfl ?_
    refine gw_getRs (ci := 5) (Cn := RX6) (T0 := TX6) (N := 7) C (r + 1) 6 kX6_9 fX6 rfl (by decide) rfl rfl dX6_meanOfTurns_30 (wq_s hr) (wq_n hr) (wq_R hr) ?_
    refine gw_aload_n C 0 dX6_meanOfTurns_33 rfl rfl ?_
    refine gw_getI (ci := 5) (Cn := RX6) (T0 := TX6) (N := 7) C 2 kX6_22 fX6 rfl (by decide) rfl rfl dX6_meanOfTurns_34 (wq_s hr) (wq_n hr) (fun hI_34 => ?_)
    rw [hn] at hI_34 ⊢
    refine gw_iconst C dX6_meanOfTurns_37 ?_
    refine gw_isub C dX6_meanOfTurns_38 ?_
    refine gw_iald C (n - 1) dX6_meanOfTurns_39 (wq_s1 hr) (wq_n1 hr) (by omega) (by omega) (by decide) (fun hI_39 => ?_)
    have ha_39 := ht (n - 1) (by omega)
    refine gw_iadd C dX6_meanOfTurns_40 ?_
    refine gw_istore_n C (lo1 := [some (vR r), some (vI ((I (r + 1) 0) + (I (r + 1) (n - 1)))), none]) 1 dX6_meanOfTurns_41 rfl (by decide) rfl ?_
    refine gw_iconst C dX6_meanOfTurns_42 ?_
    refine gw_istore_n C (lo1 := [some (vR r), some (vI ((I (r + 1) 0) + (I (r + 1) (n - 1)))), some (vI 1)]) 2 dX6_meanOfTurns_43 rfl (by decide) rfl ?_
    have loop_44 : ∀ (fuel : Nat) (u : Int) (i : Nat), (1 ≤ i ∧ i + 1 ≤ n) → (u = I (r + 1) 0 + I (r + 1) (n - 1) + 2 * (smF i (I (r + 1)) - I (r + 1) 0)) → n - i < fuel → GW G p l e ({ frames := 1, cells := 0, slots := 0, locals := 23 } : Room) s m args below meth c 3 z N0 SH RR I J 0 0 (vx_MQ below (GQ G N0 SH RR (memQ (some (vI (wR I r))) I J)) (GX G N0 SH RR gNo) args s 0 0 (ge G)) 44 [some (vR r), some (vI u), some (vI (i : Int))] [] := by
      intro fuel
      induction fuel with
      | zero => intro u i hi hs hf_44; exact absurd hf_44 (Nat.not_lt_zero _)
      | succ fuel ih_44 =>
        intro u i hi hs hf_44
        have hb := smF_b (M := 999) ht i (by omega)
        have h00 := ht 0 (by omega)
        have hll := ht (n - 1) (by omega)
        refine gw_iload_n C 2 dX6_meanOfTurns_44 rfl rfl ?_
        refine gw_aload_n C 0 dX6_meanOfTurns_45 rfl rfl ?_
        refine gw_getI (ci := 5) (Cn := RX6) (T0 := TX6) (N := 7) C 2 kX6_22 fX6 rfl (by decide) rfl rfl dX6_meanOfTurns_46 (wq_s hr) (wq_n hr) (fun hI_46 => ?_)
        rw [hn] at hI_46 ⊢
        refine gw_iconst C dX6_meanOfTurns_49 ?_
        refine gw_isub C dX6_meanOfTurns_50 ?_
        refine gw_icmp_ge C (tgt := 71) dX6_meanOfTurns_51 (by decide) (by omega) (by omega) (fun h_51 => ?_) (fun h_51 => ?_)
        · skip
          refine gw_iload_n C 1 dX6_meanOfTurns_71 rfl rfl ?_
          refine gw_i2l C dX6_meanOfTurns_72 (by omega) ?_
          refine gw_iconst C dX6_meanOfTurns_73 ?_
          refine gw_aload_n C 0 dX6_meanOfTurns_74 rfl rfl ?_
          refine gw_getI (ci := 5) (Cn := RX6) (T0 := TX6) (N := 7) C 2 kX6_22 fX6 rfl (by decide) rfl rfl dX6_meanOfTurns_75 (wq_s hr) (wq_n hr) (fun hI_75 => ?_)
          rw [hn] at hI_75 ⊢
          refine gw_iconst C dX6_meanOfTurns_78 ?_
          refine gw_isub C dX6_meanOfTurns_79 ?_
          refine gw_imul C dX6_meanOfTurns_80 ?_
          refine gw_i2l C dX6_meanOfTurns_81 (by omega) ?_
          refine gw_callSm C (as := [vL u, vL (2 * ((n : Int) - 1))]) (st := []) (c_X3_quotient hl0 G u (2 * ((n : Int) - 1)) (by omega) (by omega) (by omega)) dX6_meanOfTurns_82 kX6_48 qX3_quotient hdX3_quotient ⟨Nat.le_of_ble_eq_true rfl, Nat.le_of_ble_eq_true rfl⟩ ⟨Nat.le_of_ble_eq_true rfl, Nat.le_of_ble_eq_true rfl⟩ (Nat.le_of_ble_eq_true rfl) rfl (fun z_82 => ?_)
          exact gw_iret C (Nat.le_of_ble_eq_true rfl) (Nat.le_of_ble_eq_true rfl) dX6_meanOfTurns_85 (⟨congrArg (fun q => some (vI q)) (by unfold wR restF; rw [hn1, if_neg (by omega), hs, show i = n - 1 by omega]), rfl, rfl⟩)
        · skip
          refine gw_iload_n C 1 dX6_meanOfTurns_54 rfl rfl ?_
          refine gw_iconst C dX6_meanOfTurns_55 ?_
          refine gw_aload_n C 0 dX6_meanOfTurns_56 rfl rfl ?_
          refine gw_getRs (ci := 5) (Cn := RX6) (T0 := TX6) (N := 7) C (r + 1) 6 kX6_9 fX6 rfl (by decide) rfl rfl dX6_meanOfTurns_57 (wq_s hr) (wq_n hr) (wq_R hr) ?_
          refine gw_iload_n C 2 dX6_meanOfTurns_60 rfl rfl ?_
          refine gw_iald C i dX6_meanOfTurns_61 (wq_s1 hr) (wq_n1 hr) (by omega) (by omega) (by decide) (fun hI_61 => ?_)
          have ha_61 := ht i (by omega)
          refine gw_imul C dX6_meanOfTurns_62 ?_
          refine gw_iadd C dX6_meanOfTurns_63 ?_
          refine gw_istore_n C (lo1 := [some (vR r), some (vI (u + (2 * (I (r + 1) i)))), some (vI (i : Int))]) 1 dX6_meanOfTurns_64 rfl (by decide) rfl ?_
          refine gw_iinc C (lo1 := [some (vR r), some (vI (u + (2 * (I (r + 1) i)))), some (vI ((i : Int) + 1))]) dX6_meanOfTurns_65 rfl (by decide) rfl ?_
          refine gw_goto C (tgt := 44) dX6_meanOfTurns_68 (by decide) ?_
          have e1 := smF_s (n := i) (t := I (r + 1))
          exact gw_weak (lo' := [some (vR r), some (vI (u + (2 * (I (r + 1) i)))), some (vI (((i + 1) : Nat) : Int))]) ⟨rfl, rfl, congrArg (fun q => some (vI q)) (by omega), trivial⟩ (ih_44 (u + (2 * (I (r + 1) i))) (i + 1) (by omega) (by omega) (by omega))
    exact gw_weak (lo' := [some (vR r), some (vI ((I (r + 1) 0) + (I (r + 1) (n - 1)))), some (vI (1 : Int))]) ⟨rfl, rfl, congrArg (fun q => some (vI q)) (by omega), trivial⟩ (loop_44 _ ((I (r + 1) 0) + (I (r + 1) (n - 1))) 1 (by omega) (by rw [smF_s, smF]; omega) (Nat.lt_succ_self _))
set_option maxHeartbeats 4000000 in
set_option maxRecDepth 100000 in
theorem c_X6_greatestDifference {l : Launch} (hl0 : l.stackTraces = false) (G : GG) (I J : GI) {z : Nat} {r : Nat} (hr : wireQ r) (hw : wOk I r) : GM l yX6_greatestDifference (.code yX6_greatestDifference cX6_greatestDifference 3 (some .int)) 1 21 0 0 G N0 SH RR [vR r] z I J (memQ (some (vI (wD I r))) I J) gNo := by
  refine gm_of (lo0 := [some (vR r), none, none]) hl0 (by decide) rfl (Nat.le_of_ble_eq_true rfl) ?_
  intro p e s m args below meth c C ht hgi
  have C : gC G p l s m args meth c cX6_greatestDifference 3 RX6 (some .int) "greatestDifference" := C
  obtain ⟨n, hn⟩ : ∃ n : Nat, I r 2 = (n : Int) := ⟨(I r 2).toNat, by have := hw.2.1; omega⟩
  have h9 : n ≤ 9 := by have := hw.2.1; omega
  have ht := hw.2.2
  have hn1 : (I r 2).toNat = n := by omega
  refine gw_iconst C dX6_greatestDifference_0 ?_
  refine gw_istore_n C (lo1 := [some (vR r), some (vI 0), none]) 1 dX6_greatestDifference_1 rfl (by decide) rfl ?_
  refine gw_iconst C dX6_greatestDifference_2 ?_
  refine gw_istore_n C (lo1 := [some (vR r), some (vI 0), some (vI 2)]) 2 dX6_greatestDifference_3 rfl (by decide) rfl ?_
  have loop_4 : ∀ (fuel : Nat) (g : Int) (i : Nat), (2 ≤ i ∧ (i ≤ n ∨ i = 2)) → (g = drF i (I (r + 1))) → (0 ≤ g ∧ g ≤ 999) → n + 3 - i < fuel → GW G p l e ({ frames := 1, cells := 0, slots := 0, locals := 21 } : Room) s m args below meth c 3 z N0 SH RR I J 0 0 (vx_MQ below (GQ G N0 SH RR (memQ (some (vI (wD I r))) I J)) (GX G N0 SH RR gNo) args s 0 0 (ge G)) 4 [some (vR r), some (vI g), some (vI (i : Int))] [] := by
    intro fuel
    induction fuel with
    | zero => intro g i hi hg hgb hf_4; exact absurd hf_4 (Nat.not_lt_zero _)
    | succ fuel ih_4 =>
      intro g i hi hg hgb hf_4
      refine gw_iload_n C 2 dX6_greatestDifference_4 rfl rfl ?_
      refine gw_aload_n C 0 dX6_greatestDifference_5 rfl rfl ?_
      refine gw_getI (ci := 5) (Cn := RX6) (T0 := TX6) (N := 7) C 2 kX6_22 fX6 rfl (by decide) rfl rfl dX6_greatestDifference_6 (wq_s hr) (wq_n hr) (fun hI_6 => ?_)
      rw [hn] at hI_6 ⊢
      refine gw_icmp_ge C (tgt := 50) dX6_greatestDifference_9 (by decide) (by omega) hI_6 (fun h_9 => ?_) (fun h_9 => ?_)
      · skip
        refine gw_iload_n C 1 dX6_greatestDifference_50 rfl rfl ?_
        exact gw_iret C (Nat.le_of_ble_eq_true rfl) (Nat.le_of_ble_eq_true rfl) dX6_greatestDifference_51 (⟨congrArg (fun q => some (vI q)) (by unfold wD; rw [hn1, hg]; rcases (show i = n ∨ (n ≤ 2 ∧ i = 2) by omega) with e | e; rw [e]; rw [drF_lo (by omega), drF_lo (by omega)]), rfl, rfl⟩)
      · skip
        refine gw_iload_n C 2 dX6_greatestDifference_12 rfl rfl ?_
        refine gw_aload_n C 0 dX6_greatestDifference_13 rfl rfl ?_
        refine gw_getRs (ci := 5) (Cn := RX6) (T0 := TX6) (N := 7) C (r + 1) 6 kX6_9 fX6 rfl (by decide) rfl rfl dX6_greatestDifference_14 (wq_s hr) (wq_n hr) (wq_R hr) ?_
        refine gw_alen C (t := 0) dX6_greatestDifference_17 rfl (wq_s1 hr) (wq_n1 hr) ?_
        refine gw_icmp_ge C (tgt := 50) dX6_greatestDifference_18 (by decide) (by omega) ⟨by decide, by decide⟩ (fun h => absurd h (by omega)) (fun _ => ?_)
        refine gw_iload_n C 1 dX6_greatestDifference_21 rfl rfl ?_
        refine gw_aload_n C 0 dX6_greatestDifference_22 rfl rfl ?_
        refine gw_getRs (ci := 5) (Cn := RX6) (T0 := TX6) (N := 7) C (r + 1) 6 kX6_9 fX6 rfl (by decide) rfl rfl dX6_greatestDifference_23 (wq_s hr) (wq_n hr) (wq_R hr) ?_
        refine gw_iload_n C 2 dX6_greatestDifference_26 rfl rfl ?_
        refine gw_iald C i dX6_greatestDifference_27 (wq_s1 hr) (wq_n1 hr) (by omega) (by omega) (by decide) (fun hI_27 => ?_)
        have ha_27 := ht i (by omega)
        refine gw_aload_n C 0 dX6_greatestDifference_28 rfl rfl ?_
        refine gw_getRs (ci := 5) (Cn := RX6) (T0 := TX6) (N := 7) C (r + 1) 6 kX6_9 fX6 rfl (by decide) rfl rfl dX6_greatestDifference_29 (wq_s hr) (wq_n hr) (wq_R hr) ?_
        refine gw_iload_n C 2 dX6_greatestDifference_32 rfl rfl ?_
        refine gw_iconst C dX6_greatestDifference_33 ?_
        refine gw_isub C dX6_greatestDifference_34 ?_
        refine gw_iald C (i - 2) dX6_greatestDifference_35 (wq_s1 hr) (wq_n1 hr) (by omega) (by omega) (by decide) (fun hI_35 => ?_)
        have ha_35 := ht (i - 2) (by omega)
        refine gw_isub C dX6_greatestDifference_36 ?_
        refine gw_iabs C dX6_greatestDifference_37 kX6_54 (by omega) (by omega) (Nat.le_of_ble_eq_true rfl) (Nat.le_of_ble_eq_true rfl) (Nat.le_of_ble_eq_true rfl) (Nat.le_of_ble_eq_true rfl) ?_
        refine gw_imax C dX6_greatestDifference_40 kX6_60 (by omega) (by omega) (Nat.le_of_ble_eq_true rfl) (Nat.le_of_ble_eq_true rfl) (Nat.le_of_ble_eq_true rfl) (Nat.le_of_ble_eq_true rfl) ?_
        refine gw_istore_n C (lo1 := [some (vR r), some (vI (if g < ((((I (r + 1) i) - (I (r + 1) (i - 2)))).natAbs : Int) then ((((I (r + 1) i) - (I (r + 1) (i - 2)))).natAbs : Int) else g)), some (vI (i : Int))]) 1 dX6_greatestDifference_43 rfl (by decide) rfl ?_
        refine gw_iinc C (lo1 := [some (vR r), some (vI (if g < ((((I (r + 1) i) - (I (r + 1) (i - 2)))).natAbs : Int) then ((((I (r + 1) i) - (I (r + 1) (i - 2)))).natAbs : Int) else g)), some (vI ((i : Int) + 1))]) dX6_greatestDifference_44 rfl (by decide) rfl ?_
        refine gw_goto C (tgt := 4) dX6_greatestDifference_47 (by decide) ?_
        have e1 := drF_s (n := i) (t := I (r + 1)) hi.1
        exact gw_weak (lo' := [some (vR r), some (vI (if g < ((((I (r + 1) i) - (I (r + 1) (i - 2)))).natAbs : Int) then ((((I (r + 1) i) - (I (r + 1) (i - 2)))).natAbs : Int) else g)), some (vI (((i + 1) : Nat) : Int))]) ⟨rfl, rfl, congrArg (fun q => some (vI q)) (by omega), trivial⟩ (ih_4 (if g < ((((I (r + 1) i) - (I (r + 1) (i - 2)))).natAbs : Int) then ((((I (r + 1) i) - (I (r + 1) (i - 2)))).natAbs : Int) else g) (i + 1) (by omega) (by rw [e1, ← hg]) (by split <;> omega) (by omega))
  exact gw_weak (lo' := [some (vR r), some (vI 0), some (vI (2 : Int))]) ⟨rfl, rfl, congrArg (fun q => some (vI q)) (by omega), trivial⟩ (loop_4 _ 0 2 (by omega) (by rw [drF_lo (by omega)]) (by omega) (Nat.lt_succ_self _))
set_option maxHeartbeats 4000000 in
set_option maxRecDepth 100000 in
theorem c_X6_judge {l : Launch} (hl0 : l.stackTraces = false) (G : GG) (I J : GI) {z : Nat} {r : Nat} (hr : wireQ r) (hw : wOk I r) (d : Int) (hd : 0 ≤ d ∧ d ≤ 999) : GM l yX6_judge (.code yX6_judge cX6_judge 2 none) 2 45 0 0 G N0 SH RR [vR r, vI d] z I J (memQ none (jW I r d) J) gNo := by
  refine gm_of (lo0 := [some (vR r), some (vI d)]) hl0 (by decide) rfl (Nat.le_of_ble_eq_true rfl) ?_
  intro p e s m args below meth c C ht hgi
  have C : gC G p l s m args meth c cX6_judge 2 RX6 none "judge" := C
  have h2 := hw.2.1
  have hbb := wD_b hw
  refine gw_aload_n C 0 dX6_judge_0 rfl rfl ?_
  refine gw_aload_n C 0 dX6_judge_1 rfl rfl ?_
  refine gw_callVm C (as := []) (st := [vR r]) (ci := 5) (T0 := TX6) (N := 7) (c_X6_meanOfTurns hl0 G I J hr hw) dX6_judge_2 kX6_31 qX6_meanOfTurns hdX6_meanOfTurns ⟨Nat.le_of_ble_eq_true rfl, Nat.le_of_ble_eq_true rfl⟩ ⟨Nat.le_of_ble_eq_true rfl, Nat.le_of_ble_eq_true rfl⟩ (Nat.le_of_ble_eq_true rfl) rfl (wq_s hr) (wq_n hr) rfl (fun z_2 => ?_)
  refine gw_putI (ci := 5) (Cn := RX6) (T0 := TX6) (N := 7) C (ty := .int) 3 kX6_35 fX6 rfl (by decide) rfl rfl tyX6 tyX6_ok nmX6 rfl (by decide) rfl rfl (wR_i hw) dX6_judge_5 (wq_s hr) (wq_n hr) ?_
  refine gw_aload_n C 0 dX6_judge_8 rfl rfl ?_
  refine gw_aload_n C 0 dX6_judge_9 rfl rfl ?_
  refine gw_callVm C (as := []) (st := [vR r]) (ci := 5) (T0 := TX6) (N := 7) (c_X6_greatestDifference hl0 G (up I r 3 (wR I r)) J hr (wOk_up hw (by decide))) dX6_judge_10 kX6_38 qX6_greatestDifference hdX6_greatestDifference ⟨Nat.le_of_ble_eq_true rfl, Nat.le_of_ble_eq_true rfl⟩ ⟨Nat.le_of_ble_eq_true rfl, Nat.le_of_ble_eq_true rfl⟩ (Nat.le_of_ble_eq_true rfl) rfl (wq_s hr) (wq_n hr) rfl (fun z_10 => ?_)
  rw [wD_up (by decide)]
  refine gw_putI (ci := 5) (Cn := RX6) (T0 := TX6) (N := 7) C (ty := .int) 4 kX6_41 fX6 rfl (by decide) rfl rfl tyX6 tyX6_ok nmX6 rfl (by decide) rfl rfl (wD_i hw) dX6_judge_13 (wq_s hr) (wq_n hr) ?_
  refine gw_aload_n C 0 dX6_judge_16 rfl rfl ?_
  refine gw_aload_n C 0 dX6_judge_17 rfl rfl ?_
  refine gw_getI (ci := 5) (Cn := RX6) (T0 := TX6) (N := 7) C 2 kX6_22 fX6 rfl (by decide) rfl rfl dX6_judge_18 (wq_s hr) (wq_n hr) (fun hI_18 => ?_)
  rw [show ((up (up I r 3 (wR I r)) r 4 (wD I r)) r 2) = (I r 2) from by simp [up]] at hI_18 ⊢
  refine gw_iconst C dX6_judge_21 ?_
  refine gw_icmp_ge C (tgt := 29) dX6_judge_22 (by decide) hI_18 ⟨by decide, by decide⟩ (fun h_22 => ?_) (fun h_22 => ?_)
  · skip
    refine gw_aload_n C 0 dX6_judge_29 rfl rfl ?_
    refine gw_getI (ci := 5) (Cn := RX6) (T0 := TX6) (N := 7) C 4 kX6_41 fX6 rfl (by decide) rfl rfl dX6_judge_30 (wq_s hr) (wq_n hr) (fun hI_30 => ?_)
    rw [show ((up (up I r 3 (wR I r)) r 4 (wD I r)) r 4) = (wD I r) from by simp [up]] at hI_30 ⊢
    refine gw_iload_n C 1 dX6_judge_33 rfl rfl ?_
    refine gw_icmp_le C (tgt := 41) dX6_judge_34 (by decide) hI_30 (by omega) (fun h_34 => ?_) (fun h_34 => ?_)
    · skip
      refine gw_iconst C dX6_judge_41 ?_
      refine gw_putI (ci := 5) (Cn := RX6) (T0 := TX6) (N := 7) C (ty := .int) 5 kX6_44 fX6 rfl (by decide) rfl rfl tyX6 tyX6_ok nmX6 rfl (by decide) rfl rfl ⟨by decide, by decide⟩ dX6_judge_42 (wq_s hr) (wq_n hr) ?_
      exact gw_vret C (Nat.le_of_ble_eq_true rfl) (Nat.le_of_ble_eq_true rfl) dX6_judge_45 (⟨rfl, (by unfold jW; rw [show wT I r d = 0 from by unfold wT wtF; rw [if_neg (by omega), if_neg (by show ¬ d < wD I r; omega)]]), rfl⟩)
    · skip
      refine gw_iconst C dX6_judge_37 ?_
      refine gw_goto C (tgt := 42) dX6_judge_38 (by decide) ?_
      refine gw_putI (ci := 5) (Cn := RX6) (T0 := TX6) (N := 7) C (ty := .int) 5 kX6_44 fX6 rfl (by decide) rfl rfl tyX6 tyX6_ok nmX6 rfl (by decide) rfl rfl ⟨by decide, by decide⟩ dX6_judge_42 (wq_s hr) (wq_n hr) ?_
      exact gw_vret C (Nat.le_of_ble_eq_true rfl) (Nat.le_of_ble_eq_true rfl) dX6_judge_45 (⟨rfl, (by unfold jW; rw [show wT I r d = 2 from by unfold wT wtF; rw [if_neg (by omega), if_pos (by show d < wD I r; omega)]]), rfl⟩)
  · skip
    refine gw_iconst C dX6_judge_25 ?_
    refine gw_goto C (tgt := 42) dX6_judge_26 (by decide) ?_
    refine gw_putI (ci := 5) (Cn := RX6) (T0 := TX6) (N := 7) C (ty := .int) 5 kX6_44 fX6 rfl (by decide) rfl rfl tyX6 tyX6_ok nmX6 rfl (by decide) rfl rfl ⟨by decide, by decide⟩ dX6_judge_42 (wq_s hr) (wq_n hr) ?_
    exact gw_vret C (Nat.le_of_ble_eq_true rfl) (Nat.le_of_ble_eq_true rfl) dX6_judge_45 (⟨rfl, (by unfold jW; rw [show wT I r d = 1 from by unfold wT wtF; rw [if_pos (by omega)]]), rfl⟩)
set_option maxHeartbeats 4000000 in
set_option maxRecDepth 100000 in
theorem c_X6_number {l : Launch} (hl0 : l.stackTraces = false) (G : GG) (I J : GI) {z : Nat} {r : Nat} (hr : wireQ r) (w : Int) (hww : inI w) : GM l yX6_number (.code yX6_number cX6_number 2 (some .int)) 0 0 0 0 G N0 SH RR [vR r, vI w] z I J (memQ (some (vI (if w = 0 then I r 0 else if w = 1 then I r 1 else if w = 2 then I r 2 else if w = 3 then I r 3 else if w = 4 then I r 5 else I r 4))) I J) gNo := by
  refine gm_of (lo0 := [some (vR r), some (vI w)]) hl0 (by decide) rfl (Nat.le_of_ble_eq_true rfl) ?_
  intro p e s m args below meth c C ht hgi
  have C : gC G p l s m args meth c cX6_number 2 RX6 (some .int) "number" := C
  refine gw_iload_n C 1 dX6_number_0 rfl rfl ?_
  rcases (show w = 0 ∨ w = 1 ∨ w = 2 ∨ w = 3 ∨ w = 4 ∨ (w < 0 ∨ 4 < w) from by omega) with h_1 | h_1 | h_1 | h_1 | h_1 | h_1
  · skip
    refine gw_tableIn C (tgt := 36) (off := 35) dX6_number_1 hww (by omega) (by omega) (by rw [h_1]; rfl) (by decide) ?_
    refine gw_aload_n C 0 dX6_number_36 rfl rfl ?_
    refine gw_getI (ci := 5) (Cn := RX6) (T0 := TX6) (N := 7) C 0 kX6_15 fX6 rfl (by decide) rfl rfl dX6_number_37 (wq_s hr) (wq_n hr) (fun hI_37 => ?_)
    exact gw_iret C (Nat.le_of_ble_eq_true rfl) (Nat.le_of_ble_eq_true rfl) dX6_number_40 (⟨congrArg (fun q => some (vI q)) (by first | (rw [h_1]; rfl) | (repeat (first | rw [if_pos (by omega)] | rw [if_neg (by omega)]))), rfl, rfl⟩)
  · skip
    refine gw_tableIn C (tgt := 41) (off := 40) dX6_number_1 hww (by omega) (by omega) (by rw [h_1]; rfl) (by decide) ?_
    refine gw_aload_n C 0 dX6_number_41 rfl rfl ?_
    refine gw_getI (ci := 5) (Cn := RX6) (T0 := TX6) (N := 7) C 1 kX6_19 fX6 rfl (by decide) rfl rfl dX6_number_42 (wq_s hr) (wq_n hr) (fun hI_42 => ?_)
    exact gw_iret C (Nat.le_of_ble_eq_true rfl) (Nat.le_of_ble_eq_true rfl) dX6_number_45 (⟨congrArg (fun q => some (vI q)) (by first | (rw [h_1]; rfl) | (repeat (first | rw [if_pos (by omega)] | rw [if_neg (by omega)]))), rfl, rfl⟩)
  · skip
    refine gw_tableIn C (tgt := 46) (off := 45) dX6_number_1 hww (by omega) (by omega) (by rw [h_1]; rfl) (by decide) ?_
    refine gw_aload_n C 0 dX6_number_46 rfl rfl ?_
    refine gw_getI (ci := 5) (Cn := RX6) (T0 := TX6) (N := 7) C 2 kX6_22 fX6 rfl (by decide) rfl rfl dX6_number_47 (wq_s hr) (wq_n hr) (fun hI_47 => ?_)
    exact gw_iret C (Nat.le_of_ble_eq_true rfl) (Nat.le_of_ble_eq_true rfl) dX6_number_50 (⟨congrArg (fun q => some (vI q)) (by first | (rw [h_1]; rfl) | (repeat (first | rw [if_pos (by omega)] | rw [if_neg (by omega)]))), rfl, rfl⟩)
  · skip
    refine gw_tableIn C (tgt := 51) (off := 50) dX6_number_1 hww (by omega) (by omega) (by rw [h_1]; rfl) (by decide) ?_
    refine gw_aload_n C 0 dX6_number_51 rfl rfl ?_
    refine gw_getI (ci := 5) (Cn := RX6) (T0 := TX6) (N := 7) C 3 kX6_35 fX6 rfl (by decide) rfl rfl dX6_number_52 (wq_s hr) (wq_n hr) (fun hI_52 => ?_)
    exact gw_iret C (Nat.le_of_ble_eq_true rfl) (Nat.le_of_ble_eq_true rfl) dX6_number_55 (⟨congrArg (fun q => some (vI q)) (by first | (rw [h_1]; rfl) | (repeat (first | rw [if_pos (by omega)] | rw [if_neg (by omega)]))), rfl, rfl⟩)
  · skip
    refine gw_tableIn C (tgt := 56) (off := 55) dX6_number_1 hww (by omega) (by omega) (by rw [h_1]; rfl) (by decide) ?_
    refine gw_aload_n C 0 dX6_number_56 rfl rfl ?_
    refine gw_getI (ci := 5) (Cn := RX6) (T0 := TX6) (N := 7) C 5 kX6_44 fX6 rfl (by decide) rfl rfl dX6_number_57 (wq_s hr) (wq_n hr) (fun hI_57 => ?_)
    exact gw_iret C (Nat.le_of_ble_eq_true rfl) (Nat.le_of_ble_eq_true rfl) dX6_number_60 (⟨congrArg (fun q => some (vI q)) (by first | (rw [h_1]; rfl) | (repeat (first | rw [if_pos (by omega)] | rw [if_neg (by omega)]))), rfl, rfl⟩)
  · skip
    refine gw_tableOut C (tgt := 61) dX6_number_1 hww h_1 (by decide) ?_
    refine gw_aload_n C 0 dX6_number_61 rfl rfl ?_
    refine gw_getI (ci := 5) (Cn := RX6) (T0 := TX6) (N := 7) C 4 kX6_41 fX6 rfl (by decide) rfl rfl dX6_number_62 (wq_s hr) (wq_n hr) (fun hI_62 => ?_)
    exact gw_iret C (Nat.le_of_ble_eq_true rfl) (Nat.le_of_ble_eq_true rfl) dX6_number_65 (⟨congrArg (fun q => some (vI q)) (by first | (rw [h_1]; rfl) | (repeat (first | rw [if_pos (by omega)] | rw [if_neg (by omega)]))), rfl, rfl⟩)
set_option maxHeartbeats 4000000 in
set_option maxRecDepth 100000 in
theorem c_X6_copyFrom {l : Launch} (hl0 : l.stackTraces = false) (G : GG) (I J : GI) {z : Nat} {r q : Nat} (hr : wireQ r) (hq : wireQ q) (hne : q ≠ r ∧ q + 1 ≠ r ∧ q ≠ r + 1) : GM l yX6_copyFrom (.code yX6_copyFrom cX6_copyFrom 2 none) 1 40 0 0 G N0 SH RR [vR r, vR q] z I J (memQ none (cpI (up (up (up I r 0 (I q 0)) r 1 (I q 1)) r 2 (I q 2)) (q + 1) (r + 1) 9) J) gNo := by
  refine gm_of (lo0 := [some (vR r), some (vR q)]) hl0 (by decide) rfl (Nat.le_of_ble_eq_true rfl) ?_
  intro p e s m args below meth c C ht hgi
  have C : gC G p l s m args meth c cX6_copyFrom 2 RX6 none "copyFrom" := C
  refine gw_aload_n C 0 dX6_copyFrom_0 rfl rfl ?_
  refine gw_aload_n C 1 dX6_copyFrom_1 rfl rfl ?_
  refine gw_getI (ci := 5) (Cn := RX6) (T0 := TX6) (N := 7) C 0 kX6_15 fX6 rfl (by decide) rfl rfl dX6_copyFrom_2 (wq_s hq) (wq_n hq) (fun hI_2 => ?_)
  refine gw_putI (ci := 5) (Cn := RX6) (T0 := TX6) (N := 7) C (ty := .int) 0 kX6_15 fX6 rfl (by decide) rfl rfl tyX6 tyX6_ok nmX6 rfl (by decide) rfl rfl hI_2 dX6_copyFrom_5 (wq_s hr) (wq_n hr) ?_
  refine gw_aload_n C 0 dX6_copyFrom_8 rfl rfl ?_
  refine gw_aload_n C 1 dX6_copyFrom_9 rfl rfl ?_
  refine gw_getI (ci := 5) (Cn := RX6) (T0 := TX6) (N := 7) C 1 kX6_19 fX6 rfl (by decide) rfl rfl dX6_copyFrom_10 (wq_s hq) (wq_n hq) (fun hI_10 => ?_)
  rw [show ((up I r 0 (I q 0)) q 1) = (I q 1) from by simp [up, hne.1]] at hI_10 ⊢
  refine gw_putI (ci := 5) (Cn := RX6) (T0 := TX6) (N := 7) C (ty := .int) 1 kX6_19 fX6 rfl (by decide) rfl rfl tyX6 tyX6_ok nmX6 rfl (by decide) rfl rfl hI_10 dX6_copyFrom_13 (wq_s hr) (wq_n hr) ?_
  refine gw_aload_n C 0 dX6_copyFrom_16 rfl rfl ?_
  refine gw_aload_n C 1 dX6_copyFrom_17 rfl rfl ?_
  refine gw_getI (ci := 5) (Cn := RX6) (T0 := TX6) (N := 7) C 2 kX6_22 fX6 rfl (by decide) rfl rfl dX6_copyFrom_18 (wq_s hq) (wq_n hq) (fun hI_18 => ?_)
  rw [show ((up (up I r 0 (I q 0)) r 1 (I q 1)) q 2) = (I q 2) from by simp [up, hne.1]] at hI_18 ⊢
  refine gw_putI (ci := 5) (Cn := RX6) (T0 := TX6) (N := 7) C (ty := .int) 2 kX6_22 fX6 rfl (by decide) rfl rfl tyX6 tyX6_ok nmX6 rfl (by decide) rfl rfl hI_18 dX6_copyFrom_21 (wq_s hr) (wq_n hr) ?_
  refine gw_aload_n C 1 dX6_copyFrom_24 rfl rfl ?_
  refine gw_getRs (ci := 5) (Cn := RX6) (T0 := TX6) (N := 7) C (q + 1) 6 kX6_9 fX6 rfl (by decide) rfl rfl dX6_copyFrom_25 (wq_s hq) (wq_n hq) (wq_R hq) ?_
  refine gw_iconst C dX6_copyFrom_28 ?_
  refine gw_aload_n C 0 dX6_copyFrom_29 rfl rfl ?_
  refine gw_getRs (ci := 5) (Cn := RX6) (T0 := TX6) (N := 7) C (r + 1) 6 kX6_9 fX6 rfl (by decide) rfl rfl dX6_copyFrom_30 (wq_s hr) (wq_n hr) (wq_R hr) ?_
  refine gw_iconst C dX6_copyFrom_33 ?_
  refine gw_bipush C dX6_copyFrom_34 rfl ?_
  refine gw_copy C (u := 9) dX6_copyFrom_36 kX6_25 (wq_s1 hq) (wq_n1 hq) (wq_s1 hr) (wq_n1 hr) (by decide) (by decide) (by decide) (by omega) (Nat.le_of_ble_eq_true rfl) (Nat.le_of_ble_eq_true rfl) (fun z_36 => ?_)
  exact gw_vret C (Nat.le_of_ble_eq_true rfl) (Nat.le_of_ble_eq_true rfl) dX6_copyFrom_39 (⟨rfl, rfl, rfl⟩)
set_option maxHeartbeats 4000000 in
set_option maxRecDepth 100000 in
theorem c_X6_hangAt {l : Launch} (hl0 : l.stackTraces = false) (G : GG) (I J : GI) {z : Nat} {r : Nat} (hr : wireQ r) (x y : Int) (hx : inI x) (hy : inI y) : GM l yX6_hangAt (.code yX6_hangAt cX6_hangAt 3 none) 0 0 0 0 G N0 SH RR [vR r, vI x, vI y] z I J (memQ none (up (up (up I r 0 x) r 1 y) r 2 0) J) gNo := by
  refine gm_of (lo0 := [some (vR r), some (vI x), some (vI y)]) hl0 (by decide) rfl (Nat.le_of_ble_eq_true rfl) ?_
  intro p e s m args below meth c C ht hgi
  have C : gC G p l s m args meth c cX6_hangAt 3 RX6 none "hangAt" := C
  refine gw_aload_n C 0 dX6_hangAt_0 rfl rfl ?_
  refine gw_iload_n C 1 dX6_hangAt_1 rfl rfl ?_
  refine gw_putI (ci := 5) (Cn := RX6) (T0 := TX6) (N := 7) C (ty := .int) 0 kX6_15 fX6 rfl (by decide) rfl rfl tyX6 tyX6_ok nmX6 rfl (by decide) rfl rfl hx dX6_hangAt_2 (wq_s hr) (wq_n hr) ?_
  refine gw_aload_n C 0 dX6_hangAt_5 rfl rfl ?_
  refine gw_iload_n C 2 dX6_hangAt_6 rfl rfl ?_
  refine gw_putI (ci := 5) (Cn := RX6) (T0 := TX6) (N := 7) C (ty := .int) 1 kX6_19 fX6 rfl (by decide) rfl rfl tyX6 tyX6_ok nmX6 rfl (by decide) rfl rfl hy dX6_hangAt_7 (wq_s hr) (wq_n hr) ?_
  refine gw_aload_n C 0 dX6_hangAt_10 rfl rfl ?_
  refine gw_iconst C dX6_hangAt_11 ?_
  refine gw_putI (ci := 5) (Cn := RX6) (T0 := TX6) (N := 7) C (ty := .int) 2 kX6_22 fX6 rfl (by decide) rfl rfl tyX6 tyX6_ok nmX6 rfl (by decide) rfl rfl ⟨by decide, by decide⟩ dX6_hangAt_12 (wq_s hr) (wq_n hr) ?_
  exact gw_vret C (Nat.le_of_ble_eq_true rfl) (Nat.le_of_ble_eq_true rfl) dX6_hangAt_15 (⟨rfl, rfl, rfl⟩)
set_option maxHeartbeats 4000000 in
set_option maxRecDepth 100000 in
theorem c_X6_addTurn {l : Launch} (hl0 : l.stackTraces = false) (G : GG) (I J : GI) {z : Nat} {r : Nat} (hr : wireQ r) (x : Int) (hx : inI x) (h2 : 0 ≤ I r 2 ∧ I r 2 < 9) : GM l yX6_addTurn (.code yX6_addTurn cX6_addTurn 2 (some .int)) 0 0 0 0 G N0 SH RR [vR r, vI x] z I J (memQ (some (vI (I r 2 + 1))) (up (up I (r + 1) (I r 2).toNat x) r 2 (I r 2 + 1)) J) gNo := by
  refine gm_of (lo0 := [some (vR r), some (vI x)]) hl0 (by decide) rfl (Nat.le_of_ble_eq_true rfl) ?_
  intro p e s m args below meth c C ht hgi
  have C : gC G p l s m args meth c cX6_addTurn 2 RX6 (some .int) "addTurn" := C
  refine gw_aload_n C 0 dX6_addTurn_0 rfl rfl ?_
  refine gw_getI (ci := 5) (Cn := RX6) (T0 := TX6) (N := 7) C 2 kX6_22 fX6 rfl (by decide) rfl rfl dX6_addTurn_1 (wq_s hr) (wq_n hr) (fun hI_1 => ?_)
  refine gw_if_lt C (tgt := 39) dX6_addTurn_4 (by decide) hI_1 (fun h => absurd h (by omega)) (fun _ => ?_)
  refine gw_aload_n C 0 dX6_addTurn_7 rfl rfl ?_
  refine gw_getI (ci := 5) (Cn := RX6) (T0 := TX6) (N := 7) C 2 kX6_22 fX6 rfl (by decide) rfl rfl dX6_addTurn_8 (wq_s hr) (wq_n hr) (fun hI_8 => ?_)
  refine gw_aload_n C 0 dX6_addTurn_11 rfl rfl ?_
  refine gw_getRs (ci := 5) (Cn := RX6) (T0 := TX6) (N := 7) C (r + 1) 6 kX6_9 fX6 rfl (by decide) rfl rfl dX6_addTurn_12 (wq_s hr) (wq_n hr) (wq_R hr) ?_
  refine gw_alen C (t := 0) dX6_addTurn_15 rfl (wq_s1 hr) (wq_n1 hr) ?_
  refine gw_icmp_ge C (tgt := 39) dX6_addTurn_16 (by decide) hI_8 ⟨by decide, by decide⟩ (fun h => absurd h (by omega)) (fun _ => ?_)
  refine gw_aload_n C 0 dX6_addTurn_19 rfl rfl ?_
  refine gw_getRs (ci := 5) (Cn := RX6) (T0 := TX6) (N := 7) C (r + 1) 6 kX6_9 fX6 rfl (by decide) rfl rfl dX6_addTurn_20 (wq_s hr) (wq_n hr) (wq_R hr) ?_
  refine gw_aload_n C 0 dX6_addTurn_23 rfl rfl ?_
  refine gw_getI (ci := 5) (Cn := RX6) (T0 := TX6) (N := 7) C 2 kX6_22 fX6 rfl (by decide) rfl rfl dX6_addTurn_24 (wq_s hr) (wq_n hr) (fun hI_24 => ?_)
  refine gw_iload_n C 1 dX6_addTurn_27 rfl rfl ?_
  refine gw_iast C (((I r 2)).toNat) dX6_addTurn_28 (wq_s1 hr) (wq_n1 hr) (by omega) (by omega) (by decide) hx ?_
  refine gw_aload_n C 0 dX6_addTurn_29 rfl rfl ?_
  refine gw_dupR C dX6_addTurn_30 ?_
  refine gw_getI (ci := 5) (Cn := RX6) (T0 := TX6) (N := 7) C 2 kX6_22 fX6 rfl (by decide) rfl rfl dX6_addTurn_31 (wq_s hr) (wq_n hr) (fun hI_31 => ?_)
  rw [show ((up I (r + 1) (((I r 2)).toNat) x) r 2) = (I r 2) from by simp [up]] at hI_31 ⊢
  refine gw_iconst C dX6_addTurn_34 ?_
  refine gw_iadd C dX6_addTurn_35 ?_
  refine gw_putI (ci := 5) (Cn := RX6) (T0 := TX6) (N := 7) C (ty := .int) 2 kX6_22 fX6 rfl (by decide) rfl rfl tyX6 tyX6_ok nmX6 rfl (by decide) rfl rfl (by omega) dX6_addTurn_36 (wq_s hr) (wq_n hr) ?_
  refine gw_aload_n C 0 dX6_addTurn_39 rfl rfl ?_
  refine gw_getI (ci := 5) (Cn := RX6) (T0 := TX6) (N := 7) C 2 kX6_22 fX6 rfl (by decide) rfl rfl dX6_addTurn_40 (wq_s hr) (wq_n hr) (fun hI_40 => ?_)
  rw [show ((up (up I (r + 1) (((I r 2)).toNat) x) r 2 ((I r 2) + 1)) r 2) = (I r 2 + 1) from by simp [up]] at hI_40 ⊢
  exact gw_iret C (Nat.le_of_ble_eq_true rfl) (Nat.le_of_ble_eq_true rfl) dX6_addTurn_43 (⟨rfl, rfl, rfl⟩)
set_option maxHeartbeats 4000000 in
set_option maxRecDepth 100000 in
theorem c_X6_dropTurns {l : Launch} (hl0 : l.stackTraces = false) (G : GG) (I J : GI) {z : Nat} {r : Nat} (hr : wireQ r) : GM l yX6_dropTurns (.code yX6_dropTurns cX6_dropTurns 2 (some .int)) 0 0 0 0 G N0 SH RR [vR r] z I J (memQ (some (vI (I r 2))) (up I r 2 0) J) gNo := by
  refine gm_of (lo0 := [some (vR r), none]) hl0 (by decide) rfl (Nat.le_of_ble_eq_true rfl) ?_
  intro p e s m args below meth c C ht hgi
  have C : gC G p l s m args meth c cX6_dropTurns 2 RX6 (some .int) "dropTurns" := C
  refine gw_aload_n C 0 dX6_dropTurns_0 rfl rfl ?_
  refine gw_getI (ci := 5) (Cn := RX6) (T0 := TX6) (N := 7) C 2 kX6_22 fX6 rfl (by decide) rfl rfl dX6_dropTurns_1 (wq_s hr) (wq_n hr) (fun hI_1 => ?_)
  refine gw_istore_n C (lo1 := [some (vR r), some (vI (I r 2))]) 1 dX6_dropTurns_4 rfl (by decide) rfl ?_
  refine gw_aload_n C 0 dX6_dropTurns_5 rfl rfl ?_
  refine gw_iconst C dX6_dropTurns_6 ?_
  refine gw_putI (ci := 5) (Cn := RX6) (T0 := TX6) (N := 7) C (ty := .int) 2 kX6_22 fX6 rfl (by decide) rfl rfl tyX6 tyX6_ok nmX6 rfl (by decide) rfl rfl ⟨by decide, by decide⟩ dX6_dropTurns_7 (wq_s hr) (wq_n hr) ?_
  refine gw_iload_n C 1 dX6_dropTurns_10 rfl rfl ?_
  exact gw_iret C (Nat.le_of_ble_eq_true rfl) (Nat.le_of_ble_eq_true rfl) dX6_dropTurns_11 (⟨rfl, rfl, rfl⟩)
