set_option maxHeartbeats 4000000 in
set_option maxRecDepth 100000 in
theorem c_X2_legsOfAll {l : Launch} (hl0 : l.stackTraces = false) (G : GG) (I J : GI) {z : Nat} {b : Nat} (hb : mineQ b) (hc : 0 ≤ I b 3 ∧ I b 3 ≤ 4) (hv : ∀ k : Nat, k < 4 → 0 ≤ I (b + 21 + 6 * k) 2 ∧ I (b + 21 + 6 * k) 2 ≤ 12) : GM l yX2_legsOfAll (.code yX2_legsOfAll cX2_legsOfAll 3 (some .int)) 0 0 0 0 G N0 SH RR [vR b] z I J (memQ (some (vI (smF (I b 3).toNat (fun k => I (b + 21 + 6 * k) 2)))) I J) gNo := by
  refine gm_of (lo0 := [some (vR b), none, none]) hl0 (by decide) rfl (Nat.le_of_ble_eq_true rfl) ?_
  intro p e s m args below meth c C ht hgi
  have C : gC G p l s m args meth c cX2_legsOfAll 3 RX2 (some .int) "legsOfAll" := C
  obtain ⟨n, hnn⟩ : ∃ n : Nat, I b 3 = (n : Int) := ⟨(I b 3).toNat, by omega⟩
  have hn1 : (I b 3).toNat = n := by omega
  refine gw_iconst C dX2_legsOfAll_0 ?_
  refine gw_istore_n C (lo1 := [some (vR b), some (vI 0), none]) 1 dX2_legsOfAll_1 rfl (by decide) rfl ?_
  refine gw_iconst C dX2_legsOfAll_2 ?_
  refine gw_istore_n C (lo1 := [some (vR b), some (vI 0), some (vI 0)]) 2 dX2_legsOfAll_3 rfl (by decide) rfl ?_
  have loop_4 : ∀ (fuel : Nat) (u : Int) (k : Nat), (k ≤ n) → (u = smF k (fun k => I (b + 21 + 6 * k) 2)) → n - k < fuel → GW G p l e ({ frames := 0, cells := 0, slots := 0, locals := 0 } : Room) s m args below meth c 3 z N0 SH RR I J 0 0 (vx_MQ below (GQ G N0 SH RR (memQ (some (vI (smF (I b 3).toNat (fun k => I (b + 21 + 6 * k) 2)))) I J)) (GX G N0 SH RR gNo) args s 0 0 (ge G)) 4 [some (vR b), some (vI u), some (vI (k : Int))] [] := by
    intro fuel
    induction fuel with
    | zero => intro u k hk hu hf_4; exact absurd hf_4 (Nat.not_lt_zero _)
    | succ fuel ih_4 =>
      intro u k hk hu hf_4
      have hsb := smF_b (M := 12) hv k (by omega)
      refine gw_iload_n C 2 dX2_legsOfAll_4 rfl rfl ?_
      refine gw_aload_n C 0 dX2_legsOfAll_5 rfl rfl ?_
      refine gw_getI (ci := 2) (Cn := RX2) (T0 := TX2) (N := 7) C 3 kX2_49 fX2 rfl (by decide) rfl rfl dX2_legsOfAll_6 (mq_s hb) (mq_n hb) (fun hI_6 => ?_)
      refine gw_icmp_ge C (tgt := 35) dX2_legsOfAll_9 (by decide) (by omega) hI_6 (fun h_9 => ?_) (fun h_9 => ?_)
      · skip
        refine gw_iload_n C 1 dX2_legsOfAll_35 rfl rfl ?_
        exact gw_iret C (Nat.le_of_ble_eq_true rfl) (Nat.le_of_ble_eq_true rfl) dX2_legsOfAll_36 (⟨congrArg (fun q => some (vI q)) (by rw [hu, hn1, show k = n by omega]), rfl, rfl⟩)
      · skip
        refine gw_iload_n C 2 dX2_legsOfAll_12 rfl rfl ?_
        refine gw_iconst C dX2_legsOfAll_13 ?_
        refine gw_icmp_ge C (tgt := 35) dX2_legsOfAll_14 (by decide) (by omega) ⟨by decide, by decide⟩ (fun h => absurd h (by omega)) (fun _ => ?_)
        refine gw_iload_n C 1 dX2_legsOfAll_17 rfl rfl ?_
        refine gw_aload_n C 0 dX2_legsOfAll_18 rfl rfl ?_
        refine gw_getRs (ci := 2) (Cn := RX2) (T0 := TX2) (N := 7) C (b + 4) 6 kX2_29 fX2 rfl (by decide) rfl rfl dX2_legsOfAll_19 (mq_s hb) (mq_n hb) (mq_R4 hb) ?_
        refine gw_iload_n C 2 dX2_legsOfAll_22 rfl rfl ?_
        refine gw_aalds C (t := 5) (b + 21 + 6 * k) k dX2_legsOfAll_23 rfl (by decide) (mq_s4 hb) (mq_n4 hb) (by omega) (by omega) (by decide) (mq_t hb k (by omega)) ?_
        refine gw_getI (ci := 4) (Cn := RX5) (T0 := TX5) (N := 15) C 2 kX2_110 fX5 rfl (by decide) rfl rfl dX2_legsOfAll_24 (tq_s (mq_tq hb k (by omega))) (tq_n (mq_tq hb k (by omega))) (fun hI_24 => ?_)
        refine gw_iadd C dX2_legsOfAll_27 ?_
        refine gw_istore_n C (lo1 := [some (vR b), some (vI (u + (I (b + 21 + 6 * k) 2))), some (vI (k : Int))]) 1 dX2_legsOfAll_28 rfl (by decide) rfl ?_
        have hvk := hv k (by omega)
        refine gw_iinc C (lo1 := [some (vR b), some (vI (u + (I (b + 21 + 6 * k) 2))), some (vI ((k : Int) + 1))]) dX2_legsOfAll_29 rfl (by decide) rfl ?_
        refine gw_goto C (tgt := 4) dX2_legsOfAll_32 (by decide) ?_
        exact gw_weak (lo' := [some (vR b), some (vI (u + (I (b + 21 + 6 * k) 2))), some (vI (((k + 1) : Nat) : Int))]) ⟨rfl, rfl, congrArg (fun q => some (vI q)) (by omega), trivial⟩ (ih_4 (u + (I (b + 21 + 6 * k) 2)) (k + 1) (by omega) (by rw [smF_s, hu]) (by omega))
  exact gw_weak (lo' := [some (vR b), some (vI 0), some (vI (0 : Int))]) ⟨rfl, rfl, congrArg (fun q => some (vI q)) (by omega), trivial⟩ (loop_4 _ 0 0 (by omega) (by rfl) (Nat.lt_succ_self _))
set_option maxHeartbeats 4000000 in
set_option maxRecDepth 100000 in
theorem c_X2_turnsOfAll {l : Launch} (hl0 : l.stackTraces = false) (G : GG) (I J : GI) {z : Nat} {b : Nat} (hb : mineQ b) (hc : 0 ≤ I b 1 ∧ I b 1 ≤ 6) (hv : ∀ k : Nat, k < 6 → 0 ≤ I (b + 5 + 2 * k) 2 ∧ I (b + 5 + 2 * k) 2 ≤ 9) : GM l yX2_turnsOfAll (.code yX2_turnsOfAll cX2_turnsOfAll 3 (some .int)) 0 0 0 0 G N0 SH RR [vR b] z I J (memQ (some (vI (smF (I b 1).toNat (fun k => I (b + 5 + 2 * k) 2)))) I J) gNo := by
  refine gm_of (lo0 := [some (vR b), none, none]) hl0 (by decide) rfl (Nat.le_of_ble_eq_true rfl) ?_
  intro p e s m args below meth c C ht hgi
  have C : gC G p l s m args meth c cX2_turnsOfAll 3 RX2 (some .int) "turnsOfAll" := C
  obtain ⟨n, hnn⟩ : ∃ n : Nat, I b 1 = (n : Int) := ⟨(I b 1).toNat, by omega⟩
  have hn1 : (I b 1).toNat = n := by omega
  refine gw_iconst C dX2_turnsOfAll_0 ?_
  refine gw_istore_n C (lo1 := [some (vR b), some (vI 0), none]) 1 dX2_turnsOfAll_1 rfl (by decide) rfl ?_
  refine gw_iconst C dX2_turnsOfAll_2 ?_
  refine gw_istore_n C (lo1 := [some (vR b), some (vI 0), some (vI 0)]) 2 dX2_turnsOfAll_3 rfl (by decide) rfl ?_
  have loop_4 : ∀ (fuel : Nat) (u : Int) (k : Nat), (k ≤ n) → (u = smF k (fun k => I (b + 5 + 2 * k) 2)) → n - k < fuel → GW G p l e ({ frames := 0, cells := 0, slots := 0, locals := 0 } : Room) s m args below meth c 3 z N0 SH RR I J 0 0 (vx_MQ below (GQ G N0 SH RR (memQ (some (vI (smF (I b 1).toNat (fun k => I (b + 5 + 2 * k) 2)))) I J)) (GX G N0 SH RR gNo) args s 0 0 (ge G)) 4 [some (vR b), some (vI u), some (vI (k : Int))] [] := by
    intro fuel
    induction fuel with
    | zero => intro u k hk hu hf_4; exact absurd hf_4 (Nat.not_lt_zero _)
    | succ fuel ih_4 =>
      intro u k hk hu hf_4
      have hsb := smF_b (M := 9) hv k (by omega)
      refine gw_iload_n C 2 dX2_turnsOfAll_4 rfl rfl ?_
      refine gw_aload_n C 0 dX2_turnsOfAll_5 rfl rfl ?_
      refine gw_getI (ci := 2) (Cn := RX2) (T0 := TX2) (N := 7) C 1 kX2_42 fX2 rfl (by decide) rfl rfl dX2_turnsOfAll_6 (mq_s hb) (mq_n hb) (fun hI_6 => ?_)
      refine gw_icmp_ge C (tgt := 36) dX2_turnsOfAll_9 (by decide) (by omega) hI_6 (fun h_9 => ?_) (fun h_9 => ?_)
      · skip
        refine gw_iload_n C 1 dX2_turnsOfAll_36 rfl rfl ?_
        exact gw_iret C (Nat.le_of_ble_eq_true rfl) (Nat.le_of_ble_eq_true rfl) dX2_turnsOfAll_37 (⟨congrArg (fun q => some (vI q)) (by rw [hu, hn1, show k = n by omega]), rfl, rfl⟩)
      · skip
        refine gw_iload_n C 2 dX2_turnsOfAll_12 rfl rfl ?_
        refine gw_bipush C dX2_turnsOfAll_13 rfl ?_
        refine gw_icmp_ge C (tgt := 36) dX2_turnsOfAll_15 (by decide) (by omega) ⟨by decide, by decide⟩ (fun h => absurd h (by omega)) (fun _ => ?_)
        refine gw_iload_n C 1 dX2_turnsOfAll_18 rfl rfl ?_
        refine gw_aload_n C 0 dX2_turnsOfAll_19 rfl rfl ?_
        refine gw_getRs (ci := 2) (Cn := RX2) (T0 := TX2) (N := 7) C (b + 2) 4 kX2_17 fX2 rfl (by decide) rfl rfl dX2_turnsOfAll_20 (mq_s hb) (mq_n hb) (mq_R2 hb) ?_
        refine gw_iload_n C 2 dX2_turnsOfAll_23 rfl rfl ?_
        refine gw_aalds C (t := 3) (b + 5 + 2 * k) k dX2_turnsOfAll_24 rfl (by decide) (mq_s2 hb) (mq_n2 hb) (by omega) (by omega) (by decide) (mq_w hb k (by omega)) ?_
        refine gw_getI (ci := 5) (Cn := RX6) (T0 := TX6) (N := 7) C 2 kX2_113 fX6 rfl (by decide) rfl rfl dX2_turnsOfAll_25 (wq_s (mq_wq hb k (by omega))) (wq_n (mq_wq hb k (by omega))) (fun hI_25 => ?_)
        refine gw_iadd C dX2_turnsOfAll_28 ?_
        refine gw_istore_n C (lo1 := [some (vR b), some (vI (u + (I (b + 5 + 2 * k) 2))), some (vI (k : Int))]) 1 dX2_turnsOfAll_29 rfl (by decide) rfl ?_
        have hvk := hv k (by omega)
        refine gw_iinc C (lo1 := [some (vR b), some (vI (u + (I (b + 5 + 2 * k) 2))), some (vI ((k : Int) + 1))]) dX2_turnsOfAll_30 rfl (by decide) rfl ?_
        refine gw_goto C (tgt := 4) dX2_turnsOfAll_33 (by decide) ?_
        exact gw_weak (lo' := [some (vR b), some (vI (u + (I (b + 5 + 2 * k) 2))), some (vI (((k + 1) : Nat) : Int))]) ⟨rfl, rfl, congrArg (fun q => some (vI q)) (by omega), trivial⟩ (ih_4 (u + (I (b + 5 + 2 * k) 2)) (k + 1) (by omega) (by rw [smF_s, hu]) (by omega))
  exact gw_weak (lo' := [some (vR b), some (vI 0), some (vI (0 : Int))]) ⟨rfl, rfl, congrArg (fun q => some (vI q)) (by omega), trivial⟩ (loop_4 _ 0 0 (by omega) (by rfl) (Nat.lt_succ_self _))
set_option maxHeartbeats 4000000 in
set_option maxRecDepth 100000 in
theorem c_X2_number {l : Launch} (hl0 : l.stackTraces = false) (G : GG) (I J : GI) {z : Nat} {b : Nat} (hb : mineQ b) (hc3 : 0 ≤ I b 3 ∧ I b 3 ≤ 4) (hv3 : ∀ k : Nat, k < 4 → 0 ≤ I (b + 21 + 6 * k) 2 ∧ I (b + 21 + 6 * k) 2 ≤ 12) (hc1 : 0 ≤ I b 1 ∧ I b 1 ≤ 6) (hv1 : ∀ k : Nat, k < 6 → 0 ≤ I (b + 5 + 2 * k) 2 ∧ I (b + 5 + 2 * k) 2 ≤ 9) (w : Int) (hw : 0 ≤ w ∧ w ≤ 7) : GM l yX2_number (.code yX2_number cX2_number 2 (some .int)) 1 22 0 0 G N0 SH RR [vR b, vI w] z I J (memQ (some (vI (if w = 3 then I b 1 else if w = 4 then I b 2 else if w = 5 then I b 3 else if w = 6 then smF (I b 3).toNat (fun k => I (b + 21 + 6 * k) 2) else if w = 7 then smF (I b 1).toNat (fun k => I (b + 5 + 2 * k) 2) else I (b + 1) w.toNat))) I J) gNo := by
  refine gm_of (lo0 := [some (vR b), some (vI w)]) hl0 (by decide) rfl (Nat.le_of_ble_eq_true rfl) ?_
  intro p e s m args below meth c C ht hgi
  have C : gC G p l s m args meth c cX2_number 2 RX2 (some .int) "number" := C
  refine gw_iload_n C 1 dX2_number_0 rfl rfl ?_
  rcases (show w = 3 ∨ w = 4 ∨ w = 5 ∨ w = 6 ∨ w = 7 ∨ (w < 3 ∨ 7 < w) from by omega) with h_1 | h_1 | h_1 | h_1 | h_1 | h_1
  · skip
    refine gw_tableIn C (tgt := 36) (off := 35) dX2_number_1 (by omega) (by omega) (by omega) (by rw [h_1]; rfl) (by decide) ?_
    refine gw_aload_n C 0 dX2_number_36 rfl rfl ?_
    refine gw_getI (ci := 2) (Cn := RX2) (T0 := TX2) (N := 7) C 1 kX2_42 fX2 rfl (by decide) rfl rfl dX2_number_37 (mq_s hb) (mq_n hb) (fun hI_37 => ?_)
    exact gw_iret C (Nat.le_of_ble_eq_true rfl) (Nat.le_of_ble_eq_true rfl) dX2_number_40 (⟨congrArg (fun q => some (vI q)) (by first | (rw [h_1]; rfl) | (repeat (first | rw [if_pos (by omega)] | rw [if_neg (by omega)]))), rfl, rfl⟩)
  · skip
    refine gw_tableIn C (tgt := 41) (off := 40) dX2_number_1 (by omega) (by omega) (by omega) (by rw [h_1]; rfl) (by decide) ?_
    refine gw_aload_n C 0 dX2_number_41 rfl rfl ?_
    refine gw_getI (ci := 2) (Cn := RX2) (T0 := TX2) (N := 7) C 2 kX2_46 fX2 rfl (by decide) rfl rfl dX2_number_42 (mq_s hb) (mq_n hb) (fun hI_42 => ?_)
    exact gw_iret C (Nat.le_of_ble_eq_true rfl) (Nat.le_of_ble_eq_true rfl) dX2_number_45 (⟨congrArg (fun q => some (vI q)) (by first | (rw [h_1]; rfl) | (repeat (first | rw [if_pos (by omega)] | rw [if_neg (by omega)]))), rfl, rfl⟩)
  · skip
    refine gw_tableIn C (tgt := 46) (off := 45) dX2_number_1 (by omega) (by omega) (by omega) (by rw [h_1]; rfl) (by decide) ?_
    refine gw_aload_n C 0 dX2_number_46 rfl rfl ?_
    refine gw_getI (ci := 2) (Cn := RX2) (T0 := TX2) (N := 7) C 3 kX2_49 fX2 rfl (by decide) rfl rfl dX2_number_47 (mq_s hb) (mq_n hb) (fun hI_47 => ?_)
    exact gw_iret C (Nat.le_of_ble_eq_true rfl) (Nat.le_of_ble_eq_true rfl) dX2_number_50 (⟨congrArg (fun q => some (vI q)) (by first | (rw [h_1]; rfl) | (repeat (first | rw [if_pos (by omega)] | rw [if_neg (by omega)]))), rfl, rfl⟩)
  · skip
    refine gw_tableIn C (tgt := 51) (off := 50) dX2_number_1 (by omega) (by omega) (by omega) (by rw [h_1]; rfl) (by decide) ?_
    refine gw_aload_n C 0 dX2_number_51 rfl rfl ?_
    refine gw_callVm C (as := []) (st := []) (ci := 2) (T0 := TX2) (N := 7) (c_X2_legsOfAll hl0 G I J hb hc3 hv3) dX2_number_52 kX2_103 qX2_legsOfAll hdX2_legsOfAll ⟨Nat.le_of_ble_eq_true rfl, Nat.le_of_ble_eq_true rfl⟩ ⟨Nat.le_of_ble_eq_true rfl, Nat.le_of_ble_eq_true rfl⟩ (Nat.le_of_ble_eq_true rfl) rfl (mq_s hb) (mq_n hb) rfl (fun z_52 => ?_)
    exact gw_iret C (Nat.le_of_ble_eq_true rfl) (Nat.le_of_ble_eq_true rfl) dX2_number_55 (⟨congrArg (fun q => some (vI q)) (by first | (rw [h_1]; rfl) | (repeat (first | rw [if_pos (by omega)] | rw [if_neg (by omega)]))), rfl, rfl⟩)
  · skip
    refine gw_tableIn C (tgt := 56) (off := 55) dX2_number_1 (by omega) (by omega) (by omega) (by rw [h_1]; rfl) (by decide) ?_
    refine gw_aload_n C 0 dX2_number_56 rfl rfl ?_
    refine gw_callVm C (as := []) (st := []) (ci := 2) (T0 := TX2) (N := 7) (c_X2_turnsOfAll hl0 G I J hb hc1 hv1) dX2_number_57 kX2_107 qX2_turnsOfAll hdX2_turnsOfAll ⟨Nat.le_of_ble_eq_true rfl, Nat.le_of_ble_eq_true rfl⟩ ⟨Nat.le_of_ble_eq_true rfl, Nat.le_of_ble_eq_true rfl⟩ (Nat.le_of_ble_eq_true rfl) rfl (mq_s hb) (mq_n hb) rfl (fun z_57 => ?_)
    exact gw_iret C (Nat.le_of_ble_eq_true rfl) (Nat.le_of_ble_eq_true rfl) dX2_number_60 (⟨congrArg (fun q => some (vI q)) (by first | (rw [h_1]; rfl) | (repeat (first | rw [if_pos (by omega)] | rw [if_neg (by omega)]))), rfl, rfl⟩)
  · skip
    refine gw_tableOut C (tgt := 61) dX2_number_1 (by omega) h_1 (by decide) ?_
    refine gw_iload_n C 1 dX2_number_61 rfl rfl ?_
    refine gw_iconst C dX2_number_62 ?_
    refine gw_iconst C dX2_number_63 ?_
    refine gw_callSNb C (as := [vI w, vI 0, vI 2]) (st := []) (c_X7_isIn hl0 G w 0 2 (by omega) ⟨by decide, by decide⟩ ⟨by decide, by decide⟩) dX2_number_64 (List.mem_of_getElem? (i := 5) rfl) qX7_isIn hdX7_isIn ⟨Nat.le_of_ble_eq_true rfl, Nat.le_of_ble_eq_true rfl⟩ ⟨Nat.le_of_ble_eq_true rfl, Nat.le_of_ble_eq_true rfl⟩ (Nat.le_of_ble_eq_true rfl) rfl (fun h_64 z_64 => ?_) (fun h_64 z_64 => ?_)
    · skip
      refine gw_if_eq C (tgt := 79) dX2_number_67 (by decide) ⟨by decide, by decide⟩ (fun h => absurd h (by decide)) (fun _ => ?_)
      refine gw_aload_n C 0 dX2_number_70 rfl rfl ?_
      refine gw_getRs (ci := 2) (Cn := RX2) (T0 := TX2) (N := 7) C (b + 1) 0 kX2_9 fX2 rfl (by decide) rfl rfl dX2_number_71 (mq_s hb) (mq_n hb) (mq_R1 hb) ?_
      refine gw_iload_n C 1 dX2_number_74 rfl rfl ?_
      refine gw_iald C ((w).toNat) dX2_number_75 (mq_s1 hb) (mq_n1 hb) (by omega) (by omega) (by decide) (fun hI_75 => ?_)
      refine gw_goto C (tgt := 81) dX2_number_76 (by decide) ?_
      exact gw_iret C (Nat.le_of_ble_eq_true rfl) (Nat.le_of_ble_eq_true rfl) dX2_number_81 (⟨congrArg (fun q => some (vI q)) (by first | (rw [h_1]; rfl) | (repeat (first | rw [if_pos (by omega)] | rw [if_neg (by omega)]))), rfl, rfl⟩)
    · exact absurd True.intro (by omega)
set_option maxHeartbeats 4000000 in
set_option maxRecDepth 100000 in
theorem c_X2_changeSetting {l : Launch} (hl0 : l.stackTraces = false) (G : GG) (I J : GI) {z : Nat} {b : Nat} (hb : mineQ b) (x y : Int) (hx : 0 ≤ x ∧ x ≤ 2) (hy : inI y) : GM l yX2_changeSetting (.code yX2_changeSetting cX2_changeSetting 4 (some .int)) 1 22 0 0 G N0 SH RR [vR b, vI x, vI y] z I J (memQ (some (vI (I (b + 1) x.toNat))) (up I (b + 1) x.toNat y) J) gNo := by
  refine gm_of (lo0 := [some (vR b), some (vI x), some (vI y), none]) hl0 (by decide) rfl (Nat.le_of_ble_eq_true rfl) ?_
  intro p e s m args below meth c C ht hgi
  have C : gC G p l s m args meth c cX2_changeSetting 4 RX2 (some .int) "changeSetting" := C
  refine gw_iload_n C 1 dX2_changeSetting_0 rfl rfl ?_
  refine gw_iconst C dX2_changeSetting_1 ?_
  refine gw_iconst C dX2_changeSetting_2 ?_
  refine gw_callSNb C (as := [vI x, vI 0, vI 2]) (st := []) (c_X7_isIn hl0 G x 0 2 (by omega) ⟨by decide, by decide⟩ ⟨by decide, by decide⟩) dX2_changeSetting_3 (List.mem_of_getElem? (i := 5) rfl) qX7_isIn hdX7_isIn ⟨Nat.le_of_ble_eq_true rfl, Nat.le_of_ble_eq_true rfl⟩ ⟨Nat.le_of_ble_eq_true rfl, Nat.le_of_ble_eq_true rfl⟩ (Nat.le_of_ble_eq_true rfl) rfl (fun h_3 z_3 => ?_) (fun h_3 z_3 => ?_)
  · skip
    refine gw_if_ne C (tgt := 12) dX2_changeSetting_6 (by decide) ⟨by decide, by decide⟩ (fun _ => ?_) (fun h => absurd h (by decide))
    refine gw_aload_n C 0 dX2_changeSetting_12 rfl rfl ?_
    refine gw_getRs (ci := 2) (Cn := RX2) (T0 := TX2) (N := 7) C (b + 1) 0 kX2_9 fX2 rfl (by decide) rfl rfl dX2_changeSetting_13 (mq_s hb) (mq_n hb) (mq_R1 hb) ?_
    refine gw_iload_n C 1 dX2_changeSetting_16 rfl rfl ?_
    refine gw_iald C ((x).toNat) dX2_changeSetting_17 (mq_s1 hb) (mq_n1 hb) (by omega) (by omega) (by decide) (fun hI_17 => ?_)
    refine gw_istore_n C (lo1 := [some (vR b), some (vI x), some (vI y), some (vI (I (b + 1) ((x).toNat)))]) 3 dX2_changeSetting_18 rfl (by decide) rfl ?_
    refine gw_aload_n C 0 dX2_changeSetting_19 rfl rfl ?_
    refine gw_getRs (ci := 2) (Cn := RX2) (T0 := TX2) (N := 7) C (b + 1) 0 kX2_9 fX2 rfl (by decide) rfl rfl dX2_changeSetting_20 (mq_s hb) (mq_n hb) (mq_R1 hb) ?_
    refine gw_iload_n C 1 dX2_changeSetting_23 rfl rfl ?_
    refine gw_iload_n C 2 dX2_changeSetting_24 rfl rfl ?_
    refine gw_iast C ((x).toNat) dX2_changeSetting_25 (mq_s1 hb) (mq_n1 hb) (by omega) (by omega) (by decide) hy ?_
    refine gw_iload_n C 3 dX2_changeSetting_26 rfl rfl ?_
    exact gw_iret C (Nat.le_of_ble_eq_true rfl) (Nat.le_of_ble_eq_true rfl) dX2_changeSetting_27 (⟨rfl, rfl, rfl⟩)
  · exact absurd True.intro (by omega)
set_option maxHeartbeats 4000000 in
set_option maxRecDepth 100000 in
theorem c_X2_takesSetting {l : Launch} (hl0 : l.stackTraces = false) (G : GG) (I J : GI) {z : Nat} {b : Nat} (hb : mineQ b) (x y : Int) (hx : inI x) (hy : inI y) : GM l yX2_takesSetting (.code yX2_takesSetting cX2_takesSetting 3 (some .boolean)) 1 22 0 0 G N0 SH RR [vR b, vI x, vI y] z I J (boolQ ((0 ≤ x ∧ x ≤ 2) ∧ leZ x ≤ y ∧ y ≤ grZ x) I J) gNo := by
  refine gm_of (lo0 := [some (vR b), some (vI x), some (vI y)]) hl0 (by decide) rfl (Nat.le_of_ble_eq_true rfl) ?_
  intro p e s m args below meth c C ht hgi
  have C : gC G p l s m args meth c cX2_takesSetting 3 RX2 (some .boolean) "takesSetting" := C
  refine gw_iload_n C 1 dX2_takesSetting_0 rfl rfl ?_
  refine gw_iconst C dX2_takesSetting_1 ?_
  refine gw_iconst C dX2_takesSetting_2 ?_
  refine gw_callSNb C (as := [vI x, vI 0, vI 2]) (st := []) (c_X7_isIn hl0 G x 0 2 hx ⟨by decide, by decide⟩ ⟨by decide, by decide⟩) dX2_takesSetting_3 (List.mem_of_getElem? (i := 5) rfl) qX7_isIn hdX7_isIn ⟨Nat.le_of_ble_eq_true rfl, Nat.le_of_ble_eq_true rfl⟩ ⟨Nat.le_of_ble_eq_true rfl, Nat.le_of_ble_eq_true rfl⟩ (Nat.le_of_ble_eq_true rfl) rfl (fun h_3 z_3 => ?_) (fun h_3 z_3 => ?_)
  · skip
    refine gw_if_eq C (tgt := 30) dX2_takesSetting_6 (by decide) ⟨by decide, by decide⟩ (fun h => absurd h (by decide)) (fun _ => ?_)
    refine gw_iload_n C 2 dX2_takesSetting_9 rfl rfl ?_
    refine gw_getLeast C (List.mem_of_getElem? (i := 0) rfl) dX2_takesSetting_10 ?_
    refine gw_iload_n C 1 dX2_takesSetting_13 rfl rfl ?_
    have hro_14 := C.2.2.2.2.2.1.2.1
    refine gw_ialdX C hro_14.2.1 hro_14.2.2.1 (x := leZ x) x.toNat (by omega) (by omega) (by decide) (by have h := leZ_at x.toNat (by omega); rw [show ((x.toNat : Nat) : Int) = x by omega] at h; exact h) dX2_takesSetting_14 ?_
    have hz_14 := leZ_b x
    refine gw_getGreat C (List.mem_of_getElem? (i := 1) rfl) dX2_takesSetting_15 ?_
    refine gw_iload_n C 1 dX2_takesSetting_18 rfl rfl ?_
    have hro_19 := C.2.2.2.2.2.1.2.2.1
    refine gw_ialdX C hro_19.2.1 hro_19.2.2 (x := grZ x) x.toNat (by omega) (by omega) (by decide) (by have h := grZ_at x.toNat (by omega); rw [show ((x.toNat : Nat) : Int) = x by omega] at h; exact h) dX2_takesSetting_19 ?_
    have hz_19 := grZ_b x
    refine gw_callSNb C (as := [vI y, vI (leZ x), vI (grZ x)]) (st := []) (c_X7_isIn hl0 G y (leZ x) (grZ x) hy (by omega) (by omega)) dX2_takesSetting_20 (List.mem_of_getElem? (i := 5) rfl) qX7_isIn hdX7_isIn ⟨Nat.le_of_ble_eq_true rfl, Nat.le_of_ble_eq_true rfl⟩ ⟨Nat.le_of_ble_eq_true rfl, Nat.le_of_ble_eq_true rfl⟩ (Nat.le_of_ble_eq_true rfl) rfl (fun h_20 z_20 => ?_) (fun h_20 z_20 => ?_)
    · skip
      refine gw_if_eq C (tgt := 30) dX2_takesSetting_23 (by decide) ⟨by decide, by decide⟩ (fun h => absurd h (by decide)) (fun _ => ?_)
      refine gw_iconst C dX2_takesSetting_26 ?_
      refine gw_goto C (tgt := 31) dX2_takesSetting_27 (by decide) ?_
      exact gw_zret C (Nat.le_of_ble_eq_true rfl) (Nat.le_of_ble_eq_true rfl) dX2_takesSetting_31 (Or.inr rfl) (⟨Or.inl ⟨(by omega), rfl⟩, rfl, rfl⟩)
    · skip
      refine gw_if_eq C (tgt := 30) dX2_takesSetting_23 (by decide) ⟨by decide, by decide⟩ (fun _ => ?_) (fun h => absurd h (by decide))
      refine gw_iconst C dX2_takesSetting_30 ?_
      exact gw_zret C (Nat.le_of_ble_eq_true rfl) (Nat.le_of_ble_eq_true rfl) dX2_takesSetting_31 (Or.inl rfl) (⟨Or.inr ⟨(by omega), rfl⟩, rfl, rfl⟩)
  · skip
    refine gw_if_eq C (tgt := 30) dX2_takesSetting_6 (by decide) ⟨by decide, by decide⟩ (fun _ => ?_) (fun h => absurd h (by decide))
    refine gw_iconst C dX2_takesSetting_30 ?_
    exact gw_zret C (Nat.le_of_ble_eq_true rfl) (Nat.le_of_ble_eq_true rfl) dX2_takesSetting_31 (Or.inl rfl) (⟨Or.inr ⟨(by omega), rfl⟩, rfl, rfl⟩)
set_option maxHeartbeats 4000000 in
set_option maxRecDepth 100000 in
theorem c_X2_addWire {l : Launch} (hl0 : l.stackTraces = false) (G : GG) (I J : GI) {z : Nat} {b : Nat} (hb : mineQ b) (hc : 0 ≤ I b 1 ∧ I b 1 < 6) (x1 x2 : Int) (h1 : inI x1) (h2 : inI x2) : GM l yX2_addWire (.code yX2_addWire cX2_addWire 3 (some .int)) 1 22 0 0 G N0 SH RR [vR b, vI x1, vI x2] z I J (memQ (some (vI (I b 1))) (up (up (up (up I (b + 5 + 2 * (I b 1).toNat) 0 x1) (b + 5 + 2 * (I b 1).toNat) 1 x2) (b + 5 + 2 * (I b 1).toNat) 2 0) b 1 (I b 1 + 1)) J) gNo := by
  refine gm_of (lo0 := [some (vR b), some (vI x1), some (vI x2)]) hl0 (by decide) rfl (Nat.le_of_ble_eq_true rfl) ?_
  intro p e s m args below meth c C ht hgi
  have C : gC G p l s m args meth c cX2_addWire 3 RX2 (some .int) "addWire" := C
  refine gw_aload_n C 0 dX2_addWire_0 rfl rfl ?_
  refine gw_getI (ci := 2) (Cn := RX2) (T0 := TX2) (N := 7) C 1 kX2_42 fX2 rfl (by decide) rfl rfl dX2_addWire_1 (mq_s hb) (mq_n hb) (fun hI_1 => ?_)
  refine gw_iconst C dX2_addWire_4 ?_
  refine gw_iconst C dX2_addWire_5 ?_
  refine gw_callSNb C (as := [vI (I b 1), vI 0, vI 5]) (st := []) (c_X7_isIn hl0 G (I b 1) 0 5 hI_1 ⟨by decide, by decide⟩ ⟨by decide, by decide⟩) dX2_addWire_6 (List.mem_of_getElem? (i := 5) rfl) qX7_isIn hdX7_isIn ⟨Nat.le_of_ble_eq_true rfl, Nat.le_of_ble_eq_true rfl⟩ ⟨Nat.le_of_ble_eq_true rfl, Nat.le_of_ble_eq_true rfl⟩ (Nat.le_of_ble_eq_true rfl) rfl (fun h_6 z_6 => ?_) (fun h_6 z_6 => ?_)
  · skip
    refine gw_if_ne C (tgt := 15) dX2_addWire_9 (by decide) ⟨by decide, by decide⟩ (fun _ => ?_) (fun h => absurd h (by decide))
    refine gw_aload_n C 0 dX2_addWire_15 rfl rfl ?_
    refine gw_getRs (ci := 2) (Cn := RX2) (T0 := TX2) (N := 7) C (b + 2) 4 kX2_17 fX2 rfl (by decide) rfl rfl dX2_addWire_16 (mq_s hb) (mq_n hb) (mq_R2 hb) ?_
    refine gw_aload_n C 0 dX2_addWire_19 rfl rfl ?_
    refine gw_getI (ci := 2) (Cn := RX2) (T0 := TX2) (N := 7) C 1 kX2_42 fX2 rfl (by decide) rfl rfl dX2_addWire_20 (mq_s hb) (mq_n hb) (fun hI_20 => ?_)
    refine gw_aalds C (t := 3) (b + 5 + 2 * (((I b 1)).toNat)) (((I b 1)).toNat) dX2_addWire_23 rfl (by decide) (mq_s2 hb) (mq_n2 hb) (by omega) (by omega) (by decide) (mq_w hb (((I b 1)).toNat) (by omega)) ?_
    refine gw_iload_n C 1 dX2_addWire_24 rfl rfl ?_
    refine gw_iload_n C 2 dX2_addWire_25 rfl rfl ?_
    refine gw_callVm C (as := [vI x1, vI x2]) (st := []) (ci := 5) (T0 := TX6) (N := 7) (c_X6_hangAt hl0 G I J (mq_wq hb (((I b 1)).toNat) (by omega)) x1 x2 h1 h2) dX2_addWire_26 kX2_116 qX6_hangAt hdX6_hangAt ⟨Nat.le_of_ble_eq_true rfl, Nat.le_of_ble_eq_true rfl⟩ ⟨Nat.le_of_ble_eq_true rfl, Nat.le_of_ble_eq_true rfl⟩ (Nat.le_of_ble_eq_true rfl) rfl (wq_s (mq_wq hb (((I b 1)).toNat) (by omega))) (wq_n (mq_wq hb (((I b 1)).toNat) (by omega))) rfl (fun z_26 => ?_)
    refine gw_aload_n C 0 dX2_addWire_29 rfl rfl ?_
    refine gw_dupR C dX2_addWire_30 ?_
    refine gw_getI (ci := 2) (Cn := RX2) (T0 := TX2) (N := 7) C 1 kX2_42 fX2 rfl (by decide) rfl rfl dX2_addWire_31 (mq_s hb) (mq_n hb) (fun hI_31 => ?_)
    rw [show ((up (up (up I (b + 5 + 2 * (((I b 1)).toNat)) 0 x1) (b + 5 + 2 * (((I b 1)).toNat)) 1 x2) (b + 5 + 2 * (((I b 1)).toNat)) 2 0) b 1) = (I b 1) from by (repeat (first | rw [up_eq] | rw [up_ne (by omega)]))] at hI_31 ⊢
    refine gw_iconst C dX2_addWire_34 ?_
    refine gw_iadd C dX2_addWire_35 ?_
    refine gw_putI (ci := 2) (Cn := RX2) (T0 := TX2) (N := 7) C (ty := .int) 1 kX2_42 fX2 rfl (by decide) rfl rfl tyX2 tyX2_ok nmX2 rfl (by decide) rfl rfl (by omega) dX2_addWire_36 (mq_s hb) (mq_n hb) ?_
    refine gw_aload_n C 0 dX2_addWire_39 rfl rfl ?_
    refine gw_getI (ci := 2) (Cn := RX2) (T0 := TX2) (N := 7) C 1 kX2_42 fX2 rfl (by decide) rfl rfl dX2_addWire_40 (mq_s hb) (mq_n hb) (fun hI_40 => ?_)
    rw [show ((up (up (up (up I (b + 5 + 2 * (((I b 1)).toNat)) 0 x1) (b + 5 + 2 * (((I b 1)).toNat)) 1 x2) (b + 5 + 2 * (((I b 1)).toNat)) 2 0) b 1 ((I b 1) + 1)) b 1) = (I b 1 + 1) from by (repeat (first | rw [up_eq] | rw [up_ne (by omega)]))] at hI_40 ⊢
    refine gw_iconst C dX2_addWire_43 ?_
    refine gw_isub C dX2_addWire_44 ?_
    exact gw_iret C (Nat.le_of_ble_eq_true rfl) (Nat.le_of_ble_eq_true rfl) dX2_addWire_45 (⟨congrArg (fun q => some (vI q)) (by omega), rfl, rfl⟩)
  · exact absurd True.intro (by omega)
set_option maxHeartbeats 4000000 in
set_option maxRecDepth 100000 in
theorem c_X2_addJoin {l : Launch} (hl0 : l.stackTraces = false) (G : GG) (I J : GI) {z : Nat} {b : Nat} (hb : mineQ b) (hc : 0 ≤ I b 2 ∧ I b 2 < 4) (x1 x2 x3 x4 x5 x6 : Int) (h1 : inI x1) (h2 : inI x2) (h3 : inI x3) (h4 : inI x4) (h5 : inI x5) (h6 : inI x6) : GM l yX2_addJoin (.code yX2_addJoin cX2_addJoin 7 (some .int)) 1 26 0 0 G N0 SH RR [vR b, vI x1, vI x2, vI x3, vI x4, vI x5, vI x6] z I J (memQ (some (vI (I b 2))) (up (up (up (up (up (up (up I (b + 17 + (I b 2).toNat) 0 x1) (b + 17 + (I b 2).toNat) 1 x2) (b + 17 + (I b 2).toNat) 8 x3) (b + 17 + (I b 2).toNat) 9 x4) (b + 17 + (I b 2).toNat) 10 x5) (b + 17 + (I b 2).toNat) 2 x6) b 2 (I b 2 + 1)) J) gNo := by
  refine gm_of (lo0 := [some (vR b), some (vI x1), some (vI x2), some (vI x3), some (vI x4), some (vI x5), some (vI x6)]) hl0 (by decide) rfl (Nat.le_of_ble_eq_true rfl) ?_
  intro p e s m args below meth c C ht hgi
  have C : gC G p l s m args meth c cX2_addJoin 7 RX2 (some .int) "addJoin" := C
  refine gw_aload_n C 0 dX2_addJoin_0 rfl rfl ?_
  refine gw_getI (ci := 2) (Cn := RX2) (T0 := TX2) (N := 7) C 2 kX2_46 fX2 rfl (by decide) rfl rfl dX2_addJoin_1 (mq_s hb) (mq_n hb) (fun hI_1 => ?_)
  refine gw_iconst C dX2_addJoin_4 ?_
  refine gw_iconst C dX2_addJoin_5 ?_
  refine gw_callSNb C (as := [vI (I b 2), vI 0, vI 3]) (st := []) (c_X7_isIn hl0 G (I b 2) 0 3 hI_1 ⟨by decide, by decide⟩ ⟨by decide, by decide⟩) dX2_addJoin_6 (List.mem_of_getElem? (i := 5) rfl) qX7_isIn hdX7_isIn ⟨Nat.le_of_ble_eq_true rfl, Nat.le_of_ble_eq_true rfl⟩ ⟨Nat.le_of_ble_eq_true rfl, Nat.le_of_ble_eq_true rfl⟩ (Nat.le_of_ble_eq_true rfl) rfl (fun h_6 z_6 => ?_) (fun h_6 z_6 => ?_)
  · skip
    refine gw_if_ne C (tgt := 15) dX2_addJoin_9 (by decide) ⟨by decide, by decide⟩ (fun _ => ?_) (fun h => absurd h (by decide))
    refine gw_aload_n C 0 dX2_addJoin_15 rfl rfl ?_
    refine gw_getRs (ci := 2) (Cn := RX2) (T0 := TX2) (N := 7) C (b + 3) 5 kX2_23 fX2 rfl (by decide) rfl rfl dX2_addJoin_16 (mq_s hb) (mq_n hb) (mq_R3 hb) ?_
    refine gw_aload_n C 0 dX2_addJoin_19 rfl rfl ?_
    refine gw_getI (ci := 2) (Cn := RX2) (T0 := TX2) (N := 7) C 2 kX2_46 fX2 rfl (by decide) rfl rfl dX2_addJoin_20 (mq_s hb) (mq_n hb) (fun hI_20 => ?_)
    refine gw_aalds C (t := 4) (b + 17 + (((I b 2)).toNat)) (((I b 2)).toNat) dX2_addJoin_23 rfl (by decide) (mq_s3 hb) (mq_n3 hb) (by omega) (by omega) (by decide) (mq_j hb (((I b 2)).toNat) (by omega)) ?_
    refine gw_iload_n C 1 dX2_addJoin_24 rfl rfl ?_
    refine gw_iload_n C 2 dX2_addJoin_25 rfl rfl ?_
    refine gw_iload_n C 3 dX2_addJoin_26 rfl rfl ?_
    refine gw_iload C dX2_addJoin_27 rfl ?_
    refine gw_iload C dX2_addJoin_29 rfl ?_
    refine gw_iload C dX2_addJoin_31 rfl ?_
    refine gw_callVm C (as := [vI x1, vI x2, vI x3, vI x4, vI x5, vI x6]) (st := []) (ci := 1) (T0 := TX1) (N := 12) (c_X1_lay hl0 G I J (mq_jq hb (((I b 2)).toNat) (by omega)) x1 x2 x3 x4 x5 x6 h1 h2 h3 h4 h5 h6) dX2_addJoin_33 kX2_120 qX1_lay hdX1_lay ⟨Nat.le_of_ble_eq_true rfl, Nat.le_of_ble_eq_true rfl⟩ ⟨Nat.le_of_ble_eq_true rfl, Nat.le_of_ble_eq_true rfl⟩ (Nat.le_of_ble_eq_true rfl) rfl (jq_s (mq_jq hb (((I b 2)).toNat) (by omega))) (jq_n (mq_jq hb (((I b 2)).toNat) (by omega))) rfl (fun z_33 => ?_)
    refine gw_aload_n C 0 dX2_addJoin_36 rfl rfl ?_
    refine gw_dupR C dX2_addJoin_37 ?_
    refine gw_getI (ci := 2) (Cn := RX2) (T0 := TX2) (N := 7) C 2 kX2_46 fX2 rfl (by decide) rfl rfl dX2_addJoin_38 (mq_s hb) (mq_n hb) (fun hI_38 => ?_)
    rw [show ((up (up (up (up (up (up I (b + 17 + (((I b 2)).toNat)) 0 x1) (b + 17 + (((I b 2)).toNat)) 1 x2) (b + 17 + (((I b 2)).toNat)) 8 x3) (b + 17 + (((I b 2)).toNat)) 9 x4) (b + 17 + (((I b 2)).toNat)) 10 x5) (b + 17 + (((I b 2)).toNat)) 2 x6) b 2) = (I b 2) from by (repeat (first | rw [up_eq] | rw [up_ne (by omega)]))] at hI_38 ⊢
    refine gw_iconst C dX2_addJoin_41 ?_
    refine gw_iadd C dX2_addJoin_42 ?_
    refine gw_putI (ci := 2) (Cn := RX2) (T0 := TX2) (N := 7) C (ty := .int) 2 kX2_46 fX2 rfl (by decide) rfl rfl tyX2 tyX2_ok nmX2 rfl (by decide) rfl rfl (by omega) dX2_addJoin_43 (mq_s hb) (mq_n hb) ?_
    refine gw_aload_n C 0 dX2_addJoin_46 rfl rfl ?_
    refine gw_getI (ci := 2) (Cn := RX2) (T0 := TX2) (N := 7) C 2 kX2_46 fX2 rfl (by decide) rfl rfl dX2_addJoin_47 (mq_s hb) (mq_n hb) (fun hI_47 => ?_)
    rw [show ((up (up (up (up (up (up (up I (b + 17 + (((I b 2)).toNat)) 0 x1) (b + 17 + (((I b 2)).toNat)) 1 x2) (b + 17 + (((I b 2)).toNat)) 8 x3) (b + 17 + (((I b 2)).toNat)) 9 x4) (b + 17 + (((I b 2)).toNat)) 10 x5) (b + 17 + (((I b 2)).toNat)) 2 x6) b 2 ((I b 2) + 1)) b 2) = (I b 2 + 1) from by (repeat (first | rw [up_eq] | rw [up_ne (by omega)]))] at hI_47 ⊢
    refine gw_iconst C dX2_addJoin_50 ?_
    refine gw_isub C dX2_addJoin_51 ?_
    exact gw_iret C (Nat.le_of_ble_eq_true rfl) (Nat.le_of_ble_eq_true rfl) dX2_addJoin_52 (⟨congrArg (fun q => some (vI q)) (by omega), rfl, rfl⟩)
  · exact absurd True.intro (by omega)
set_option maxHeartbeats 4000000 in
set_option maxRecDepth 100000 in
theorem c_X2_addTraverse {l : Launch} (hl0 : l.stackTraces = false) (G : GG) (I J : GI) {z : Nat} {b : Nat} (hb : mineQ b) (hc : 0 ≤ I b 3 ∧ I b 3 < 4) (x1 : Int) (h1 : inI x1) : GM l yX2_addTraverse (.code yX2_addTraverse cX2_addTraverse 2 (some .int)) 2 43 0 0 G N0 SH RR [vR b, vI x1] z I J (memQ (some (vI (I b 3))) (up (up (up (up (up I (b + 21 + 6 * (I b 3).toNat) 0 x1) (b + 21 + 6 * (I b 3).toNat) 2 0) (b + 21 + 6 * (I b 3).toNat) 1 (-2000000000)) (b + 21 + 6 * (I b 3).toNat) 4 (-2000000000)) b 3 (I b 3 + 1)) J) gNo := by
  refine gm_of (lo0 := [some (vR b), some (vI x1)]) hl0 (by decide) rfl (Nat.le_of_ble_eq_true rfl) ?_
  intro p e s m args below meth c C ht hgi
  have C : gC G p l s m args meth c cX2_addTraverse 2 RX2 (some .int) "addTraverse" := C
  refine gw_aload_n C 0 dX2_addTraverse_0 rfl rfl ?_
  refine gw_getI (ci := 2) (Cn := RX2) (T0 := TX2) (N := 7) C 3 kX2_49 fX2 rfl (by decide) rfl rfl dX2_addTraverse_1 (mq_s hb) (mq_n hb) (fun hI_1 => ?_)
  refine gw_iconst C dX2_addTraverse_4 ?_
  refine gw_iconst C dX2_addTraverse_5 ?_
  refine gw_callSNb C (as := [vI (I b 3), vI 0, vI 3]) (st := []) (c_X7_isIn hl0 G (I b 3) 0 3 hI_1 ⟨by decide, by decide⟩ ⟨by decide, by decide⟩) dX2_addTraverse_6 (List.mem_of_getElem? (i := 5) rfl) qX7_isIn hdX7_isIn ⟨Nat.le_of_ble_eq_true rfl, Nat.le_of_ble_eq_true rfl⟩ ⟨Nat.le_of_ble_eq_true rfl, Nat.le_of_ble_eq_true rfl⟩ (Nat.le_of_ble_eq_true rfl) rfl (fun h_6 z_6 => ?_) (fun h_6 z_6 => ?_)
  · skip
    refine gw_if_ne C (tgt := 15) dX2_addTraverse_9 (by decide) ⟨by decide, by decide⟩ (fun _ => ?_) (fun h => absurd h (by decide))
    refine gw_aload_n C 0 dX2_addTraverse_15 rfl rfl ?_
    refine gw_getRs (ci := 2) (Cn := RX2) (T0 := TX2) (N := 7) C (b + 4) 6 kX2_29 fX2 rfl (by decide) rfl rfl dX2_addTraverse_16 (mq_s hb) (mq_n hb) (mq_R4 hb) ?_
    refine gw_aload_n C 0 dX2_addTraverse_19 rfl rfl ?_
    refine gw_getI (ci := 2) (Cn := RX2) (T0 := TX2) (N := 7) C 3 kX2_49 fX2 rfl (by decide) rfl rfl dX2_addTraverse_20 (mq_s hb) (mq_n hb) (fun hI_20 => ?_)
    refine gw_aalds C (t := 5) (b + 21 + 6 * (((I b 3)).toNat)) (((I b 3)).toNat) dX2_addTraverse_23 rfl (by decide) (mq_s4 hb) (mq_n4 hb) (by omega) (by omega) (by decide) (mq_t hb (((I b 3)).toNat) (by omega)) ?_
    refine gw_iload_n C 1 dX2_addTraverse_24 rfl rfl ?_
    refine gw_callVm C (as := [vI x1]) (st := []) (ci := 4) (T0 := TX5) (N := 15) (c_X5_startAt hl0 G I J (mq_tq hb (((I b 3)).toNat) (by omega)) x1 h1) dX2_addTraverse_25 kX2_124 qX5_startAt hdX5_startAt ⟨Nat.le_of_ble_eq_true rfl, Nat.le_of_ble_eq_true rfl⟩ ⟨Nat.le_of_ble_eq_true rfl, Nat.le_of_ble_eq_true rfl⟩ (Nat.le_of_ble_eq_true rfl) rfl (tq_s (mq_tq hb (((I b 3)).toNat) (by omega))) (tq_n (mq_tq hb (((I b 3)).toNat) (by omega))) rfl (fun z_25 => ?_)
    refine gw_aload_n C 0 dX2_addTraverse_28 rfl rfl ?_
    refine gw_dupR C dX2_addTraverse_29 ?_
    refine gw_getI (ci := 2) (Cn := RX2) (T0 := TX2) (N := 7) C 3 kX2_49 fX2 rfl (by decide) rfl rfl dX2_addTraverse_30 (mq_s hb) (mq_n hb) (fun hI_30 => ?_)
    rw [show ((up (up (up (up I (b + 21 + 6 * (((I b 3)).toNat)) 0 x1) (b + 21 + 6 * (((I b 3)).toNat)) 2 0) (b + 21 + 6 * (((I b 3)).toNat)) 1 (-2000000000)) (b + 21 + 6 * (((I b 3)).toNat)) 4 (-2000000000)) b 3) = (I b 3) from by (repeat (first | rw [up_eq] | rw [up_ne (by omega)]))] at hI_30 ⊢
    refine gw_iconst C dX2_addTraverse_33 ?_
    refine gw_iadd C dX2_addTraverse_34 ?_
    refine gw_putI (ci := 2) (Cn := RX2) (T0 := TX2) (N := 7) C (ty := .int) 3 kX2_49 fX2 rfl (by decide) rfl rfl tyX2 tyX2_ok nmX2 rfl (by decide) rfl rfl (by omega) dX2_addTraverse_35 (mq_s hb) (mq_n hb) ?_
    refine gw_aload_n C 0 dX2_addTraverse_38 rfl rfl ?_
    refine gw_getI (ci := 2) (Cn := RX2) (T0 := TX2) (N := 7) C 3 kX2_49 fX2 rfl (by decide) rfl rfl dX2_addTraverse_39 (mq_s hb) (mq_n hb) (fun hI_39 => ?_)
    rw [show ((up (up (up (up (up I (b + 21 + 6 * (((I b 3)).toNat)) 0 x1) (b + 21 + 6 * (((I b 3)).toNat)) 2 0) (b + 21 + 6 * (((I b 3)).toNat)) 1 (-2000000000)) (b + 21 + 6 * (((I b 3)).toNat)) 4 (-2000000000)) b 3 ((I b 3) + 1)) b 3) = (I b 3 + 1) from by (repeat (first | rw [up_eq] | rw [up_ne (by omega)]))] at hI_39 ⊢
    refine gw_iconst C dX2_addTraverse_42 ?_
    refine gw_isub C dX2_addTraverse_43 ?_
    exact gw_iret C (Nat.le_of_ble_eq_true rfl) (Nat.le_of_ble_eq_true rfl) dX2_addTraverse_44 (⟨congrArg (fun q => some (vI q)) (by omega), rfl, rfl⟩)
  · exact absurd True.intro (by omega)
