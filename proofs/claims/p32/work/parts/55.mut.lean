theorem st_ok {x y : Int} (h : (0 ≤ x ∧ x ≤ 2) ∧ leZ x ≤ y ∧ y ≤ grZ x) : (x.toNat = 0 ∧ 0 ≤ y ∧ y ≤ 999) ∨ (x.toNat = 1 ∧ 1 ≤ y ∧ y ≤ 600) ∨ (x.toNat = 2 ∧ 0 ≤ y ∧ y ≤ 999999) := by
  obtain ⟨h1, h2, h3⟩ := h
  rcases (show x = 0 ∨ x = 1 ∨ x = 2 by omega) with e | e | e <;> subst e
  · exact Or.inl ⟨rfl, h2, h3⟩
  · exact Or.inr (Or.inl ⟨rfl, h2, h3⟩)
  · exact Or.inr (Or.inr ⟨rfl, h2, h3⟩)
theorem kSet_0 {x y : Int} (h : (0 ≤ x ∧ x ≤ 2) ∧ leZ x ≤ y ∧ y ≤ grZ x) : kSet x y = 0 := by
  have := st_ok h
  unfold kSet
  rw [if_pos (by omega)]
theorem kSet_1 {x y : Int} (h : ¬ ((0 ≤ x ∧ x ≤ 2) ∧ leZ x ≤ y ∧ y ≤ grZ x)) : kSet x y = 1 := by
  unfold kSet
  rw [if_neg]
  intro q
  apply h
  rcases q with ⟨e, a, b⟩ | ⟨e, a, b⟩ | ⟨e, a, b⟩ <;> subst e
  · exact ⟨by decide, a, b⟩
  · exact ⟨by decide, a, b⟩
  · exact ⟨by decide, a, b⟩
theorem rfZ_b (S : Nat → Int) (l a b c : Int) : 0 ≤ rfZ S l a b c ∧ rfZ S l a b c ≤ 3 := by
  unfold rfZ rfT rfL rfK rfA
  (repeat' split) <;> exact ⟨by decide, by decide⟩
theorem cls_5 {S : Nat → Int} {t : Nat} {x y : Int} : oClose S t x y 5 = S 5 := by
  unfold oClose
  rw [us_ne (by omega), us_ne (by omega)]
def kUndo (c : Nat) : Int := if c = 0 then 1 else 0
set_option maxHeartbeats 4000000 in
set_option maxRecDepth 100000 in
theorem c_X7_set {l : Launch} (hl0 : l.stackTraces = false) (G : GG) (I J : GI) {z : Nat} {S : Nat → Int} {D9 : Nat → Nat → Int} {c9 : Nat} (hCI : CI I S D9 c9) (x1 x2 : Int) (hx1 : inI x1) (hx2 : inI x2) : GM l yX7_set (.code yX7_set cX7_set 4 (some .int)) 6 119 1 6 G N0 SH RR [vR 0, vI x1, vI x2] z I J (mtQ (kSet x1 x2) (S x1.toNat) I J (oSet S x1.toNat x2) (psh S D9) (cN c9)) (xcQ (kSet x1 x2) nIA nIA nIA I J) := by
  refine gm_of (lo0 := [some (vR 0), some (vI x1), some (vI x2), none]) hl0 (by decide) rfl (Nat.le_of_ble_eq_true rfl) ?_
  intro p e s m args below meth c C ht hgi
  have C : gC G p l s m args meth c cX7_set 4 RX7 (some .int) "set" := C
  have hR := hCI.1.1.1
  have ho := hCI.1.1.2.1
  have hw := hCI.1.1.2.2
  have hj := hCI.2
  have hcnt := hR.2.1
  have hobd := ho.2.1
  refine gw_aload_n C 0 dX7_set_0 rfl rfl ?_
  refine gw_getRs (ci := 6) (Cn := RX7) (T0 := TX7) (N := 3) C 1 0 kX7_10 fX7 rfl (by decide) rfl rfl dX7_set_1 xs_0 xn_0 xr_0_0 ?_
  refine gw_iload_n C 1 dX7_set_4 rfl rfl ?_
  refine gw_iload_n C 2 dX7_set_5 rfl rfl ?_
  refine gw_callVb C (as := [vI x1, vI x2]) (st := []) (ci := 2) (T0 := TX2) (N := 7) (c_X2_takesSetting hl0 G I J mineQ_live x1 x2 hx1 hx2) dX7_set_6 kX7_30 qX2_takesSetting hdX2_takesSetting ⟨Nat.le_of_ble_eq_true rfl, Nat.le_of_ble_eq_true rfl⟩ ⟨Nat.le_of_ble_eq_true rfl, Nat.le_of_ble_eq_true rfl⟩ (Nat.le_of_ble_eq_true rfl) rfl (mq_s mineQ_live) (mq_n mineQ_live) rfl (fun h_6 z_6 => ?_) (fun h_6 z_6 => ?_)
  · skip
    have hts1 := h_6
    refine gw_if_ne C (tgt := 22) dX7_set_9 (by decide) ⟨by decide, by decide⟩ (fun _ => ?_) (fun h => absurd h (by decide))
    refine gw_aload_n C 0 dX7_set_22 rfl rfl ?_
    refine gw_getRs (ci := 6) (Cn := RX7) (T0 := TX7) (N := 3) C 46 1 kX7_19 fX7 rfl (by decide) rfl rfl dX7_set_23 xs_0 xn_0 xr_0_1 ?_
    refine gw_aload_n C 0 dX7_set_26 rfl rfl ?_
    refine gw_getRs (ci := 6) (Cn := RX7) (T0 := TX7) (N := 3) C 1 0 kX7_10 fX7 rfl (by decide) rfl rfl dX7_set_27 xs_0 xn_0 xr_0_0 ?_
    refine gw_callV C (as := [vR 1]) (st := []) (ci := 0) (T0 := TX0) (N := 3) (c_X0_keep hl0 G I J hCI.1.2.1.1 (by have := hCI.1.2.1.2; omega)) dX7_set_30 kX7_41 qX0_keep hdX0_keep ⟨Nat.le_of_ble_eq_true rfl, Nat.le_of_ble_eq_true rfl⟩ ⟨Nat.le_of_ble_eq_true rfl, Nat.le_of_ble_eq_true rfl⟩ (Nat.le_of_ble_eq_true rfl) rfl xs_46 xn_46 rfl (fun _ _ _ _ h => h.elim) ?_
    intro v_30 z_30_2 Kk J_30 hv_30
    obtain ⟨ev_30, hkp_30, eJ_30⟩ := hv_30
    rw [ev_30, eJ_30]
    have hk9 := ck_keep hCI hkp_30
    have hR2 := hk9.1.1.1.1
    have hw2 := hk9.1.1.1.2.2
    have hj2 := hk9.1.2
    have hcn2 := hR2.2.1
    show GW G p l e ({ frames := 6, cells := 1, slots := 6, locals := 119 } : Room) s m args below meth c 4 z_30_2 N0 SH RR Kk J 0 0 (vx_MQ below (GQ G N0 SH RR (mtQ (kSet x1 x2) (S x1.toNat) I J (oSet S x1.toNat x2) (psh S D9) (cN c9))) (GX G N0 SH RR (xcQ (kSet x1 x2) nIA nIA nIA I J)) args s 1 6 (ge G)) 33 [some (vR 0), some (vI x1), some (vI x2), none] []
    refine gw_aload_n C 0 dX7_set_33 rfl rfl ?_
    refine gw_getRs (ci := 6) (Cn := RX7) (T0 := TX7) (N := 3) C 1 0 kX7_10 fX7 rfl (by decide) rfl rfl dX7_set_34 xs_0 xn_0 xr_0_0 ?_
    refine gw_iload_n C 1 dX7_set_37 rfl rfl ?_
    refine gw_iload_n C 2 dX7_set_38 rfl rfl ?_
    refine gw_callVm C (as := [vI x1, vI x2]) (st := []) (ci := 2) (T0 := TX2) (N := 7) (c_X2_changeSetting hl0 G Kk J mineQ_live x1 x2 (by omega) hx2) dX7_set_39 kX7_45 qX2_changeSetting hdX2_changeSetting ⟨Nat.le_of_ble_eq_true rfl, Nat.le_of_ble_eq_true rfl⟩ ⟨Nat.le_of_ble_eq_true rfl, Nat.le_of_ble_eq_true rfl⟩ (Nat.le_of_ble_eq_true rfl) rfl (mq_s mineQ_live) (mq_n mineQ_live) rfl (fun z_39 => ?_)
    rw [show Kk (1 + 1) x1.toNat = S x1.toNat from hR2.1 x1.toNat (by omega)]
    refine gw_istore_n C (lo1 := [some (vR 0), some (vI x1), some (vI x2), some (vI (S x1.toNat))]) 3 dX7_set_42 rfl (by decide) rfl ?_
    refine gw_aload_n C 0 dX7_set_43 rfl rfl ?_
    refine gw_getRs (ci := 6) (Cn := RX7) (T0 := TX7) (N := 3) C 1 0 kX7_10 fX7 rfl (by decide) rfl rfl dX7_set_44 xs_0 xn_0 xr_0_0 ?_
    have hop := ck_op (K := (up Kk (1 + 1) x1.toNat x2)) (S' := oSet S x1.toNat x2) hk9.1.1 (fun q f hq => by (repeat rw [up_nn (by omega)])) (rel_set hR2 ho (by omega)) (oks_set ho (st_ok hts1)) (raw_set hw2)
    refine gw_callV C (as := []) (st := []) (ci := 2) (T0 := TX2) (N := 7) (c_X2_judge hl0 G (up Kk (1 + 1) x1.toNat x2) J mineQ_live hop.1.1.1 hop.1.1.2.1 hop.1.1.2.2) dX7_set_47 kX7_49 qX2_judge hdX2_judge ⟨Nat.le_of_ble_eq_true rfl, Nat.le_of_ble_eq_true rfl⟩ ⟨Nat.le_of_ble_eq_true rfl, Nat.le_of_ble_eq_true rfl⟩ (Nat.le_of_ble_eq_true rfl) rfl (mq_s mineQ_live) (mq_n mineQ_live) rfl (fun _ _ _ _ h => h.elim) ?_
    intro v_47 z_47_2 Kj J_47 hv_47
    obtain ⟨ev_47, ⟨hf9, hj9⟩, eJ_47⟩ := hv_47
    rw [ev_47, eJ_47]
    have hjd := ck_judge hop.1 hf9 hj9
    show GW G p l e ({ frames := 6, cells := 1, slots := 6, locals := 119 } : Room) s m args below meth c 4 z_47_2 N0 SH RR Kj J 0 0 (vx_MQ below (GQ G N0 SH RR (mtQ (kSet x1 x2) (S x1.toNat) I J (oSet S x1.toNat x2) (psh S D9) (cN c9))) (GX G N0 SH RR (xcQ (kSet x1 x2) nIA nIA nIA I J)) args s 1 6 (ge G)) 50 [some (vR 0), some (vI x1), some (vI x2), some (vI (S x1.toNat))] []
    refine gw_iload_n C 3 dX7_set_50 rfl rfl ?_
    exact gw_iret C (Nat.le_of_ble_eq_true rfl) (Nat.le_of_ble_eq_true rfl) dX7_set_51 (⟨⟨(kSet_0 hts1), congrArg (fun q => some (vI q)) (by rfl)⟩, ⟨hjd.1, frC_trans hk9.2 (frC_trans hop.2 hjd.2)⟩, rfl⟩)
  · skip
    have hts0 := h_6
    refine gw_if_ne C (tgt := 22) dX7_set_9 (by decide) ⟨by decide, by decide⟩ (fun h => absurd h (by decide)) (fun _ => ?_)
    exact gw_throw C (cls := "java/lang/IllegalArgumentException") (text := "no such setting, or a value out of its range") (ik := 34) (is := 36) (ic := 38) ht (by decide) (by decide) kX7_34 n_IllegalArgumentException (List.mem_of_getElem? (i := 8) rfl) gt_IA_38_1 gt_IA_38_2 (by decide) gt_IA_38_3 dX7_set_12 dX7_set_15 dX7_set_16 dX7_set_18 dX7_set_21 (Nat.le_of_ble_eq_true rfl) (Nat.le_of_ble_eq_true rfl) (Nat.le_of_ble_eq_true rfl) (Nat.le_of_ble_eq_true rfl) (Nat.le_of_ble_eq_true rfl) (Nat.le_of_ble_eq_true rfl) (fun _ => ⟨Or.inl ⟨(kSet_1 hts0), rfl⟩, rfl, rfl⟩)
set_option maxHeartbeats 4000000 in
set_option maxRecDepth 100000 in
theorem c_X7_hang {l : Launch} (hl0 : l.stackTraces = false) (G : GG) (I J : GI) {z : Nat} {S : Nat → Int} {D9 : Nat → Nat → Int} {c9 : Nat} (hCI : CI I S D9 c9) (x1 x2 : Int) (hx1 : inI x1) (hx2 : inI x2) : GM l yX7_hang (.code yX7_hang cX7_hang 4 (some .int)) 6 119 1 6 G N0 SH RR [vR 0, vI x1, vI x2] z I J (mtQ (kHang S x1 x2) (S 3) I J (oHang S (S 3).toNat x1 x2) (psh S D9) (cN c9)) (xcQ (kHang S x1 x2) nIA nIS nIA I J) := by
  refine gm_of (lo0 := [some (vR 0), some (vI x1), some (vI x2), none]) hl0 (by decide) rfl (Nat.le_of_ble_eq_true rfl) ?_
  intro p e s m args below meth c C ht hgi
  have C : gC G p l s m args meth c cX7_hang 4 RX7 (some .int) "hang" := C
  have hR := hCI.1.1.1
  have ho := hCI.1.1.2.1
  have hw := hCI.1.1.2.2
  have hj := hCI.2
  have hcnt := hR.2.1
  have hobd := ho.2.1
  refine gw_iload_n C 1 dX7_hang_0 rfl rfl ?_
  refine gw_ldc C (x := (-1000000)) dX7_hang_1 kX7_62 (by decide) ?_
  refine gw_ldc C (x := 1000000) dX7_hang_3 kX7_63 (by decide) ?_
  refine gw_callSb C (as := [vI x1, vI (-1000000), vI 1000000]) (st := []) (c_X7_isIn hl0 G x1 (-1000000) 1000000 hx1 ⟨by decide, by decide⟩ ⟨by decide, by decide⟩) dX7_hang_5 kX7_52 qX7_isIn hdX7_isIn ⟨Nat.le_of_ble_eq_true rfl, Nat.le_of_ble_eq_true rfl⟩ ⟨Nat.le_of_ble_eq_true rfl, Nat.le_of_ble_eq_true rfl⟩ (Nat.le_of_ble_eq_true rfl) rfl (fun h_5 z_5 => ?_) (fun h_5 z_5 => ?_)
  · skip
    refine gw_if_eq C (tgt := 22) dX7_hang_8 (by decide) ⟨by decide, by decide⟩ (fun h => absurd h (by decide)) (fun _ => ?_)
    refine gw_iload_n C 2 dX7_hang_11 rfl rfl ?_
    refine gw_ldc C (x := (-1000000)) dX7_hang_12 kX7_62 (by decide) ?_
    refine gw_ldc C (x := 1000000) dX7_hang_14 kX7_63 (by decide) ?_
    refine gw_callSb C (as := [vI x2, vI (-1000000), vI 1000000]) (st := []) (c_X7_isIn hl0 G x2 (-1000000) 1000000 hx2 ⟨by decide, by decide⟩ ⟨by decide, by decide⟩) dX7_hang_16 kX7_52 qX7_isIn hdX7_isIn ⟨Nat.le_of_ble_eq_true rfl, Nat.le_of_ble_eq_true rfl⟩ ⟨Nat.le_of_ble_eq_true rfl, Nat.le_of_ble_eq_true rfl⟩ (Nat.le_of_ble_eq_true rfl) rfl (fun h_16 z_16 => ?_) (fun h_16 z_16 => ?_)
    · skip
      refine gw_if_ne C (tgt := 32) dX7_hang_19 (by decide) ⟨by decide, by decide⟩ (fun _ => ?_) (fun h => absurd h (by decide))
      refine gw_aload_n C 0 dX7_hang_32 rfl rfl ?_
      refine gw_getRs (ci := 6) (Cn := RX7) (T0 := TX7) (N := 3) C 1 0 kX7_10 fX7 rfl (by decide) rfl rfl dX7_hang_33 xs_0 xn_0 xr_0_0 ?_
      refine gw_getI (ci := 2) (Cn := RX2) (T0 := TX2) (N := 7) C 1 kX7_66 fX2 rfl (by decide) rfl rfl dX7_hang_36 (mq_s mineQ_live) (mq_n mineQ_live) (fun hI_36 => ?_)
      refine gw_bipush C dX7_hang_39 rfl ?_
      refine gw_icmp_lt C (tgt := 54) dX7_hang_41 (by decide) hI_36 ⟨by decide, by decide⟩ (fun h_41 => ?_) (fun h_41 => ?_)
      · skip
        refine gw_aload_n C 0 dX7_hang_54 rfl rfl ?_
        refine gw_getRs (ci := 6) (Cn := RX7) (T0 := TX7) (N := 3) C 46 1 kX7_19 fX7 rfl (by decide) rfl rfl dX7_hang_55 xs_0 xn_0 xr_0_1 ?_
        refine gw_aload_n C 0 dX7_hang_58 rfl rfl ?_
        refine gw_getRs (ci := 6) (Cn := RX7) (T0 := TX7) (N := 3) C 1 0 kX7_10 fX7 rfl (by decide) rfl rfl dX7_hang_59 xs_0 xn_0 xr_0_0 ?_
        refine gw_callV C (as := [vR 1]) (st := []) (ci := 0) (T0 := TX0) (N := 3) (c_X0_keep hl0 G I J hCI.1.2.1.1 (by have := hCI.1.2.1.2; omega)) dX7_hang_62 kX7_41 qX0_keep hdX0_keep ⟨Nat.le_of_ble_eq_true rfl, Nat.le_of_ble_eq_true rfl⟩ ⟨Nat.le_of_ble_eq_true rfl, Nat.le_of_ble_eq_true rfl⟩ (Nat.le_of_ble_eq_true rfl) rfl xs_46 xn_46 rfl (fun _ _ _ _ h => h.elim) ?_
        intro v_62 z_62_2 Kk J_62 hv_62
        obtain ⟨ev_62, hkp_62, eJ_62⟩ := hv_62
        rw [ev_62, eJ_62]
        have hk9 := ck_keep hCI hkp_62
        have hR2 := hk9.1.1.1.1
        have hw2 := hk9.1.1.1.2.2
        have hj2 := hk9.1.2
        have hcn2 := hR2.2.1
        show GW G p l e ({ frames := 6, cells := 1, slots := 6, locals := 119 } : Room) s m args below meth c 4 z_62_2 N0 SH RR Kk J 0 0 (vx_MQ below (GQ G N0 SH RR (mtQ (kHang S x1 x2) (S 3) I J (oHang S (S 3).toNat x1 x2) (psh S D9) (cN c9))) (GX G N0 SH RR (xcQ (kHang S x1 x2) nIA nIS nIA I J)) args s 1 6 (ge G)) 65 [some (vR 0), some (vI x1), some (vI x2), none] []
        refine gw_aload_n C 0 dX7_hang_65 rfl rfl ?_
        refine gw_getRs (ci := 6) (Cn := RX7) (T0 := TX7) (N := 3) C 1 0 kX7_10 fX7 rfl (by decide) rfl rfl dX7_hang_66 xs_0 xn_0 xr_0_0 ?_
        refine gw_iload_n C 1 dX7_hang_69 rfl rfl ?_
        refine gw_iload_n C 2 dX7_hang_70 rfl rfl ?_
        refine gw_callVm C (as := [vI x1, vI x2]) (st := []) (ci := 2) (T0 := TX2) (N := 7) (c_X2_addWire hl0 G Kk J mineQ_live (by omega) x1 x2 hx1 hx2) dX7_hang_71 kX7_75 qX2_addWire hdX2_addWire ⟨Nat.le_of_ble_eq_true rfl, Nat.le_of_ble_eq_true rfl⟩ ⟨Nat.le_of_ble_eq_true rfl, Nat.le_of_ble_eq_true rfl⟩ (Nat.le_of_ble_eq_true rfl) rfl (mq_s mineQ_live) (mq_n mineQ_live) rfl (fun z_71 => ?_)
        rw [hR2.2.1.1]
        refine gw_istore_n C (lo1 := [some (vR 0), some (vI x1), some (vI x2), some (vI (S 3))]) 3 dX7_hang_74 rfl (by decide) rfl ?_
        refine gw_aload_n C 0 dX7_hang_75 rfl rfl ?_
        refine gw_getRs (ci := 6) (Cn := RX7) (T0 := TX7) (N := 3) C 1 0 kX7_10 fX7 rfl (by decide) rfl rfl dX7_hang_76 xs_0 xn_0 xr_0_0 ?_
        have hop := ck_op (K := (up (up (up (up Kk (1 + 5 + 2 * (S 3).toNat) 0 x1) (1 + 5 + 2 * (S 3).toNat) 1 x2) (1 + 5 + 2 * (S 3).toNat) 2 0) 1 1 (S 3 + 1))) (S' := oHang S (S 3).toNat x1 x2) hk9.1.1 (fun q f hq => by (repeat rw [up_nn (by omega)])) (rel_hang (n := (S 3).toNat) hR2 ho (by omega) (by omega) rfl) (oks_hang (n := (S 3).toNat) ho (by omega) (by omega) (by omega) (by omega)) (raw_hang (n := (S 3).toNat) hw2 (by omega) (by omega) (by omega))
        refine gw_callV C (as := []) (st := []) (ci := 2) (T0 := TX2) (N := 7) (c_X2_judge hl0 G (up (up (up (up Kk (1 + 5 + 2 * (S 3).toNat) 0 x1) (1 + 5 + 2 * (S 3).toNat) 1 x2) (1 + 5 + 2 * (S 3).toNat) 2 0) 1 1 (S 3 + 1)) J mineQ_live hop.1.1.1 hop.1.1.2.1 hop.1.1.2.2) dX7_hang_79 kX7_49 qX2_judge hdX2_judge ⟨Nat.le_of_ble_eq_true rfl, Nat.le_of_ble_eq_true rfl⟩ ⟨Nat.le_of_ble_eq_true rfl, Nat.le_of_ble_eq_true rfl⟩ (Nat.le_of_ble_eq_true rfl) rfl (mq_s mineQ_live) (mq_n mineQ_live) rfl (fun _ _ _ _ h => h.elim) ?_
        intro v_79 z_79_2 Kj J_79 hv_79
        obtain ⟨ev_79, ⟨hf9, hj9⟩, eJ_79⟩ := hv_79
        rw [ev_79, eJ_79]
        have hjd := ck_judge hop.1 hf9 hj9
        show GW G p l e ({ frames := 6, cells := 1, slots := 6, locals := 119 } : Room) s m args below meth c 4 z_79_2 N0 SH RR Kj J 0 0 (vx_MQ below (GQ G N0 SH RR (mtQ (kHang S x1 x2) (S 3) I J (oHang S (S 3).toNat x1 x2) (psh S D9) (cN c9))) (GX G N0 SH RR (xcQ (kHang S x1 x2) nIA nIS nIA I J)) args s 1 6 (ge G)) 82 [some (vR 0), some (vI x1), some (vI x2), some (vI (S 3))] []
        refine gw_iload_n C 3 dX7_hang_82 rfl rfl ?_
        exact gw_iret C (Nat.le_of_ble_eq_true rfl) (Nat.le_of_ble_eq_true rfl) dX7_hang_83 (⟨⟨(by unfold kHang; (repeat (first | rw [if_pos (by omega)] | rw [if_neg (by omega)]))), congrArg (fun q => some (vI q)) (by rfl)⟩, ⟨hjd.1, frC_trans hk9.2 (frC_trans hop.2 hjd.2)⟩, rfl⟩)
      · skip
        exact gw_throw C (cls := "java/lang/IllegalStateException") (text := "there are 6 wires") (ik := 70) (is := 72) (ic := 74) ht (by decide) (by decide) kX7_70 n_IllegalStateException (List.mem_of_getElem? (i := 1) rfl) gt_IS_74_1 gt_IS_74_2 (by decide) gt_IS_74_3 dX7_hang_44 dX7_hang_47 dX7_hang_48 dX7_hang_50 dX7_hang_53 (Nat.le_of_ble_eq_true rfl) (Nat.le_of_ble_eq_true rfl) (Nat.le_of_ble_eq_true rfl) (Nat.le_of_ble_eq_true rfl) (Nat.le_of_ble_eq_true rfl) (Nat.le_of_ble_eq_true rfl) (fun _ => ⟨Or.inr (Or.inl ⟨(by unfold kHang; (repeat (first | rw [if_pos (by omega)] | rw [if_neg (by omega)]))), rfl⟩), rfl, rfl⟩)
    · skip
      refine gw_if_ne C (tgt := 32) dX7_hang_19 (by decide) ⟨by decide, by decide⟩ (fun h => absurd h (by decide)) (fun _ => ?_)
      exact gw_throw C (cls := "java/lang/IllegalArgumentException") (text := "a coordinate is out of range") (ik := 34) (is := 64) (ic := 38) ht (by decide) (by decide) kX7_34 n_IllegalArgumentException (List.mem_of_getElem? (i := 0) rfl) gt_IA_38_1 gt_IA_38_2 (by decide) gt_IA_38_3 dX7_hang_22 dX7_hang_25 dX7_hang_26 dX7_hang_28 dX7_hang_31 (Nat.le_of_ble_eq_true rfl) (Nat.le_of_ble_eq_true rfl) (Nat.le_of_ble_eq_true rfl) (Nat.le_of_ble_eq_true rfl) (Nat.le_of_ble_eq_true rfl) (Nat.le_of_ble_eq_true rfl) (fun _ => ⟨Or.inl ⟨(by unfold kHang; (repeat (first | rw [if_pos (by omega)] | rw [if_neg (by omega)]))), rfl⟩, rfl, rfl⟩)
  · skip
    refine gw_if_eq C (tgt := 22) dX7_hang_8 (by decide) ⟨by decide, by decide⟩ (fun _ => ?_) (fun h => absurd h (by decide))
    exact gw_throw C (cls := "java/lang/IllegalArgumentException") (text := "a coordinate is out of range") (ik := 34) (is := 64) (ic := 38) ht (by decide) (by decide) kX7_34 n_IllegalArgumentException (List.mem_of_getElem? (i := 0) rfl) gt_IA_38_1 gt_IA_38_2 (by decide) gt_IA_38_3 dX7_hang_22 dX7_hang_25 dX7_hang_26 dX7_hang_28 dX7_hang_31 (Nat.le_of_ble_eq_true rfl) (Nat.le_of_ble_eq_true rfl) (Nat.le_of_ble_eq_true rfl) (Nat.le_of_ble_eq_true rfl) (Nat.le_of_ble_eq_true rfl) (Nat.le_of_ble_eq_true rfl) (fun _ => ⟨Or.inl ⟨(by unfold kHang; (repeat (first | rw [if_pos (by omega)] | rw [if_neg (by omega)]))), rfl⟩, rfl, rfl⟩)
set_option maxHeartbeats 4000000 in
set_option maxRecDepth 100000 in
theorem c_X7_join {l : Launch} (hl0 : l.stackTraces = false) (G : GG) (I J : GI) {z : Nat} {S : Nat → Int} {D9 : Nat → Nat → Int} {c9 : Nat} (hCI : CI I S D9 c9) (x1 x2 x3 x4 x5 x6 : Int) (hx1 : inI x1) (hx2 : inI x2) (hx3 : inI x3) (hx4 : inI x4) (hx5 : inI x5) (hx6 : inI x6) : GM l yX7_join (.code yX7_join cX7_join 8 (some .int)) 6 119 1 6 G N0 SH RR [vR 0, vI x1, vI x2, vI x3, vI x4, vI x5, vI x6] z I J (mtQ (kJoin S x1 x2 x3 x4 x5 x6) (S 4) I J (oJoin S (S 4).toNat x1 x2 x3 x4 x5 x6) (psh S D9) (cN c9)) (xcQ (kJoin S x1 x2 x3 x4 x5 x6) nIX nIA nIS I J) := by
  refine gm_of (lo0 := [some (vR 0), some (vI x1), some (vI x2), some (vI x3), some (vI x4), some (vI x5), some (vI x6), none]) hl0 (by decide) rfl (Nat.le_of_ble_eq_true rfl) ?_
  intro p e s m args below meth c C ht hgi
  have C : gC G p l s m args meth c cX7_join 8 RX7 (some .int) "join" := C
  have hR := hCI.1.1.1
  have ho := hCI.1.1.2.1
  have hw := hCI.1.1.2.2
  have hj := hCI.2
  have hcnt := hR.2.1
  have hobd := ho.2.1
  refine gw_aload_n C 0 dX7_join_0 rfl rfl ?_
  refine gw_getRs (ci := 6) (Cn := RX7) (T0 := TX7) (N := 3) C 1 0 kX7_10 fX7 rfl (by decide) rfl rfl dX7_join_1 xs_0 xn_0 xr_0_0 ?_
  refine gw_iload_n C 1 dX7_join_4 rfl rfl ?_
  refine gw_callV C (as := [vI x1]) (st := []) (ci := 2) (T0 := TX2) (N := 7) (c_X2_wireAt hl0 G I J mineQ_live (by omega) x1 hx1) dX7_join_5 kX7_82 qX2_wireAt hdX2_wireAt ⟨Nat.le_of_ble_eq_true rfl, Nat.le_of_ble_eq_true rfl⟩ ⟨Nat.le_of_ble_eq_true rfl, Nat.le_of_ble_eq_true rfl⟩ (Nat.le_of_ble_eq_true rfl) rfl (mq_s mineQ_live) (mq_n mineQ_live) rfl (fun _ _ _ _ h => h.elim) ?_
  intro v_5 zq_5 I_5 J_5 hq_5_2
  obtain ⟨⟨hq_5_2, rfl⟩ | ⟨hq_5_2, rfl⟩, eI_5, eJ_5⟩ := hq_5_2
  all_goals rw [eI_5, eJ_5]
  · skip
    show GW G p l e ({ frames := 6, cells := 1, slots := 6, locals := 119 } : Room) s m args below meth c 8 zq_5 N0 SH RR I J 0 0 (vx_MQ below (GQ G N0 SH RR (mtQ (kJoin S x1 x2 x3 x4 x5 x6) (S 4) I J (oJoin S (S 4).toNat x1 x2 x3 x4 x5 x6) (psh S D9) (cN c9))) (GX G N0 SH RR (xcQ (kJoin S x1 x2 x3 x4 x5 x6) nIX nIA nIS I J)) args s 1 6 (ge G)) 8 [some (vR 0), some (vI x1), some (vI x2), some (vI x3), some (vI x4), some (vI x5), some (vI x6), none] [vR (1 + 5 + 2 * (x1).toNat)]
    refine gw_ifnull C dX7_join_8 ?_
    refine gw_aload_n C 0 dX7_join_11 rfl rfl ?_
    refine gw_getRs (ci := 6) (Cn := RX7) (T0 := TX7) (N := 3) C 1 0 kX7_10 fX7 rfl (by decide) rfl rfl dX7_join_12 xs_0 xn_0 xr_0_0 ?_
    refine gw_iload_n C 2 dX7_join_15 rfl rfl ?_
    refine gw_callV C (as := [vI x2]) (st := []) (ci := 2) (T0 := TX2) (N := 7) (c_X2_wireAt hl0 G I J mineQ_live (by omega) x2 hx2) dX7_join_16 kX7_82 qX2_wireAt hdX2_wireAt ⟨Nat.le_of_ble_eq_true rfl, Nat.le_of_ble_eq_true rfl⟩ ⟨Nat.le_of_ble_eq_true rfl, Nat.le_of_ble_eq_true rfl⟩ (Nat.le_of_ble_eq_true rfl) rfl (mq_s mineQ_live) (mq_n mineQ_live) rfl (fun _ _ _ _ h => h.elim) ?_
    intro v_16 zq_16 I_16 J_16 hq_16_2
    obtain ⟨⟨hq_16_2, rfl⟩ | ⟨hq_16_2, rfl⟩, eI_16, eJ_16⟩ := hq_16_2
    all_goals rw [eI_16, eJ_16]
    · skip
      show GW G p l e ({ frames := 6, cells := 1, slots := 6, locals := 119 } : Room) s m args below meth c 8 zq_16 N0 SH RR I J 0 0 (vx_MQ below (GQ G N0 SH RR (mtQ (kJoin S x1 x2 x3 x4 x5 x6) (S 4) I J (oJoin S (S 4).toNat x1 x2 x3 x4 x5 x6) (psh S D9) (cN c9))) (GX G N0 SH RR (xcQ (kJoin S x1 x2 x3 x4 x5 x6) nIX nIA nIS I J)) args s 1 6 (ge G)) 19 [some (vR 0), some (vI x1), some (vI x2), some (vI x3), some (vI x4), some (vI x5), some (vI x6), none] [vR (1 + 5 + 2 * (x2).toNat)]
      refine gw_ifnonnull C (tgt := 32) dX7_join_19 (by decide) ?_
      refine gw_iload_n C 1 dX7_join_32 rfl rfl ?_
      refine gw_iload_n C 2 dX7_join_33 rfl rfl ?_
      refine gw_icmp_eq C (tgt := 77) dX7_join_34 (by decide) hx1 hx2 (fun h_34 => ?_) (fun h_34 => ?_)
      · skip
        exact gw_throw C (cls := "java/lang/IllegalArgumentException") (text := "the same wire twice, or an argument out of range") (ik := 34) (is := 108) (ic := 38) ht (by decide) (by decide) kX7_34 n_IllegalArgumentException (List.mem_of_getElem? (i := 6) rfl) gt_IA_38_1 gt_IA_38_2 (by decide) gt_IA_38_3 dX7_join_77 dX7_join_80 dX7_join_81 dX7_join_83 dX7_join_86 (Nat.le_of_ble_eq_true rfl) (Nat.le_of_ble_eq_true rfl) (Nat.le_of_ble_eq_true rfl) (Nat.le_of_ble_eq_true rfl) (Nat.le_of_ble_eq_true rfl) (Nat.le_of_ble_eq_true rfl) (fun _ => ⟨Or.inr (Or.inl ⟨(by unfold kJoin; (repeat (first | rw [if_pos (by omega)] | rw [if_neg (by omega)]))), rfl⟩), rfl, rfl⟩)
      · skip
        refine gw_iload_n C 3 dX7_join_37 rfl rfl ?_
        refine gw_callSb C (as := [vI x3]) (st := []) (c_X7_isBearing hl0 G x3 hx3) dX7_join_38 kX7_100 qX7_isBearing hdX7_isBearing ⟨Nat.le_of_ble_eq_true rfl, Nat.le_of_ble_eq_true rfl⟩ ⟨Nat.le_of_ble_eq_true rfl, Nat.le_of_ble_eq_true rfl⟩ (Nat.le_of_ble_eq_true rfl) rfl (fun h_38 z_38 => ?_) (fun h_38 z_38 => ?_)
        · skip
          refine gw_if_eq C (tgt := 77) dX7_join_41 (by decide) ⟨by decide, by decide⟩ (fun h => absurd h (by decide)) (fun _ => ?_)
          refine gw_iload C dX7_join_44 rfl ?_
          refine gw_bipush C dX7_join_46 rfl ?_
          refine gw_sipush C dX7_join_48 rfl ?_
          refine gw_callSb C (as := [vI x4, vI 100, vI 20000]) (st := []) (c_X7_isIn hl0 G x4 100 20000 hx4 ⟨by decide, by decide⟩ ⟨by decide, by decide⟩) dX7_join_51 kX7_52 qX7_isIn hdX7_isIn ⟨Nat.le_of_ble_eq_true rfl, Nat.le_of_ble_eq_true rfl⟩ ⟨Nat.le_of_ble_eq_true rfl, Nat.le_of_ble_eq_true rfl⟩ (Nat.le_of_ble_eq_true rfl) rfl (fun h_51 z_51 => ?_) (fun h_51 z_51 => ?_)
          · skip
            refine gw_if_eq C (tgt := 77) dX7_join_54 (by decide) ⟨by decide, by decide⟩ (fun h => absurd h (by decide)) (fun _ => ?_)
            refine gw_iload C dX7_join_57 rfl ?_
            refine gw_bipush C dX7_join_59 rfl ?_
            refine gw_ldc C (x := 50000) dX7_join_61 kX7_104 (by decide) ?_
            refine gw_callSb C (as := [vI x5, vI 100, vI 50000]) (st := []) (c_X7_isIn hl0 G x5 100 50000 hx5 ⟨by decide, by decide⟩ ⟨by decide, by decide⟩) dX7_join_63 kX7_52 qX7_isIn hdX7_isIn ⟨Nat.le_of_ble_eq_true rfl, Nat.le_of_ble_eq_true rfl⟩ ⟨Nat.le_of_ble_eq_true rfl, Nat.le_of_ble_eq_true rfl⟩ (Nat.le_of_ble_eq_true rfl) rfl (fun h_63 z_63 => ?_) (fun h_63 z_63 => ?_)
            · skip
              refine gw_if_eq C (tgt := 77) dX7_join_66 (by decide) ⟨by decide, by decide⟩ (fun h => absurd h (by decide)) (fun _ => ?_)
              refine gw_iload C dX7_join_69 rfl ?_
              refine gw_callSb C (as := [vI x6]) (st := []) (c_X7_isSmall hl0 G x6 hx6) dX7_join_71 kX7_105 qX7_isSmall hdX7_isSmall ⟨Nat.le_of_ble_eq_true rfl, Nat.le_of_ble_eq_true rfl⟩ ⟨Nat.le_of_ble_eq_true rfl, Nat.le_of_ble_eq_true rfl⟩ (Nat.le_of_ble_eq_true rfl) rfl (fun h_71 z_71 => ?_) (fun h_71 z_71 => ?_)
              · skip
                refine gw_if_ne C (tgt := 87) dX7_join_74 (by decide) ⟨by decide, by decide⟩ (fun _ => ?_) (fun h => absurd h (by decide))
                refine gw_aload_n C 0 dX7_join_87 rfl rfl ?_
                refine gw_getRs (ci := 6) (Cn := RX7) (T0 := TX7) (N := 3) C 1 0 kX7_10 fX7 rfl (by decide) rfl rfl dX7_join_88 xs_0 xn_0 xr_0_0 ?_
                refine gw_getI (ci := 2) (Cn := RX2) (T0 := TX2) (N := 7) C 2 kX7_110 fX2 rfl (by decide) rfl rfl dX7_join_91 (mq_s mineQ_live) (mq_n mineQ_live) (fun hI_91 => ?_)
                refine gw_iconst C dX7_join_94 ?_
                refine gw_icmp_lt C (tgt := 108) dX7_join_95 (by decide) hI_91 ⟨by decide, by decide⟩ (fun h_95 => ?_) (fun h_95 => ?_)
                · skip
                  refine gw_aload_n C 0 dX7_join_108 rfl rfl ?_
                  refine gw_getRs (ci := 6) (Cn := RX7) (T0 := TX7) (N := 3) C 46 1 kX7_19 fX7 rfl (by decide) rfl rfl dX7_join_109 xs_0 xn_0 xr_0_1 ?_
                  refine gw_aload_n C 0 dX7_join_112 rfl rfl ?_
                  refine gw_getRs (ci := 6) (Cn := RX7) (T0 := TX7) (N := 3) C 1 0 kX7_10 fX7 rfl (by decide) rfl rfl dX7_join_113 xs_0 xn_0 xr_0_0 ?_
                  refine gw_callV C (as := [vR 1]) (st := []) (ci := 0) (T0 := TX0) (N := 3) (c_X0_keep hl0 G I J hCI.1.2.1.1 (by have := hCI.1.2.1.2; omega)) dX7_join_116 kX7_41 qX0_keep hdX0_keep ⟨Nat.le_of_ble_eq_true rfl, Nat.le_of_ble_eq_true rfl⟩ ⟨Nat.le_of_ble_eq_true rfl, Nat.le_of_ble_eq_true rfl⟩ (Nat.le_of_ble_eq_true rfl) rfl xs_46 xn_46 rfl (fun _ _ _ _ h => h.elim) ?_
                  intro v_116 z_116_2 Kk J_116 hv_116
                  obtain ⟨ev_116, hkp_116, eJ_116⟩ := hv_116
                  rw [ev_116, eJ_116]
                  have hk9 := ck_keep hCI hkp_116
                  have hR2 := hk9.1.1.1.1
                  have hw2 := hk9.1.1.1.2.2
                  have hj2 := hk9.1.2
                  have hcn2 := hR2.2.1
                  show GW G p l e ({ frames := 6, cells := 1, slots := 6, locals := 119 } : Room) s m args below meth c 8 z_116_2 N0 SH RR Kk J 0 0 (vx_MQ below (GQ G N0 SH RR (mtQ (kJoin S x1 x2 x3 x4 x5 x6) (S 4) I J (oJoin S (S 4).toNat x1 x2 x3 x4 x5 x6) (psh S D9) (cN c9))) (GX G N0 SH RR (xcQ (kJoin S x1 x2 x3 x4 x5 x6) nIX nIA nIS I J)) args s 1 6 (ge G)) 119 [some (vR 0), some (vI x1), some (vI x2), some (vI x3), some (vI x4), some (vI x5), some (vI x6), none] []
                  refine gw_aload_n C 0 dX7_join_119 rfl rfl ?_
                  refine gw_getRs (ci := 6) (Cn := RX7) (T0 := TX7) (N := 3) C 1 0 kX7_10 fX7 rfl (by decide) rfl rfl dX7_join_120 xs_0 xn_0 xr_0_0 ?_
                  refine gw_iload_n C 1 dX7_join_123 rfl rfl ?_
                  refine gw_iload_n C 2 dX7_join_124 rfl rfl ?_
                  refine gw_iload_n C 3 dX7_join_125 rfl rfl ?_
                  refine gw_iload C dX7_join_126 rfl ?_
                  refine gw_iload C dX7_join_128 rfl ?_
                  refine gw_iload C dX7_join_130 rfl ?_
                  refine gw_callVm C (as := [vI x1, vI x2, vI x3, vI x4, vI x5, vI x6]) (st := []) (ci := 2) (T0 := TX2) (N := 7) (c_X2_addJoin hl0 G Kk J mineQ_live (by omega) x1 x2 x3 x4 x5 x6 hx1 hx2 hx3 hx4 hx5 hx6) dX7_join_132 kX7_115 qX2_addJoin hdX2_addJoin ⟨Nat.le_of_ble_eq_true rfl, Nat.le_of_ble_eq_true rfl⟩ ⟨Nat.le_of_ble_eq_true rfl, Nat.le_of_ble_eq_true rfl⟩ (Nat.le_of_ble_eq_true rfl) rfl (mq_s mineQ_live) (mq_n mineQ_live) rfl (fun z_132 => ?_)
                  rw [hR2.2.1.2.1]
                  refine gw_istore C (lo1 := [some (vR 0), some (vI x1), some (vI x2), some (vI x3), some (vI x4), some (vI x5), some (vI x6), some (vI (S 4))]) dX7_join_135 (by decide) rfl ?_
                  refine gw_aload_n C 0 dX7_join_137 rfl rfl ?_
                  refine gw_getRs (ci := 6) (Cn := RX7) (T0 := TX7) (N := 3) C 1 0 kX7_10 fX7 rfl (by decide) rfl rfl dX7_join_138 xs_0 xn_0 xr_0_0 ?_
                  have hop := ck_op (K := (up (up (up (up (up (up (up Kk (1 + 17 + (S 4).toNat) 0 x1) (1 + 17 + (S 4).toNat) 1 x2) (1 + 17 + (S 4).toNat) 8 x3) (1 + 17 + (S 4).toNat) 9 x4) (1 + 17 + (S 4).toNat) 10 x5) (1 + 17 + (S 4).toNat) 2 x6) 1 2 (S 4 + 1))) (S' := oJoin S (S 4).toNat x1 x2 x3 x4 x5 x6) hk9.1.1 (fun q f hq => by (repeat rw [up_nn (by omega)])) (rel_join (n := (S 4).toNat) hR2 ho (by omega) (by omega) rfl) (oks_join (n := (S 4).toNat) ho (by omega) (by omega) (by omega) (by omega) (by omega) (by omega) (by omega) (by omega)) (raw_join (n := (S 4).toNat) hw2 (by omega))
                  refine gw_callV C (as := []) (st := []) (ci := 2) (T0 := TX2) (N := 7) (c_X2_judge hl0 G (up (up (up (up (up (up (up Kk (1 + 17 + (S 4).toNat) 0 x1) (1 + 17 + (S 4).toNat) 1 x2) (1 + 17 + (S 4).toNat) 8 x3) (1 + 17 + (S 4).toNat) 9 x4) (1 + 17 + (S 4).toNat) 10 x5) (1 + 17 + (S 4).toNat) 2 x6) 1 2 (S 4 + 1)) J mineQ_live hop.1.1.1 hop.1.1.2.1 hop.1.1.2.2) dX7_join_141 kX7_49 qX2_judge hdX2_judge ⟨Nat.le_of_ble_eq_true rfl, Nat.le_of_ble_eq_true rfl⟩ ⟨Nat.le_of_ble_eq_true rfl, Nat.le_of_ble_eq_true rfl⟩ (Nat.le_of_ble_eq_true rfl) rfl (mq_s mineQ_live) (mq_n mineQ_live) rfl (fun _ _ _ _ h => h.elim) ?_
                  intro v_141 z_141_2 Kj J_141 hv_141
                  obtain ⟨ev_141, ⟨hf9, hj9⟩, eJ_141⟩ := hv_141
                  rw [ev_141, eJ_141]
                  have hjd := ck_judge hop.1 hf9 hj9
                  show GW G p l e ({ frames := 6, cells := 1, slots := 6, locals := 119 } : Room) s m args below meth c 8 z_141_2 N0 SH RR Kj J 0 0 (vx_MQ below (GQ G N0 SH RR (mtQ (kJoin S x1 x2 x3 x4 x5 x6) (S 4) I J (oJoin S (S 4).toNat x1 x2 x3 x4 x5 x6) (psh S D9) (cN c9))) (GX G N0 SH RR (xcQ (kJoin S x1 x2 x3 x4 x5 x6) nIX nIA nIS I J)) args s 1 6 (ge G)) 144 [some (vR 0), some (vI x1), some (vI x2), some (vI x3), some (vI x4), some (vI x5), some (vI x6), some (vI (S 4))] []
                  refine gw_iload C dX7_join_144 rfl ?_
                  exact gw_iret C (Nat.le_of_ble_eq_true rfl) (Nat.le_of_ble_eq_true rfl) dX7_join_146 (⟨⟨(by unfold kJoin; (repeat (first | rw [if_pos (by omega)] | rw [if_neg (by omega)]))), congrArg (fun q => some (vI q)) (by rfl)⟩, ⟨hjd.1, frC_trans hk9.2 (frC_trans hop.2 hjd.2)⟩, rfl⟩)
                · skip
                  exact gw_throw C (cls := "java/lang/IllegalStateException") (text := "there are 4 joins") (ik := 70) (is := 113) (ic := 74) ht (by decide) (by decide) kX7_70 n_IllegalStateException (List.mem_of_getElem? (i := 7) rfl) gt_IS_74_1 gt_IS_74_2 (by decide) gt_IS_74_3 dX7_join_98 dX7_join_101 dX7_join_102 dX7_join_104 dX7_join_107 (Nat.le_of_ble_eq_true rfl) (Nat.le_of_ble_eq_true rfl) (Nat.le_of_ble_eq_true rfl) (Nat.le_of_ble_eq_true rfl) (Nat.le_of_ble_eq_true rfl) (Nat.le_of_ble_eq_true rfl) (fun _ => ⟨Or.inr (Or.inr ⟨(by unfold kJoin; (repeat (first | rw [if_pos (by omega)] | rw [if_neg (by omega)]))), rfl⟩), rfl, rfl⟩)
              · skip
                refine gw_if_ne C (tgt := 87) dX7_join_74 (by decide) ⟨by decide, by decide⟩ (fun h => absurd h (by decide)) (fun _ => ?_)
                exact gw_throw C (cls := "java/lang/IllegalArgumentException") (text := "the same wire twice, or an argument out of range") (ik := 34) (is := 108) (ic := 38) ht (by decide) (by decide) kX7_34 n_IllegalArgumentException (List.mem_of_getElem? (i := 6) rfl) gt_IA_38_1 gt_IA_38_2 (by decide) gt_IA_38_3 dX7_join_77 dX7_join_80 dX7_join_81 dX7_join_83 dX7_join_86 (Nat.le_of_ble_eq_true rfl) (Nat.le_of_ble_eq_true rfl) (Nat.le_of_ble_eq_true rfl) (Nat.le_of_ble_eq_true rfl) (Nat.le_of_ble_eq_true rfl) (Nat.le_of_ble_eq_true rfl) (fun _ => ⟨Or.inr (Or.inl ⟨(by unfold kJoin; (repeat (first | rw [if_pos (by omega)] | rw [if_neg (by omega)]))), rfl⟩), rfl, rfl⟩)
            · skip
              refine gw_if_eq C (tgt := 77) dX7_join_66 (by decide) ⟨by decide, by decide⟩ (fun _ => ?_) (fun h => absurd h (by decide))
              exact gw_throw C (cls := "java/lang/IllegalArgumentException") (text := "the same wire twice, or an argument out of range") (ik := 34) (is := 108) (ic := 38) ht (by decide) (by decide) kX7_34 n_IllegalArgumentException (List.mem_of_getElem? (i := 6) rfl) gt_IA_38_1 gt_IA_38_2 (by decide) gt_IA_38_3 dX7_join_77 dX7_join_80 dX7_join_81 dX7_join_83 dX7_join_86 (Nat.le_of_ble_eq_true rfl) (Nat.le_of_ble_eq_true rfl) (Nat.le_of_ble_eq_true rfl) (Nat.le_of_ble_eq_true rfl) (Nat.le_of_ble_eq_true rfl) (Nat.le_of_ble_eq_true rfl) (fun _ => ⟨Or.inr (Or.inl ⟨(by unfold kJoin; (repeat (first | rw [if_pos (by omega)] | rw [if_neg (by omega)]))), rfl⟩), rfl, rfl⟩)
          · skip
            refine gw_if_eq C (tgt := 77) dX7_join_54 (by decide) ⟨by decide, by decide⟩ (fun _ => ?_) (fun h => absurd h (by decide))
            exact gw_throw C (cls := "java/lang/IllegalArgumentException") (text := "the same wire twice, or an argument out of range") (ik := 34) (is := 108) (ic := 38) ht (by decide) (by decide) kX7_34 n_IllegalArgumentException (List.mem_of_getElem? (i := 6) rfl) gt_IA_38_1 gt_IA_38_2 (by decide) gt_IA_38_3 dX7_join_77 dX7_join_80 dX7_join_81 dX7_join_83 dX7_join_86 (Nat.le_of_ble_eq_true rfl) (Nat.le_of_ble_eq_true rfl) (Nat.le_of_ble_eq_true rfl) (Nat.le_of_ble_eq_true rfl) (Nat.le_of_ble_eq_true rfl) (Nat.le_of_ble_eq_true rfl) (fun _ => ⟨Or.inr (Or.inl ⟨(by unfold kJoin; (repeat (first | rw [if_pos (by omega)] | rw [if_neg (by omega)]))), rfl⟩), rfl, rfl⟩)
        · skip
          refine gw_if_eq C (tgt := 77) dX7_join_41 (by decide) ⟨by decide, by decide⟩ (fun _ => ?_) (fun h => absurd h (by decide))
          exact gw_throw C (cls := "java/lang/IllegalArgumentException") (text := "the same wire twice, or an argument out of range") (ik := 34) (is := 108) (ic := 38) ht (by decide) (by decide) kX7_34 n_IllegalArgumentException (List.mem_of_getElem? (i := 6) rfl) gt_IA_38_1 gt_IA_38_2 (by decide) gt_IA_38_3 dX7_join_77 dX7_join_80 dX7_join_81 dX7_join_83 dX7_join_86 (Nat.le_of_ble_eq_true rfl) (Nat.le_of_ble_eq_true rfl) (Nat.le_of_ble_eq_true rfl) (Nat.le_of_ble_eq_true rfl) (Nat.le_of_ble_eq_true rfl) (Nat.le_of_ble_eq_true rfl) (fun _ => ⟨Or.inr (Or.inl ⟨(by unfold kJoin; (repeat (first | rw [if_pos (by omega)] | rw [if_neg (by omega)]))), rfl⟩), rfl, rfl⟩)
    · skip
      show GW G p l e ({ frames := 6, cells := 1, slots := 6, locals := 119 } : Room) s m args below meth c 8 zq_16 N0 SH RR I J 0 0 (vx_MQ below (GQ G N0 SH RR (mtQ (kJoin S x1 x2 x3 x4 x5 x6) (S 4) I J (oJoin S (S 4).toNat x1 x2 x3 x4 x5 x6) (psh S D9) (cN c9))) (GX G N0 SH RR (xcQ (kJoin S x1 x2 x3 x4 x5 x6) nIX nIA nIS I J)) args s 1 6 (ge G)) 19 [some (vR 0), some (vI x1), some (vI x2), some (vI x3), some (vI x4), some (vI x5), some (vI x6), none] [vN]
      refine gw_ifnonnullN C dX7_join_19 ?_
      exact gw_throw C (cls := "java/lang/IndexOutOfBoundsException") (text := "no such wire") (ik := 86) (is := 88) (ic := 90) ht (by decide) (by decide) kX7_86 n_IndexOutOfBoundsException (List.mem_of_getElem? (i := 5) rfl) gt_IX_90_1 gt_IX_90_2 (by decide) gt_IX_90_3 dX7_join_22 dX7_join_25 dX7_join_26 dX7_join_28 dX7_join_31 (Nat.le_of_ble_eq_true rfl) (Nat.le_of_ble_eq_true rfl) (Nat.le_of_ble_eq_true rfl) (Nat.le_of_ble_eq_true rfl) (Nat.le_of_ble_eq_true rfl) (Nat.le_of_ble_eq_true rfl) (fun _ => ⟨Or.inl ⟨(by unfold kJoin; (repeat (first | rw [if_pos (by omega)] | rw [if_neg (by omega)]))), rfl⟩, rfl, rfl⟩)
  · skip
    show GW G p l e ({ frames := 6, cells := 1, slots := 6, locals := 119 } : Room) s m args below meth c 8 zq_5 N0 SH RR I J 0 0 (vx_MQ below (GQ G N0 SH RR (mtQ (kJoin S x1 x2 x3 x4 x5 x6) (S 4) I J (oJoin S (S 4).toNat x1 x2 x3 x4 x5 x6) (psh S D9) (cN c9))) (GX G N0 SH RR (xcQ (kJoin S x1 x2 x3 x4 x5 x6) nIX nIA nIS I J)) args s 1 6 (ge G)) 8 [some (vR 0), some (vI x1), some (vI x2), some (vI x3), some (vI x4), some (vI x5), some (vI x6), none] [vN]
    refine gw_ifnullN C (tgt := 22) dX7_join_8 (by decide) ?_
    exact gw_throw C (cls := "java/lang/IndexOutOfBoundsException") (text := "no such wire") (ik := 86) (is := 88) (ic := 90) ht (by decide) (by decide) kX7_86 n_IndexOutOfBoundsException (List.mem_of_getElem? (i := 5) rfl) gt_IX_90_1 gt_IX_90_2 (by decide) gt_IX_90_3 dX7_join_22 dX7_join_25 dX7_join_26 dX7_join_28 dX7_join_31 (Nat.le_of_ble_eq_true rfl) (Nat.le_of_ble_eq_true rfl) (Nat.le_of_ble_eq_true rfl) (Nat.le_of_ble_eq_true rfl) (Nat.le_of_ble_eq_true rfl) (Nat.le_of_ble_eq_true rfl) (fun _ => ⟨Or.inl ⟨(by unfold kJoin; (repeat (first | rw [if_pos (by omega)] | rw [if_neg (by omega)]))), rfl⟩, rfl, rfl⟩)
set_option maxHeartbeats 4000000 in
set_option maxRecDepth 100000 in
theorem c_X7_begin {l : Launch} (hl0 : l.stackTraces = false) (G : GG) (I J : GI) {z : Nat} {S : Nat → Int} {D9 : Nat → Nat → Int} {c9 : Nat} (hCI : CI I S D9 c9) (x1 : Int) (hx1 : inI x1) : GM l yX7_begin (.code yX7_begin cX7_begin 3 (some .int)) 6 119 1 6 G N0 SH RR [vR 0, vI x1] z I J (mtQ (kBegin S x1) (S 5) I J (oBegin S (S 5).toNat x1) (psh S D9) (cN c9)) (xcQ (kBegin S x1) nIX nIS nIA I J) := by
  refine gm_of (lo0 := [some (vR 0), some (vI x1), none]) hl0 (by decide) rfl (Nat.le_of_ble_eq_true rfl) ?_
  intro p e s m args below meth c C ht hgi
  have C : gC G p l s m args meth c cX7_begin 3 RX7 (some .int) "begin" := C
  have hR := hCI.1.1.1
  have ho := hCI.1.1.2.1
  have hw := hCI.1.1.2.2
  have hj := hCI.2
  have hcnt := hR.2.1
  have hobd := ho.2.1
  refine gw_aload_n C 0 dX7_begin_0 rfl rfl ?_
  refine gw_getRs (ci := 6) (Cn := RX7) (T0 := TX7) (N := 3) C 1 0 kX7_10 fX7 rfl (by decide) rfl rfl dX7_begin_1 xs_0 xn_0 xr_0_0 ?_
  refine gw_iload_n C 1 dX7_begin_4 rfl rfl ?_
  refine gw_callV C (as := [vI x1]) (st := []) (ci := 2) (T0 := TX2) (N := 7) (c_X2_joinAt hl0 G I J mineQ_live (by omega) x1 hx1) dX7_begin_5 kX7_119 qX2_joinAt hdX2_joinAt ⟨Nat.le_of_ble_eq_true rfl, Nat.le_of_ble_eq_true rfl⟩ ⟨Nat.le_of_ble_eq_true rfl, Nat.le_of_ble_eq_true rfl⟩ (Nat.le_of_ble_eq_true rfl) rfl (mq_s mineQ_live) (mq_n mineQ_live) rfl (fun _ _ _ _ h => h.elim) ?_
  intro v_5 zq_5 I_5 J_5 hq_5_2
  obtain ⟨⟨hq_5_2, rfl⟩ | ⟨hq_5_2, rfl⟩, eI_5, eJ_5⟩ := hq_5_2
  all_goals rw [eI_5, eJ_5]
  · skip
    show GW G p l e ({ frames := 6, cells := 1, slots := 6, locals := 119 } : Room) s m args below meth c 3 zq_5 N0 SH RR I J 0 0 (vx_MQ below (GQ G N0 SH RR (mtQ (kBegin S x1) (S 5) I J (oBegin S (S 5).toNat x1) (psh S D9) (cN c9))) (GX G N0 SH RR (xcQ (kBegin S x1) nIX nIS nIA I J)) args s 1 6 (ge G)) 8 [some (vR 0), some (vI x1), none] [vR (1 + 17 + (x1).toNat)]
    refine gw_ifnonnull C (tgt := 21) dX7_begin_8 (by decide) ?_
    refine gw_aload_n C 0 dX7_begin_21 rfl rfl ?_
    refine gw_getRs (ci := 6) (Cn := RX7) (T0 := TX7) (N := 3) C 1 0 kX7_10 fX7 rfl (by decide) rfl rfl dX7_begin_22 xs_0 xn_0 xr_0_0 ?_
    refine gw_getI (ci := 2) (Cn := RX2) (T0 := TX2) (N := 7) C 3 kX7_133 fX2 rfl (by decide) rfl rfl dX7_begin_25 (mq_s mineQ_live) (mq_n mineQ_live) (fun hI_25 => ?_)
    refine gw_iconst C dX7_begin_28 ?_
    refine gw_icmp_lt C (tgt := 42) dX7_begin_29 (by decide) hI_25 ⟨by decide, by decide⟩ (fun h_29 => ?_) (fun h_29 => ?_)
    · skip
      refine gw_aload_n C 0 dX7_begin_42 rfl rfl ?_
      refine gw_getRs (ci := 6) (Cn := RX7) (T0 := TX7) (N := 3) C 46 1 kX7_19 fX7 rfl (by decide) rfl rfl dX7_begin_43 xs_0 xn_0 xr_0_1 ?_
      refine gw_aload_n C 0 dX7_begin_46 rfl rfl ?_
      refine gw_getRs (ci := 6) (Cn := RX7) (T0 := TX7) (N := 3) C 1 0 kX7_10 fX7 rfl (by decide) rfl rfl dX7_begin_47 xs_0 xn_0 xr_0_0 ?_
      refine gw_callV C (as := [vR 1]) (st := []) (ci := 0) (T0 := TX0) (N := 3) (c_X0_keep hl0 G I J hCI.1.2.1.1 (by have := hCI.1.2.1.2; omega)) dX7_begin_50 kX7_41 qX0_keep hdX0_keep ⟨Nat.le_of_ble_eq_true rfl, Nat.le_of_ble_eq_true rfl⟩ ⟨Nat.le_of_ble_eq_true rfl, Nat.le_of_ble_eq_true rfl⟩ (Nat.le_of_ble_eq_true rfl) rfl xs_46 xn_46 rfl (fun _ _ _ _ h => h.elim) ?_
      intro v_50 z_50_2 Kk J_50 hv_50
      obtain ⟨ev_50, hkp_50, eJ_50⟩ := hv_50
      rw [ev_50, eJ_50]
      have hk9 := ck_keep hCI hkp_50
      have hR2 := hk9.1.1.1.1
      have hw2 := hk9.1.1.1.2.2
      have hj2 := hk9.1.2
      have hcn2 := hR2.2.1
      show GW G p l e ({ frames := 6, cells := 1, slots := 6, locals := 119 } : Room) s m args below meth c 3 z_50_2 N0 SH RR Kk J 0 0 (vx_MQ below (GQ G N0 SH RR (mtQ (kBegin S x1) (S 5) I J (oBegin S (S 5).toNat x1) (psh S D9) (cN c9))) (GX G N0 SH RR (xcQ (kBegin S x1) nIX nIS nIA I J)) args s 1 6 (ge G)) 53 [some (vR 0), some (vI x1), none] []
      refine gw_aload_n C 0 dX7_begin_53 rfl rfl ?_
      refine gw_getRs (ci := 6) (Cn := RX7) (T0 := TX7) (N := 3) C 1 0 kX7_10 fX7 rfl (by decide) rfl rfl dX7_begin_54 xs_0 xn_0 xr_0_0 ?_
      refine gw_iload_n C 1 dX7_begin_57 rfl rfl ?_
      refine gw_callVm C (as := [vI x1]) (st := []) (ci := 2) (T0 := TX2) (N := 7) (c_X2_addTraverse hl0 G Kk J mineQ_live (by omega) x1 hx1) dX7_begin_58 kX7_138 qX2_addTraverse hdX2_addTraverse ⟨Nat.le_of_ble_eq_true rfl, Nat.le_of_ble_eq_true rfl⟩ ⟨Nat.le_of_ble_eq_true rfl, Nat.le_of_ble_eq_true rfl⟩ (Nat.le_of_ble_eq_true rfl) rfl (mq_s mineQ_live) (mq_n mineQ_live) rfl (fun z_58 => ?_)
      rw [hR2.2.1.2.2]
      refine gw_istore_n C (lo1 := [some (vR 0), some (vI x1), some (vI (S 5))]) 2 dX7_begin_61 rfl (by decide) rfl ?_
      refine gw_aload_n C 0 dX7_begin_62 rfl rfl ?_
      refine gw_getRs (ci := 6) (Cn := RX7) (T0 := TX7) (N := 3) C 1 0 kX7_10 fX7 rfl (by decide) rfl rfl dX7_begin_63 xs_0 xn_0 xr_0_0 ?_
      have hop := ck_op (K := (up (up (up (up (up Kk (1 + 21 + 6 * (S 5).toNat) 0 x1) (1 + 21 + 6 * (S 5).toNat) 2 0) (1 + 21 + 6 * (S 5).toNat) 1 (-2000000000)) (1 + 21 + 6 * (S 5).toNat) 4 (-2000000000)) 1 3 (S 5 + 1))) (S' := oBegin S (S 5).toNat x1) hk9.1.1 (fun q f hq => by (repeat rw [up_nn (by omega)])) (rel_begin (n := (S 5).toNat) hR2 ho (by omega) (by omega) rfl) (oks_begin (n := (S 5).toNat) ho (by omega) (by omega) (by omega)) (raw_begin (n := (S 5).toNat) hw2 (by omega) (by omega))
      refine gw_callV C (as := []) (st := []) (ci := 2) (T0 := TX2) (N := 7) (c_X2_judge hl0 G (up (up (up (up (up Kk (1 + 21 + 6 * (S 5).toNat) 0 x1) (1 + 21 + 6 * (S 5).toNat) 2 0) (1 + 21 + 6 * (S 5).toNat) 1 (-2000000000)) (1 + 21 + 6 * (S 5).toNat) 4 (-2000000000)) 1 3 (S 5 + 1)) J mineQ_live hop.1.1.1 hop.1.1.2.1 hop.1.1.2.2) dX7_begin_66 kX7_49 qX2_judge hdX2_judge ⟨Nat.le_of_ble_eq_true rfl, Nat.le_of_ble_eq_true rfl⟩ ⟨Nat.le_of_ble_eq_true rfl, Nat.le_of_ble_eq_true rfl⟩ (Nat.le_of_ble_eq_true rfl) rfl (mq_s mineQ_live) (mq_n mineQ_live) rfl (fun _ _ _ _ h => h.elim) ?_
      intro v_66 z_66_2 Kj J_66 hv_66
      obtain ⟨ev_66, ⟨hf9, hj9⟩, eJ_66⟩ := hv_66
      rw [ev_66, eJ_66]
      have hjd := ck_judge hop.1 hf9 hj9
      show GW G p l e ({ frames := 6, cells := 1, slots := 6, locals := 119 } : Room) s m args below meth c 3 z_66_2 N0 SH RR Kj J 0 0 (vx_MQ below (GQ G N0 SH RR (mtQ (kBegin S x1) (S 5) I J (oBegin S (S 5).toNat x1) (psh S D9) (cN c9))) (GX G N0 SH RR (xcQ (kBegin S x1) nIX nIS nIA I J)) args s 1 6 (ge G)) 69 [some (vR 0), some (vI x1), some (vI (S 5))] []
      refine gw_iload_n C 2 dX7_begin_69 rfl rfl ?_
      exact gw_iret C (Nat.le_of_ble_eq_true rfl) (Nat.le_of_ble_eq_true rfl) dX7_begin_70 (⟨⟨(by unfold kBegin; (repeat (first | rw [if_pos (by omega)] | rw [if_neg (by omega)]))), congrArg (fun q => some (vI q)) (by rfl)⟩, ⟨hjd.1, frC_trans hk9.2 (frC_trans hop.2 hjd.2)⟩, rfl⟩)
    · skip
      exact gw_throw C (cls := "java/lang/IllegalStateException") (text := "there are 4 traverses") (ik := 70) (is := 136) (ic := 74) ht (by decide) (by decide) kX7_70 n_IllegalStateException (List.mem_of_getElem? (i := 11) rfl) gt_IS_74_1 gt_IS_74_2 (by decide) gt_IS_74_3 dX7_begin_32 dX7_begin_35 dX7_begin_36 dX7_begin_38 dX7_begin_41 (Nat.le_of_ble_eq_true rfl) (Nat.le_of_ble_eq_true rfl) (Nat.le_of_ble_eq_true rfl) (Nat.le_of_ble_eq_true rfl) (Nat.le_of_ble_eq_true rfl) (Nat.le_of_ble_eq_true rfl) (fun _ => ⟨Or.inr (Or.inl ⟨(by unfold kBegin; (repeat (first | rw [if_pos (by omega)] | rw [if_neg (by omega)]))), rfl⟩), rfl, rfl⟩)
  · skip
    show GW G p l e ({ frames := 6, cells := 1, slots := 6, locals := 119 } : Room) s m args below meth c 3 zq_5 N0 SH RR I J 0 0 (vx_MQ below (GQ G N0 SH RR (mtQ (kBegin S x1) (S 5) I J (oBegin S (S 5).toNat x1) (psh S D9) (cN c9))) (GX G N0 SH RR (xcQ (kBegin S x1) nIX nIS nIA I J)) args s 1 6 (ge G)) 8 [some (vR 0), some (vI x1), none] [vN]
    refine gw_ifnonnullN C dX7_begin_8 ?_
    exact gw_throw C (cls := "java/lang/IndexOutOfBoundsException") (text := "no such join") (ik := 86) (is := 123) (ic := 90) ht (by decide) (by decide) kX7_86 n_IndexOutOfBoundsException (List.mem_of_getElem? (i := 9) rfl) gt_IX_90_1 gt_IX_90_2 (by decide) gt_IX_90_3 dX7_begin_11 dX7_begin_14 dX7_begin_15 dX7_begin_17 dX7_begin_20 (Nat.le_of_ble_eq_true rfl) (Nat.le_of_ble_eq_true rfl) (Nat.le_of_ble_eq_true rfl) (Nat.le_of_ble_eq_true rfl) (Nat.le_of_ble_eq_true rfl) (Nat.le_of_ble_eq_true rfl) (fun _ => ⟨Or.inl ⟨(by unfold kBegin; (repeat (first | rw [if_pos (by omega)] | rw [if_neg (by omega)]))), rfl⟩, rfl, rfl⟩)
set_option maxHeartbeats 4000000 in
set_option maxRecDepth 100000 in
theorem c_X7_still {l : Launch} (hl0 : l.stackTraces = false) (G : GG) (I J : GI) {z : Nat} {S : Nat → Int} {D9 : Nat → Nat → Int} {c9 : Nat} (hCI : CI I S D9 c9) (x1 : Int) (hx1 : inI x1) : GM l yX7_still (.code yX7_still cX7_still 4 (some .int)) 6 119 1 6 G N0 SH RR [vR 0, vI x1] z I J (mtQ (kStill S x1) (S (8 + 12 * x1.toNat)) I J (oStill S x1.toNat) (psh S D9) (cN c9)) (xcQ (kStill S x1) nIX nIA nIA I J) := by
  refine gm_of (lo0 := [some (vR 0), some (vI x1), none, none]) hl0 (by decide) rfl (Nat.le_of_ble_eq_true rfl) ?_
  intro p e s m args below meth c C ht hgi
  have C : gC G p l s m args meth c cX7_still 4 RX7 (some .int) "still" := C
  have hR := hCI.1.1.1
  have ho := hCI.1.1.2.1
  have hw := hCI.1.1.2.2
  have hj := hCI.2
  have hcnt := hR.2.1
  have hobd := ho.2.1
  refine gw_aload_n C 0 dX7_still_0 rfl rfl ?_
  refine gw_getRs (ci := 6) (Cn := RX7) (T0 := TX7) (N := 3) C 1 0 kX7_10 fX7 rfl (by decide) rfl rfl dX7_still_1 xs_0 xn_0 xr_0_0 ?_
  refine gw_iload_n C 1 dX7_still_4 rfl rfl ?_
  refine gw_callV C (as := [vI x1]) (st := []) (ci := 2) (T0 := TX2) (N := 7) (c_X2_wireAt hl0 G I J mineQ_live (by omega) x1 hx1) dX7_still_5 kX7_82 qX2_wireAt hdX2_wireAt ⟨Nat.le_of_ble_eq_true rfl, Nat.le_of_ble_eq_true rfl⟩ ⟨Nat.le_of_ble_eq_true rfl, Nat.le_of_ble_eq_true rfl⟩ (Nat.le_of_ble_eq_true rfl) rfl (mq_s mineQ_live) (mq_n mineQ_live) rfl (fun _ _ _ _ h => h.elim) ?_
  intro v_5 zq_5 I_5 J_5 hq_5_2
  obtain ⟨⟨hq_5_2, rfl⟩ | ⟨hq_5_2, rfl⟩, eI_5, eJ_5⟩ := hq_5_2
  all_goals rw [eI_5, eJ_5]
  · skip
    show GW G p l e ({ frames := 6, cells := 1, slots := 6, locals := 119 } : Room) s m args below meth c 4 zq_5 N0 SH RR I J 0 0 (vx_MQ below (GQ G N0 SH RR (mtQ (kStill S x1) (S (8 + 12 * x1.toNat)) I J (oStill S x1.toNat) (psh S D9) (cN c9))) (GX G N0 SH RR (xcQ (kStill S x1) nIX nIA nIA I J)) args s 1 6 (ge G)) 8 [some (vR 0), some (vI x1), none, none] [vR (1 + 5 + 2 * (x1).toNat)]
    refine gw_astore_n C (lo1 := [some (vR 0), some (vI x1), some (vR (1 + 5 + 2 * (x1).toNat)), none]) 2 dX7_still_8 rfl (by decide) rfl ?_
    refine gw_aload_n C 2 dX7_still_9 rfl rfl ?_
    refine gw_ifnonnull C (tgt := 23) dX7_still_10 (by decide) ?_
    refine gw_aload_n C 0 dX7_still_23 rfl rfl ?_
    refine gw_getRs (ci := 6) (Cn := RX7) (T0 := TX7) (N := 3) C 46 1 kX7_19 fX7 rfl (by decide) rfl rfl dX7_still_24 xs_0 xn_0 xr_0_1 ?_
    refine gw_aload_n C 0 dX7_still_27 rfl rfl ?_
    refine gw_getRs (ci := 6) (Cn := RX7) (T0 := TX7) (N := 3) C 1 0 kX7_10 fX7 rfl (by decide) rfl rfl dX7_still_28 xs_0 xn_0 xr_0_0 ?_
    refine gw_callV C (as := [vR 1]) (st := []) (ci := 0) (T0 := TX0) (N := 3) (c_X0_keep hl0 G I J hCI.1.2.1.1 (by have := hCI.1.2.1.2; omega)) dX7_still_31 kX7_41 qX0_keep hdX0_keep ⟨Nat.le_of_ble_eq_true rfl, Nat.le_of_ble_eq_true rfl⟩ ⟨Nat.le_of_ble_eq_true rfl, Nat.le_of_ble_eq_true rfl⟩ (Nat.le_of_ble_eq_true rfl) rfl xs_46 xn_46 rfl (fun _ _ _ _ h => h.elim) ?_
    intro v_31 z_31_2 Kk J_31 hv_31
    obtain ⟨ev_31, hkp_31, eJ_31⟩ := hv_31
    rw [ev_31, eJ_31]
    have hk9 := ck_keep hCI hkp_31
    have hR2 := hk9.1.1.1.1
    have hw2 := hk9.1.1.1.2.2
    have hj2 := hk9.1.2
    have hcn2 := hR2.2.1
    show GW G p l e ({ frames := 6, cells := 1, slots := 6, locals := 119 } : Room) s m args below meth c 4 z_31_2 N0 SH RR Kk J 0 0 (vx_MQ below (GQ G N0 SH RR (mtQ (kStill S x1) (S (8 + 12 * x1.toNat)) I J (oStill S x1.toNat) (psh S D9) (cN c9))) (GX G N0 SH RR (xcQ (kStill S x1) nIX nIA nIA I J)) args s 1 6 (ge G)) 34 [some (vR 0), some (vI x1), some (vR (1 + 5 + 2 * (x1).toNat)), none] []
    refine gw_aload_n C 2 dX7_still_34 rfl rfl ?_
    refine gw_callVm C (as := []) (st := []) (ci := 5) (T0 := TX6) (N := 7) (c_X6_dropTurns hl0 G Kk J (mq_wq mineQ_live (x1).toNat (by omega))) dX7_still_35 kX7_91 qX6_dropTurns hdX6_dropTurns ⟨Nat.le_of_ble_eq_true rfl, Nat.le_of_ble_eq_true rfl⟩ ⟨Nat.le_of_ble_eq_true rfl, Nat.le_of_ble_eq_true rfl⟩ (Nat.le_of_ble_eq_true rfl) rfl (wq_s (mq_wq mineQ_live (x1).toNat (by omega))) (wq_n (mq_wq mineQ_live (x1).toNat (by omega))) rfl (fun z_35 => ?_)
    rw [show Kk (1 + 5 + 2 * (x1).toNat) 2 = S (8 + 12 * ((x1).toNat)) from (rel_w hR2 (i := ((x1).toNat)) (by omega)).1.2.2]
    refine gw_istore_n C (lo1 := [some (vR 0), some (vI x1), some (vR (1 + 5 + 2 * (x1).toNat)), some (vI (S (8 + 12 * ((x1).toNat))))]) 3 dX7_still_38 rfl (by decide) rfl ?_
    refine gw_aload_n C 0 dX7_still_39 rfl rfl ?_
    refine gw_getRs (ci := 6) (Cn := RX7) (T0 := TX7) (N := 3) C 1 0 kX7_10 fX7 rfl (by decide) rfl rfl dX7_still_40 xs_0 xn_0 xr_0_0 ?_
    have hop := ck_op (K := (up Kk (1 + 5 + 2 * (x1).toNat) 2 0)) (S' := oStill S x1.toNat) hk9.1.1 (fun q f hq => by (repeat rw [up_nn (by omega)])) (rel_still hR2 ho (by omega)) (oks_still ho (by omega)) (raw_still hw2 (by omega))
    refine gw_callV C (as := []) (st := []) (ci := 2) (T0 := TX2) (N := 7) (c_X2_judge hl0 G (up Kk (1 + 5 + 2 * (x1).toNat) 2 0) J mineQ_live hop.1.1.1 hop.1.1.2.1 hop.1.1.2.2) dX7_still_43 kX7_49 qX2_judge hdX2_judge ⟨Nat.le_of_ble_eq_true rfl, Nat.le_of_ble_eq_true rfl⟩ ⟨Nat.le_of_ble_eq_true rfl, Nat.le_of_ble_eq_true rfl⟩ (Nat.le_of_ble_eq_true rfl) rfl (mq_s mineQ_live) (mq_n mineQ_live) rfl (fun _ _ _ _ h => h.elim) ?_
    intro v_43 z_43_2 Kj J_43 hv_43
    obtain ⟨ev_43, ⟨hf9, hj9⟩, eJ_43⟩ := hv_43
    rw [ev_43, eJ_43]
    have hjd := ck_judge hop.1 hf9 hj9
    show GW G p l e ({ frames := 6, cells := 1, slots := 6, locals := 119 } : Room) s m args below meth c 4 z_43_2 N0 SH RR Kj J 0 0 (vx_MQ below (GQ G N0 SH RR (mtQ (kStill S x1) (S (8 + 12 * x1.toNat)) I J (oStill S x1.toNat) (psh S D9) (cN c9))) (GX G N0 SH RR (xcQ (kStill S x1) nIX nIA nIA I J)) args s 1 6 (ge G)) 46 [some (vR 0), some (vI x1), some (vR (1 + 5 + 2 * (x1).toNat)), some (vI (S (8 + 12 * ((x1).toNat))))] []
    refine gw_iload_n C 3 dX7_still_46 rfl rfl ?_
    exact gw_iret C (Nat.le_of_ble_eq_true rfl) (Nat.le_of_ble_eq_true rfl) dX7_still_47 (⟨⟨(by unfold kStill; (repeat (first | rw [if_pos (by omega)] | rw [if_neg (by omega)]))), congrArg (fun q => some (vI q)) (by rfl)⟩, ⟨hjd.1, frC_trans hk9.2 (frC_trans hop.2 hjd.2)⟩, rfl⟩)
  · skip
    show GW G p l e ({ frames := 6, cells := 1, slots := 6, locals := 119 } : Room) s m args below meth c 4 zq_5 N0 SH RR I J 0 0 (vx_MQ below (GQ G N0 SH RR (mtQ (kStill S x1) (S (8 + 12 * x1.toNat)) I J (oStill S x1.toNat) (psh S D9) (cN c9))) (GX G N0 SH RR (xcQ (kStill S x1) nIX nIA nIA I J)) args s 1 6 (ge G)) 8 [some (vR 0), some (vI x1), none, none] [vN]
    refine gw_astoreN_n C (lo1 := [some (vR 0), some (vI x1), some (vN), none]) 2 dX7_still_8 rfl (by decide) rfl ?_
    refine gw_aloadN_n C 2 dX7_still_9 rfl rfl ?_
    refine gw_ifnonnullN C dX7_still_10 ?_
    exact gw_throw C (cls := "java/lang/IndexOutOfBoundsException") (text := "no such wire") (ik := 86) (is := 88) (ic := 90) ht (by decide) (by decide) kX7_86 n_IndexOutOfBoundsException (List.mem_of_getElem? (i := 5) rfl) gt_IX_90_1 gt_IX_90_2 (by decide) gt_IX_90_3 dX7_still_13 dX7_still_16 dX7_still_17 dX7_still_19 dX7_still_22 (Nat.le_of_ble_eq_true rfl) (Nat.le_of_ble_eq_true rfl) (Nat.le_of_ble_eq_true rfl) (Nat.le_of_ble_eq_true rfl) (Nat.le_of_ble_eq_true rfl) (Nat.le_of_ble_eq_true rfl) (fun _ => ⟨Or.inl ⟨(by unfold kStill; (repeat (first | rw [if_pos (by omega)] | rw [if_neg (by omega)]))), rfl⟩, rfl, rfl⟩)
set_option maxHeartbeats 4000000 in
set_option maxRecDepth 100000 in
theorem c_X7_measure {l : Launch} (hl0 : l.stackTraces = false) (G : GG) (I J : GI) {z : Nat} {S : Nat → Int} {D9 : Nat → Nat → Int} {c9 : Nat} (hCI : CI I S D9 c9) (x1 x2 : Int) (hx1 : inI x1) (hx2 : inI x2) : GM l yX7_measure (.code yX7_measure cX7_measure 5 (some .int)) 6 119 1 6 G N0 SH RR [vR 0, vI x1, vI x2] z I J (mtQ (kMeas S x1 x2) (S (83 + 6 * x1.toNat)) I J (oMeas S x1.toNat x2) (psh S D9) (cN c9)) (xcQ (kMeas S x1 x2) nIX nIA nIA I J) := by
  refine gm_of (lo0 := [some (vR 0), some (vI x1), some (vI x2), none, none]) hl0 (by decide) rfl (Nat.le_of_ble_eq_true rfl) ?_
  intro p e s m args below meth c C ht hgi
  have C : gC G p l s m args meth c cX7_measure 5 RX7 (some .int) "measure" := C
  have hR := hCI.1.1.1
  have ho := hCI.1.1.2.1
  have hw := hCI.1.1.2.2
  have hj := hCI.2
  have hcnt := hR.2.1
  have hobd := ho.2.1
  refine gw_aload_n C 0 dX7_measure_0 rfl rfl ?_
  refine gw_getRs (ci := 6) (Cn := RX7) (T0 := TX7) (N := 3) C 1 0 kX7_10 fX7 rfl (by decide) rfl rfl dX7_measure_1 xs_0 xn_0 xr_0_0 ?_
  refine gw_iload_n C 1 dX7_measure_4 rfl rfl ?_
  refine gw_callV C (as := [vI x1]) (st := []) (ci := 2) (T0 := TX2) (N := 7) (c_X2_joinAt hl0 G I J mineQ_live (by omega) x1 hx1) dX7_measure_5 kX7_119 qX2_joinAt hdX2_joinAt ⟨Nat.le_of_ble_eq_true rfl, Nat.le_of_ble_eq_true rfl⟩ ⟨Nat.le_of_ble_eq_true rfl, Nat.le_of_ble_eq_true rfl⟩ (Nat.le_of_ble_eq_true rfl) rfl (mq_s mineQ_live) (mq_n mineQ_live) rfl (fun _ _ _ _ h => h.elim) ?_
  intro v_5 zq_5 I_5 J_5 hq_5_2
  obtain ⟨⟨hq_5_2, rfl⟩ | ⟨hq_5_2, rfl⟩, eI_5, eJ_5⟩ := hq_5_2
  all_goals rw [eI_5, eJ_5]
  · skip
    show GW G p l e ({ frames := 6, cells := 1, slots := 6, locals := 119 } : Room) s m args below meth c 5 zq_5 N0 SH RR I J 0 0 (vx_MQ below (GQ G N0 SH RR (mtQ (kMeas S x1 x2) (S (83 + 6 * x1.toNat)) I J (oMeas S x1.toNat x2) (psh S D9) (cN c9))) (GX G N0 SH RR (xcQ (kMeas S x1 x2) nIX nIA nIA I J)) args s 1 6 (ge G)) 8 [some (vR 0), some (vI x1), some (vI x2), none, none] [vR (1 + 17 + (x1).toNat)]
    refine gw_astore_n C (lo1 := [some (vR 0), some (vI x1), some (vI x2), some (vR (1 + 17 + (x1).toNat)), none]) 3 dX7_measure_8 rfl (by decide) rfl ?_
    refine gw_aload_n C 3 dX7_measure_9 rfl rfl ?_
    refine gw_ifnonnull C (tgt := 23) dX7_measure_10 (by decide) ?_
    refine gw_iload_n C 2 dX7_measure_23 rfl rfl ?_
    refine gw_callSb C (as := [vI x2]) (st := []) (c_X7_isSmall hl0 G x2 hx2) dX7_measure_24 kX7_105 qX7_isSmall hdX7_isSmall ⟨Nat.le_of_ble_eq_true rfl, Nat.le_of_ble_eq_true rfl⟩ ⟨Nat.le_of_ble_eq_true rfl, Nat.le_of_ble_eq_true rfl⟩ (Nat.le_of_ble_eq_true rfl) rfl (fun h_24 z_24 => ?_) (fun h_24 z_24 => ?_)
    · skip
      refine gw_if_ne C (tgt := 40) dX7_measure_27 (by decide) ⟨by decide, by decide⟩ (fun _ => ?_) (fun h => absurd h (by decide))
      refine gw_aload_n C 0 dX7_measure_40 rfl rfl ?_
      refine gw_getRs (ci := 6) (Cn := RX7) (T0 := TX7) (N := 3) C 46 1 kX7_19 fX7 rfl (by decide) rfl rfl dX7_measure_41 xs_0 xn_0 xr_0_1 ?_
      refine gw_aload_n C 0 dX7_measure_44 rfl rfl ?_
      refine gw_getRs (ci := 6) (Cn := RX7) (T0 := TX7) (N := 3) C 1 0 kX7_10 fX7 rfl (by decide) rfl rfl dX7_measure_45 xs_0 xn_0 xr_0_0 ?_
      refine gw_callV C (as := [vR 1]) (st := []) (ci := 0) (T0 := TX0) (N := 3) (c_X0_keep hl0 G I J hCI.1.2.1.1 (by have := hCI.1.2.1.2; omega)) dX7_measure_48 kX7_41 qX0_keep hdX0_keep ⟨Nat.le_of_ble_eq_true rfl, Nat.le_of_ble_eq_true rfl⟩ ⟨Nat.le_of_ble_eq_true rfl, Nat.le_of_ble_eq_true rfl⟩ (Nat.le_of_ble_eq_true rfl) rfl xs_46 xn_46 rfl (fun _ _ _ _ h => h.elim) ?_
      intro v_48 z_48_2 Kk J_48 hv_48
      obtain ⟨ev_48, hkp_48, eJ_48⟩ := hv_48
      rw [ev_48, eJ_48]
      have hk9 := ck_keep hCI hkp_48
      have hR2 := hk9.1.1.1.1
      have hw2 := hk9.1.1.1.2.2
      have hj2 := hk9.1.2
      have hcn2 := hR2.2.1
      show GW G p l e ({ frames := 6, cells := 1, slots := 6, locals := 119 } : Room) s m args below meth c 5 z_48_2 N0 SH RR Kk J 0 0 (vx_MQ below (GQ G N0 SH RR (mtQ (kMeas S x1 x2) (S (83 + 6 * x1.toNat)) I J (oMeas S x1.toNat x2) (psh S D9) (cN c9))) (GX G N0 SH RR (xcQ (kMeas S x1 x2) nIX nIA nIA I J)) args s 1 6 (ge G)) 51 [some (vR 0), some (vI x1), some (vI x2), some (vR (1 + 17 + (x1).toNat)), none] []
      refine gw_aload_n C 3 dX7_measure_51 rfl rfl ?_
      refine gw_getI (ci := 1) (Cn := RX1) (T0 := TX1) (N := 12) C 2 kX7_127 fX1 rfl (by decide) rfl rfl dX7_measure_52 (jq_s (mq_jq mineQ_live (x1).toNat (by omega))) (jq_n (mq_jq mineQ_live (x1).toNat (by omega))) (fun hI_52 => ?_)
      rw [show (Kk (1 + 17 + (x1).toNat) 2) = (S (83 + 6 * ((x1).toNat))) from (hR2.2.2.2.1 ((x1).toNat) (by omega)).2.2.2] at hI_52 ⊢
      refine gw_istore C (lo1 := [some (vR 0), some (vI x1), some (vI x2), some (vR (1 + 17 + (x1).toNat)), some (vI (S (83 + 6 * ((x1).toNat))))]) dX7_measure_55 (by decide) rfl ?_
      refine gw_aload_n C 3 dX7_measure_57 rfl rfl ?_
      refine gw_iload_n C 2 dX7_measure_58 rfl rfl ?_
      refine gw_putI (ci := 1) (Cn := RX1) (T0 := TX1) (N := 12) C (ty := .int) 2 kX7_127 fX1 rfl (by decide) rfl rfl tyX1 tyX1_ok nmX1 rfl (by decide) rfl rfl hx2 dX7_measure_59 (jq_s (mq_jq mineQ_live (x1).toNat (by omega))) (jq_n (mq_jq mineQ_live (x1).toNat (by omega))) ?_
      refine gw_aload_n C 0 dX7_measure_62 rfl rfl ?_
      refine gw_getRs (ci := 6) (Cn := RX7) (T0 := TX7) (N := 3) C 1 0 kX7_10 fX7 rfl (by decide) rfl rfl dX7_measure_63 xs_0 xn_0 xr_0_0 ?_
      have hop := ck_op (K := (up Kk (1 + 17 + (x1).toNat) 2 x2)) (S' := oMeas S x1.toNat x2) hk9.1.1 (fun q f hq => by (repeat rw [up_nn (by omega)])) (rel_meas hR2 ho (by omega)) (oks_meas ho (by omega) (by omega)) (raw_meas hw2 (by omega))
      refine gw_callV C (as := []) (st := []) (ci := 2) (T0 := TX2) (N := 7) (c_X2_judge hl0 G (up Kk (1 + 17 + (x1).toNat) 2 x2) J mineQ_live hop.1.1.1 hop.1.1.2.1 hop.1.1.2.2) dX7_measure_66 kX7_49 qX2_judge hdX2_judge ⟨Nat.le_of_ble_eq_true rfl, Nat.le_of_ble_eq_true rfl⟩ ⟨Nat.le_of_ble_eq_true rfl, Nat.le_of_ble_eq_true rfl⟩ (Nat.le_of_ble_eq_true rfl) rfl (mq_s mineQ_live) (mq_n mineQ_live) rfl (fun _ _ _ _ h => h.elim) ?_
      intro v_66 z_66_2 Kj J_66 hv_66
      obtain ⟨ev_66, ⟨hf9, hj9⟩, eJ_66⟩ := hv_66
      rw [ev_66, eJ_66]
      have hjd := ck_judge hop.1 hf9 hj9
      show GW G p l e ({ frames := 6, cells := 1, slots := 6, locals := 119 } : Room) s m args below meth c 5 z_66_2 N0 SH RR Kj J 0 0 (vx_MQ below (GQ G N0 SH RR (mtQ (kMeas S x1 x2) (S (83 + 6 * x1.toNat)) I J (oMeas S x1.toNat x2) (psh S D9) (cN c9))) (GX G N0 SH RR (xcQ (kMeas S x1 x2) nIX nIA nIA I J)) args s 1 6 (ge G)) 69 [some (vR 0), some (vI x1), some (vI x2), some (vR (1 + 17 + (x1).toNat)), some (vI (S (83 + 6 * ((x1).toNat))))] []
      refine gw_iload C dX7_measure_69 rfl ?_
      exact gw_iret C (Nat.le_of_ble_eq_true rfl) (Nat.le_of_ble_eq_true rfl) dX7_measure_71 (⟨⟨(by unfold kMeas; (repeat (first | rw [if_pos (by omega)] | rw [if_neg (by omega)]))), congrArg (fun q => some (vI q)) (by rfl)⟩, ⟨hjd.1, frC_trans hk9.2 (frC_trans hop.2 hjd.2)⟩, rfl⟩)
    · skip
      refine gw_if_ne C (tgt := 40) dX7_measure_27 (by decide) ⟨by decide, by decide⟩ (fun h => absurd h (by decide)) (fun _ => ?_)
      exact gw_throw C (cls := "java/lang/IllegalArgumentException") (text := "the small angle is out of range") (ik := 34) (is := 125) (ic := 38) ht (by decide) (by decide) kX7_34 n_IllegalArgumentException (List.mem_of_getElem? (i := 10) rfl) gt_IA_38_1 gt_IA_38_2 (by decide) gt_IA_38_3 dX7_measure_30 dX7_measure_33 dX7_measure_34 dX7_measure_36 dX7_measure_39 (Nat.le_of_ble_eq_true rfl) (Nat.le_of_ble_eq_true rfl) (Nat.le_of_ble_eq_true rfl) (Nat.le_of_ble_eq_true rfl) (Nat.le_of_ble_eq_true rfl) (Nat.le_of_ble_eq_true rfl) (fun _ => ⟨Or.inr (Or.inl ⟨(by unfold kMeas; (repeat (first | rw [if_pos (by omega)] | rw [if_neg (by omega)]))), rfl⟩), rfl, rfl⟩)
  · skip
    show GW G p l e ({ frames := 6, cells := 1, slots := 6, locals := 119 } : Room) s m args below meth c 5 zq_5 N0 SH RR I J 0 0 (vx_MQ below (GQ G N0 SH RR (mtQ (kMeas S x1 x2) (S (83 + 6 * x1.toNat)) I J (oMeas S x1.toNat x2) (psh S D9) (cN c9))) (GX G N0 SH RR (xcQ (kMeas S x1 x2) nIX nIA nIA I J)) args s 1 6 (ge G)) 8 [some (vR 0), some (vI x1), some (vI x2), none, none] [vN]
    refine gw_astoreN_n C (lo1 := [some (vR 0), some (vI x1), some (vI x2), some (vN), none]) 3 dX7_measure_8 rfl (by decide) rfl ?_
    refine gw_aloadN_n C 3 dX7_measure_9 rfl rfl ?_
    refine gw_ifnonnullN C dX7_measure_10 ?_
    exact gw_throw C (cls := "java/lang/IndexOutOfBoundsException") (text := "no such join") (ik := 86) (is := 123) (ic := 90) ht (by decide) (by decide) kX7_86 n_IndexOutOfBoundsException (List.mem_of_getElem? (i := 9) rfl) gt_IX_90_1 gt_IX_90_2 (by decide) gt_IX_90_3 dX7_measure_13 dX7_measure_16 dX7_measure_17 dX7_measure_19 dX7_measure_22 (Nat.le_of_ble_eq_true rfl) (Nat.le_of_ble_eq_true rfl) (Nat.le_of_ble_eq_true rfl) (Nat.le_of_ble_eq_true rfl) (Nat.le_of_ble_eq_true rfl) (Nat.le_of_ble_eq_true rfl) (fun _ => ⟨Or.inl ⟨(by unfold kMeas; (repeat (first | rw [if_pos (by omega)] | rw [if_neg (by omega)]))), rfl⟩, rfl, rfl⟩)
set_option maxHeartbeats 4000000 in
set_option maxRecDepth 100000 in
theorem c_X7_close {l : Launch} (hl0 : l.stackTraces = false) (G : GG) (I J : GI) {z : Nat} {S : Nat → Int} {D9 : Nat → Nat → Int} {c9 : Nat} (hCI : CI I S D9 c9) (x1 x2 x3 : Int) (hx1 : inI x1) (hx2 : inI x2) (hx3 : inI x3) : GM l yX7_close (.code yX7_close cX7_close 5 (some .int)) 6 119 1 6 G N0 SH RR [vR 0, vI x1, vI x2, vI x3] z I J (mtQ (kClose S x1 x2 x3) (sTT (oClose S x1.toNat x2 x3) x1.toNat) I J (oClose S x1.toNat x2 x3) (psh S D9) (cN c9)) (xcQ (kClose S x1 x2 x3) nIX nIA nIS I J) := by
  refine gm_of (lo0 := [some (vR 0), some (vI x1), some (vI x2), some (vI x3), none]) hl0 (by decide) rfl (Nat.le_of_ble_eq_true rfl) ?_
  intro p e s m args below meth c C ht hgi
  have C : gC G p l s m args meth c cX7_close 5 RX7 (some .int) "close" := C
  have hR := hCI.1.1.1
  have ho := hCI.1.1.2.1
  have hw := hCI.1.1.2.2
  have hj := hCI.2
  have hcnt := hR.2.1
  have hobd := ho.2.1
  refine gw_aload_n C 0 dX7_close_0 rfl rfl ?_
  refine gw_getRs (ci := 6) (Cn := RX7) (T0 := TX7) (N := 3) C 1 0 kX7_10 fX7 rfl (by decide) rfl rfl dX7_close_1 xs_0 xn_0 xr_0_0 ?_
  refine gw_iload_n C 1 dX7_close_4 rfl rfl ?_
  refine gw_callV C (as := [vI x1]) (st := []) (ci := 2) (T0 := TX2) (N := 7) (c_X2_traverseAt hl0 G I J mineQ_live (by omega) x1 hx1) dX7_close_5 kX7_141 qX2_traverseAt hdX2_traverseAt ⟨Nat.le_of_ble_eq_true rfl, Nat.le_of_ble_eq_true rfl⟩ ⟨Nat.le_of_ble_eq_true rfl, Nat.le_of_ble_eq_true rfl⟩ (Nat.le_of_ble_eq_true rfl) rfl (mq_s mineQ_live) (mq_n mineQ_live) rfl (fun _ _ _ _ h => h.elim) ?_
  intro v_5 zq_5 I_5 J_5 hq_5_2
  obtain ⟨⟨hq_5_2, rfl⟩ | ⟨hq_5_2, rfl⟩, eI_5, eJ_5⟩ := hq_5_2
  all_goals rw [eI_5, eJ_5]
  · skip
    show GW G p l e ({ frames := 6, cells := 1, slots := 6, locals := 119 } : Room) s m args below meth c 5 zq_5 N0 SH RR I J 0 0 (vx_MQ below (GQ G N0 SH RR (mtQ (kClose S x1 x2 x3) (sTT (oClose S x1.toNat x2 x3) x1.toNat) I J (oClose S x1.toNat x2 x3) (psh S D9) (cN c9))) (GX G N0 SH RR (xcQ (kClose S x1 x2 x3) nIX nIA nIS I J)) args s 1 6 (ge G)) 8 [some (vR 0), some (vI x1), some (vI x2), some (vI x3), none] [vR (1 + 21 + 6 * (x1).toNat)]
    refine gw_astore C (lo1 := [some (vR 0), some (vI x1), some (vI x2), some (vI x3), some (vR (1 + 21 + 6 * (x1).toNat))]) dX7_close_8 (by decide) rfl ?_
    refine gw_aload C dX7_close_10 rfl ?_
    refine gw_ifnull C dX7_close_12 ?_
    refine gw_aload_n C 0 dX7_close_15 rfl rfl ?_
    refine gw_getRs (ci := 6) (Cn := RX7) (T0 := TX7) (N := 3) C 1 0 kX7_10 fX7 rfl (by decide) rfl rfl dX7_close_16 xs_0 xn_0 xr_0_0 ?_
    refine gw_iload_n C 2 dX7_close_19 rfl rfl ?_
    refine gw_callV C (as := [vI x2]) (st := []) (ci := 2) (T0 := TX2) (N := 7) (c_X2_joinAt hl0 G I J mineQ_live (by omega) x2 hx2) dX7_close_20 kX7_119 qX2_joinAt hdX2_joinAt ⟨Nat.le_of_ble_eq_true rfl, Nat.le_of_ble_eq_true rfl⟩ ⟨Nat.le_of_ble_eq_true rfl, Nat.le_of_ble_eq_true rfl⟩ (Nat.le_of_ble_eq_true rfl) rfl (mq_s mineQ_live) (mq_n mineQ_live) rfl (fun _ _ _ _ h => h.elim) ?_
    intro v_20 zq_20 I_20 J_20 hq_20_2
    obtain ⟨⟨hq_20_2, rfl⟩ | ⟨hq_20_2, rfl⟩, eI_20, eJ_20⟩ := hq_20_2
    all_goals rw [eI_20, eJ_20]
    · skip
      show GW G p l e ({ frames := 6, cells := 1, slots := 6, locals := 119 } : Room) s m args below meth c 5 zq_20 N0 SH RR I J 0 0 (vx_MQ below (GQ G N0 SH RR (mtQ (kClose S x1 x2 x3) (sTT (oClose S x1.toNat x2 x3) x1.toNat) I J (oClose S x1.toNat x2 x3) (psh S D9) (cN c9))) (GX G N0 SH RR (xcQ (kClose S x1 x2 x3) nIX nIA nIS I J)) args s 1 6 (ge G)) 23 [some (vR 0), some (vI x1), some (vI x2), some (vI x3), some (vR (1 + 21 + 6 * (x1).toNat))] [vR (1 + 17 + (x2).toNat)]
      refine gw_ifnonnull C (tgt := 36) dX7_close_23 (by decide) ?_
      refine gw_iload_n C 2 dX7_close_36 rfl rfl ?_
      refine gw_aload C dX7_close_37 rfl ?_
      refine gw_getI (ci := 4) (Cn := RX5) (T0 := TX5) (N := 15) C 0 kX7_147 fX5 rfl (by decide) rfl rfl dX7_close_39 (tq_s (mq_tq mineQ_live (x1).toNat (by omega))) (tq_n (mq_tq mineQ_live (x1).toNat (by omega))) (fun hI_39 => ?_)
      rw [show (I (1 + 21 + 6 * (x1).toNat) 0) = (S (102 + 28 * ((x1).toNat))) from (rel_tr hR (t := ((x1).toNat)) (by have := hR.2.1; omega)).1.1] at hI_39 ⊢
      refine gw_icmp_eq C (tgt := 52) dX7_close_42 (by decide) hx2 hI_39 (fun h_42 => ?_) (fun h_42 => ?_)
      · skip
        exact gw_throw C (cls := "java/lang/IllegalArgumentException") (text := "the first join, or an angle out of range") (ik := 34) (is := 152) (ic := 38) ht (by decide) (by decide) kX7_34 n_IllegalArgumentException (List.mem_of_getElem? (i := 13) rfl) gt_IA_38_1 gt_IA_38_2 (by decide) gt_IA_38_3 dX7_close_52 dX7_close_55 dX7_close_56 dX7_close_58 dX7_close_61 (Nat.le_of_ble_eq_true rfl) (Nat.le_of_ble_eq_true rfl) (Nat.le_of_ble_eq_true rfl) (Nat.le_of_ble_eq_true rfl) (Nat.le_of_ble_eq_true rfl) (Nat.le_of_ble_eq_true rfl) (fun _ => ⟨Or.inr (Or.inl ⟨(by unfold kClose; (repeat (first | rw [if_pos (by omega)] | rw [if_neg (by omega)]))), rfl⟩), rfl, rfl⟩)
      · skip
        refine gw_iload_n C 3 dX7_close_45 rfl rfl ?_
        refine gw_callSb C (as := [vI x3]) (st := []) (c_X7_isBearing hl0 G x3 hx3) dX7_close_46 kX7_100 qX7_isBearing hdX7_isBearing ⟨Nat.le_of_ble_eq_true rfl, Nat.le_of_ble_eq_true rfl⟩ ⟨Nat.le_of_ble_eq_true rfl, Nat.le_of_ble_eq_true rfl⟩ (Nat.le_of_ble_eq_true rfl) rfl (fun h_46 z_46 => ?_) (fun h_46 z_46 => ?_)
        · skip
          refine gw_if_ne C (tgt := 62) dX7_close_49 (by decide) ⟨by decide, by decide⟩ (fun _ => ?_) (fun h => absurd h (by decide))
          refine gw_aload C dX7_close_62 rfl ?_
          refine gw_getI (ci := 4) (Cn := RX5) (T0 := TX5) (N := 15) C 2 kX7_154 fX5 rfl (by decide) rfl rfl dX7_close_64 (tq_s (mq_tq mineQ_live (x1).toNat (by omega))) (tq_n (mq_tq mineQ_live (x1).toNat (by omega))) (fun hI_64 => ?_)
          rw [show (I (1 + 21 + 6 * (x1).toNat) 2) = (S (103 + 28 * ((x1).toNat))) from (rel_tr hR (t := ((x1).toNat)) (by have := hR.2.1; omega)).1.2] at hI_64 ⊢
          refine gw_if_ne C (tgt := 80) dX7_close_67 (by decide) hI_64 (fun h_67 => ?_) (fun h_67 => ?_)
          · skip
            refine gw_aload_n C 0 dX7_close_80 rfl rfl ?_
            refine gw_getRs (ci := 6) (Cn := RX7) (T0 := TX7) (N := 3) C 46 1 kX7_19 fX7 rfl (by decide) rfl rfl dX7_close_81 xs_0 xn_0 xr_0_1 ?_
            refine gw_aload_n C 0 dX7_close_84 rfl rfl ?_
            refine gw_getRs (ci := 6) (Cn := RX7) (T0 := TX7) (N := 3) C 1 0 kX7_10 fX7 rfl (by decide) rfl rfl dX7_close_85 xs_0 xn_0 xr_0_0 ?_
            refine gw_callV C (as := [vR 1]) (st := []) (ci := 0) (T0 := TX0) (N := 3) (c_X0_keep hl0 G I J hCI.1.2.1.1 (by have := hCI.1.2.1.2; omega)) dX7_close_88 kX7_41 qX0_keep hdX0_keep ⟨Nat.le_of_ble_eq_true rfl, Nat.le_of_ble_eq_true rfl⟩ ⟨Nat.le_of_ble_eq_true rfl, Nat.le_of_ble_eq_true rfl⟩ (Nat.le_of_ble_eq_true rfl) rfl xs_46 xn_46 rfl (fun _ _ _ _ h => h.elim) ?_
            intro v_88 z_88_2 Kk J_88 hv_88
            obtain ⟨ev_88, hkp_88, eJ_88⟩ := hv_88
            rw [ev_88, eJ_88]
            have hk9 := ck_keep hCI hkp_88
            have hR2 := hk9.1.1.1.1
            have hw2 := hk9.1.1.1.2.2
            have hj2 := hk9.1.2
            have hcn2 := hR2.2.1
            show GW G p l e ({ frames := 6, cells := 1, slots := 6, locals := 119 } : Room) s m args below meth c 5 z_88_2 N0 SH RR Kk J 0 0 (vx_MQ below (GQ G N0 SH RR (mtQ (kClose S x1 x2 x3) (sTT (oClose S x1.toNat x2 x3) x1.toNat) I J (oClose S x1.toNat x2 x3) (psh S D9) (cN c9))) (GX G N0 SH RR (xcQ (kClose S x1 x2 x3) nIX nIA nIS I J)) args s 1 6 (ge G)) 91 [some (vR 0), some (vI x1), some (vI x2), some (vI x3), some (vR (1 + 21 + 6 * (x1).toNat))] []
            refine gw_aload C dX7_close_91 rfl ?_
            refine gw_iload_n C 2 dX7_close_93 rfl rfl ?_
            refine gw_iload_n C 3 dX7_close_94 rfl rfl ?_
            refine gw_callVm C (as := [vI x2, vI x3]) (st := []) (ci := 4) (T0 := TX5) (N := 15) (c_X5_closeOn hl0 G Kk J (mq_tq mineQ_live (x1).toNat (by omega)) x2 x3 hx2 hx3) dX7_close_95 kX7_159 qX5_closeOn hdX5_closeOn ⟨Nat.le_of_ble_eq_true rfl, Nat.le_of_ble_eq_true rfl⟩ ⟨Nat.le_of_ble_eq_true rfl, Nat.le_of_ble_eq_true rfl⟩ (Nat.le_of_ble_eq_true rfl) rfl (tq_s (mq_tq mineQ_live (x1).toNat (by omega))) (tq_n (mq_tq mineQ_live (x1).toNat (by omega))) rfl (fun z_95 => ?_)
            refine gw_aload_n C 0 dX7_close_98 rfl rfl ?_
            refine gw_getRs (ci := 6) (Cn := RX7) (T0 := TX7) (N := 3) C 1 0 kX7_10 fX7 rfl (by decide) rfl rfl dX7_close_99 xs_0 xn_0 xr_0_0 ?_
            have hop := ck_op (K := (up (up Kk (1 + 21 + 6 * (x1).toNat) 1 x2) (1 + 21 + 6 * (x1).toNat) 4 x3)) (S' := oClose S x1.toNat x2 x3) hk9.1.1 (fun q f hq => by (repeat rw [up_nn (by omega)])) (rel_close hR2 ho (by omega) (by omega)) (oks_close ho (by omega) (by have hT9 := (ho.2.2.2.2 x1.toNat (by omega)).1; omega) (by omega) (by omega)) (raw_close hw2 (by omega) (by omega) (by omega))
            refine gw_callV C (as := []) (st := []) (ci := 2) (T0 := TX2) (N := 7) (c_X2_judge hl0 G (up (up Kk (1 + 21 + 6 * (x1).toNat) 1 x2) (1 + 21 + 6 * (x1).toNat) 4 x3) J mineQ_live hop.1.1.1 hop.1.1.2.1 hop.1.1.2.2) dX7_close_102 kX7_49 qX2_judge hdX2_judge ⟨Nat.le_of_ble_eq_true rfl, Nat.le_of_ble_eq_true rfl⟩ ⟨Nat.le_of_ble_eq_true rfl, Nat.le_of_ble_eq_true rfl⟩ (Nat.le_of_ble_eq_true rfl) rfl (mq_s mineQ_live) (mq_n mineQ_live) rfl (fun _ _ _ _ h => h.elim) ?_
            intro v_102 z_102_2 Kj J_102 hv_102
            obtain ⟨ev_102, ⟨hf9, hj9⟩, eJ_102⟩ := hv_102
            rw [ev_102, eJ_102]
            have hjd := ck_judge hop.1 hf9 hj9
            show GW G p l e ({ frames := 6, cells := 1, slots := 6, locals := 119 } : Room) s m args below meth c 5 z_102_2 N0 SH RR Kj J 0 0 (vx_MQ below (GQ G N0 SH RR (mtQ (kClose S x1 x2 x3) (sTT (oClose S x1.toNat x2 x3) x1.toNat) I J (oClose S x1.toNat x2 x3) (psh S D9) (cN c9))) (GX G N0 SH RR (xcQ (kClose S x1 x2 x3) nIX nIA nIS I J)) args s 1 6 (ge G)) 105 [some (vR 0), some (vI x1), some (vI x2), some (vI x3), some (vR (1 + 21 + 6 * (x1).toNat))] []
            refine gw_aload C dX7_close_105 rfl ?_
            refine gw_getI (ci := 4) (Cn := RX5) (T0 := TX5) (N := 15) C 3 kX7_163 fX5 rfl (by decide) rfl rfl dX7_close_107 (tq_s (mq_tq mineQ_live (x1).toNat (by omega))) (tq_n (mq_tq mineQ_live (x1).toNat (by omega))) (fun hI_107 => ?_)
            rw [show (Kj (1 + 21 + 6 * (x1).toNat) 3) = (sTT (oClose S x1.toNat x2 x3) ((x1).toNat)) from (hjd.1.2.2.2 ((x1).toNat) (by rw [cls_5]; omega)).1] at hI_107 ⊢
            exact gw_iret C (Nat.le_of_ble_eq_true rfl) (Nat.le_of_ble_eq_true rfl) dX7_close_110 (⟨⟨(by unfold kClose; (repeat (first | rw [if_pos (by omega)] | rw [if_neg (by omega)]))), congrArg (fun q => some (vI q)) (by rfl)⟩, ⟨hjd.1, frC_trans hk9.2 (frC_trans hop.2 hjd.2)⟩, rfl⟩)
          · skip
            exact gw_throw C (cls := "java/lang/IllegalStateException") (text := "the traverse has no legs") (ik := 70) (is := 157) (ic := 74) ht (by decide) (by decide) kX7_70 n_IllegalStateException (List.mem_of_getElem? (i := 14) rfl) gt_IS_74_1 gt_IS_74_2 (by decide) gt_IS_74_3 dX7_close_70 dX7_close_73 dX7_close_74 dX7_close_76 dX7_close_79 (Nat.le_of_ble_eq_true rfl) (Nat.le_of_ble_eq_true rfl) (Nat.le_of_ble_eq_true rfl) (Nat.le_of_ble_eq_true rfl) (Nat.le_of_ble_eq_true rfl) (Nat.le_of_ble_eq_true rfl) (fun _ => ⟨Or.inr (Or.inr ⟨(by unfold kClose; (repeat (first | rw [if_pos (by omega)] | rw [if_neg (by omega)]))), rfl⟩), rfl, rfl⟩)
        · skip
          refine gw_if_ne C (tgt := 62) dX7_close_49 (by decide) ⟨by decide, by decide⟩ (fun h => absurd h (by decide)) (fun _ => ?_)
          exact gw_throw C (cls := "java/lang/IllegalArgumentException") (text := "the first join, or an angle out of range") (ik := 34) (is := 152) (ic := 38) ht (by decide) (by decide) kX7_34 n_IllegalArgumentException (List.mem_of_getElem? (i := 13) rfl) gt_IA_38_1 gt_IA_38_2 (by decide) gt_IA_38_3 dX7_close_52 dX7_close_55 dX7_close_56 dX7_close_58 dX7_close_61 (Nat.le_of_ble_eq_true rfl) (Nat.le_of_ble_eq_true rfl) (Nat.le_of_ble_eq_true rfl) (Nat.le_of_ble_eq_true rfl) (Nat.le_of_ble_eq_true rfl) (Nat.le_of_ble_eq_true rfl) (fun _ => ⟨Or.inr (Or.inl ⟨(by unfold kClose; (repeat (first | rw [if_pos (by omega)] | rw [if_neg (by omega)]))), rfl⟩), rfl, rfl⟩)
    · skip
      show GW G p l e ({ frames := 6, cells := 1, slots := 6, locals := 119 } : Room) s m args below meth c 5 zq_20 N0 SH RR I J 0 0 (vx_MQ below (GQ G N0 SH RR (mtQ (kClose S x1 x2 x3) (sTT (oClose S x1.toNat x2 x3) x1.toNat) I J (oClose S x1.toNat x2 x3) (psh S D9) (cN c9))) (GX G N0 SH RR (xcQ (kClose S x1 x2 x3) nIX nIA nIS I J)) args s 1 6 (ge G)) 23 [some (vR 0), some (vI x1), some (vI x2), some (vI x3), some (vR (1 + 21 + 6 * (x1).toNat))] [vN]
      refine gw_ifnonnullN C dX7_close_23 ?_
      exact gw_throw C (cls := "java/lang/IndexOutOfBoundsException") (text := "no such traverse or join") (ik := 86) (is := 145) (ic := 90) ht (by decide) (by decide) kX7_86 n_IndexOutOfBoundsException (List.mem_of_getElem? (i := 12) rfl) gt_IX_90_1 gt_IX_90_2 (by decide) gt_IX_90_3 dX7_close_26 dX7_close_29 dX7_close_30 dX7_close_32 dX7_close_35 (Nat.le_of_ble_eq_true rfl) (Nat.le_of_ble_eq_true rfl) (Nat.le_of_ble_eq_true rfl) (Nat.le_of_ble_eq_true rfl) (Nat.le_of_ble_eq_true rfl) (Nat.le_of_ble_eq_true rfl) (fun _ => ⟨Or.inl ⟨(by unfold kClose; (repeat (first | rw [if_pos (by omega)] | rw [if_neg (by omega)]))), rfl⟩, rfl, rfl⟩)
  · skip
    show GW G p l e ({ frames := 6, cells := 1, slots := 6, locals := 119 } : Room) s m args below meth c 5 zq_5 N0 SH RR I J 0 0 (vx_MQ below (GQ G N0 SH RR (mtQ (kClose S x1 x2 x3) (sTT (oClose S x1.toNat x2 x3) x1.toNat) I J (oClose S x1.toNat x2 x3) (psh S D9) (cN c9))) (GX G N0 SH RR (xcQ (kClose S x1 x2 x3) nIX nIA nIS I J)) args s 1 6 (ge G)) 8 [some (vR 0), some (vI x1), some (vI x2), some (vI x3), none] [vN]
    refine gw_astoreN C (lo1 := [some (vR 0), some (vI x1), some (vI x2), some (vI x3), some (vN)]) dX7_close_8 (by decide) rfl ?_
    refine gw_aloadN C dX7_close_10 rfl ?_
    refine gw_ifnullN C (tgt := 26) dX7_close_12 (by decide) ?_
    exact gw_throw C (cls := "java/lang/IndexOutOfBoundsException") (text := "no such traverse or join") (ik := 86) (is := 145) (ic := 90) ht (by decide) (by decide) kX7_86 n_IndexOutOfBoundsException (List.mem_of_getElem? (i := 12) rfl) gt_IX_90_1 gt_IX_90_2 (by decide) gt_IX_90_3 dX7_close_26 dX7_close_29 dX7_close_30 dX7_close_32 dX7_close_35 (Nat.le_of_ble_eq_true rfl) (Nat.le_of_ble_eq_true rfl) (Nat.le_of_ble_eq_true rfl) (Nat.le_of_ble_eq_true rfl) (Nat.le_of_ble_eq_true rfl) (Nat.le_of_ble_eq_true rfl) (fun _ => ⟨Or.inl ⟨(by unfold kClose; (repeat (first | rw [if_pos (by omega)] | rw [if_neg (by omega)]))), rfl⟩, rfl, rfl⟩)
set_option maxHeartbeats 4000000 in
set_option maxRecDepth 100000 in
theorem c_X7_order {l : Launch} (hl0 : l.stackTraces = false) (G : GG) (I J : GI) {z : Nat} {S : Nat → Int} {D9 : Nat → Nat → Int} {c9 : Nat} (hCI : CI I S D9 c9) (x1 x2 x3 x4 : Int) (hx1 : inI x1) (hx2 : inI x2) (hx3 : inI x3) (hx4 : inI x4) : GM l yX7_order (.code yX7_order cX7_order 7 (some .int)) 6 119 1 6 G N0 SH RR [vR 0, vI x1, vI x2, vI x3, vI x4] z I J (mtQ (rfZ S x1 x2 x3 x4) (coR S x1 x2) I J (coS S x1 x2 x3 x4) (psh S D9) (cN c9)) (xcQ (rfZ S x1 x2 x3 x4) nIX nIA nIS I J) := by
  refine gm_of (lo0 := [some (vR 0), some (vI x1), some (vI x2), some (vI x3), some (vI x4), none, none]) hl0 (by decide) rfl (Nat.le_of_ble_eq_true rfl) ?_
  intro p e s m args below meth c C ht hgi
  have C : gC G p l s m args meth c cX7_order 7 RX7 (some .int) "order" := C
  have hR := hCI.1.1.1
  have ho := hCI.1.1.2.1
  have hw := hCI.1.1.2.2
  have hj := hCI.2
  have hcnt := hR.2.1
  have hobd := ho.2.1
  refine gw_aload_n C 0 dX7_order_0 rfl rfl ?_
  refine gw_iload_n C 1 dX7_order_1 rfl rfl ?_
  refine gw_iload_n C 2 dX7_order_2 rfl rfl ?_
  refine gw_iload_n C 3 dX7_order_3 rfl rfl ?_
  refine gw_iload C dX7_order_4 rfl ?_
  refine gw_callVm C (as := [vI x1, vI x2, vI x3, vI x4]) (st := []) (ci := 6) (T0 := TX7) (N := 3) (c_X7_refusalOf hl0 G I J hR ho hj x1 x2 x3 x4 hx1 hx2 hx3 hx4) dX7_order_6 kX7_275 qX7_refusalOf hdX7_refusalOf ⟨Nat.le_of_ble_eq_true rfl, Nat.le_of_ble_eq_true rfl⟩ ⟨Nat.le_of_ble_eq_true rfl, Nat.le_of_ble_eq_true rfl⟩ (Nat.le_of_ble_eq_true rfl) rfl xs_0 xn_0 rfl (fun z_6 => ?_)
  refine gw_istore C (lo1 := [some (vR 0), some (vI x1), some (vI x2), some (vI x3), some (vI x4), some (vI (rfZ S x1 x2 x3 x4)), none]) dX7_order_9 (by decide) rfl ?_
  have hrb := rfZ_b S x1 x2 x3 x4
  refine gw_iload C dX7_order_11 rfl ?_
  refine gw_iconst C dX7_order_13 ?_
  refine gw_icmp_ne C (tgt := 28) dX7_order_14 (by decide) (by omega) ⟨by decide, by decide⟩ (fun h_14 => ?_) (fun h_14 => ?_)
  · skip
    refine gw_iload C dX7_order_28 rfl ?_
    refine gw_iconst C dX7_order_30 ?_
    refine gw_icmp_ne C (tgt := 45) dX7_order_31 (by decide) (by omega) ⟨by decide, by decide⟩ (fun h_31 => ?_) (fun h_31 => ?_)
    · skip
      refine gw_iload C dX7_order_45 rfl ?_
      refine gw_iconst C dX7_order_47 ?_
      refine gw_icmp_ne C (tgt := 62) dX7_order_48 (by decide) (by omega) ⟨by decide, by decide⟩ (fun h_48 => ?_) (fun h_48 => ?_)
      · skip
        refine gw_aload_n C 0 dX7_order_62 rfl rfl ?_
        refine gw_getRs (ci := 6) (Cn := RX7) (T0 := TX7) (N := 3) C 46 1 kX7_19 fX7 rfl (by decide) rfl rfl dX7_order_63 xs_0 xn_0 xr_0_1 ?_
        refine gw_aload_n C 0 dX7_order_66 rfl rfl ?_
        refine gw_getRs (ci := 6) (Cn := RX7) (T0 := TX7) (N := 3) C 1 0 kX7_10 fX7 rfl (by decide) rfl rfl dX7_order_67 xs_0 xn_0 xr_0_0 ?_
        refine gw_callV C (as := [vR 1]) (st := []) (ci := 0) (T0 := TX0) (N := 3) (c_X0_keep hl0 G I J hCI.1.2.1.1 (by have := hCI.1.2.1.2; omega)) dX7_order_70 kX7_41 qX0_keep hdX0_keep ⟨Nat.le_of_ble_eq_true rfl, Nat.le_of_ble_eq_true rfl⟩ ⟨Nat.le_of_ble_eq_true rfl, Nat.le_of_ble_eq_true rfl⟩ (Nat.le_of_ble_eq_true rfl) rfl xs_46 xn_46 rfl (fun _ _ _ _ h => h.elim) ?_
        intro v_70 z_70_2 Kk J_70 hv_70
        obtain ⟨ev_70, hkp_70, eJ_70⟩ := hv_70
        rw [ev_70, eJ_70]
        have hk9 := ck_keep hCI hkp_70
        have hR2 := hk9.1.1.1.1
        have hw2 := hk9.1.1.1.2.2
        have hj2 := hk9.1.2
        have hcn2 := hR2.2.1
        show GW G p l e ({ frames := 6, cells := 1, slots := 6, locals := 119 } : Room) s m args below meth c 7 z_70_2 N0 SH RR Kk J 0 0 (vx_MQ below (GQ G N0 SH RR (mtQ (rfZ S x1 x2 x3 x4) (coR S x1 x2) I J (coS S x1 x2 x3 x4) (psh S D9) (cN c9))) (GX G N0 SH RR (xcQ (rfZ S x1 x2 x3 x4) nIX nIA nIS I J)) args s 1 6 (ge G)) 73 [some (vR 0), some (vI x1), some (vI x2), some (vI x3), some (vI x4), some (vI (rfZ S x1 x2 x3 x4)), none] []
        refine gw_aload_n C 0 dX7_order_73 rfl rfl ?_
        refine gw_iload_n C 1 dX7_order_74 rfl rfl ?_
        refine gw_iload_n C 2 dX7_order_75 rfl rfl ?_
        refine gw_iload_n C 3 dX7_order_76 rfl rfl ?_
        refine gw_iload C dX7_order_77 rfl ?_
        refine gw_callV C (as := [vI x1, vI x2, vI x3, vI x4]) (st := []) (ci := 6) (T0 := TX7) (N := 3) (c_X7_carryOut hl0 G Kk J hR2 ho hj2 hw2 x1 x2 x3 x4 hx1 hx2 hx3 hx4 (by omega)) dX7_order_79 kX7_284 qX7_carryOut hdX7_carryOut ⟨Nat.le_of_ble_eq_true rfl, Nat.le_of_ble_eq_true rfl⟩ ⟨Nat.le_of_ble_eq_true rfl, Nat.le_of_ble_eq_true rfl⟩ (Nat.le_of_ble_eq_true rfl) rfl xs_0 xn_0 rfl (fun _ _ _ _ h => h.elim) ?_
        intro v_79 z_79_2 Kc J_79 hv_79
        obtain ⟨ev_79, ⟨hc1, hc2, hc3, hc4⟩, eJ_79⟩ := hv_79
        rw [ev_79, eJ_79]
        have hop := ck_op hk9.1.1 hc1 hc2 hc3 hc4
        show GW G p l e ({ frames := 6, cells := 1, slots := 6, locals := 119 } : Room) s m args below meth c 7 z_79_2 N0 SH RR Kc J 0 0 (vx_MQ below (GQ G N0 SH RR (mtQ (rfZ S x1 x2 x3 x4) (coR S x1 x2) I J (coS S x1 x2 x3 x4) (psh S D9) (cN c9))) (GX G N0 SH RR (xcQ (rfZ S x1 x2 x3 x4) nIX nIA nIS I J)) args s 1 6 (ge G)) 82 [some (vR 0), some (vI x1), some (vI x2), some (vI x3), some (vI x4), some (vI (rfZ S x1 x2 x3 x4)), none] [vI (coR S x1 x2)]
        refine gw_istore C (lo1 := [some (vR 0), some (vI x1), some (vI x2), some (vI x3), some (vI x4), some (vI (rfZ S x1 x2 x3 x4)), some (vI (coR S x1 x2))]) dX7_order_82 (by decide) rfl ?_
        refine gw_aload_n C 0 dX7_order_84 rfl rfl ?_
        refine gw_getRs (ci := 6) (Cn := RX7) (T0 := TX7) (N := 3) C 1 0 kX7_10 fX7 rfl (by decide) rfl rfl dX7_order_85 xs_0 xn_0 xr_0_0 ?_
        refine gw_callV C (as := []) (st := []) (ci := 2) (T0 := TX2) (N := 7) (c_X2_judge hl0 G Kc J mineQ_live hop.1.1.1 hop.1.1.2.1 hop.1.1.2.2) dX7_order_88 kX7_49 qX2_judge hdX2_judge ⟨Nat.le_of_ble_eq_true rfl, Nat.le_of_ble_eq_true rfl⟩ ⟨Nat.le_of_ble_eq_true rfl, Nat.le_of_ble_eq_true rfl⟩ (Nat.le_of_ble_eq_true rfl) rfl (mq_s mineQ_live) (mq_n mineQ_live) rfl (fun _ _ _ _ h => h.elim) ?_
        intro v_88 z_88_2 Kj J_88 hv_88
        obtain ⟨ev_88, ⟨hf9, hj9⟩, eJ_88⟩ := hv_88
        rw [ev_88, eJ_88]
        have hjd := ck_judge hop.1 hf9 hj9
        show GW G p l e ({ frames := 6, cells := 1, slots := 6, locals := 119 } : Room) s m args below meth c 7 z_88_2 N0 SH RR Kj J 0 0 (vx_MQ below (GQ G N0 SH RR (mtQ (rfZ S x1 x2 x3 x4) (coR S x1 x2) I J (coS S x1 x2 x3 x4) (psh S D9) (cN c9))) (GX G N0 SH RR (xcQ (rfZ S x1 x2 x3 x4) nIX nIA nIS I J)) args s 1 6 (ge G)) 91 [some (vR 0), some (vI x1), some (vI x2), some (vI x3), some (vI x4), some (vI (rfZ S x1 x2 x3 x4)), some (vI (coR S x1 x2))] []
        refine gw_iload C dX7_order_91 rfl ?_
        exact gw_iret C (Nat.le_of_ble_eq_true rfl) (Nat.le_of_ble_eq_true rfl) dX7_order_93 (⟨⟨(by omega), congrArg (fun q => some (vI q)) (by rfl)⟩, ⟨hjd.1, frC_trans hk9.2 (frC_trans hop.2 hjd.2)⟩, rfl⟩)
      · skip
        exact gw_throwW C (cls := "java/lang/IllegalStateException") (text := "not as things stand") (ik := 70) (is := 282) (ic := 74) ht (by decide) (by decide) kX7_70 n_IllegalStateException (List.mem_of_getElem? (i := 4) rfl) gt_IS_74_1 gt_IS_74_2 (by decide) gt_IS_74_3 dX7_order_51 dX7_order_54 dX7_order_55 dX7_order_58 dX7_order_61 (Nat.le_of_ble_eq_true rfl) (Nat.le_of_ble_eq_true rfl) (Nat.le_of_ble_eq_true rfl) (Nat.le_of_ble_eq_true rfl) (Nat.le_of_ble_eq_true rfl) (Nat.le_of_ble_eq_true rfl) (fun _ => ⟨Or.inr (Or.inr ⟨(by omega), rfl⟩), rfl, rfl⟩)
    · skip
      exact gw_throwW C (cls := "java/lang/IllegalArgumentException") (text := "an argument is out of range") (ik := 34) (is := 280) (ic := 38) ht (by decide) (by decide) kX7_34 n_IllegalArgumentException (List.mem_of_getElem? (i := 3) rfl) gt_IA_38_1 gt_IA_38_2 (by decide) gt_IA_38_3 dX7_order_34 dX7_order_37 dX7_order_38 dX7_order_41 dX7_order_44 (Nat.le_of_ble_eq_true rfl) (Nat.le_of_ble_eq_true rfl) (Nat.le_of_ble_eq_true rfl) (Nat.le_of_ble_eq_true rfl) (Nat.le_of_ble_eq_true rfl) (Nat.le_of_ble_eq_true rfl) (fun _ => ⟨Or.inr (Or.inl ⟨(by omega), rfl⟩), rfl, rfl⟩)
  · skip
    exact gw_throwW C (cls := "java/lang/IndexOutOfBoundsException") (text := "no such wire or traverse") (ik := 86) (is := 278) (ic := 90) ht (by decide) (by decide) kX7_86 n_IndexOutOfBoundsException (List.mem_of_getElem? (i := 2) rfl) gt_IX_90_1 gt_IX_90_2 (by decide) gt_IX_90_3 dX7_order_17 dX7_order_20 dX7_order_21 dX7_order_24 dX7_order_27 (Nat.le_of_ble_eq_true rfl) (Nat.le_of_ble_eq_true rfl) (Nat.le_of_ble_eq_true rfl) (Nat.le_of_ble_eq_true rfl) (Nat.le_of_ble_eq_true rfl) (Nat.le_of_ble_eq_true rfl) (fun _ => ⟨Or.inl ⟨(by omega), rfl⟩, rfl, rfl⟩)
set_option maxHeartbeats 4000000 in
set_option maxRecDepth 100000 in
theorem c_X7_swing {l : Launch} (hl0 : l.stackTraces = false) (G : GG) (I J : GI) {z : Nat} {S : Nat → Int} {D9 : Nat → Nat → Int} {c9 : Nat} (hCI : CI I S D9 c9) (x1 x2 : Int) (hx1 : inI x1) (hx2 : inI x2) : GM l yX7_swing (.code yX7_swing cX7_swing 3 (some .int)) 7 145 1 6 G N0 SH RR [vR 0, vI x1, vI x2] z I J (mtQ (rfZ S 116 x1 x2 0) (coR S 116 x1) I J (coS S 116 x1 x2 0) (psh S D9) (cN c9)) (xcQ (rfZ S 116 x1 x2 0) nIX nIA nIS I J) := by
  refine gm_of (lo0 := [some (vR 0), some (vI x1), some (vI x2)]) hl0 (by decide) rfl (Nat.le_of_ble_eq_true rfl) ?_
  intro p e s m args below meth c C ht hgi
  have C : gC G p l s m args meth c cX7_swing 3 RX7 (some .int) "swing" := C
  have hR := hCI.1.1.1
  have ho := hCI.1.1.2.1
  have hw := hCI.1.1.2.2
  have hj := hCI.2
  have hcnt := hR.2.1
  have hobd := ho.2.1
  refine gw_aload_n C 0 dX7_swing_0 rfl rfl ?_
  refine gw_bipush C dX7_swing_1 rfl ?_
  refine gw_iload_n C 1 dX7_swing_3 rfl rfl ?_
  refine gw_iload_n C 2 dX7_swing_4 rfl rfl ?_
  refine gw_iconst C dX7_swing_5 ?_
  refine gw_callV C (as := [vI 116, vI x1, vI x2, vI 0]) (st := []) (ci := 6) (T0 := TX7) (N := 3) (c_X7_order hl0 G I J hCI 116 x1 x2 0 ⟨by decide, by decide⟩ hx1 hx2 ⟨by decide, by decide⟩) dX7_swing_6 kX7_78 qX7_order hdX7_order ⟨Nat.le_of_ble_eq_true rfl, Nat.le_of_ble_eq_true rfl⟩ ⟨Nat.le_of_ble_eq_true rfl, Nat.le_of_ble_eq_true rfl⟩ (Nat.le_of_ble_eq_true rfl) rfl xs_0 xn_0 rfl (fun _ _ _ _ h => gwx_out C ht (Nat.le_of_ble_eq_true rfl) (Nat.le_of_ble_eq_true rfl) h) ?_
  intro v_6 z_6_2 Ko J_6 hv_6
  obtain ⟨⟨hk0, ev_6⟩, hrest, eJ_6⟩ := hv_6
  rw [ev_6, eJ_6]
  show GW G p l e ({ frames := 7, cells := 1, slots := 6, locals := 145 } : Room) s m args below meth c 3 z_6_2 N0 SH RR Ko J 1 6 (vx_MQ below (GQ G N0 SH RR (mtQ (rfZ S 116 x1 x2 0) (coR S 116 x1) I J (coS S 116 x1 x2 0) (psh S D9) (cN c9))) (GX G N0 SH RR (xcQ (rfZ S 116 x1 x2 0) nIX nIA nIS I J)) args s 1 6 (ge G)) 9 [some (vR 0), some (vI x1), some (vI x2)] [vI (coR S 116 x1)]
  exact gw_iret C (Nat.le_of_ble_eq_true rfl) (Nat.le_of_ble_eq_true rfl) dX7_swing_9 (⟨⟨hk0, rfl⟩, hrest, rfl⟩)
set_option maxHeartbeats 4000000 in
set_option maxRecDepth 100000 in
theorem c_X7_addLeg {l : Launch} (hl0 : l.stackTraces = false) (G : GG) (I J : GI) {z : Nat} {S : Nat → Int} {D9 : Nat → Nat → Int} {c9 : Nat} (hCI : CI I S D9 c9) (x1 x2 x3 : Int) (hx1 : inI x1) (hx2 : inI x2) (hx3 : inI x3) : GM l yX7_addLeg (.code yX7_addLeg cX7_addLeg 4 (some .int)) 7 145 1 6 G N0 SH RR [vR 0, vI x1, vI x2, vI x3] z I J (mtQ (rfZ S 108 x1 x2 x3) (coR S 108 x1) I J (coS S 108 x1 x2 x3) (psh S D9) (cN c9)) (xcQ (rfZ S 108 x1 x2 x3) nIX nIA nIS I J) := by
  refine gm_of (lo0 := [some (vR 0), some (vI x1), some (vI x2), some (vI x3)]) hl0 (by decide) rfl (Nat.le_of_ble_eq_true rfl) ?_
  intro p e s m args below meth c C ht hgi
  have C : gC G p l s m args meth c cX7_addLeg 4 RX7 (some .int) "addLeg" := C
  have hR := hCI.1.1.1
  have ho := hCI.1.1.2.1
  have hw := hCI.1.1.2.2
  have hj := hCI.2
  have hcnt := hR.2.1
  have hobd := ho.2.1
  refine gw_aload_n C 0 dX7_addLeg_0 rfl rfl ?_
  refine gw_bipush C dX7_addLeg_1 rfl ?_
  refine gw_iload_n C 1 dX7_addLeg_3 rfl rfl ?_
  refine gw_iload_n C 2 dX7_addLeg_4 rfl rfl ?_
  refine gw_iload_n C 3 dX7_addLeg_5 rfl rfl ?_
  refine gw_callV C (as := [vI 108, vI x1, vI x2, vI x3]) (st := []) (ci := 6) (T0 := TX7) (N := 3) (c_X7_order hl0 G I J hCI 108 x1 x2 x3 ⟨by decide, by decide⟩ hx1 hx2 hx3) dX7_addLeg_6 kX7_78 qX7_order hdX7_order ⟨Nat.le_of_ble_eq_true rfl, Nat.le_of_ble_eq_true rfl⟩ ⟨Nat.le_of_ble_eq_true rfl, Nat.le_of_ble_eq_true rfl⟩ (Nat.le_of_ble_eq_true rfl) rfl xs_0 xn_0 rfl (fun _ _ _ _ h => gwx_out C ht (Nat.le_of_ble_eq_true rfl) (Nat.le_of_ble_eq_true rfl) h) ?_
  intro v_6 z_6_2 Ko J_6 hv_6
  obtain ⟨⟨hk0, ev_6⟩, hrest, eJ_6⟩ := hv_6
  rw [ev_6, eJ_6]
  show GW G p l e ({ frames := 7, cells := 1, slots := 6, locals := 145 } : Room) s m args below meth c 4 z_6_2 N0 SH RR Ko J 1 6 (vx_MQ below (GQ G N0 SH RR (mtQ (rfZ S 108 x1 x2 x3) (coR S 108 x1) I J (coS S 108 x1 x2 x3) (psh S D9) (cN c9))) (GX G N0 SH RR (xcQ (rfZ S 108 x1 x2 x3) nIX nIA nIS I J)) args s 1 6 (ge G)) 9 [some (vR 0), some (vI x1), some (vI x2), some (vI x3)] [vI (coR S 108 x1)]
  exact gw_iret C (Nat.le_of_ble_eq_true rfl) (Nat.le_of_ble_eq_true rfl) dX7_addLeg_9 (⟨⟨hk0, rfl⟩, hrest, rfl⟩)
set_option maxHeartbeats 4000000 in
set_option maxRecDepth 100000 in
theorem c_X7_dropLeg {l : Launch} (hl0 : l.stackTraces = false) (G : GG) (I J : GI) {z : Nat} {S : Nat → Int} {D9 : Nat → Nat → Int} {c9 : Nat} (hCI : CI I S D9 c9) (x1 : Int) (hx1 : inI x1) : GM l yX7_dropLeg (.code yX7_dropLeg cX7_dropLeg 2 (some .int)) 7 145 1 6 G N0 SH RR [vR 0, vI x1] z I J (mtQ (rfZ S 107 x1 0 0) (coR S 107 x1) I J (coS S 107 x1 0 0) (psh S D9) (cN c9)) (xcQ (rfZ S 107 x1 0 0) nIX nIA nIS I J) := by
  refine gm_of (lo0 := [some (vR 0), some (vI x1)]) hl0 (by decide) rfl (Nat.le_of_ble_eq_true rfl) ?_
  intro p e s m args below meth c C ht hgi
  have C : gC G p l s m args meth c cX7_dropLeg 2 RX7 (some .int) "dropLeg" := C
  have hR := hCI.1.1.1
  have ho := hCI.1.1.2.1
  have hw := hCI.1.1.2.2
  have hj := hCI.2
  have hcnt := hR.2.1
  have hobd := ho.2.1
  refine gw_aload_n C 0 dX7_dropLeg_0 rfl rfl ?_
  refine gw_bipush C dX7_dropLeg_1 rfl ?_
  refine gw_iload_n C 1 dX7_dropLeg_3 rfl rfl ?_
  refine gw_iconst C dX7_dropLeg_4 ?_
  refine gw_iconst C dX7_dropLeg_5 ?_
  refine gw_callV C (as := [vI 107, vI x1, vI 0, vI 0]) (st := []) (ci := 6) (T0 := TX7) (N := 3) (c_X7_order hl0 G I J hCI 107 x1 0 0 ⟨by decide, by decide⟩ hx1 ⟨by decide, by decide⟩ ⟨by decide, by decide⟩) dX7_dropLeg_6 kX7_78 qX7_order hdX7_order ⟨Nat.le_of_ble_eq_true rfl, Nat.le_of_ble_eq_true rfl⟩ ⟨Nat.le_of_ble_eq_true rfl, Nat.le_of_ble_eq_true rfl⟩ (Nat.le_of_ble_eq_true rfl) rfl xs_0 xn_0 rfl (fun _ _ _ _ h => gwx_out C ht (Nat.le_of_ble_eq_true rfl) (Nat.le_of_ble_eq_true rfl) h) ?_
  intro v_6 z_6_2 Ko J_6 hv_6
  obtain ⟨⟨hk0, ev_6⟩, hrest, eJ_6⟩ := hv_6
  rw [ev_6, eJ_6]
  show GW G p l e ({ frames := 7, cells := 1, slots := 6, locals := 145 } : Room) s m args below meth c 2 z_6_2 N0 SH RR Ko J 1 6 (vx_MQ below (GQ G N0 SH RR (mtQ (rfZ S 107 x1 0 0) (coR S 107 x1) I J (coS S 107 x1 0 0) (psh S D9) (cN c9))) (GX G N0 SH RR (xcQ (rfZ S 107 x1 0 0) nIX nIA nIS I J)) args s 1 6 (ge G)) 9 [some (vR 0), some (vI x1)] [vI (coR S 107 x1)]
  exact gw_iret C (Nat.le_of_ble_eq_true rfl) (Nat.le_of_ble_eq_true rfl) dX7_dropLeg_9 (⟨⟨hk0, rfl⟩, hrest, rfl⟩)
set_option maxHeartbeats 4000000 in
set_option maxRecDepth 100000 in
theorem c_X7_adjust {l : Launch} (hl0 : l.stackTraces = false) (G : GG) (I J : GI) {z : Nat} {S : Nat → Int} {D9 : Nat → Nat → Int} {c9 : Nat} (hCI : CI I S D9 c9) (x1 : Int) (hx1 : inI x1) : GM l yX7_adjust (.code yX7_adjust cX7_adjust 2 (some .int)) 7 145 1 6 G N0 SH RR [vR 0, vI x1] z I J (mtQ (rfZ S 97 x1 0 0) (coR S 97 x1) I J (coS S 97 x1 0 0) (psh S D9) (cN c9)) (xcQ (rfZ S 97 x1 0 0) nIX nIA nIS I J) := by
  refine gm_of (lo0 := [some (vR 0), some (vI x1)]) hl0 (by decide) rfl (Nat.le_of_ble_eq_true rfl) ?_
  intro p e s m args below meth c C ht hgi
  have C : gC G p l s m args meth c cX7_adjust 2 RX7 (some .int) "adjust" := C
  have hR := hCI.1.1.1
  have ho := hCI.1.1.2.1
  have hw := hCI.1.1.2.2
  have hj := hCI.2
  have hcnt := hR.2.1
  have hobd := ho.2.1
  refine gw_aload_n C 0 dX7_adjust_0 rfl rfl ?_
  refine gw_bipush C dX7_adjust_1 rfl ?_
  refine gw_iload_n C 1 dX7_adjust_3 rfl rfl ?_
  refine gw_iconst C dX7_adjust_4 ?_
  refine gw_iconst C dX7_adjust_5 ?_
  refine gw_callV C (as := [vI 97, vI x1, vI 0, vI 0]) (st := []) (ci := 6) (T0 := TX7) (N := 3) (c_X7_order hl0 G I J hCI 97 x1 0 0 ⟨by decide, by decide⟩ hx1 ⟨by decide, by decide⟩ ⟨by decide, by decide⟩) dX7_adjust_6 kX7_78 qX7_order hdX7_order ⟨Nat.le_of_ble_eq_true rfl, Nat.le_of_ble_eq_true rfl⟩ ⟨Nat.le_of_ble_eq_true rfl, Nat.le_of_ble_eq_true rfl⟩ (Nat.le_of_ble_eq_true rfl) rfl xs_0 xn_0 rfl (fun _ _ _ _ h => gwx_out C ht (Nat.le_of_ble_eq_true rfl) (Nat.le_of_ble_eq_true rfl) h) ?_
  intro v_6 z_6_2 Ko J_6 hv_6
  obtain ⟨⟨hk0, ev_6⟩, hrest, eJ_6⟩ := hv_6
  rw [ev_6, eJ_6]
  show GW G p l e ({ frames := 7, cells := 1, slots := 6, locals := 145 } : Room) s m args below meth c 2 z_6_2 N0 SH RR Ko J 1 6 (vx_MQ below (GQ G N0 SH RR (mtQ (rfZ S 97 x1 0 0) (coR S 97 x1) I J (coS S 97 x1 0 0) (psh S D9) (cN c9))) (GX G N0 SH RR (xcQ (rfZ S 97 x1 0 0) nIX nIA nIS I J)) args s 1 6 (ge G)) 9 [some (vR 0), some (vI x1)] [vI (coR S 97 x1)]
  exact gw_iret C (Nat.le_of_ble_eq_true rfl) (Nat.le_of_ble_eq_true rfl) dX7_adjust_9 (⟨⟨hk0, rfl⟩, hrest, rfl⟩)
