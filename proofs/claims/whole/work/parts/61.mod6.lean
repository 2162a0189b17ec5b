set_option maxHeartbeats 4000000 in
set_option maxRecDepth 100000 in
theorem c_X8_close {l : Launch} (hl0 : l.stackTraces = false) (G : GG) (I J : GI) {z : Nat} (ho : Oks (I 232)) (hp : 0 ≤ I 231 2 ∧ I 231 2 ≤ 4) (hru : 0 ≤ I 231 3 ∧ I 231 3 ≤ 1) (x1 x2 x3 : Int) (hx1 : inI x1) (hx2 : inI x2) (hx3 : inI x3) : GM l yX8_close (.code yX8_close cX8_close 5 (some .int)) 6 136 0 0 G N0 SH RR [vR 231, vI x1, vI x2, vI x3] z I J (mmQ (kClose (I 232) x1 x2 x3) (sTT (oClose (I 232) x1.toNat x2 x3) x1.toNat) I J (oClose (I 232) x1.toNat x2 x3)) gNo := by
  refine gm_of (lo0 := [some (vR 231), some (vI x1), some (vI x2), some (vI x3), none]) hl0 (by decide) rfl (Nat.le_of_ble_eq_true rfl) ?_
  intro p e s m args below meth c C ht hgi
  have C : gC G p l s m args meth c cX8_close 5 RX8 (some .int) "close" := C
  have h3 := ho.2.1
  have h0 := ho.1
  have hot := fun (h : 0 ≤ x1 ∧ x1 < I 232 5) => okT ho (t := x1.toNat) (by omega)
  refine gw_aload_n C 0 dX8_close_0 rfl rfl ?_
  refine gw_iload_n C 1 dX8_close_1 rfl rfl ?_
  refine gw_callVb C (as := [vI x1]) (st := []) (ci := 7) (T0 := TX8) (N := 10) (c_X8_isTraverse hl0 G I J ho x1 (by first | assumption | omega)) dX8_close_2 kX8_155 qX8_isTraverse hdX8_isTraverse ⟨Nat.le_of_ble_eq_true rfl, Nat.le_of_ble_eq_true rfl⟩ ⟨Nat.le_of_ble_eq_true rfl, Nat.le_of_ble_eq_true rfl⟩ (Nat.le_of_ble_eq_true rfl) rfl xs_231 xn_231 rfl (fun h_2 z_2 => ?_) (fun h_2 z_2 => ?_)
  · skip
    refine gw_if_eq C (tgt := 20) dX8_close_5 (by decide) ⟨by decide, by decide⟩ (fun h => absurd h (by decide)) (fun _ => ?_)
    refine gw_aload_n C 0 dX8_close_8 rfl rfl ?_
    refine gw_iload_n C 2 dX8_close_9 rfl rfl ?_
    refine gw_callVb C (as := [vI x2]) (st := []) (ci := 7) (T0 := TX8) (N := 10) (c_X8_isJoin hl0 G I J ho x2 (by first | assumption | omega)) dX8_close_10 kX8_135 qX8_isJoin hdX8_isJoin ⟨Nat.le_of_ble_eq_true rfl, Nat.le_of_ble_eq_true rfl⟩ ⟨Nat.le_of_ble_eq_true rfl, Nat.le_of_ble_eq_true rfl⟩ (Nat.le_of_ble_eq_true rfl) rfl xs_231 xn_231 rfl (fun h_10 z_10 => ?_) (fun h_10 z_10 => ?_)
    · skip
      refine gw_if_eq C (tgt := 20) dX8_close_13 (by decide) ⟨by decide, by decide⟩ (fun h => absurd h (by decide)) (fun _ => ?_)
      refine gw_iconst C dX8_close_16 ?_
      refine gw_goto C (tgt := 21) dX8_close_17 (by decide) ?_
      refine gw_istore C (lo1 := [some (vR 231), some (vI x1), some (vI x2), some (vI x3), some (vI 1)]) dX8_close_21 (by decide) rfl ?_
      refine gw_aload_n C 0 dX8_close_23 rfl rfl ?_
      refine gw_iload C dX8_close_24 rfl ?_
      refine gw_if_ne C (tgt := 33) dX8_close_26 (by decide) ⟨by decide, by decide⟩ (fun _ => ?_) (fun h => absurd h (by decide))
      refine gw_iload_n C 2 dX8_close_33 rfl rfl ?_
      refine gw_aload_n C 0 dX8_close_34 rfl rfl ?_
      refine gw_iload_n C 1 dX8_close_35 rfl rfl ?_
      refine gw_iconst C dX8_close_36 ?_
      refine gw_callVm C (as := [vI x1, vI 0]) (st := [vI x2, vR 231]) (ci := 7) (T0 := TX8) (N := 10) (c_X8_of hl0 G I J ho x1 0 (by omega)) dX8_close_37 kX8_33 qX8_of hdX8_of ⟨Nat.le_of_ble_eq_true rfl, Nat.le_of_ble_eq_true rfl⟩ ⟨Nat.le_of_ble_eq_true rfl, Nat.le_of_ble_eq_true rfl⟩ (Nat.le_of_ble_eq_true rfl) rfl xs_231 xn_231 rfl (fun z_37 => ?_)
      rw [show (0 : Int).toNat = 0 from rfl]
      rw [show I 232 (102 + 28 * ((x1).toNat) + 0) = (I 232 (102 + 28 * ((x1).toNat))) from by first | rfl | (congr 1 <;> omega) | (congr 1; congr 1 <;> omega)]
      refine gw_icmp_eq C (tgt := 50) dX8_close_40 (by decide) hx2 (by first | omega | exact hgi _ _) (fun h_40 => ?_) (fun h_40 => ?_)
      · skip
        refine gw_iconst C dX8_close_50 ?_
        refine gw_goto C (tgt := 67) dX8_close_51 (by decide) ?_
        refine gw_callVm C (as := [vI 2]) (st := []) (ci := 7) (T0 := TX8) (N := 10) (c_X8_throwsAt hl0 G I J 2 ⟨by decide, by decide⟩) dX8_close_67 kX8_70 qX8_throwsAt hdX8_throwsAt ⟨Nat.le_of_ble_eq_true rfl, Nat.le_of_ble_eq_true rfl⟩ ⟨Nat.le_of_ble_eq_true rfl, Nat.le_of_ble_eq_true rfl⟩ (Nat.le_of_ble_eq_true rfl) rfl xs_231 xn_231 rfl (fun z_67 => ?_)
        rw [show (if (0 : Int) < 2 then (1 : Int) else 0) = 1 from by decide]
        refine gw_if_eq C (tgt := 75) dX8_close_70 (by decide) ⟨by decide, by decide⟩ (fun h => absurd h (by decide)) (fun _ => ?_)
        refine gw_iconst C dX8_close_73 ?_
        exact gw_iret C (Nat.le_of_ble_eq_true rfl) (Nat.le_of_ble_eq_true rfl) dX8_close_74 (mm_1 (by unfold kClose; (repeat (first | rw [if_pos (by omega)] | rw [if_neg (by omega)]))) (by decide))
      · skip
        refine gw_iload_n C 3 dX8_close_43 rfl rfl ?_
        refine gw_callSb C (as := [vI x3]) (st := [vR 231]) (c_X8_isAngle hl0 G x3 hx3) dX8_close_44 kX8_123 qX8_isAngle hdX8_isAngle ⟨Nat.le_of_ble_eq_true rfl, Nat.le_of_ble_eq_true rfl⟩ ⟨Nat.le_of_ble_eq_true rfl, Nat.le_of_ble_eq_true rfl⟩ (Nat.le_of_ble_eq_true rfl) rfl (fun h_44 z_44 => ?_) (fun h_44 z_44 => ?_)
        · skip
          refine gw_if_ne C (tgt := 54) dX8_close_47 (by decide) ⟨by decide, by decide⟩ (fun _ => ?_) (fun h => absurd h (by decide))
          refine gw_aload_n C 0 dX8_close_54 rfl rfl ?_
          refine gw_iload_n C 1 dX8_close_55 rfl rfl ?_
          refine gw_callVm C (as := [vI x1]) (st := [vR 231]) (ci := 7) (T0 := TX8) (N := 10) (c_X8_legs hl0 G I J ho x1 (by omega)) dX8_close_56 kX8_77 qX8_legs hdX8_legs ⟨Nat.le_of_ble_eq_true rfl, Nat.le_of_ble_eq_true rfl⟩ ⟨Nat.le_of_ble_eq_true rfl, Nat.le_of_ble_eq_true rfl⟩ (Nat.le_of_ble_eq_true rfl) rfl xs_231 xn_231 rfl (fun z_56 => ?_)
          refine gw_if_ne C (tgt := 66) dX8_close_59 (by decide) (by first | omega | exact hgi _ _) (fun h_59 => ?_) (fun h_59 => ?_)
          · skip
            refine gw_iconst C dX8_close_66 ?_
            refine gw_callVm C (as := [vI 0]) (st := []) (ci := 7) (T0 := TX8) (N := 10) (c_X8_throwsAt hl0 G I J 0 ⟨by decide, by decide⟩) dX8_close_67 kX8_70 qX8_throwsAt hdX8_throwsAt ⟨Nat.le_of_ble_eq_true rfl, Nat.le_of_ble_eq_true rfl⟩ ⟨Nat.le_of_ble_eq_true rfl, Nat.le_of_ble_eq_true rfl⟩ (Nat.le_of_ble_eq_true rfl) rfl xs_231 xn_231 rfl (fun z_67_2 => ?_)
            rw [show (if (0 : Int) < 0 then (1 : Int) else 0) = 0 from by decide]
            refine gw_if_eq C (tgt := 75) dX8_close_70 (by decide) ⟨by decide, by decide⟩ (fun _ => ?_) (fun h => absurd h (by decide))
            have hot_ := hot (by omega)
            refine gw_aload_n C 0 dX8_close_75 rfl rfl ?_
            refine gw_callV C (as := []) (st := []) (ci := 7) (T0 := TX8) (N := 10) (c_X8_saves hl0 G (up I 231 6 0) J (by rw [show up I 231 6 0 231 2 = I 231 2 from up_ne2 (by decide)]; exact hp) (by rw [show up I 231 6 0 231 3 = I 231 3 from up_ne2 (by decide)]; exact hru)) dX8_close_76 kX8_74 qX8_saves hdX8_saves ⟨Nat.le_of_ble_eq_true rfl, Nat.le_of_ble_eq_true rfl⟩ ⟨Nat.le_of_ble_eq_true rfl, Nat.le_of_ble_eq_true rfl⟩ (Nat.le_of_ble_eq_true rfl) rfl xs_231 xn_231 rfl (fun _ _ _ _ h => h.elim) ?_
            intro v_76 z_76_2 Ks J_76 hv_76
            obtain ⟨ev_76, hsv, eJ_76⟩ := hv_76
            rw [ev_76, eJ_76]
            have hK232 := sv_232 hsv
            show GW G p l e ({ frames := 6, cells := 0, slots := 0, locals := 136 } : Room) s m args below meth c 5 z_76_2 N0 SH RR Ks J 0 0 (vx_MQ below (GQ G N0 SH RR (mmQ (kClose (I 232) x1 x2 x3) (sTT (oClose (I 232) x1.toNat x2 x3) x1.toNat) I J (oClose (I 232) x1.toNat x2 x3))) (GX G N0 SH RR gNo) args s 0 0 (ge G)) 79 [some (vR 231), some (vI x1), some (vI x2), some (vI x3), some (vI 1)] []
            refine gw_aload_n C 0 dX8_close_79 rfl rfl ?_
            refine gw_getRs (ci := 7) (Cn := RX8) (T0 := TX8) (N := 10) C 232 0 kX8_7 fX8 rfl (by decide) rfl rfl dX8_close_80 xs_231 xn_231 xr_231_0 ?_
            refine gw_bipush C dX8_close_83 rfl ?_
            refine gw_bipush C dX8_close_85 rfl ?_
            refine gw_iload_n C 1 dX8_close_87 rfl rfl ?_
            refine gw_imul C dX8_close_88 ?_
            refine gw_iadd C dX8_close_89 ?_
            refine gw_iconst C dX8_close_90 ?_
            refine gw_iadd C dX8_close_91 ?_
            refine gw_iload_n C 2 dX8_close_92 rfl rfl ?_
            refine gw_iast C (104 + 28 * x1.toNat) dX8_close_93 xs_232 xn_232 (by omega) (by omega) (by decide) hx2 ?_
            refine gw_aload_n C 0 dX8_close_94 rfl rfl ?_
            refine gw_getRs (ci := 7) (Cn := RX8) (T0 := TX8) (N := 10) C 232 0 kX8_7 fX8 rfl (by decide) rfl rfl dX8_close_95 xs_231 xn_231 xr_231_0 ?_
            refine gw_bipush C dX8_close_98 rfl ?_
            refine gw_bipush C dX8_close_100 rfl ?_
            refine gw_iload_n C 1 dX8_close_102 rfl rfl ?_
            refine gw_imul C dX8_close_103 ?_
            refine gw_iadd C dX8_close_104 ?_
            refine gw_iconst C dX8_close_105 ?_
            refine gw_iadd C dX8_close_106 ?_
            refine gw_iload_n C 3 dX8_close_107 rfl rfl ?_
            refine gw_iast C (105 + 28 * x1.toNat) dX8_close_108 xs_232 xn_232 (by omega) (by omega) (by decide) hx3 ?_
            have hcx := oks_close (S := I 232) (t := x1.toNat) (x := x2) (y := x3) ho (by omega) (by have := hot_.1; omega) (by have := hot_.1; omega) (by omega)
            have hc5 := cls_5 (S := I 232) (t := x1.toNat) (x := x2) (y := x3)
            refine gw_aload_n C 0 dX8_close_109 rfl rfl ?_
            refine gw_iload_n C 1 dX8_close_110 rfl rfl ?_
            refine gw_callVm C (as := [vI x1]) (st := []) (ci := 7) (T0 := TX8) (N := 10) (c_X8_troubleOf hl0 G (up (up Ks 232 (104 + 28 * x1.toNat) x2) 232 (105 + 28 * x1.toNat) x3) J (by rw [show (up (up Ks 232 (104 + 28 * x1.toNat) x2) 232 (105 + 28 * x1.toNat) x3) 232 = (oClose (I 232) x1.toNat x2 x3) from by rw [up_us, up_us, hK232]; rfl]; exact hcx) x1 (by first | (rw [show (up (up Ks 232 (104 + 28 * x1.toNat) x2) 232 (105 + 28 * x1.toNat) x3) 232 = (oClose (I 232) x1.toNat x2 x3) from by rw [up_us, up_us, hK232]; rfl]; omega) | (omega))) dX8_close_111 kX8_176 qX8_troubleOf hdX8_troubleOf ⟨Nat.le_of_ble_eq_true rfl, Nat.le_of_ble_eq_true rfl⟩ ⟨Nat.le_of_ble_eq_true rfl, Nat.le_of_ble_eq_true rfl⟩ (Nat.le_of_ble_eq_true rfl) rfl xs_231 xn_231 rfl (fun z_111 => ?_)
            rw [show (up (up Ks 232 (104 + 28 * x1.toNat) x2) 232 (105 + 28 * x1.toNat) x3) 232 = (oClose (I 232) x1.toNat x2 x3) from by rw [up_us, up_us, hK232]; rfl]
            have hr_111 := sTT_v ((oClose (I 232) x1.toNat x2 x3)) ((x1).toNat)
            exact gw_iret C (Nat.le_of_ble_eq_true rfl) (Nat.le_of_ble_eq_true rfl) dX8_close_114 (mm_0 (by unfold kClose; (repeat (first | rw [if_pos (by omega)] | rw [if_neg (by omega)]))) (by rfl) (md_of hsv (by rw [up_us, up_us, hK232]; rfl) (fun q f hq => by (repeat rw [up_ne hq]); try rfl)))
          · skip
            refine gw_iconst C dX8_close_62 ?_
            refine gw_goto C (tgt := 67) dX8_close_63 (by decide) ?_
            refine gw_callVm C (as := [vI 3]) (st := []) (ci := 7) (T0 := TX8) (N := 10) (c_X8_throwsAt hl0 G I J 3 ⟨by decide, by decide⟩) dX8_close_67 kX8_70 qX8_throwsAt hdX8_throwsAt ⟨Nat.le_of_ble_eq_true rfl, Nat.le_of_ble_eq_true rfl⟩ ⟨Nat.le_of_ble_eq_true rfl, Nat.le_of_ble_eq_true rfl⟩ (Nat.le_of_ble_eq_true rfl) rfl xs_231 xn_231 rfl (fun z_67_3 => ?_)
            rw [show (if (0 : Int) < 3 then (1 : Int) else 0) = 1 from by decide]
            refine gw_if_eq C (tgt := 75) dX8_close_70 (by decide) ⟨by decide, by decide⟩ (fun h => absurd h (by decide)) (fun _ => ?_)
            refine gw_iconst C dX8_close_73 ?_
            exact gw_iret C (Nat.le_of_ble_eq_true rfl) (Nat.le_of_ble_eq_true rfl) dX8_close_74 (mm_1 (by unfold kClose; (repeat (first | rw [if_pos (by omega)] | rw [if_neg (by omega)]))) (by decide))
        · skip
          refine gw_if_ne C (tgt := 54) dX8_close_47 (by decide) ⟨by decide, by decide⟩ (fun h => absurd h (by decide)) (fun _ => ?_)
          refine gw_iconst C dX8_close_50 ?_
          refine gw_goto C (tgt := 67) dX8_close_51 (by decide) ?_
          refine gw_callVm C (as := [vI 2]) (st := []) (ci := 7) (T0 := TX8) (N := 10) (c_X8_throwsAt hl0 G I J 2 ⟨by decide, by decide⟩) dX8_close_67 kX8_70 qX8_throwsAt hdX8_throwsAt ⟨Nat.le_of_ble_eq_true rfl, Nat.le_of_ble_eq_true rfl⟩ ⟨Nat.le_of_ble_eq_true rfl, Nat.le_of_ble_eq_true rfl⟩ (Nat.le_of_ble_eq_true rfl) rfl xs_231 xn_231 rfl (fun z_67_4 => ?_)
          rw [show (if (0 : Int) < 2 then (1 : Int) else 0) = 1 from by decide]
          refine gw_if_eq C (tgt := 75) dX8_close_70 (by decide) ⟨by decide, by decide⟩ (fun h => absurd h (by decide)) (fun _ => ?_)
          refine gw_iconst C dX8_close_73 ?_
          exact gw_iret C (Nat.le_of_ble_eq_true rfl) (Nat.le_of_ble_eq_true rfl) dX8_close_74 (mm_1 (by unfold kClose; (repeat (first | rw [if_pos (by omega)] | rw [if_neg (by omega)]))) (by decide))
    · skip
      refine gw_if_eq C (tgt := 20) dX8_close_13 (by decide) ⟨by decide, by decide⟩ (fun _ => ?_) (fun h => absurd h (by decide))
      refine gw_iconst C dX8_close_20 ?_
      refine gw_istore C (lo1 := [some (vR 231), some (vI x1), some (vI x2), some (vI x3), some (vI 0)]) dX8_close_21 (by decide) rfl ?_
      refine gw_aload_n C 0 dX8_close_23 rfl rfl ?_
      refine gw_iload C dX8_close_24 rfl ?_
      refine gw_if_ne C (tgt := 33) dX8_close_26 (by decide) ⟨by decide, by decide⟩ (fun h => absurd h (by decide)) (fun _ => ?_)
      refine gw_iconst C dX8_close_29 ?_
      refine gw_goto C (tgt := 67) dX8_close_30 (by decide) ?_
      refine gw_callVm C (as := [vI 1]) (st := []) (ci := 7) (T0 := TX8) (N := 10) (c_X8_throwsAt hl0 G I J 1 ⟨by decide, by decide⟩) dX8_close_67 kX8_70 qX8_throwsAt hdX8_throwsAt ⟨Nat.le_of_ble_eq_true rfl, Nat.le_of_ble_eq_true rfl⟩ ⟨Nat.le_of_ble_eq_true rfl, Nat.le_of_ble_eq_true rfl⟩ (Nat.le_of_ble_eq_true rfl) rfl xs_231 xn_231 rfl (fun z_67_5 => ?_)
      rw [show (if (0 : Int) < 1 then (1 : Int) else 0) = 1 from by decide]
      refine gw_if_eq C (tgt := 75) dX8_close_70 (by decide) ⟨by decide, by decide⟩ (fun h => absurd h (by decide)) (fun _ => ?_)
      refine gw_iconst C dX8_close_73 ?_
      exact gw_iret C (Nat.le_of_ble_eq_true rfl) (Nat.le_of_ble_eq_true rfl) dX8_close_74 (mm_1 (by unfold kClose; (repeat (first | rw [if_pos (by omega)] | rw [if_neg (by omega)]))) (by decide))
  · skip
    refine gw_if_eq C (tgt := 20) dX8_close_5 (by decide) ⟨by decide, by decide⟩ (fun _ => ?_) (fun h => absurd h (by decide))
    refine gw_iconst C dX8_close_20 ?_
    refine gw_istore C (lo1 := [some (vR 231), some (vI x1), some (vI x2), some (vI x3), some (vI 0)]) dX8_close_21 (by decide) rfl ?_
    refine gw_aload_n C 0 dX8_close_23 rfl rfl ?_
    refine gw_iload C dX8_close_24 rfl ?_
    refine gw_if_ne C (tgt := 33) dX8_close_26 (by decide) ⟨by decide, by decide⟩ (fun h => absurd h (by decide)) (fun _ => ?_)
    refine gw_iconst C dX8_close_29 ?_
    refine gw_goto C (tgt := 67) dX8_close_30 (by decide) ?_
    refine gw_callVm C (as := [vI 1]) (st := []) (ci := 7) (T0 := TX8) (N := 10) (c_X8_throwsAt hl0 G I J 1 ⟨by decide, by decide⟩) dX8_close_67 kX8_70 qX8_throwsAt hdX8_throwsAt ⟨Nat.le_of_ble_eq_true rfl, Nat.le_of_ble_eq_true rfl⟩ ⟨Nat.le_of_ble_eq_true rfl, Nat.le_of_ble_eq_true rfl⟩ (Nat.le_of_ble_eq_true rfl) rfl xs_231 xn_231 rfl (fun z_67_6 => ?_)
    rw [show (if (0 : Int) < 1 then (1 : Int) else 0) = 1 from by decide]
    refine gw_if_eq C (tgt := 75) dX8_close_70 (by decide) ⟨by decide, by decide⟩ (fun h => absurd h (by decide)) (fun _ => ?_)
    refine gw_iconst C dX8_close_73 ?_
    exact gw_iret C (Nat.le_of_ble_eq_true rfl) (Nat.le_of_ble_eq_true rfl) dX8_close_74 (mm_1 (by unfold kClose; (repeat (first | rw [if_pos (by omega)] | rw [if_neg (by omega)]))) (by decide))
theorem ad_o {S : Nat → Int} {t q n : Nat} {sh lf : Int} (hn : n ≤ 12) (h : q ≤ 104 + 28 * t ∨ 130 + 28 * t ≤ q ∨ (q = 105 + 28 * t + 2 * ((q - (105 + 28 * t)) / 2) ∧ q ≠ 105 + 28 * t)) : adS S t sh lf n q = S q := adS_o (by omega) _ (fun k hk => by omega)
theorem oks_adS {S : Nat → Int} {t n : Nat} {sh lf : Int} (ho : Oks S) (ht9 : (t : Int) < S 5) (hn : n ≤ 12) : Oks (adS S t sh lf n) := by
  have o9 := (ho.2.2.2.2 t ht9).1.2.1
  obtain ⟨o1, o2, o3, o4, o5⟩ := ho
  have eS : ∀ q, q ≤ 104 + 28 * t → adS S t sh lf n q = S q := fun q hq => ad_o hn (by omega)
  unfold Oks
  rw [eS 0 (by omega), eS 1 (by omega), eS 2 (by omega), eS 3 (by omega), eS 4 (by omega), eS 5 (by omega)]
  refine ⟨o1, o2, fun q hq => ?_, fun q hq => ?_, fun q hq => ?_⟩
  · have hw := o3 q hq
    rw [eS _ (by omega), eS _ (by omega), eS _ (by omega)]
    exact ⟨hw.1, fun k hk => by rw [eS _ (by omega)]; exact hw.2 k hk⟩
  · have hw := o4 q hq
    rw [eS _ (by omega), eS _ (by omega), eS _ (by omega), eS _ (by omega), eS _ (by omega), eS _ (by omega)]
    exact hw
  · have hw := o5 q hq
    have hb := hw.1.2.1
    by_cases e : q = t
    · subst q
      rw [eS _ (by omega), eS _ (by omega), eS _ (by omega)]
      refine ⟨hw.1, fun hc => ⟨?_, (hw.2.1 hc).2⟩, fun k hk => ⟨?_, ?_⟩⟩
      · rw [adS_c]
        have := normZ_b (S (105 + 28 * t) - sh)
        omega
      · by_cases c : k < n
        · rw [adS_a _ k c]
          have := normZ_b (S (106 + 28 * t + 2 * k) - (sh + moF (rkF (sLe S t) k (sLg S t)) lf))
          omega
        · rw [adS_o (by omega) _ (fun j hj => by omega)]; exact (hw.2.2 k hk).1
      · rw [ad_o hn (by omega)]; exact (hw.2.2 k hk).2
    · rw [ad_o hn (by omega), ad_o hn (by omega), ad_o hn (by omega), ad_o hn (by omega)]
      exact ⟨hw.1, hw.2.1, fun k hk => by rw [ad_o hn (by omega), ad_o hn (by omega)]; exact hw.2.2 k hk⟩
theorem moF_1 {u lf : Int} (h : u < (lf.natAbs : Int)) (h2 : 0 < lf) : moF u lf = 1 := by unfold moF; rw [if_pos h, if_neg (by omega)]
theorem moF_2 {u lf : Int} (h : u < (lf.natAbs : Int)) (h2 : lf ≤ 0) (h3 : 0 ≤ u) : moF u lf = -1 := by unfold moF; rw [if_pos h, if_pos (by omega)]
theorem moF_0 {u lf : Int} (h : (lf.natAbs : Int) ≤ u) : moF u lf = 0 := by unfold moF; rw [if_neg (by omega)]
theorem sLe_9 (S : Nat → Int) (t q : Nat) : sLe S t q = S (107 + 28 * t + 2 * q) := rfl
set_option maxHeartbeats 4000000 in
set_option maxRecDepth 100000 in
theorem c_X8_turns {l : Launch} (hl0 : l.stackTraces = false) (G : GG) (I J : GI) {z : Nat} (p9 y : Int) (hp9 : 0 ≤ p9 ∧ p9 < 214) (hy : -20000000 ≤ y ∧ y ≤ 20000000) : GM l yX8_turns (.code yX8_turns cX8_turns 3 none) 1 23 0 0 G N0 SH RR [vR 231, vI p9, vI y] z I J (memQ none (up I 232 p9.toNat (normZ (I 232 p9.toNat - y))) J) gNo := by
  refine gm_of (lo0 := [some (vR 231), some (vI p9), some (vI y)]) hl0 (by decide) rfl (Nat.le_of_ble_eq_true rfl) ?_
  intro p e s m args below meth c C ht hgi
  have C : gC G p l s m args meth c cX8_turns 3 RX8 none "turns" := C
  refine gw_aload_n C 0 dX8_turns_0 rfl rfl ?_
  refine gw_getRs (ci := 7) (Cn := RX8) (T0 := TX8) (N := 10) C 232 0 kX8_7 fX8 rfl (by decide) rfl rfl dX8_turns_1 xs_231 xn_231 xr_231_0 ?_
  refine gw_iload_n C 1 dX8_turns_4 rfl rfl ?_
  refine gw_aload_n C 0 dX8_turns_5 rfl rfl ?_
  refine gw_getRs (ci := 7) (Cn := RX8) (T0 := TX8) (N := 10) C 232 0 kX8_7 fX8 rfl (by decide) rfl rfl dX8_turns_6 xs_231 xn_231 xr_231_0 ?_
  refine gw_iload_n C 1 dX8_turns_9 rfl rfl ?_
  refine gw_iald C ((p9).toNat) dX8_turns_10 xs_232 xn_232 (by omega) (by omega) (by decide) (fun hI_10 => ?_)
  refine gw_i2l C dX8_turns_11 hI_10 ?_
  refine gw_iload_n C 2 dX8_turns_12 rfl rfl ?_
  refine gw_i2l C dX8_turns_13 (by first | omega | exact hgi _ _) ?_
  refine gw_lsub C dX8_turns_14 ?_
  refine gw_callSm C (as := [vL ((I 232 ((p9).toNat)) - y)]) (st := [vI p9, vR 232]) (c_X8_normed hl0 G ((I 232 ((p9).toNat)) - y) (by omega)) dX8_turns_15 kX8_39 qX8_normed hdX8_normed ⟨Nat.le_of_ble_eq_true rfl, Nat.le_of_ble_eq_true rfl⟩ ⟨Nat.le_of_ble_eq_true rfl, Nat.le_of_ble_eq_true rfl⟩ (Nat.le_of_ble_eq_true rfl) rfl (fun z_15 => ?_)
  have hr_15 := normZ_b ((I 232 ((p9).toNat)) - y)
  refine gw_iast C ((p9).toNat) dX8_turns_18 xs_232 xn_232 (by omega) (by omega) (by decide) (by first | omega | exact hgi _ _) ?_
  exact gw_vret C (Nat.le_of_ble_eq_true rfl) (Nat.le_of_ble_eq_true rfl) dX8_turns_19 (⟨rfl, rfl, rfl⟩)
set_option maxHeartbeats 4000000 in
set_option maxRecDepth 100000 in
theorem c_X8_adjust {l : Launch} (hl0 : l.stackTraces = false) (G : GG) (I J : GI) {z : Nat} (ho : Oks (I 232)) (hp : 0 ≤ I 231 2 ∧ I 231 2 ≤ 4) (hru : 0 ≤ I 231 3 ∧ I 231 3 ≤ 1) (x1 : Int) (hx1 : inI x1) : GM l yX8_adjust (.code yX8_adjust cX8_adjust 11 (some .int)) 6 136 0 0 G N0 SH RR [vR 231, vI x1] z I J (mmQ (kAdj (I 232) x1) (sG (I 232) x1.toNat) I J (oAdj (I 232) x1.toNat)) gNo := by
  refine gm_of (lo0 := [some (vR 231), some (vI x1), none, none, none, none, none, none, none, none, none]) hl0 (by decide) rfl (Nat.le_of_ble_eq_true rfl) ?_
  intro p e s m args below meth c C ht hgi
  have C : gC G p l s m args meth c cX8_adjust 11 RX8 (some .int) "adjust" := C
  have h3 := ho.2.1
  have h0 := ho.1
  have hot := fun (h : 0 ≤ x1 ∧ x1 < I 232 5) => okT ho (t := x1.toNat) (by omega)
  have h67 := sTT_67 (S := I 232) (t := x1.toNat)
  refine gw_aload_n C 0 dX8_adjust_0 rfl rfl ?_
  refine gw_aload_n C 0 dX8_adjust_1 rfl rfl ?_
  refine gw_iload_n C 1 dX8_adjust_2 rfl rfl ?_
  refine gw_callVb C (as := [vI x1]) (st := [vR 231]) (ci := 7) (T0 := TX8) (N := 10) (c_X8_isTraverse hl0 G I J ho x1 (by first | assumption | omega)) dX8_adjust_3 kX8_155 qX8_isTraverse hdX8_isTraverse ⟨Nat.le_of_ble_eq_true rfl, Nat.le_of_ble_eq_true rfl⟩ ⟨Nat.le_of_ble_eq_true rfl, Nat.le_of_ble_eq_true rfl⟩ (Nat.le_of_ble_eq_true rfl) rfl xs_231 xn_231 rfl (fun h_3 z_3 => ?_) (fun h_3 z_3 => ?_)
  · skip
    refine gw_if_ne C (tgt := 13) dX8_adjust_6 (by decide) ⟨by decide, by decide⟩ (fun _ => ?_) (fun h => absurd h (by decide))
    refine gw_aload_n C 0 dX8_adjust_13 rfl rfl ?_
    refine gw_iload_n C 1 dX8_adjust_14 rfl rfl ?_
    refine gw_callVb C (as := [vI x1]) (st := [vR 231]) (ci := 7) (T0 := TX8) (N := 10) (c_X8_isClosed hl0 G I J ho x1 (by omega)) dX8_adjust_15 kX8_158 qX8_isClosed hdX8_isClosed ⟨Nat.le_of_ble_eq_true rfl, Nat.le_of_ble_eq_true rfl⟩ ⟨Nat.le_of_ble_eq_true rfl, Nat.le_of_ble_eq_true rfl⟩ (Nat.le_of_ble_eq_true rfl) rfl xs_231 xn_231 rfl (fun h_15 z_15 => ?_) (fun h_15 z_15 => ?_)
    · skip
      refine gw_if_eq C (tgt := 29) dX8_adjust_18 (by decide) ⟨by decide, by decide⟩ (fun h => absurd h (by decide)) (fun _ => ?_)
      refine gw_aload_n C 0 dX8_adjust_21 rfl rfl ?_
      refine gw_iload_n C 1 dX8_adjust_22 rfl rfl ?_
      refine gw_callVm C (as := [vI x1]) (st := [vR 231]) (ci := 7) (T0 := TX8) (N := 10) (c_X8_troubleOf hl0 G I J ho x1 (by omega)) dX8_adjust_23 kX8_176 qX8_troubleOf hdX8_troubleOf ⟨Nat.le_of_ble_eq_true rfl, Nat.le_of_ble_eq_true rfl⟩ ⟨Nat.le_of_ble_eq_true rfl, Nat.le_of_ble_eq_true rfl⟩ (Nat.le_of_ble_eq_true rfl) rfl xs_231 xn_231 rfl (fun z_23 => ?_)
      have hr_23 := sTT_v (I 232) ((x1).toNat)
      refine gw_if_le C (tgt := 33) dX8_adjust_26 (by decide) (by first | omega | exact hgi _ _) (fun h_26 => ?_) (fun h_26 => ?_)
      · skip
        refine gw_iconst C dX8_adjust_33 ?_
        refine gw_callVm C (as := [vI 0]) (st := []) (ci := 7) (T0 := TX8) (N := 10) (c_X8_throwsAt hl0 G I J 0 ⟨by decide, by decide⟩) dX8_adjust_34 kX8_70 qX8_throwsAt hdX8_throwsAt ⟨Nat.le_of_ble_eq_true rfl, Nat.le_of_ble_eq_true rfl⟩ ⟨Nat.le_of_ble_eq_true rfl, Nat.le_of_ble_eq_true rfl⟩ (Nat.le_of_ble_eq_true rfl) rfl xs_231 xn_231 rfl (fun z_34 => ?_)
        rw [show (if (0 : Int) < 0 then (1 : Int) else 0) = 0 from by decide]
        refine gw_if_eq C (tgt := 42) dX8_adjust_37 (by decide) ⟨by decide, by decide⟩ (fun _ => ?_) (fun h => absurd h (by decide))
        have hot_ := hot (by omega)
        have hcb9 := hot_.2.1 (by omega)
        refine gw_aload_n C 0 dX8_adjust_42 rfl rfl ?_
        refine gw_callV C (as := []) (st := []) (ci := 7) (T0 := TX8) (N := 10) (c_X8_saves hl0 G (up I 231 6 0) J (by rw [show up I 231 6 0 231 2 = I 231 2 from up_ne2 (by decide)]; exact hp) (by rw [show up I 231 6 0 231 3 = I 231 3 from up_ne2 (by decide)]; exact hru)) dX8_adjust_43 kX8_74 qX8_saves hdX8_saves ⟨Nat.le_of_ble_eq_true rfl, Nat.le_of_ble_eq_true rfl⟩ ⟨Nat.le_of_ble_eq_true rfl, Nat.le_of_ble_eq_true rfl⟩ (Nat.le_of_ble_eq_true rfl) rfl xs_231 xn_231 rfl (fun _ _ _ _ h => h.elim) ?_
        intro v_43 z_43_2 Ks J_43 hv_43
        obtain ⟨ev_43, hsv, eJ_43⟩ := hv_43
        rw [ev_43, eJ_43]
        have hK232 := sv_232 hsv
        show GW G p l e ({ frames := 6, cells := 0, slots := 0, locals := 136 } : Room) s m args below meth c 11 z_43_2 N0 SH RR Ks J 0 0 (vx_MQ below (GQ G N0 SH RR (mmQ (kAdj (I 232) x1) (sG (I 232) x1.toNat) I J (oAdj (I 232) x1.toNat))) (GX G N0 SH RR gNo) args s 0 0 (ge G)) 46 [some (vR 231), some (vI x1), none, none, none, none, none, none, none, none, none] []
        refine gw_bipush C dX8_adjust_46 rfl ?_
        refine gw_bipush C dX8_adjust_48 rfl ?_
        refine gw_iload_n C 1 dX8_adjust_50 rfl rfl ?_
        refine gw_imul C dX8_adjust_51 ?_
        refine gw_iadd C dX8_adjust_52 ?_
        refine gw_istore_n C (lo1 := [some (vR 231), some (vI x1), some (vI (102 + (28 * x1))), none, none, none, none, none, none, none, none]) 2 dX8_adjust_53 rfl (by decide) rfl ?_
        refine gw_aload_n C 0 dX8_adjust_54 rfl rfl ?_
        refine gw_iload_n C 1 dX8_adjust_55 rfl rfl ?_
        refine gw_callVm C (as := [vI x1]) (st := []) (ci := 7) (T0 := TX8) (N := 10) (c_X8_gap hl0 G Ks J (by rw [show Ks 232 = I 232 from hK232]; exact ho) x1 (by first | (rw [show Ks 232 = I 232 from hK232]; omega) | (omega)) (by first | (rw [show Ks 232 = I 232 from hK232]; omega) | (omega)) (by first | (rw [show Ks 232 = I 232 from hK232]; omega) | (omega)) (by first | (rw [show Ks 232 = I 232 from hK232]; omega) | (omega))) dX8_adjust_56 kX8_170 qX8_gap hdX8_gap ⟨Nat.le_of_ble_eq_true rfl, Nat.le_of_ble_eq_true rfl⟩ ⟨Nat.le_of_ble_eq_true rfl, Nat.le_of_ble_eq_true rfl⟩ (Nat.le_of_ble_eq_true rfl) rfl xs_231 xn_231 rfl (fun z_56 => ?_)
        rw [show Ks 232 = I 232 from hK232]
        have hr_56 := sG_b (I 232) ((x1).toNat)
        refine gw_istore_n C (lo1 := [some (vR 231), some (vI x1), some (vI (102 + (28 * x1))), some (vI (sG (I 232) ((x1).toNat))), none, none, none, none, none, none, none]) 3 dX8_adjust_59 rfl (by decide) rfl ?_
        refine gw_aload_n C 0 dX8_adjust_60 rfl rfl ?_
        refine gw_iload_n C 1 dX8_adjust_61 rfl rfl ?_
        refine gw_callVm C (as := [vI x1]) (st := []) (ci := 7) (T0 := TX8) (N := 10) (c_X8_legs hl0 G Ks J (by rw [show Ks 232 = I 232 from hK232]; exact ho) x1 (by first | (rw [show Ks 232 = I 232 from hK232]; omega) | (omega))) dX8_adjust_62 kX8_77 qX8_legs hdX8_legs ⟨Nat.le_of_ble_eq_true rfl, Nat.le_of_ble_eq_true rfl⟩ ⟨Nat.le_of_ble_eq_true rfl, Nat.le_of_ble_eq_true rfl⟩ (Nat.le_of_ble_eq_true rfl) rfl xs_231 xn_231 rfl (fun z_62 => ?_)
        rw [show Ks 232 = I 232 from hK232]
        refine gw_istore C (lo1 := [some (vR 231), some (vI x1), some (vI (102 + (28 * x1))), some (vI (sG (I 232) ((x1).toNat))), some (vI (I 232 (103 + 28 * ((x1).toNat)))), none, none, none, none, none, none]) dX8_adjust_65 (by decide) rfl ?_
        refine gw_iload_n C 3 dX8_adjust_67 rfl rfl ?_
        refine gw_iload C dX8_adjust_68 rfl ?_
        refine gw_iconst C dX8_adjust_70 ?_
        refine gw_iadd C dX8_adjust_71 ?_
        refine gw_idiv C dX8_adjust_72 (by first | omega | exact hgi _ _) (by first | omega | exact hgi _ _) (by omega) ?_
        refine gw_istore C (lo1 := [some (vR 231), some (vI x1), some (vI (102 + (28 * x1))), some (vI (sG (I 232) ((x1).toNat))), some (vI (I 232 (103 + 28 * ((x1).toNat)))), some (vI (((sG (I 232) ((x1).toNat))).tdiv ((I 232 (103 + 28 * ((x1).toNat))) + 1))), none, none, none, none, none]) dX8_adjust_73 (by decide) rfl ?_
        refine gw_iload_n C 3 dX8_adjust_75 rfl rfl ?_
        refine gw_iload C dX8_adjust_76 rfl ?_
        refine gw_iload C dX8_adjust_78 rfl ?_
        refine gw_iconst C dX8_adjust_80 ?_
        refine gw_iadd C dX8_adjust_81 ?_
        refine gw_imul C dX8_adjust_82 ?_
        refine gw_isub C dX8_adjust_83 ?_
        refine gw_istore C (lo1 := [some (vR 231), some (vI x1), some (vI (102 + (28 * x1))), some (vI (sG (I 232) ((x1).toNat))), some (vI (I 232 (103 + 28 * ((x1).toNat)))), some (vI (((sG (I 232) ((x1).toNat))).tdiv ((I 232 (103 + 28 * ((x1).toNat))) + 1))), some (vI ((sG (I 232) ((x1).toNat)) - (((sG (I 232) ((x1).toNat))).tdiv ((I 232 (103 + 28 * ((x1).toNat))) + 1) * ((I 232 (103 + 28 * ((x1).toNat))) + 1)))), none, none, none, none]) dX8_adjust_84 (by decide) rfl ?_
        rw [show ((sG (I 232) ((x1).toNat)) - (((sG (I 232) ((x1).toNat))).tdiv ((I 232 (103 + 28 * ((x1).toNat))) + 1) * ((I 232 (103 + 28 * ((x1).toNat))) + 1))) = lfZ (I 232) x1.toNat from rfl]
        rw [show ((sG (I 232) ((x1).toNat))).tdiv ((I 232 (103 + 28 * ((x1).toNat))) + 1) = shZ (I 232) x1.toNat from rfl]
        have hsz := tdiv_b (sG (I 232) x1.toNat) (c := I 232 (103 + 28 * x1.toNat) + 1) (by omega)
        have hlz : -13 ≤ lfZ (I 232) x1.toNat ∧ lfZ (I 232) x1.toNat ≤ 13 := by have h9 := lf_b (sG (I 232) x1.toNat) (c := I 232 (103 + 28 * x1.toNat) + 1) (by omega); unfold lfZ shZ; rw [Int.mul_comm]; omega
        have hsz2 : -648000 ≤ shZ (I 232) x1.toNat ∧ shZ (I 232) x1.toNat ≤ 648000 := by unfold shZ; omega
        refine gw_aload_n C 0 dX8_adjust_86 rfl rfl ?_
        refine gw_iload_n C 2 dX8_adjust_87 rfl rfl ?_
        refine gw_iconst C dX8_adjust_88 ?_
        refine gw_iadd C dX8_adjust_89 ?_
        refine gw_iload C dX8_adjust_90 rfl ?_
        refine gw_callVm C (as := [vI ((102 + (28 * x1)) + 3), vI (shZ (I 232) x1.toNat)]) (st := []) (ci := 7) (T0 := TX8) (N := 10) (c_X8_turns hl0 G Ks J ((102 + (28 * x1)) + 3) (shZ (I 232) x1.toNat) (by omega) (by omega)) dX8_adjust_92 kX8_179 qX8_turns hdX8_turns ⟨Nat.le_of_ble_eq_true rfl, Nat.le_of_ble_eq_true rfl⟩ ⟨Nat.le_of_ble_eq_true rfl, Nat.le_of_ble_eq_true rfl⟩ (Nat.le_of_ble_eq_true rfl) rfl xs_231 xn_231 rfl (fun z_92 => ?_)
        rw [show ((102 + (28 * x1)) + 3).toNat = (105 + 28 * x1.toNat) from by omega]
        refine gw_iconst C dX8_adjust_95 ?_
        refine gw_istore C (lo1 := [some (vR 231), some (vI x1), some (vI (102 + (28 * x1))), some (vI (sG (I 232) ((x1).toNat))), some (vI (I 232 (103 + 28 * ((x1).toNat)))), some (vI (shZ (I 232) x1.toNat)), some (vI (lfZ (I 232) x1.toNat)), some (vI 0), none, none, none]) dX8_adjust_96 (by decide) rfl ?_
        have loop_98 : ∀ (fuel : Nat) (k : Nat) (Ka : GI) (z1 : Nat), ((k : Int) ≤ I 232 (103 + 28 * x1.toNat)) → (Ka 232 = adS (I 232) x1.toNat (shZ (I 232) x1.toNat) (lfZ (I 232) x1.toNat) k) → (∀ q f, q ≠ 232 → Ka q f = Ks q f) → 13 - k < fuel → GW G p l e ({ frames := 6, cells := 0, slots := 0, locals := 136 } : Room) s m args below meth c 11 z1 N0 SH RR Ka J 0 0 (vx_MQ below (GQ G N0 SH RR (mmQ (kAdj (I 232) x1) (sG (I 232) x1.toNat) I J (oAdj (I 232) x1.toNat))) (GX G N0 SH RR gNo) args s 0 0 (ge G)) 98 [some (vR 231), some (vI x1), some (vI (102 + (28 * x1))), some (vI (sG (I 232) ((x1).toNat))), some (vI (I 232 (103 + 28 * ((x1).toNat)))), some (vI (shZ (I 232) x1.toNat)), some (vI (lfZ (I 232) x1.toNat)), some (vI (k : Int)), none, none, none] [] := by
          intro fuel
          induction fuel with
          | zero => intro k Ka z1 hk hKa hKo hf_98; exact absurd hf_98 (Nat.not_lt_zero _)
          | succ fuel ih_98 =>
            intro k Ka z1 hk hKa hKo hf_98
            refine gw_iload C dX8_adjust_98 rfl ?_
            refine gw_iload C dX8_adjust_100 rfl ?_
            refine gw_icmp_ge C (tgt := 232) dX8_adjust_102 (by decide) (by first | omega | exact hgi _ _) (by first | omega | exact hgi _ _) (fun h_102 => ?_) (fun h_102 => ?_)
            · skip
              refine gw_iload_n C 3 dX8_adjust_232 rfl rfl ?_
              exact gw_iret C (Nat.le_of_ble_eq_true rfl) (Nat.le_of_ble_eq_true rfl) dX8_adjust_233 (mm_0 (by unfold kAdj; (repeat (first | rw [if_pos (by omega)] | rw [if_neg (by omega)]))) rfl (md_of hsv (by rw [hKa, show k = sLg (I 232) x1.toNat from by unfold sLg; omega]; rfl) hKo))
            · skip
              refine gw_iconst C dX8_adjust_105 ?_
              refine gw_istore C (lo1 := [some (vR 231), some (vI x1), some (vI (102 + (28 * x1))), some (vI (sG (I 232) ((x1).toNat))), some (vI (I 232 (103 + 28 * ((x1).toNat)))), some (vI (shZ (I 232) x1.toNat)), some (vI (lfZ (I 232) x1.toNat)), some (vI (k : Int)), some (vI 0), none, none]) dX8_adjust_106 (by decide) rfl ?_
              refine gw_iconst C dX8_adjust_108 ?_
              refine gw_istore C (lo1 := [some (vR 231), some (vI x1), some (vI (102 + (28 * x1))), some (vI (sG (I 232) ((x1).toNat))), some (vI (I 232 (103 + 28 * ((x1).toNat)))), some (vI (shZ (I 232) x1.toNat)), some (vI (lfZ (I 232) x1.toNat)), some (vI (k : Int)), some (vI 0), some (vI 0), none]) dX8_adjust_109 (by decide) rfl ?_
              have loop_111 : ∀ (fuel : Nat) (u : Int) (j : Nat) (z2 : Nat), ((j : Int) ≤ I 232 (103 + 28 * x1.toNat)) → (u = rkF (sLe (I 232) x1.toNat) k j) → 13 - j < fuel → GW G p l e ({ frames := 6, cells := 0, slots := 0, locals := 136 } : Room) s m args below meth c 11 z2 N0 SH RR Ka J 0 0 (vx_MQ below (GQ G N0 SH RR (mmQ (kAdj (I 232) x1) (sG (I 232) x1.toNat) I J (oAdj (I 232) x1.toNat))) (GX G N0 SH RR gNo) args s 0 0 (ge G)) 111 [some (vR 231), some (vI x1), some (vI (102 + (28 * x1))), some (vI (sG (I 232) ((x1).toNat))), some (vI (I 232 (103 + 28 * ((x1).toNat)))), some (vI (shZ (I 232) x1.toNat)), some (vI (lfZ (I 232) x1.toNat)), some (vI (k : Int)), some (vI u), some (vI (j : Int)), none] [] := by
                intro fuel
                induction fuel with
                | zero => intro u j z2 hj hu hf_111; exact absurd hf_111 (Nat.not_lt_zero _)
                | succ fuel ih_111 =>
                  intro u j z2 hj hu hf_111
                  have hub := rkF_b (l := sLe (I 232) x1.toNat) (k := k) j
                  rw [← hu] at hub
                  refine gw_iload C dX8_adjust_111 rfl ?_
                  refine gw_iload C dX8_adjust_113 rfl ?_
                  refine gw_icmp_ge C (tgt := 187) dX8_adjust_115 (by decide) (by first | omega | exact hgi _ _) (by first | omega | exact hgi _ _) (fun h_115 => ?_) (fun h_115 => ?_)
                  · skip
                    refine gw_aload_n C 0 dX8_adjust_187 rfl rfl ?_
                    refine gw_iload_n C 2 dX8_adjust_188 rfl rfl ?_
                    refine gw_iconst C dX8_adjust_189 ?_
                    refine gw_iadd C dX8_adjust_190 ?_
                    refine gw_iconst C dX8_adjust_191 ?_
                    refine gw_iload C dX8_adjust_192 rfl ?_
                    refine gw_imul C dX8_adjust_194 ?_
                    refine gw_iadd C dX8_adjust_195 ?_
                    refine gw_iload C dX8_adjust_196 rfl ?_
                    refine gw_iload C dX8_adjust_198 rfl ?_
                    refine gw_iload C dX8_adjust_200 rfl ?_
                    refine gw_callSm C (as := [vI (lfZ (I 232) x1.toNat)]) (st := [vI u, vI (shZ (I 232) x1.toNat), vI (((102 + (28 * x1)) + 4) + (2 * (k : Int))), vR 231]) (c_X8_size hl0 G (lfZ (I 232) x1.toNat) (by omega)) dX8_adjust_202 kX8_99 qX8_size hdX8_size ⟨Nat.le_of_ble_eq_true rfl, Nat.le_of_ble_eq_true rfl⟩ ⟨Nat.le_of_ble_eq_true rfl, Nat.le_of_ble_eq_true rfl⟩ (Nat.le_of_ble_eq_true rfl) rfl (fun z_202 => ?_)
                    refine gw_icmp_ge C (tgt := 221) dX8_adjust_205 (by decide) (by first | omega | exact hgi _ _) (by first | omega | exact hgi _ _) (fun h_205 => ?_) (fun h_205 => ?_)
                    · skip
                      refine gw_iconst C dX8_adjust_221 ?_
                      refine gw_iadd C dX8_adjust_222 ?_
                      refine gw_callVm C (as := [vI (((102 + (28 * x1)) + 4) + (2 * (k : Int))), vI ((shZ (I 232) x1.toNat) + 0)]) (st := []) (ci := 7) (T0 := TX8) (N := 10) (c_X8_turns hl0 G Ka J (((102 + (28 * x1)) + 4) + (2 * (k : Int))) ((shZ (I 232) x1.toNat) + 0) (by omega) (by omega)) dX8_adjust_223 kX8_179 qX8_turns hdX8_turns ⟨Nat.le_of_ble_eq_true rfl, Nat.le_of_ble_eq_true rfl⟩ ⟨Nat.le_of_ble_eq_true rfl, Nat.le_of_ble_eq_true rfl⟩ (Nat.le_of_ble_eq_true rfl) rfl xs_231 xn_231 rfl (fun z_223 => ?_)
                      rw [show (((102 + (28 * x1)) + 4) + (2 * (k : Int))).toNat = (106 + 28 * x1.toNat + 2 * k) from by omega]
                      refine gw_iinc C (lo1 := [some (vR 231), some (vI x1), some (vI (102 + (28 * x1))), some (vI (sG (I 232) ((x1).toNat))), some (vI (I 232 (103 + 28 * ((x1).toNat)))), some (vI (shZ (I 232) x1.toNat)), some (vI (lfZ (I 232) x1.toNat)), some (vI ((k : Int) + 1)), some (vI u), some (vI (j : Int)), none]) dX8_adjust_226 rfl (by decide) rfl ?_
                      refine gw_goto C (tgt := 98) dX8_adjust_229 (by decide) ?_
                      exact gw_weak (lo' := [some (vR 231), some (vI x1), some (vI (102 + (28 * x1))), some (vI (sG (I 232) ((x1).toNat))), some (vI (I 232 (103 + 28 * ((x1).toNat)))), some (vI (shZ (I 232) x1.toNat)), some (vI (lfZ (I 232) x1.toNat)), some (vI (((k + 1) : Nat) : Int)), none, none, none]) ⟨rfl, rfl, rfl, rfl, rfl, rfl, rfl, congrArg (fun q => some (vI q)) (by omega), trivial⟩ (ih_98 (k + 1) (up Ka 232 (106 + 28 * x1.toNat + 2 * k) (normZ ((Ka 232 (106 + 28 * x1.toNat + 2 * k)) - ((shZ (I 232) x1.toNat) + 0)))) z_223 (by omega) (by rw [up_us, hKa, adS_s]; congr 2; rw [adS_o (by omega) _ (fun q hq => by omega)]; congr 1; rw [show sLg (I 232) x1.toNat = j from by unfold sLg; omega, ← hu]; first | rw [moF_1 (by omega) (by omega)] | rw [moF_2 (by omega) (by omega) (by omega)] | rw [moF_0 (by omega)]) (by intro q f hq; rw [up_ne hq]; exact hKo q f hq) (by omega))
                    · skip
                      refine gw_iload C dX8_adjust_208 rfl ?_
                      refine gw_if_le C (tgt := 217) dX8_adjust_210 (by decide) (by first | omega | exact hgi _ _) (fun h_210 => ?_) (fun h_210 => ?_)
                      · skip
                        refine gw_iconst C dX8_adjust_217 ?_
                        refine gw_goto C (tgt := 222) dX8_adjust_218 (by decide) ?_
                        refine gw_iadd C dX8_adjust_222 ?_
                        refine gw_callVm C (as := [vI (((102 + (28 * x1)) + 4) + (2 * (k : Int))), vI ((shZ (I 232) x1.toNat) + (-1))]) (st := []) (ci := 7) (T0 := TX8) (N := 10) (c_X8_turns hl0 G Ka J (((102 + (28 * x1)) + 4) + (2 * (k : Int))) ((shZ (I 232) x1.toNat) + (-1)) (by omega) (by omega)) dX8_adjust_223 kX8_179 qX8_turns hdX8_turns ⟨Nat.le_of_ble_eq_true rfl, Nat.le_of_ble_eq_true rfl⟩ ⟨Nat.le_of_ble_eq_true rfl, Nat.le_of_ble_eq_true rfl⟩ (Nat.le_of_ble_eq_true rfl) rfl xs_231 xn_231 rfl (fun z_223_2 => ?_)
                        rw [show (((102 + (28 * x1)) + 4) + (2 * (k : Int))).toNat = (106 + 28 * x1.toNat + 2 * k) from by omega]
                        refine gw_iinc C (lo1 := [some (vR 231), some (vI x1), some (vI (102 + (28 * x1))), some (vI (sG (I 232) ((x1).toNat))), some (vI (I 232 (103 + 28 * ((x1).toNat)))), some (vI (shZ (I 232) x1.toNat)), some (vI (lfZ (I 232) x1.toNat)), some (vI ((k : Int) + 1)), some (vI u), some (vI (j : Int)), none]) dX8_adjust_226 rfl (by decide) rfl ?_
                        refine gw_goto C (tgt := 98) dX8_adjust_229 (by decide) ?_
                        exact gw_weak (lo' := [some (vR 231), some (vI x1), some (vI (102 + (28 * x1))), some (vI (sG (I 232) ((x1).toNat))), some (vI (I 232 (103 + 28 * ((x1).toNat)))), some (vI (shZ (I 232) x1.toNat)), some (vI (lfZ (I 232) x1.toNat)), some (vI (((k + 1) : Nat) : Int)), none, none, none]) ⟨rfl, rfl, rfl, rfl, rfl, rfl, rfl, congrArg (fun q => some (vI q)) (by omega), trivial⟩ (ih_98 (k + 1) (up Ka 232 (106 + 28 * x1.toNat + 2 * k) (normZ ((Ka 232 (106 + 28 * x1.toNat + 2 * k)) - ((shZ (I 232) x1.toNat) + (-1))))) z_223_2 (by omega) (by rw [up_us, hKa, adS_s]; congr 2; rw [adS_o (by omega) _ (fun q hq => by omega)]; congr 1; rw [show sLg (I 232) x1.toNat = j from by unfold sLg; omega, ← hu]; first | rw [moF_1 (by omega) (by omega)] | rw [moF_2 (by omega) (by omega) (by omega)] | rw [moF_0 (by omega)]) (by intro q f hq; rw [up_ne hq]; exact hKo q f hq) (by omega))
                      · skip
                        refine gw_iconst C dX8_adjust_213 ?_
                        refine gw_goto C (tgt := 222) dX8_adjust_214 (by decide) ?_
                        refine gw_iadd C dX8_adjust_222 ?_
                        refine gw_callVm C (as := [vI (((102 + (28 * x1)) + 4) + (2 * (k : Int))), vI ((shZ (I 232) x1.toNat) + 1)]) (st := []) (ci := 7) (T0 := TX8) (N := 10) (c_X8_turns hl0 G Ka J (((102 + (28 * x1)) + 4) + (2 * (k : Int))) ((shZ (I 232) x1.toNat) + 1) (by omega) (by omega)) dX8_adjust_223 kX8_179 qX8_turns hdX8_turns ⟨Nat.le_of_ble_eq_true rfl, Nat.le_of_ble_eq_true rfl⟩ ⟨Nat.le_of_ble_eq_true rfl, Nat.le_of_ble_eq_true rfl⟩ (Nat.le_of_ble_eq_true rfl) rfl xs_231 xn_231 rfl (fun z_223_3 => ?_)
                        rw [show (((102 + (28 * x1)) + 4) + (2 * (k : Int))).toNat = (106 + 28 * x1.toNat + 2 * k) from by omega]
                        refine gw_iinc C (lo1 := [some (vR 231), some (vI x1), some (vI (102 + (28 * x1))), some (vI (sG (I 232) ((x1).toNat))), some (vI (I 232 (103 + 28 * ((x1).toNat)))), some (vI (shZ (I 232) x1.toNat)), some (vI (lfZ (I 232) x1.toNat)), some (vI ((k : Int) + 1)), some (vI u), some (vI (j : Int)), none]) dX8_adjust_226 rfl (by decide) rfl ?_
                        refine gw_goto C (tgt := 98) dX8_adjust_229 (by decide) ?_
                        exact gw_weak (lo' := [some (vR 231), some (vI x1), some (vI (102 + (28 * x1))), some (vI (sG (I 232) ((x1).toNat))), some (vI (I 232 (103 + 28 * ((x1).toNat)))), some (vI (shZ (I 232) x1.toNat)), some (vI (lfZ (I 232) x1.toNat)), some (vI (((k + 1) : Nat) : Int)), none, none, none]) ⟨rfl, rfl, rfl, rfl, rfl, rfl, rfl, congrArg (fun q => some (vI q)) (by omega), trivial⟩ (ih_98 (k + 1) (up Ka 232 (106 + 28 * x1.toNat + 2 * k) (normZ ((Ka 232 (106 + 28 * x1.toNat + 2 * k)) - ((shZ (I 232) x1.toNat) + 1)))) z_223_3 (by omega) (by rw [up_us, hKa, adS_s]; congr 2; rw [adS_o (by omega) _ (fun q hq => by omega)]; congr 1; rw [show sLg (I 232) x1.toNat = j from by unfold sLg; omega, ← hu]; first | rw [moF_1 (by omega) (by omega)] | rw [moF_2 (by omega) (by omega) (by omega)] | rw [moF_0 (by omega)]) (by intro q f hq; rw [up_ne hq]; exact hKo q f hq) (by omega))
                  · skip
                    refine gw_aload_n C 0 dX8_adjust_118 rfl rfl ?_
                    refine gw_iload_n C 1 dX8_adjust_119 rfl rfl ?_
                    refine gw_iload C dX8_adjust_120 rfl ?_
                    refine gw_callVm C (as := [vI x1, vI (j : Int)]) (st := []) (ci := 7) (T0 := TX8) (N := 10) (c_X8_length hl0 G Ka J (by rw [show Ka 232 = (adS (I 232) x1.toNat (shZ (I 232) x1.toNat) (lfZ (I 232) x1.toNat) k) from hKa]; exact (oks_adS ho (by omega) (by omega))) x1 (j : Int) (by first | (rw [show Ka 232 = (adS (I 232) x1.toNat (shZ (I 232) x1.toNat) (lfZ (I 232) x1.toNat) k) from hKa]; omega) | (omega))) dX8_adjust_122 kX8_183 qX8_length hdX8_length ⟨Nat.le_of_ble_eq_true rfl, Nat.le_of_ble_eq_true rfl⟩ ⟨Nat.le_of_ble_eq_true rfl, Nat.le_of_ble_eq_true rfl⟩ (Nat.le_of_ble_eq_true rfl) rfl xs_231 xn_231 rfl (fun z_122 => ?_)
                    rw [show (j : Int).toNat = j from by omega]
                    rw [show Ka 232 = (adS (I 232) x1.toNat (shZ (I 232) x1.toNat) (lfZ (I 232) x1.toNat) k) from hKa]
                    rw [show ((adS (I 232) x1.toNat (shZ (I 232) x1.toNat) (lfZ (I 232) x1.toNat) k) (107 + 28 * ((x1).toNat) + 2 * j)) = I 232 (107 + 28 * x1.toNat + 2 * j) from ad_o (by omega) (by omega)]
                    refine gw_aload_n C 0 dX8_adjust_125 rfl rfl ?_
                    refine gw_iload_n C 1 dX8_adjust_126 rfl rfl ?_
                    refine gw_iload C dX8_adjust_127 rfl ?_
                    refine gw_callVm C (as := [vI x1, vI (k : Int)]) (st := [vI (I 232 (107 + 28 * x1.toNat + 2 * j))]) (ci := 7) (T0 := TX8) (N := 10) (c_X8_length hl0 G Ka J (by rw [show Ka 232 = (adS (I 232) x1.toNat (shZ (I 232) x1.toNat) (lfZ (I 232) x1.toNat) k) from hKa]; exact (oks_adS ho (by omega) (by omega))) x1 (k : Int) (by first | (rw [show Ka 232 = (adS (I 232) x1.toNat (shZ (I 232) x1.toNat) (lfZ (I 232) x1.toNat) k) from hKa]; omega) | (omega))) dX8_adjust_129 kX8_183 qX8_length hdX8_length ⟨Nat.le_of_ble_eq_true rfl, Nat.le_of_ble_eq_true rfl⟩ ⟨Nat.le_of_ble_eq_true rfl, Nat.le_of_ble_eq_true rfl⟩ (Nat.le_of_ble_eq_true rfl) rfl xs_231 xn_231 rfl (fun z_129 => ?_)
                    rw [show (k : Int).toNat = k from by omega]
                    rw [show Ka 232 = (adS (I 232) x1.toNat (shZ (I 232) x1.toNat) (lfZ (I 232) x1.toNat) k) from hKa]
                    rw [show ((adS (I 232) x1.toNat (shZ (I 232) x1.toNat) (lfZ (I 232) x1.toNat) k) (107 + 28 * ((x1).toNat) + 2 * k)) = I 232 (107 + 28 * x1.toNat + 2 * k) from ad_o (by omega) (by omega)]
                    refine gw_icmp_gt C (tgt := 159) dX8_adjust_132 (by decide) (by first | omega | exact hgi _ _) (by first | omega | exact hgi _ _) (fun h_132 => ?_) (fun h_132 => ?_)
                    · skip
                      refine gw_iconst C dX8_adjust_159 ?_
                      refine gw_goto C (tgt := 164) dX8_adjust_160 (by decide) ?_
                      refine gw_istore C (lo1 := [some (vR 231), some (vI x1), some (vI (102 + (28 * x1))), some (vI (sG (I 232) ((x1).toNat))), some (vI (I 232 (103 + 28 * ((x1).toNat)))), some (vI (shZ (I 232) x1.toNat)), some (vI (lfZ (I 232) x1.toNat)), some (vI (k : Int)), some (vI u), some (vI (j : Int)), some (vI 1)]) dX8_adjust_164 (by decide) rfl ?_
                      refine gw_iload C dX8_adjust_166 rfl ?_
                      refine gw_iload C dX8_adjust_168 rfl ?_
                      refine gw_if_eq C (tgt := 177) dX8_adjust_170 (by decide) ⟨by decide, by decide⟩ (fun h => absurd h (by decide)) (fun _ => ?_)
                      refine gw_iconst C dX8_adjust_173 ?_
                      refine gw_goto C (tgt := 178) dX8_adjust_174 (by decide) ?_
                      refine gw_iadd C dX8_adjust_178 ?_
                      refine gw_istore C (lo1 := [some (vR 231), some (vI x1), some (vI (102 + (28 * x1))), some (vI (sG (I 232) ((x1).toNat))), some (vI (I 232 (103 + 28 * ((x1).toNat)))), some (vI (shZ (I 232) x1.toNat)), some (vI (lfZ (I 232) x1.toNat)), some (vI (k : Int)), some (vI (u + 1)), some (vI (j : Int)), some (vI 1)]) dX8_adjust_179 (by decide) rfl ?_
                      refine gw_iinc C (lo1 := [some (vR 231), some (vI x1), some (vI (102 + (28 * x1))), some (vI (sG (I 232) ((x1).toNat))), some (vI (I 232 (103 + 28 * ((x1).toNat)))), some (vI (shZ (I 232) x1.toNat)), some (vI (lfZ (I 232) x1.toNat)), some (vI (k : Int)), some (vI (u + 1)), some (vI ((j : Int) + 1)), some (vI 1)]) dX8_adjust_181 rfl (by decide) rfl ?_
                      refine gw_goto C (tgt := 111) dX8_adjust_184 (by decide) ?_
                      exact gw_weak (lo' := [some (vR 231), some (vI x1), some (vI (102 + (28 * x1))), some (vI (sG (I 232) ((x1).toNat))), some (vI (I 232 (103 + 28 * ((x1).toNat)))), some (vI (shZ (I 232) x1.toNat)), some (vI (lfZ (I 232) x1.toNat)), some (vI (k : Int)), some (vI (u + 1)), some (vI (((j + 1) : Nat) : Int)), none]) ⟨rfl, rfl, rfl, rfl, rfl, rfl, rfl, rfl, rfl, congrArg (fun q => some (vI q)) (by omega), trivial⟩ (ih_111 (u + 1) (j + 1) z_129 (by omega) (by rw [rkF_s, ← hu, sLe_9, sLe_9]; first | (exfalso; omega) | rw [if_pos (by omega)] | rw [if_neg (by omega)]) (by omega))
                    · skip
                      refine gw_iload C dX8_adjust_135 rfl ?_
                      refine gw_iload C dX8_adjust_137 rfl ?_
                      refine gw_icmp_ge C (tgt := 163) dX8_adjust_139 (by decide) (by first | omega | exact hgi _ _) (by first | omega | exact hgi _ _) (fun h_139 => ?_) (fun h_139 => ?_)
                      · skip
                        refine gw_iconst C dX8_adjust_163 ?_
                        refine gw_istore C (lo1 := [some (vR 231), some (vI x1), some (vI (102 + (28 * x1))), some (vI (sG (I 232) ((x1).toNat))), some (vI (I 232 (103 + 28 * ((x1).toNat)))), some (vI (shZ (I 232) x1.toNat)), some (vI (lfZ (I 232) x1.toNat)), some (vI (k : Int)), some (vI u), some (vI (j : Int)), some (vI 0)]) dX8_adjust_164 (by decide) rfl ?_
                        refine gw_iload C dX8_adjust_166 rfl ?_
                        refine gw_iload C dX8_adjust_168 rfl ?_
                        refine gw_if_eq C (tgt := 177) dX8_adjust_170 (by decide) ⟨by decide, by decide⟩ (fun _ => ?_) (fun h => absurd h (by decide))
                        refine gw_iconst C dX8_adjust_177 ?_
                        refine gw_iadd C dX8_adjust_178 ?_
                        refine gw_istore C (lo1 := [some (vR 231), some (vI x1), some (vI (102 + (28 * x1))), some (vI (sG (I 232) ((x1).toNat))), some (vI (I 232 (103 + 28 * ((x1).toNat)))), some (vI (shZ (I 232) x1.toNat)), some (vI (lfZ (I 232) x1.toNat)), some (vI (k : Int)), some (vI (u + 0)), some (vI (j : Int)), some (vI 0)]) dX8_adjust_179 (by decide) rfl ?_
                        refine gw_iinc C (lo1 := [some (vR 231), some (vI x1), some (vI (102 + (28 * x1))), some (vI (sG (I 232) ((x1).toNat))), some (vI (I 232 (103 + 28 * ((x1).toNat)))), some (vI (shZ (I 232) x1.toNat)), some (vI (lfZ (I 232) x1.toNat)), some (vI (k : Int)), some (vI (u + 0)), some (vI ((j : Int) + 1)), some (vI 0)]) dX8_adjust_181 rfl (by decide) rfl ?_
                        refine gw_goto C (tgt := 111) dX8_adjust_184 (by decide) ?_
                        exact gw_weak (lo' := [some (vR 231), some (vI x1), some (vI (102 + (28 * x1))), some (vI (sG (I 232) ((x1).toNat))), some (vI (I 232 (103 + 28 * ((x1).toNat)))), some (vI (shZ (I 232) x1.toNat)), some (vI (lfZ (I 232) x1.toNat)), some (vI (k : Int)), some (vI (u + 0)), some (vI (((j + 1) : Nat) : Int)), none]) ⟨rfl, rfl, rfl, rfl, rfl, rfl, rfl, rfl, rfl, congrArg (fun q => some (vI q)) (by omega), trivial⟩ (ih_111 (u + 0) (j + 1) z_129 (by omega) (by rw [rkF_s, ← hu, sLe_9, sLe_9]; first | (exfalso; omega) | rw [if_pos (by omega)] | rw [if_neg (by omega)]) (by omega))
                      · skip
                        refine gw_aload_n C 0 dX8_adjust_142 rfl rfl ?_
                        refine gw_iload_n C 1 dX8_adjust_143 rfl rfl ?_
                        refine gw_iload C dX8_adjust_144 rfl ?_
                        refine gw_callVm C (as := [vI x1, vI (j : Int)]) (st := []) (ci := 7) (T0 := TX8) (N := 10) (c_X8_length hl0 G Ka J (by rw [show Ka 232 = (adS (I 232) x1.toNat (shZ (I 232) x1.toNat) (lfZ (I 232) x1.toNat) k) from hKa]; exact (oks_adS ho (by omega) (by omega))) x1 (j : Int) (by first | (rw [show Ka 232 = (adS (I 232) x1.toNat (shZ (I 232) x1.toNat) (lfZ (I 232) x1.toNat) k) from hKa]; omega) | (omega))) dX8_adjust_146 kX8_183 qX8_length hdX8_length ⟨Nat.le_of_ble_eq_true rfl, Nat.le_of_ble_eq_true rfl⟩ ⟨Nat.le_of_ble_eq_true rfl, Nat.le_of_ble_eq_true rfl⟩ (Nat.le_of_ble_eq_true rfl) rfl xs_231 xn_231 rfl (fun z_146 => ?_)
                        rw [show (j : Int).toNat = j from by omega]
                        rw [show Ka 232 = (adS (I 232) x1.toNat (shZ (I 232) x1.toNat) (lfZ (I 232) x1.toNat) k) from hKa]
                        rw [show ((adS (I 232) x1.toNat (shZ (I 232) x1.toNat) (lfZ (I 232) x1.toNat) k) (107 + 28 * ((x1).toNat) + 2 * j)) = I 232 (107 + 28 * x1.toNat + 2 * j) from ad_o (by omega) (by omega)]
                        refine gw_aload_n C 0 dX8_adjust_149 rfl rfl ?_
                        refine gw_iload_n C 1 dX8_adjust_150 rfl rfl ?_
                        refine gw_iload C dX8_adjust_151 rfl ?_
                        refine gw_callVm C (as := [vI x1, vI (k : Int)]) (st := [vI (I 232 (107 + 28 * x1.toNat + 2 * j))]) (ci := 7) (T0 := TX8) (N := 10) (c_X8_length hl0 G Ka J (by rw [show Ka 232 = (adS (I 232) x1.toNat (shZ (I 232) x1.toNat) (lfZ (I 232) x1.toNat) k) from hKa]; exact (oks_adS ho (by omega) (by omega))) x1 (k : Int) (by first | (rw [show Ka 232 = (adS (I 232) x1.toNat (shZ (I 232) x1.toNat) (lfZ (I 232) x1.toNat) k) from hKa]; omega) | (omega))) dX8_adjust_153 kX8_183 qX8_length hdX8_length ⟨Nat.le_of_ble_eq_true rfl, Nat.le_of_ble_eq_true rfl⟩ ⟨Nat.le_of_ble_eq_true rfl, Nat.le_of_ble_eq_true rfl⟩ (Nat.le_of_ble_eq_true rfl) rfl xs_231 xn_231 rfl (fun z_153 => ?_)
                        rw [show (k : Int).toNat = k from by omega]
                        rw [show Ka 232 = (adS (I 232) x1.toNat (shZ (I 232) x1.toNat) (lfZ (I 232) x1.toNat) k) from hKa]
                        rw [show ((adS (I 232) x1.toNat (shZ (I 232) x1.toNat) (lfZ (I 232) x1.toNat) k) (107 + 28 * ((x1).toNat) + 2 * k)) = I 232 (107 + 28 * x1.toNat + 2 * k) from ad_o (by omega) (by omega)]
                        refine gw_icmp_ne C (tgt := 163) dX8_adjust_156 (by decide) (by first | omega | exact hgi _ _) (by first | omega | exact hgi _ _) (fun h_156 => ?_) (fun h_156 => ?_)
                        · skip
                          refine gw_iconst C dX8_adjust_163 ?_
                          refine gw_istore C (lo1 := [some (vR 231), some (vI x1), some (vI (102 + (28 * x1))), some (vI (sG (I 232) ((x1).toNat))), some (vI (I 232 (103 + 28 * ((x1).toNat)))), some (vI (shZ (I 232) x1.toNat)), some (vI (lfZ (I 232) x1.toNat)), some (vI (k : Int)), some (vI u), some (vI (j : Int)), some (vI 0)]) dX8_adjust_164 (by decide) rfl ?_
                          refine gw_iload C dX8_adjust_166 rfl ?_
                          refine gw_iload C dX8_adjust_168 rfl ?_
                          refine gw_if_eq C (tgt := 177) dX8_adjust_170 (by decide) ⟨by decide, by decide⟩ (fun _ => ?_) (fun h => absurd h (by decide))
                          refine gw_iconst C dX8_adjust_177 ?_
                          refine gw_iadd C dX8_adjust_178 ?_
                          refine gw_istore C (lo1 := [some (vR 231), some (vI x1), some (vI (102 + (28 * x1))), some (vI (sG (I 232) ((x1).toNat))), some (vI (I 232 (103 + 28 * ((x1).toNat)))), some (vI (shZ (I 232) x1.toNat)), some (vI (lfZ (I 232) x1.toNat)), some (vI (k : Int)), some (vI (u + 0)), some (vI (j : Int)), some (vI 0)]) dX8_adjust_179 (by decide) rfl ?_
                          refine gw_iinc C (lo1 := [some (vR 231), some (vI x1), some (vI (102 + (28 * x1))), some (vI (sG (I 232) ((x1).toNat))), some (vI (I 232 (103 + 28 * ((x1).toNat)))), some (vI (shZ (I 232) x1.toNat)), some (vI (lfZ (I 232) x1.toNat)), some (vI (k : Int)), some (vI (u + 0)), some (vI ((j : Int) + 1)), some (vI 0)]) dX8_adjust_181 rfl (by decide) rfl ?_
                          refine gw_goto C (tgt := 111) dX8_adjust_184 (by decide) ?_
                          exact gw_weak (lo' := [some (vR 231), some (vI x1), some (vI (102 + (28 * x1))), some (vI (sG (I 232) ((x1).toNat))), some (vI (I 232 (103 + 28 * ((x1).toNat)))), some (vI (shZ (I 232) x1.toNat)), some (vI (lfZ (I 232) x1.toNat)), some (vI (k : Int)), some (vI (u + 0)), some (vI (((j + 1) : Nat) : Int)), none]) ⟨rfl, rfl, rfl, rfl, rfl, rfl, rfl, rfl, rfl, congrArg (fun q => some (vI q)) (by omega), trivial⟩ (ih_111 (u + 0) (j + 1) z_153 (by omega) (by rw [rkF_s, ← hu, sLe_9, sLe_9]; first | (exfalso; omega) | rw [if_pos (by omega)] | rw [if_neg (by omega)]) (by omega))
                        · skip
                          refine gw_iconst C dX8_adjust_159 ?_
                          refine gw_goto C (tgt := 164) dX8_adjust_160 (by decide) ?_
                          refine gw_istore C (lo1 := [some (vR 231), some (vI x1), some (vI (102 + (28 * x1))), some (vI (sG (I 232) ((x1).toNat))), some (vI (I 232 (103 + 28 * ((x1).toNat)))), some (vI (shZ (I 232) x1.toNat)), some (vI (lfZ (I 232) x1.toNat)), some (vI (k : Int)), some (vI u), some (vI (j : Int)), some (vI 1)]) dX8_adjust_164 (by decide) rfl ?_
                          refine gw_iload C dX8_adjust_166 rfl ?_
                          refine gw_iload C dX8_adjust_168 rfl ?_
                          refine gw_if_eq C (tgt := 177) dX8_adjust_170 (by decide) ⟨by decide, by decide⟩ (fun h => absurd h (by decide)) (fun _ => ?_)
                          refine gw_iconst C dX8_adjust_173 ?_
                          refine gw_goto C (tgt := 178) dX8_adjust_174 (by decide) ?_
                          refine gw_iadd C dX8_adjust_178 ?_
                          refine gw_istore C (lo1 := [some (vR 231), some (vI x1), some (vI (102 + (28 * x1))), some (vI (sG (I 232) ((x1).toNat))), some (vI (I 232 (103 + 28 * ((x1).toNat)))), some (vI (shZ (I 232) x1.toNat)), some (vI (lfZ (I 232) x1.toNat)), some (vI (k : Int)), some (vI (u + 1)), some (vI (j : Int)), some (vI 1)]) dX8_adjust_179 (by decide) rfl ?_
                          refine gw_iinc C (lo1 := [some (vR 231), some (vI x1), some (vI (102 + (28 * x1))), some (vI (sG (I 232) ((x1).toNat))), some (vI (I 232 (103 + 28 * ((x1).toNat)))), some (vI (shZ (I 232) x1.toNat)), some (vI (lfZ (I 232) x1.toNat)), some (vI (k : Int)), some (vI (u + 1)), some (vI ((j : Int) + 1)), some (vI 1)]) dX8_adjust_181 rfl (by decide) rfl ?_
                          refine gw_goto C (tgt := 111) dX8_adjust_184 (by decide) ?_
                          exact gw_weak (lo' := [some (vR 231), some (vI x1), some (vI (102 + (28 * x1))), some (vI (sG (I 232) ((x1).toNat))), some (vI (I 232 (103 + 28 * ((x1).toNat)))), some (vI (shZ (I 232) x1.toNat)), some (vI (lfZ (I 232) x1.toNat)), some (vI (k : Int)), some (vI (u + 1)), some (vI (((j + 1) : Nat) : Int)), none]) ⟨rfl, rfl, rfl, rfl, rfl, rfl, rfl, rfl, rfl, congrArg (fun q => some (vI q)) (by omega), trivial⟩ (ih_111 (u + 1) (j + 1) z_153 (by omega) (by rw [rkF_s, ← hu, sLe_9, sLe_9]; first | (exfalso; omega) | rw [if_pos (by omega)] | rw [if_neg (by omega)]) (by omega))
              exact gw_weak (lo' := [some (vR 231), some (vI x1), some (vI (102 + (28 * x1))), some (vI (sG (I 232) ((x1).toNat))), some (vI (I 232 (103 + 28 * ((x1).toNat)))), some (vI (shZ (I 232) x1.toNat)), some (vI (lfZ (I 232) x1.toNat)), some (vI (k : Int)), some (vI 0), some (vI (0 : Int)), none]) ⟨rfl, rfl, rfl, rfl, rfl, rfl, rfl, rfl, rfl, congrArg (fun q => some (vI q)) (by omega), trivial⟩ (loop_111 _ 0 0 z1 (by omega) (by rfl) (Nat.lt_succ_self _))
        exact gw_weak (lo' := [some (vR 231), some (vI x1), some (vI (102 + (28 * x1))), some (vI (sG (I 232) ((x1).toNat))), some (vI (I 232 (103 + 28 * ((x1).toNat)))), some (vI (shZ (I 232) x1.toNat)), some (vI (lfZ (I 232) x1.toNat)), some (vI (0 : Int)), none, none, none]) ⟨rfl, rfl, rfl, rfl, rfl, rfl, rfl, congrArg (fun q => some (vI q)) (by omega), trivial⟩ (loop_98 _ 0 (up Ks 232 (105 + 28 * x1.toNat) (normZ ((Ks 232 (105 + 28 * x1.toNat)) - (shZ (I 232) x1.toNat)))) z_92 (by omega) (by rw [up_us, hK232]; rfl) (by intro q f hq; rw [up_ne hq]) (Nat.lt_succ_self _))
      · skip
        refine gw_iconst C dX8_adjust_29 ?_
        refine gw_goto C (tgt := 34) dX8_adjust_30 (by decide) ?_
        refine gw_callVm C (as := [vI 2]) (st := []) (ci := 7) (T0 := TX8) (N := 10) (c_X8_throwsAt hl0 G I J 2 ⟨by decide, by decide⟩) dX8_adjust_34 kX8_70 qX8_throwsAt hdX8_throwsAt ⟨Nat.le_of_ble_eq_true rfl, Nat.le_of_ble_eq_true rfl⟩ ⟨Nat.le_of_ble_eq_true rfl, Nat.le_of_ble_eq_true rfl⟩ (Nat.le_of_ble_eq_true rfl) rfl xs_231 xn_231 rfl (fun z_34_2 => ?_)
        rw [show (if (0 : Int) < 2 then (1 : Int) else 0) = 1 from by decide]
        refine gw_if_eq C (tgt := 42) dX8_adjust_37 (by decide) ⟨by decide, by decide⟩ (fun h => absurd h (by decide)) (fun _ => ?_)
        refine gw_iconst C dX8_adjust_40 ?_
        exact gw_iret C (Nat.le_of_ble_eq_true rfl) (Nat.le_of_ble_eq_true rfl) dX8_adjust_41 (mm_1 (by unfold kAdj; (repeat (first | rw [if_pos (by omega)] | rw [if_neg (by omega)]))) (by decide))
    · skip
      refine gw_if_eq C (tgt := 29) dX8_adjust_18 (by decide) ⟨by decide, by decide⟩ (fun _ => ?_) (fun h => absurd h (by decide))
      refine gw_iconst C dX8_adjust_29 ?_
      refine gw_goto C (tgt := 34) dX8_adjust_30 (by decide) ?_
      refine gw_callVm C (as := [vI 2]) (st := []) (ci := 7) (T0 := TX8) (N := 10) (c_X8_throwsAt hl0 G I J 2 ⟨by decide, by decide⟩) dX8_adjust_34 kX8_70 qX8_throwsAt hdX8_throwsAt ⟨Nat.le_of_ble_eq_true rfl, Nat.le_of_ble_eq_true rfl⟩ ⟨Nat.le_of_ble_eq_true rfl, Nat.le_of_ble_eq_true rfl⟩ (Nat.le_of_ble_eq_true rfl) rfl xs_231 xn_231 rfl (fun z_34_3 => ?_)
      rw [show (if (0 : Int) < 2 then (1 : Int) else 0) = 1 from by decide]
      refine gw_if_eq C (tgt := 42) dX8_adjust_37 (by decide) ⟨by decide, by decide⟩ (fun h => absurd h (by decide)) (fun _ => ?_)
      refine gw_iconst C dX8_adjust_40 ?_
      exact gw_iret C (Nat.le_of_ble_eq_true rfl) (Nat.le_of_ble_eq_true rfl) dX8_adjust_41 (mm_1 (by unfold kAdj; (repeat (first | rw [if_pos (by omega)] | rw [if_neg (by omega)]))) (by decide))
  · skip
    refine gw_if_ne C (tgt := 13) dX8_adjust_6 (by decide) ⟨by decide, by decide⟩ (fun h => absurd h (by decide)) (fun _ => ?_)
    refine gw_iconst C dX8_adjust_9 ?_
    refine gw_goto C (tgt := 34) dX8_adjust_10 (by decide) ?_
    refine gw_callVm C (as := [vI 1]) (st := []) (ci := 7) (T0 := TX8) (N := 10) (c_X8_throwsAt hl0 G I J 1 ⟨by decide, by decide⟩) dX8_adjust_34 kX8_70 qX8_throwsAt hdX8_throwsAt ⟨Nat.le_of_ble_eq_true rfl, Nat.le_of_ble_eq_true rfl⟩ ⟨Nat.le_of_ble_eq_true rfl, Nat.le_of_ble_eq_true rfl⟩ (Nat.le_of_ble_eq_true rfl) rfl xs_231 xn_231 rfl (fun z_34_4 => ?_)
    rw [show (if (0 : Int) < 1 then (1 : Int) else 0) = 1 from by decide]
    refine gw_if_eq C (tgt := 42) dX8_adjust_37 (by decide) ⟨by decide, by decide⟩ (fun h => absurd h (by decide)) (fun _ => ?_)
    refine gw_iconst C dX8_adjust_40 ?_
    exact gw_iret C (Nat.le_of_ble_eq_true rfl) (Nat.le_of_ble_eq_true rfl) dX8_adjust_41 (mm_1 (by unfold kAdj; (repeat (first | rw [if_pos (by omega)] | rw [if_neg (by omega)]))) (by decide))
