theorem ap_n {S : Nat → Int} {t u : Nat} (h : rApart S t u = -2000000000) : ¬ (hE9 S t ∧ hE9 S u) := by
  intro hh
  unfold rApart at h
  rw [if_pos hh] at h
  unfold rootZ at h
  omega
theorem ap_y {S : Nat → Int} {t u : Nat} (h : rApart S t u ≠ -2000000000) : hE9 S t ∧ hE9 S u := by
  by_cases hh : hE9 S t ∧ hE9 S u
  · exact hh
  · exfalso
    apply h
    unfold rApart
    rw [if_neg hh]
set_option maxHeartbeats 4000000 in
set_option maxRecDepth 100000 in
theorem c_X8_reachBy {l : Launch} (hl0 : l.stackTraces = false) (G : GG) (I J : GI) {z : Nat} (ho : Oks (I 232)) (x1 x2 x3 x4 : Int) (hx1 : inI x1) (hx2 : inI x2) (hx3 : inI x3) (hx4 : inI x4) : GM l yX8_reachBy (.code yX8_reachBy cX8_reachBy 20 (some .int)) 8 180 0 0 G N0 SH RR [vR 231, vI x1, vI x2, vI x3, vI x4] z I J (mrQ (kBy (I 232) x1 x2 x3 x4) (rBy (I 232) x1.toNat x2.toNat x3 x4) I J) gNo := by
  refine gm_of (lo0 := [some (vR 231), some (vI x1), some (vI x2), some (vI x3), some (vI x4), none, none, none, none, none, none, none, none, none, none, none, none, none, none, none]) hl0 (by decide) rfl (Nat.le_of_ble_eq_true rfl) ?_
  intro p e s m args below meth c C ht hgi
  have C : gC G p l s m args meth c cX8_reachBy 20 RX8 (some .int) "reachBy" := C
  have h3 := ho.2.1
  have h0 := ho.1
  refine gw_aload_n C 0 dX8_reachBy_0 rfl rfl ?_
  refine gw_aload_n C 0 dX8_reachBy_1 rfl rfl ?_
  refine gw_iload_n C 1 dX8_reachBy_2 rfl rfl ?_
  refine gw_callVb C (as := [vI x1]) (st := [vR 231]) (ci := 7) (T0 := TX8) (N := 10) (c_X8_isTraverse hl0 G I J ho x1 (by first | assumption | omega)) dX8_reachBy_3 kX8_155 qX8_isTraverse hdX8_isTraverse ⟨Nat.le_of_ble_eq_true rfl, Nat.le_of_ble_eq_true rfl⟩ ⟨Nat.le_of_ble_eq_true rfl, Nat.le_of_ble_eq_true rfl⟩ (Nat.le_of_ble_eq_true rfl) rfl xs_231 xn_231 rfl (fun h_3 z_3 => ?_) (fun h_3 z_3 => ?_)
  · skip
    refine gw_if_eq C (tgt := 17) dX8_reachBy_6 (by decide) ⟨by decide, by decide⟩ (fun h => absurd h (by decide)) (fun _ => ?_)
    refine gw_aload_n C 0 dX8_reachBy_9 rfl rfl ?_
    refine gw_iload_n C 2 dX8_reachBy_10 rfl rfl ?_
    refine gw_callVb C (as := [vI x2]) (st := [vR 231]) (ci := 7) (T0 := TX8) (N := 10) (c_X8_isTraverse hl0 G I J ho x2 (by first | assumption | omega)) dX8_reachBy_11 kX8_155 qX8_isTraverse hdX8_isTraverse ⟨Nat.le_of_ble_eq_true rfl, Nat.le_of_ble_eq_true rfl⟩ ⟨Nat.le_of_ble_eq_true rfl, Nat.le_of_ble_eq_true rfl⟩ (Nat.le_of_ble_eq_true rfl) rfl xs_231 xn_231 rfl (fun h_11 z_11 => ?_) (fun h_11 z_11 => ?_)
    · skip
      refine gw_if_ne C (tgt := 21) dX8_reachBy_14 (by decide) ⟨by decide, by decide⟩ (fun _ => ?_) (fun h => absurd h (by decide))
      refine gw_iload_n C 3 dX8_reachBy_21 rfl rfl ?_
      refine gw_callSb C (as := [vI x3]) (st := [vR 231]) (c_X8_isAngle hl0 G x3 hx3) dX8_reachBy_22 kX8_123 qX8_isAngle hdX8_isAngle ⟨Nat.le_of_ble_eq_true rfl, Nat.le_of_ble_eq_true rfl⟩ ⟨Nat.le_of_ble_eq_true rfl, Nat.le_of_ble_eq_true rfl⟩ (Nat.le_of_ble_eq_true rfl) rfl (fun h_22 z_22 => ?_) (fun h_22 z_22 => ?_)
      · skip
        refine gw_if_eq C (tgt := 45) dX8_reachBy_25 (by decide) ⟨by decide, by decide⟩ (fun h => absurd h (by decide)) (fun _ => ?_)
        refine gw_iload C dX8_reachBy_28 rfl ?_
        refine gw_i2l C dX8_reachBy_30 hx4 ?_
        refine gw_lconst C 1 dX8_reachBy_31 (by decide) ?_
        refine gw_ldc2 C (x := 2000) dX8_reachBy_32 kX8_235 (by decide) ?_
        refine gw_callSb C (as := [vL x4, vL 1, vL 2000]) (st := [vR 231]) (c_X8_in hl0 G x4 1 2000 (by omega) ⟨by decide, by decide⟩ ⟨by decide, by decide⟩) dX8_reachBy_35 kX8_62 qX8_in hdX8_in ⟨Nat.le_of_ble_eq_true rfl, Nat.le_of_ble_eq_true rfl⟩ ⟨Nat.le_of_ble_eq_true rfl, Nat.le_of_ble_eq_true rfl⟩ (Nat.le_of_ble_eq_true rfl) rfl (fun h_35 z_35 => ?_) (fun h_35 z_35 => ?_)
        · skip
          refine gw_if_eq C (tgt := 45) dX8_reachBy_38 (by decide) ⟨by decide, by decide⟩ (fun h => absurd h (by decide)) (fun _ => ?_)
          refine gw_iconst C dX8_reachBy_41 ?_
          refine gw_goto C (tgt := 46) dX8_reachBy_42 (by decide) ?_
          refine gw_callVm C (as := [vI 0]) (st := []) (ci := 7) (T0 := TX8) (N := 10) (c_X8_throwsAt hl0 G I J 0 ⟨by decide, by decide⟩) dX8_reachBy_46 kX8_70 qX8_throwsAt hdX8_throwsAt ⟨Nat.le_of_ble_eq_true rfl, Nat.le_of_ble_eq_true rfl⟩ ⟨Nat.le_of_ble_eq_true rfl, Nat.le_of_ble_eq_true rfl⟩ (Nat.le_of_ble_eq_true rfl) rfl xs_231 xn_231 rfl (fun z_46 => ?_)
          rw [show (if (0 : Int) < 0 then (1 : Int) else 0) = 0 from by decide]
          refine gw_if_eq C (tgt := 54) dX8_reachBy_49 (by decide) ⟨by decide, by decide⟩ (fun _ => ?_) (fun h => absurd h (by decide))
          refine gw_aload_n C 0 dX8_reachBy_54 rfl rfl ?_
          refine gw_iload_n C 1 dX8_reachBy_55 rfl rfl ?_
          refine gw_iload_n C 2 dX8_reachBy_56 rfl rfl ?_
          refine gw_callVm C (as := [vI x1, vI x2]) (st := []) (ci := 7) (T0 := TX8) (N := 10) (c_X8_between hl0 G (up I 231 6 0) J (by rw [show (up I 231 6 0) 232 = I 232 from up_ne (by decide)]; exact ho) x1 x2 (by first | (rw [show (up I 231 6 0) 232 = I 232 from up_ne (by decide)]; omega) | (omega)) (by first | (rw [show (up I 231 6 0) 232 = I 232 from up_ne (by decide)]; omega) | (omega))) dX8_reachBy_57 kX8_223 qX8_between hdX8_between ⟨Nat.le_of_ble_eq_true rfl, Nat.le_of_ble_eq_true rfl⟩ ⟨Nat.le_of_ble_eq_true rfl, Nat.le_of_ble_eq_true rfl⟩ (Nat.le_of_ble_eq_true rfl) rfl xs_231 xn_231 rfl (fun z_57 => ?_)
          rw [show (up I 231 6 0) 232 = I 232 from up_ne (by decide)]
          have hr_57 := @rApart_i _ ((x1).toNat) ((x2).toNat) ho (by omega) (by omega)
          refine gw_ldc C (x := (-2000000000)) dX8_reachBy_60 kX8_105 (by decide) ?_
          refine gw_icmp_ne C (tgt := 68) dX8_reachBy_62 (by decide) (by first | omega | exact hgi _ _) ⟨by decide, by decide⟩ (fun h_62 => ?_) (fun h_62 => ?_)
          · skip
            have hey := ap_y (S := I 232) (t := x1.toNat) (u := x2.toNat) (by omega)
            have h59 := sTT_5 (S := I 232) (t := x1.toNat)
            have h5u := sTT_5 (S := I 232) (t := x2.toNat)
            have hot := okT ho (t := x1.toNat) (by omega)
            have hou := okT ho (t := x2.toNat) (by omega)
            have n1 := (h59.mp hey.1).1
            have n2 := (h5u.mp hey.2).1
            have j1 := (h59.mp hey.1).2
            have j2 := (h5u.mp hey.2).2
            refine gw_aload_n C 0 dX8_reachBy_68 rfl rfl ?_
            refine gw_iload_n C 1 dX8_reachBy_69 rfl rfl ?_
            refine gw_aload_n C 0 dX8_reachBy_70 rfl rfl ?_
            refine gw_iload_n C 1 dX8_reachBy_71 rfl rfl ?_
            refine gw_callVm C (as := [vI x1]) (st := [vI x1, vR 231]) (ci := 7) (T0 := TX8) (N := 10) (c_X8_legs hl0 G (up I 231 6 0) J (by rw [show (up I 231 6 0) 232 = I 232 from up_ne (by decide)]; exact ho) x1 (by first | (rw [show (up I 231 6 0) 232 = I 232 from up_ne (by decide)]; omega) | (omega))) dX8_reachBy_72 kX8_77 qX8_legs hdX8_legs ⟨Nat.le_of_ble_eq_true rfl, Nat.le_of_ble_eq_true rfl⟩ ⟨Nat.le_of_ble_eq_true rfl, Nat.le_of_ble_eq_true rfl⟩ (Nat.le_of_ble_eq_true rfl) rfl xs_231 xn_231 rfl (fun z_72 => ?_)
            rw [show (up I 231 6 0) 232 = I 232 from up_ne (by decide)]
            refine gw_iconst C dX8_reachBy_75 ?_
            refine gw_isub C dX8_reachBy_76 ?_
            refine gw_callVm C (as := [vI x1, vI ((I 232 (103 + 28 * ((x1).toNat))) - 1)]) (st := []) (ci := 7) (T0 := TX8) (N := 10) (c_X8_bearing hl0 G (up I 231 6 0) J (by rw [show (up I 231 6 0) 232 = I 232 from up_ne (by decide)]; exact ho) x1 ((I 232 (103 + 28 * ((x1).toNat))) - 1) (by first | (rw [show (up I 231 6 0) 232 = I 232 from up_ne (by decide)]; omega) | (omega)) (by first | (rw [show (up I 231 6 0) 232 = I 232 from up_ne (by decide)]; omega) | (omega)) (by first | (rw [show (up I 231 6 0) 232 = I 232 from up_ne (by decide)]; omega) | (omega))) dX8_reachBy_77 kX8_164 qX8_bearing hdX8_bearing ⟨Nat.le_of_ble_eq_true rfl, Nat.le_of_ble_eq_true rfl⟩ ⟨Nat.le_of_ble_eq_true rfl, Nat.le_of_ble_eq_true rfl⟩ (Nat.le_of_ble_eq_true rfl) rfl xs_231 xn_231 rfl (fun z_77 => ?_)
            rw [show (up I 231 6 0) 232 = I 232 from up_ne (by decide)]
            have hr_77 := bg_b (I 232) ((x1).toNat) ((((I 232 (103 + 28 * ((x1).toNat))) - 1)).toNat)
            rw [show (bgF (I 232) ((x1).toNat) ((((I 232 (103 + 28 * ((x1).toNat))) - 1)).toNat)) = sBr (I 232) x1.toNat (sLg (I 232) x1.toNat) from by rw [bg_1 (by omega)]; congr 1; unfold sLg; omega]
            have hsb9 := bg_b (I 232) x1.toNat (sLg (I 232) x1.toNat - 1)
            rw [bg_1 (by unfold sLg; omega), show sLg (I 232) x1.toNat - 1 + 1 = sLg (I 232) x1.toNat by unfold sLg; omega] at hsb9
            refine gw_i2l C dX8_reachBy_80 (by first | omega | exact hgi _ _) ?_
            refine gw_iload_n C 3 dX8_reachBy_81 rfl rfl ?_
            refine gw_i2l C dX8_reachBy_82 hx3 ?_
            refine gw_ladd C dX8_reachBy_83 ?_
            refine gw_ldc2 C (x := 648000) dX8_reachBy_84 kX8_45 (by decide) ?_
            refine gw_ladd C dX8_reachBy_87 ?_
            refine gw_lstore C (lo1 := [some (vR 231), some (vI x1), some (vI x2), some (vI x3), some (vI x4), some (vL (((sBr (I 232) x1.toNat (sLg (I 232) x1.toNat)) + x3) + 648000)), none, none, none, none, none, none, none, none, none, none, none, none, none, none]) dX8_reachBy_88 (by decide) rfl ?_
            rw [show (((sBr (I 232) x1.toNat (sLg (I 232) x1.toNat)) + x3) + 648000) = lbS (I 232) x1.toNat x3 from rfl]
            have hlb9 : 648000 ≤ lbS (I 232) x1.toNat x3 ∧ lbS (I 232) x1.toNat x3 ≤ 4000000 := by unfold lbS; omega
            have hs1 := sinZ_b (lbS (I 232) x1.toNat x3)
            have hs2 := sinZ_b (lbS (I 232) x1.toNat x3 + 324000)
            refine gw_lload C dX8_reachBy_90 rfl ?_
            refine gw_callSm C (as := [vL (lbS (I 232) x1.toNat x3)]) (st := []) (c_X8_sineOf hl0 G (lbS (I 232) x1.toNat x3) (by omega)) dX8_reachBy_92 kX8_53 qX8_sineOf hdX8_sineOf ⟨Nat.le_of_ble_eq_true rfl, Nat.le_of_ble_eq_true rfl⟩ ⟨Nat.le_of_ble_eq_true rfl, Nat.le_of_ble_eq_true rfl⟩ (Nat.le_of_ble_eq_true rfl) rfl (fun z_92 => ?_)
            have hr_92 := sinZ_b (lbS (I 232) x1.toNat x3)
            refine gw_i2l C dX8_reachBy_95 (by first | omega | exact hgi _ _) ?_
            refine gw_lstore C (lo1 := [some (vR 231), some (vI x1), some (vI x2), some (vI x3), some (vI x4), some (vL (lbS (I 232) x1.toNat x3)), none, some (vL (sinZ (lbS (I 232) x1.toNat x3))), none, none, none, none, none, none, none, none, none, none, none, none]) dX8_reachBy_96 (by decide) rfl ?_
            refine gw_lload C dX8_reachBy_98 rfl ?_
            refine gw_callSm C (as := [vL (lbS (I 232) x1.toNat x3)]) (st := []) (c_X8_cosineOf hl0 G (lbS (I 232) x1.toNat x3) (by omega)) dX8_reachBy_100 kX8_186 qX8_cosineOf hdX8_cosineOf ⟨Nat.le_of_ble_eq_true rfl, Nat.le_of_ble_eq_true rfl⟩ ⟨Nat.le_of_ble_eq_true rfl, Nat.le_of_ble_eq_true rfl⟩ (Nat.le_of_ble_eq_true rfl) rfl (fun z_100 => ?_)
            have hr_100 := sinZ_b ((lbS (I 232) x1.toNat x3) + 324000)
            refine gw_i2l C dX8_reachBy_103 (by first | omega | exact hgi _ _) ?_
            refine gw_lstore C (lo1 := [some (vR 231), some (vI x1), some (vI x2), some (vI x3), some (vI x4), some (vL (lbS (I 232) x1.toNat x3)), none, some (vL (sinZ (lbS (I 232) x1.toNat x3))), none, some (vL (sinZ ((lbS (I 232) x1.toNat x3) + 324000))), none, none, none, none, none, none, none, none, none, none]) dX8_reachBy_104 (by decide) rfl ?_
            refine gw_aload_n C 0 dX8_reachBy_106 rfl rfl ?_
            refine gw_iload_n C 1 dX8_reachBy_107 rfl rfl ?_
            refine gw_aload_n C 0 dX8_reachBy_108 rfl rfl ?_
            refine gw_iload_n C 1 dX8_reachBy_109 rfl rfl ?_
            refine gw_callVm C (as := [vI x1]) (st := [vI x1, vR 231]) (ci := 7) (T0 := TX8) (N := 10) (c_X8_legs hl0 G (up I 231 6 0) J (by rw [show (up I 231 6 0) 232 = I 232 from up_ne (by decide)]; exact ho) x1 (by first | (rw [show (up I 231 6 0) 232 = I 232 from up_ne (by decide)]; omega) | (omega))) dX8_reachBy_110 kX8_77 qX8_legs hdX8_legs ⟨Nat.le_of_ble_eq_true rfl, Nat.le_of_ble_eq_true rfl⟩ ⟨Nat.le_of_ble_eq_true rfl, Nat.le_of_ble_eq_true rfl⟩ (Nat.le_of_ble_eq_true rfl) rfl xs_231 xn_231 rfl (fun z_110 => ?_)
            rw [show (up I 231 6 0) 232 = I 232 from up_ne (by decide)]
            refine gw_iconst C dX8_reachBy_113 ?_
            refine gw_isub C dX8_reachBy_114 ?_
            refine gw_iconst C dX8_reachBy_115 ?_
            refine gw_callVm C (as := [vI x1, vI ((I 232 (103 + 28 * ((x1).toNat))) - 1), vI 1]) (st := []) (ci := 7) (T0 := TX8) (N := 10) (c_X8_end_1 hl0 G (up I 231 6 0) J (by rw [show (up I 231 6 0) 232 = I 232 from up_ne (by decide)]; exact ho) x1 ((I 232 (103 + 28 * ((x1).toNat))) - 1) (by first | (rw [show (up I 231 6 0) 232 = I 232 from up_ne (by decide)]; omega) | (omega)) (by first | (rw [show (up I 231 6 0) 232 = I 232 from up_ne (by decide)]; omega) | (omega)) (by first | (rw [show (up I 231 6 0) 232 = I 232 from up_ne (by decide)]; omega) | (omega))) dX8_reachBy_116 kX8_191 qX8_end hdX8_end ⟨Nat.le_of_ble_eq_true rfl, Nat.le_of_ble_eq_true rfl⟩ ⟨Nat.le_of_ble_eq_true rfl, Nat.le_of_ble_eq_true rfl⟩ (Nat.le_of_ble_eq_true rfl) rfl xs_231 xn_231 rfl (fun z_116 => ?_)
            rw [show (up I 231 6 0) 232 = I 232 from up_ne (by decide)]
            rw [show (sEa (I 232) ((x1).toNat) (((I 232 (103 + 28 * ((x1).toNat))) - 1) + 1).toNat) = sEa (I 232) ((x1).toNat) (I 232 (103 + 28 * ((x1).toNat))).toNat from by first | rfl | (congr 1; omega)]
            have he_116 := (sEa_b ho (t := ((x1).toNat)) (by omega) (I 232 (103 + 28 * ((x1).toNat))).toNat (by omega)).1
            refine gw_i2l C dX8_reachBy_119 (by first | omega | exact hgi _ _) ?_
            refine gw_aload_n C 0 dX8_reachBy_120 rfl rfl ?_
            refine gw_iload_n C 2 dX8_reachBy_121 rfl rfl ?_
            refine gw_aload_n C 0 dX8_reachBy_122 rfl rfl ?_
            refine gw_iload_n C 2 dX8_reachBy_123 rfl rfl ?_
            refine gw_callVm C (as := [vI x2]) (st := [vI x2, vR 231, vL (sEa (I 232) ((x1).toNat) (I 232 (103 + 28 * ((x1).toNat))).toNat)]) (ci := 7) (T0 := TX8) (N := 10) (c_X8_legs hl0 G (up I 231 6 0) J (by rw [show (up I 231 6 0) 232 = I 232 from up_ne (by decide)]; exact ho) x2 (by first | (rw [show (up I 231 6 0) 232 = I 232 from up_ne (by decide)]; omega) | (omega))) dX8_reachBy_124 kX8_77 qX8_legs hdX8_legs ⟨Nat.le_of_ble_eq_true rfl, Nat.le_of_ble_eq_true rfl⟩ ⟨Nat.le_of_ble_eq_true rfl, Nat.le_of_ble_eq_true rfl⟩ (Nat.le_of_ble_eq_true rfl) rfl xs_231 xn_231 rfl (fun z_124 => ?_)
            rw [show (up I 231 6 0) 232 = I 232 from up_ne (by decide)]
            refine gw_iconst C dX8_reachBy_127 ?_
            refine gw_isub C dX8_reachBy_128 ?_
            refine gw_iconst C dX8_reachBy_129 ?_
            refine gw_callVm C (as := [vI x2, vI ((I 232 (103 + 28 * ((x2).toNat))) - 1), vI 1]) (st := [vL (sEa (I 232) ((x1).toNat) (I 232 (103 + 28 * ((x1).toNat))).toNat)]) (ci := 7) (T0 := TX8) (N := 10) (c_X8_end_1 hl0 G (up I 231 6 0) J (by rw [show (up I 231 6 0) 232 = I 232 from up_ne (by decide)]; exact ho) x2 ((I 232 (103 + 28 * ((x2).toNat))) - 1) (by first | (rw [show (up I 231 6 0) 232 = I 232 from up_ne (by decide)]; omega) | (omega)) (by first | (rw [show (up I 231 6 0) 232 = I 232 from up_ne (by decide)]; omega) | (omega)) (by first | (rw [show (up I 231 6 0) 232 = I 232 from up_ne (by decide)]; omega) | (omega))) dX8_reachBy_130 kX8_191 qX8_end hdX8_end ⟨Nat.le_of_ble_eq_true rfl, Nat.le_of_ble_eq_true rfl⟩ ⟨Nat.le_of_ble_eq_true rfl, Nat.le_of_ble_eq_true rfl⟩ (Nat.le_of_ble_eq_true rfl) rfl xs_231 xn_231 rfl (fun z_130 => ?_)
            rw [show (up I 231 6 0) 232 = I 232 from up_ne (by decide)]
            rw [show (sEa (I 232) ((x2).toNat) (((I 232 (103 + 28 * ((x2).toNat))) - 1) + 1).toNat) = sEa (I 232) ((x2).toNat) (I 232 (103 + 28 * ((x2).toNat))).toNat from by first | rfl | (congr 1; omega)]
            have he_130 := (sEa_b ho (t := ((x2).toNat)) (by omega) (I 232 (103 + 28 * ((x2).toNat))).toNat (by omega)).1
            refine gw_i2l C dX8_reachBy_133 (by first | omega | exact hgi _ _) ?_
            refine gw_lsub C dX8_reachBy_134 ?_
            refine gw_lstore C (lo1 := [some (vR 231), some (vI x1), some (vI x2), some (vI x3), some (vI x4), some (vL (lbS (I 232) x1.toNat x3)), none, some (vL (sinZ (lbS (I 232) x1.toNat x3))), none, some (vL (sinZ ((lbS (I 232) x1.toNat x3) + 324000))), none, some (vL ((sEa (I 232) ((x1).toNat) (I 232 (103 + 28 * ((x1).toNat))).toNat) - (sEa (I 232) ((x2).toNat) (I 232 (103 + 28 * ((x2).toNat))).toNat))), none, none, none, none, none, none, none, none]) dX8_reachBy_135 (by decide) rfl ?_
            refine gw_aload_n C 0 dX8_reachBy_137 rfl rfl ?_
            refine gw_iload_n C 1 dX8_reachBy_138 rfl rfl ?_
            refine gw_aload_n C 0 dX8_reachBy_139 rfl rfl ?_
            refine gw_iload_n C 1 dX8_reachBy_140 rfl rfl ?_
            refine gw_callVm C (as := [vI x1]) (st := [vI x1, vR 231]) (ci := 7) (T0 := TX8) (N := 10) (c_X8_legs hl0 G (up I 231 6 0) J (by rw [show (up I 231 6 0) 232 = I 232 from up_ne (by decide)]; exact ho) x1 (by first | (rw [show (up I 231 6 0) 232 = I 232 from up_ne (by decide)]; omega) | (omega))) dX8_reachBy_141 kX8_77 qX8_legs hdX8_legs ⟨Nat.le_of_ble_eq_true rfl, Nat.le_of_ble_eq_true rfl⟩ ⟨Nat.le_of_ble_eq_true rfl, Nat.le_of_ble_eq_true rfl⟩ (Nat.le_of_ble_eq_true rfl) rfl xs_231 xn_231 rfl (fun z_141 => ?_)
            rw [show (up I 231 6 0) 232 = I 232 from up_ne (by decide)]
            refine gw_iconst C dX8_reachBy_144 ?_
            refine gw_isub C dX8_reachBy_145 ?_
            refine gw_iconst C dX8_reachBy_146 ?_
            refine gw_callVm C (as := [vI x1, vI ((I 232 (103 + 28 * ((x1).toNat))) - 1), vI 0]) (st := []) (ci := 7) (T0 := TX8) (N := 10) (c_X8_end_0 hl0 G (up I 231 6 0) J (by rw [show (up I 231 6 0) 232 = I 232 from up_ne (by decide)]; exact ho) x1 ((I 232 (103 + 28 * ((x1).toNat))) - 1) (by first | (rw [show (up I 231 6 0) 232 = I 232 from up_ne (by decide)]; omega) | (omega)) (by first | (rw [show (up I 231 6 0) 232 = I 232 from up_ne (by decide)]; omega) | (omega)) (by first | (rw [show (up I 231 6 0) 232 = I 232 from up_ne (by decide)]; omega) | (omega))) dX8_reachBy_147 kX8_191 qX8_end hdX8_end ⟨Nat.le_of_ble_eq_true rfl, Nat.le_of_ble_eq_true rfl⟩ ⟨Nat.le_of_ble_eq_true rfl, Nat.le_of_ble_eq_true rfl⟩ (Nat.le_of_ble_eq_true rfl) rfl xs_231 xn_231 rfl (fun z_147 => ?_)
            rw [show (up I 231 6 0) 232 = I 232 from up_ne (by decide)]
            rw [show (sNo (I 232) ((x1).toNat) (((I 232 (103 + 28 * ((x1).toNat))) - 1) + 1).toNat) = sNo (I 232) ((x1).toNat) (I 232 (103 + 28 * ((x1).toNat))).toNat from by first | rfl | (congr 1; omega)]
            have he_147 := (sEa_b ho (t := ((x1).toNat)) (by omega) (I 232 (103 + 28 * ((x1).toNat))).toNat (by omega)).2
            refine gw_i2l C dX8_reachBy_150 (by first | omega | exact hgi _ _) ?_
            refine gw_aload_n C 0 dX8_reachBy_151 rfl rfl ?_
            refine gw_iload_n C 2 dX8_reachBy_152 rfl rfl ?_
            refine gw_aload_n C 0 dX8_reachBy_153 rfl rfl ?_
            refine gw_iload_n C 2 dX8_reachBy_154 rfl rfl ?_
            refine gw_callVm C (as := [vI x2]) (st := [vI x2, vR 231, vL (sNo (I 232) ((x1).toNat) (I 232 (103 + 28 * ((x1).toNat))).toNat)]) (ci := 7) (T0 := TX8) (N := 10) (c_X8_legs hl0 G (up I 231 6 0) J (by rw [show (up I 231 6 0) 232 = I 232 from up_ne (by decide)]; exact ho) x2 (by first | (rw [show (up I 231 6 0) 232 = I 232 from up_ne (by decide)]; omega) | (omega))) dX8_reachBy_155 kX8_77 qX8_legs hdX8_legs ⟨Nat.le_of_ble_eq_true rfl, Nat.le_of_ble_eq_true rfl⟩ ⟨Nat.le_of_ble_eq_true rfl, Nat.le_of_ble_eq_true rfl⟩ (Nat.le_of_ble_eq_true rfl) rfl xs_231 xn_231 rfl (fun z_155 => ?_)
            rw [show (up I 231 6 0) 232 = I 232 from up_ne (by decide)]
            refine gw_iconst C dX8_reachBy_158 ?_
            refine gw_isub C dX8_reachBy_159 ?_
            refine gw_iconst C dX8_reachBy_160 ?_
            refine gw_callVm C (as := [vI x2, vI ((I 232 (103 + 28 * ((x2).toNat))) - 1), vI 0]) (st := [vL (sNo (I 232) ((x1).toNat) (I 232 (103 + 28 * ((x1).toNat))).toNat)]) (ci := 7) (T0 := TX8) (N := 10) (c_X8_end_0 hl0 G (up I 231 6 0) J (by rw [show (up I 231 6 0) 232 = I 232 from up_ne (by decide)]; exact ho) x2 ((I 232 (103 + 28 * ((x2).toNat))) - 1) (by first | (rw [show (up I 231 6 0) 232 = I 232 from up_ne (by decide)]; omega) | (omega)) (by first | (rw [show (up I 231 6 0) 232 = I 232 from up_ne (by decide)]; omega) | (omega)) (by first | (rw [show (up I 231 6 0) 232 = I 232 from up_ne (by decide)]; omega) | (omega))) dX8_reachBy_161 kX8_191 qX8_end hdX8_end ⟨Nat.le_of_ble_eq_true rfl, Nat.le_of_ble_eq_true rfl⟩ ⟨Nat.le_of_ble_eq_true rfl, Nat.le_of_ble_eq_true rfl⟩ (Nat.le_of_ble_eq_true rfl) rfl xs_231 xn_231 rfl (fun z_161 => ?_)
            rw [show (up I 231 6 0) 232 = I 232 from up_ne (by decide)]
            rw [show (sNo (I 232) ((x2).toNat) (((I 232 (103 + 28 * ((x2).toNat))) - 1) + 1).toNat) = sNo (I 232) ((x2).toNat) (I 232 (103 + 28 * ((x2).toNat))).toNat from by first | rfl | (congr 1; omega)]
            have he_161 := (sEa_b ho (t := ((x2).toNat)) (by omega) (I 232 (103 + 28 * ((x2).toNat))).toNat (by omega)).2
            refine gw_i2l C dX8_reachBy_164 (by first | omega | exact hgi _ _) ?_
            refine gw_lsub C dX8_reachBy_165 ?_
            refine gw_lstore C (lo1 := [some (vR 231), some (vI x1), some (vI x2), some (vI x3), some (vI x4), some (vL (lbS (I 232) x1.toNat x3)), none, some (vL (sinZ (lbS (I 232) x1.toNat x3))), none, some (vL (sinZ ((lbS (I 232) x1.toNat x3) + 324000))), none, some (vL ((sEa (I 232) ((x1).toNat) (I 232 (103 + 28 * ((x1).toNat))).toNat) - (sEa (I 232) ((x2).toNat) (I 232 (103 + 28 * ((x2).toNat))).toNat))), none, some (vL ((sNo (I 232) ((x1).toNat) (I 232 (103 + 28 * ((x1).toNat))).toNat) - (sNo (I 232) ((x2).toNat) (I 232 (103 + 28 * ((x2).toNat))).toNat))), none, none, none, none, none, none]) dX8_reachBy_166 (by decide) rfl ?_
            refine gw_ldc C (x := (-2000000000)) dX8_reachBy_168 kX8_105 (by decide) ?_
            refine gw_istore C (lo1 := [some (vR 231), some (vI x1), some (vI x2), some (vI x3), some (vI x4), some (vL (lbS (I 232) x1.toNat x3)), none, some (vL (sinZ (lbS (I 232) x1.toNat x3))), none, some (vL (sinZ ((lbS (I 232) x1.toNat x3) + 324000))), none, some (vL ((sEa (I 232) ((x1).toNat) (I 232 (103 + 28 * ((x1).toNat))).toNat) - (sEa (I 232) ((x2).toNat) (I 232 (103 + 28 * ((x2).toNat))).toNat))), none, some (vL ((sNo (I 232) ((x1).toNat) (I 232 (103 + 28 * ((x1).toNat))).toNat) - (sNo (I 232) ((x2).toNat) (I 232 (103 + 28 * ((x2).toNat))).toNat))), none, some (vI (-2000000000)), none, none, none, none]) dX8_reachBy_170 (by decide) rfl ?_
            refine gw_iconst C dX8_reachBy_172 ?_
            refine gw_istore C (lo1 := [some (vR 231), some (vI x1), some (vI x2), some (vI x3), some (vI x4), some (vL (lbS (I 232) x1.toNat x3)), none, some (vL (sinZ (lbS (I 232) x1.toNat x3))), none, some (vL (sinZ ((lbS (I 232) x1.toNat x3) + 324000))), none, some (vL ((sEa (I 232) ((x1).toNat) (I 232 (103 + 28 * ((x1).toNat))).toNat) - (sEa (I 232) ((x2).toNat) (I 232 (103 + 28 * ((x2).toNat))).toNat))), none, some (vL ((sNo (I 232) ((x1).toNat) (I 232 (103 + 28 * ((x1).toNat))).toNat) - (sNo (I 232) ((x2).toNat) (I 232 (103 + 28 * ((x2).toNat))).toNat))), none, some (vI (-2000000000)), some (vI 0), none, none, none]) dX8_reachBy_173 (by decide) rfl ?_
            refine gw_sipush C dX8_reachBy_175 rfl ?_
            refine gw_istore C (lo1 := [some (vR 231), some (vI x1), some (vI x2), some (vI x3), some (vI x4), some (vL (lbS (I 232) x1.toNat x3)), none, some (vL (sinZ (lbS (I 232) x1.toNat x3))), none, some (vL (sinZ ((lbS (I 232) x1.toNat x3) + 324000))), none, some (vL ((sEa (I 232) ((x1).toNat) (I 232 (103 + 28 * ((x1).toNat))).toNat) - (sEa (I 232) ((x2).toNat) (I 232 (103 + 28 * ((x2).toNat))).toNat))), none, some (vL ((sNo (I 232) ((x1).toNat) (I 232 (103 + 28 * ((x1).toNat))).toNat) - (sNo (I 232) ((x2).toNat) (I 232 (103 + 28 * ((x2).toNat))).toNat))), none, some (vI (-2000000000)), some (vI 0), some (vI 1000), none, none]) dX8_reachBy_178 (by decide) rfl ?_
            have loop_180 : ∀ (fuel : Nat) (fd : Int) (ls : Int) (k : Nat) (z1 : Nat), ((k : Int) ≤ x4) → (agK (fun k => 1000 * ((k : Int) + 1)) (lvS (I 232) x1.toNat x2.toNat x3) k = (fd, ls)) → (0 ≤ ls ∧ ls ≤ 100000000) → (fd = -2000000000 ∨ (0 ≤ fd ∧ fd ≤ 2000000000)) → 2001 - k < fuel → GW G p l e ({ frames := 8, cells := 0, slots := 0, locals := 180 } : Room) s m args below meth c 20 z1 N0 SH RR (up I 231 6 0) J 0 0 (vx_MQ below (GQ G N0 SH RR (mrQ (kBy (I 232) x1 x2 x3 x4) (rBy (I 232) x1.toNat x2.toNat x3 x4) I J)) (GX G N0 SH RR gNo) args s 0 0 (ge G)) 180 [some (vR 231), some (vI x1), some (vI x2), some (vI x3), some (vI x4), some (vL (lbS (I 232) x1.toNat x3)), none, some (vL (sinZ (lbS (I 232) x1.toNat x3))), none, some (vL (sinZ ((lbS (I 232) x1.toNat x3) + 324000))), none, some (vL ((sEa (I 232) ((x1).toNat) (I 232 (103 + 28 * ((x1).toNat))).toNat) - (sEa (I 232) ((x2).toNat) (I 232 (103 + 28 * ((x2).toNat))).toNat))), none, some (vL ((sNo (I 232) ((x1).toNat) (I 232 (103 + 28 * ((x1).toNat))).toNat) - (sNo (I 232) ((x2).toNat) (I 232 (103 + 28 * ((x2).toNat))).toNat))), none, some (vI fd), some (vI ls), some (vI (1000 * ((k : Int) + 1))), none, none] [] := by
              intro fuel
              induction fuel with
              | zero => intro fd ls k z1 hk hu hv hub hf_180; exact absurd hf_180 (Nat.not_lt_zero _)
              | succ fuel ih_180 =>
                intro fd ls k z1 hk hu hv hub hf_180
                refine gw_iload C dX8_reachBy_180 rfl ?_
                refine gw_sipush C dX8_reachBy_182 rfl ?_
                refine gw_iload C dX8_reachBy_185 rfl ?_
                refine gw_imul C dX8_reachBy_187 ?_
                refine gw_icmp_gt C (tgt := 280) dX8_reachBy_188 (by decide) (by first | omega | exact hgi _ _) (by first | omega | exact hgi _ _) (fun h_188 => ?_) (fun h_188 => ?_)
                · skip
                  refine gw_iload C dX8_reachBy_280 rfl ?_
                  exact gw_iret C (Nat.le_of_ble_eq_true rfl) (Nat.le_of_ble_eq_true rfl) dX8_reachBy_282 (mr_0 (by unfold kBy; (repeat (first | rw [if_pos (by omega)] | rw [if_neg (by omega)]))) (by unfold rBy; rw [if_pos hey, show x4.toNat = k by omega, hu]))
                · skip
                  have st1 := st_b (x := 1000 * ((k : Int) + 1)) (y := sinZ (lbS (I 232) x1.toNat x3)) (by omega) hs1
                  have st2 := st_b (x := 1000 * ((k : Int) + 1)) (y := sinZ (lbS (I 232) x1.toNat x3 + 324000)) (by omega) hs2
                  refine gw_lload C dX8_reachBy_191 rfl ?_
                  refine gw_iload C dX8_reachBy_193 rfl ?_
                  refine gw_i2l C dX8_reachBy_195 (by first | omega | exact hgi _ _) ?_
                  refine gw_lload C dX8_reachBy_196 rfl ?_
                  refine gw_lmul C dX8_reachBy_198 ?_
                  refine gw_ldc2 C (x := 10000) dX8_reachBy_199 kX8_189 (by decide) ?_
                  refine gw_ldiv C dX8_reachBy_202 (by omega) ⟨by decide, by decide⟩ (by decide) ?_
                  refine gw_ladd C dX8_reachBy_203 ?_
                  refine gw_lload C dX8_reachBy_204 rfl ?_
                  refine gw_iload C dX8_reachBy_206 rfl ?_
                  refine gw_i2l C dX8_reachBy_208 (by first | omega | exact hgi _ _) ?_
                  refine gw_lload C dX8_reachBy_209 rfl ?_
                  refine gw_lmul C dX8_reachBy_211 ?_
                  refine gw_ldc2 C (x := 10000) dX8_reachBy_212 kX8_189 (by decide) ?_
                  refine gw_ldiv C dX8_reachBy_215 (by omega) ⟨by decide, by decide⟩ (by decide) ?_
                  refine gw_ladd C dX8_reachBy_216 ?_
                  have hx9 : (((sEa (I 232) ((x1).toNat) (I 232 (103 + 28 * ((x1).toNat))).toNat) - (sEa (I 232) ((x2).toNat) (I 232 (103 + 28 * ((x2).toNat))).toNat)) + (((1000 * ((k : Int) + 1)) * (sinZ (lbS (I 232) x1.toNat x3)))).tdiv 10000) = exF (sEa (I 232) x1.toNat (I 232 (103 + 28 * x1.toNat)).toNat) (sEa (I 232) x2.toNat (I 232 (103 + 28 * x2.toNat)).toNat) (sinZ (lbS (I 232) x1.toNat x3)) k := by unfold exF; omega
                  have hy9 : (((sNo (I 232) ((x1).toNat) (I 232 (103 + 28 * ((x1).toNat))).toNat) - (sNo (I 232) ((x2).toNat) (I 232 (103 + 28 * ((x2).toNat))).toNat)) + (((1000 * ((k : Int) + 1)) * (sinZ ((lbS (I 232) x1.toNat x3) + 324000)))).tdiv 10000) = exF (sNo (I 232) x1.toNat (I 232 (103 + 28 * x1.toNat)).toNat) (sNo (I 232) x2.toNat (I 232 (103 + 28 * x2.toNat)).toNat) (sinZ (lbS (I 232) x1.toNat x3 + 324000)) k := by unfold exF; omega
                  have xb : -20000000 ≤ exF (sEa (I 232) x1.toNat (I 232 (103 + 28 * x1.toNat)).toNat) (sEa (I 232) x2.toNat (I 232 (103 + 28 * x2.toNat)).toNat) (sinZ (lbS (I 232) x1.toNat x3)) k ∧ exF (sEa (I 232) x1.toNat (I 232 (103 + 28 * x1.toNat)).toNat) (sEa (I 232) x2.toNat (I 232 (103 + 28 * x2.toNat)).toNat) (sinZ (lbS (I 232) x1.toNat x3)) k ≤ 20000000 := by unfold exF; omega
                  have yb : -20000000 ≤ exF (sNo (I 232) x1.toNat (I 232 (103 + 28 * x1.toNat)).toNat) (sNo (I 232) x2.toNat (I 232 (103 + 28 * x2.toNat)).toNat) (sinZ (lbS (I 232) x1.toNat x3 + 324000)) k ∧ exF (sNo (I 232) x1.toNat (I 232 (103 + 28 * x1.toNat)).toNat) (sNo (I 232) x2.toNat (I 232 (103 + 28 * x2.toNat)).toNat) (sinZ (lbS (I 232) x1.toNat x3 + 324000)) k ≤ 20000000 := by unfold exF; omega
                  rw [hx9, hy9]
                  have hsq := sq2 xb yb
                  refine gw_callSm C (as := [vL (exF (sEa (I 232) x1.toNat (I 232 (103 + 28 * x1.toNat)).toNat) (sEa (I 232) x2.toNat (I 232 (103 + 28 * x2.toNat)).toNat) (sinZ (lbS (I 232) x1.toNat x3)) k), vL (exF (sNo (I 232) x1.toNat (I 232 (103 + 28 * x1.toNat)).toNat) (sNo (I 232) x2.toNat (I 232 (103 + 28 * x2.toNat)).toNat) (sinZ (lbS (I 232) x1.toNat x3 + 324000)) k)]) (st := []) (c_X8_far hl0 G (exF (sEa (I 232) x1.toNat (I 232 (103 + 28 * x1.toNat)).toNat) (sEa (I 232) x2.toNat (I 232 (103 + 28 * x2.toNat)).toNat) (sinZ (lbS (I 232) x1.toNat x3)) k) (exF (sNo (I 232) x1.toNat (I 232 (103 + 28 * x1.toNat)).toNat) (sNo (I 232) x2.toNat (I 232 (103 + 28 * x2.toNat)).toNat) (sinZ (lbS (I 232) x1.toNat x3 + 324000)) k) hsq) dX8_reachBy_217 kX8_202 qX8_far hdX8_far ⟨Nat.le_of_ble_eq_true rfl, Nat.le_of_ble_eq_true rfl⟩ ⟨Nat.le_of_ble_eq_true rfl, Nat.le_of_ble_eq_true rfl⟩ (Nat.le_of_ble_eq_true rfl) rfl (fun z_217 => ?_)
                  rw [show (rootZ ((exF (sEa (I 232) x1.toNat (I 232 (103 + 28 * x1.toNat)).toNat) (sEa (I 232) x2.toNat (I 232 (103 + 28 * x2.toNat)).toNat) (sinZ (lbS (I 232) x1.toNat x3)) k) * (exF (sEa (I 232) x1.toNat (I 232 (103 + 28 * x1.toNat)).toNat) (sEa (I 232) x2.toNat (I 232 (103 + 28 * x2.toNat)).toNat) (sinZ (lbS (I 232) x1.toNat x3)) k) + (exF (sNo (I 232) x1.toNat (I 232 (103 + 28 * x1.toNat)).toNat) (sNo (I 232) x2.toNat (I 232 (103 + 28 * x2.toNat)).toNat) (sinZ (lbS (I 232) x1.toNat x3 + 324000)) k) * (exF (sNo (I 232) x1.toNat (I 232 (103 + 28 * x1.toNat)).toNat) (sNo (I 232) x2.toNat (I 232 (103 + 28 * x2.toNat)).toNat) (sinZ (lbS (I 232) x1.toNat x3 + 324000)) k))) = lvS (I 232) x1.toNat x2.toNat x3 k from rfl]
                  have hlv : 0 ≤ lvS (I 232) x1.toNat x2.toNat x3 k ∧ lvS (I 232) x1.toNat x2.toNat x3 k ≤ 100000000 := ⟨(rootZ_s hsq.1).1, rootZ_le (v := (exF (sEa (I 232) x1.toNat (I 232 (103 + 28 * x1.toNat)).toNat) (sEa (I 232) x2.toNat (I 232 (103 + 28 * x2.toNat)).toNat) (sinZ (lbS (I 232) x1.toNat x3)) k) * (exF (sEa (I 232) x1.toNat (I 232 (103 + 28 * x1.toNat)).toNat) (sEa (I 232) x2.toNat (I 232 (103 + 28 * x2.toNat)).toNat) (sinZ (lbS (I 232) x1.toNat x3)) k) + (exF (sNo (I 232) x1.toNat (I 232 (103 + 28 * x1.toNat)).toNat) (sNo (I 232) x2.toNat (I 232 (103 + 28 * x2.toNat)).toNat) (sinZ (lbS (I 232) x1.toNat x3 + 324000)) k) * (exF (sNo (I 232) x1.toNat (I 232 (103 + 28 * x1.toNat)).toNat) (sNo (I 232) x2.toNat (I 232 (103 + 28 * x2.toNat)).toNat) (sinZ (lbS (I 232) x1.toNat x3 + 324000)) k)) hsq.1 (by decide) (by omega)⟩
                  refine gw_istore C (lo1 := [some (vR 231), some (vI x1), some (vI x2), some (vI x3), some (vI x4), some (vL (lbS (I 232) x1.toNat x3)), none, some (vL (sinZ (lbS (I 232) x1.toNat x3))), none, some (vL (sinZ ((lbS (I 232) x1.toNat x3) + 324000))), none, some (vL ((sEa (I 232) ((x1).toNat) (I 232 (103 + 28 * ((x1).toNat))).toNat) - (sEa (I 232) ((x2).toNat) (I 232 (103 + 28 * ((x2).toNat))).toNat))), none, some (vL ((sNo (I 232) ((x1).toNat) (I 232 (103 + 28 * ((x1).toNat))).toNat) - (sNo (I 232) ((x2).toNat) (I 232 (103 + 28 * ((x2).toNat))).toNat))), none, some (vI fd), some (vI ls), some (vI (1000 * ((k : Int) + 1))), some (vI (lvS (I 232) x1.toNat x2.toNat x3 k)), none]) dX8_reachBy_220 (by decide) rfl ?_
                  refine gw_iload C dX8_reachBy_222 rfl ?_
                  refine gw_ldc C (x := (-2000000000)) dX8_reachBy_224 kX8_105 (by decide) ?_
                  refine gw_icmp_eq C (tgt := 236) dX8_reachBy_226 (by decide) (by first | omega | exact hgi _ _) ⟨by decide, by decide⟩ (fun h_226 => ?_) (fun h_226 => ?_)
                  · skip
                    refine gw_iconst C dX8_reachBy_236 ?_
                    refine gw_goto C (tgt := 241) dX8_reachBy_237 (by decide) ?_
                    refine gw_istore C (lo1 := [some (vR 231), some (vI x1), some (vI x2), some (vI x3), some (vI x4), some (vL (lbS (I 232) x1.toNat x3)), none, some (vL (sinZ (lbS (I 232) x1.toNat x3))), none, some (vL (sinZ ((lbS (I 232) x1.toNat x3) + 324000))), none, some (vL ((sEa (I 232) ((x1).toNat) (I 232 (103 + 28 * ((x1).toNat))).toNat) - (sEa (I 232) ((x2).toNat) (I 232 (103 + 28 * ((x2).toNat))).toNat))), none, some (vL ((sNo (I 232) ((x1).toNat) (I 232 (103 + 28 * ((x1).toNat))).toNat) - (sNo (I 232) ((x2).toNat) (I 232 (103 + 28 * ((x2).toNat))).toNat))), none, some (vI fd), some (vI ls), some (vI (1000 * ((k : Int) + 1))), some (vI (lvS (I 232) x1.toNat x2.toNat x3 k)), some (vI 1)]) dX8_reachBy_241 (by decide) rfl ?_
                    refine gw_iload C dX8_reachBy_243 rfl ?_
                    refine gw_if_eq C (tgt := 253) dX8_reachBy_245 (by decide) ⟨by decide, by decide⟩ (fun h => absurd h (by decide)) (fun _ => ?_)
                    refine gw_iload C dX8_reachBy_248 rfl ?_
                    refine gw_goto C (tgt := 255) dX8_reachBy_250 (by decide) ?_
                    refine gw_istore C (lo1 := [some (vR 231), some (vI x1), some (vI x2), some (vI x3), some (vI x4), some (vL (lbS (I 232) x1.toNat x3)), none, some (vL (sinZ (lbS (I 232) x1.toNat x3))), none, some (vL (sinZ ((lbS (I 232) x1.toNat x3) + 324000))), none, some (vL ((sEa (I 232) ((x1).toNat) (I 232 (103 + 28 * ((x1).toNat))).toNat) - (sEa (I 232) ((x2).toNat) (I 232 (103 + 28 * ((x2).toNat))).toNat))), none, some (vL ((sNo (I 232) ((x1).toNat) (I 232 (103 + 28 * ((x1).toNat))).toNat) - (sNo (I 232) ((x2).toNat) (I 232 (103 + 28 * ((x2).toNat))).toNat))), none, some (vI (1000 * ((k : Int) + 1))), some (vI ls), some (vI (1000 * ((k : Int) + 1))), some (vI (lvS (I 232) x1.toNat x2.toNat x3 k)), some (vI 1)]) dX8_reachBy_255 (by decide) rfl ?_
                    refine gw_iload C dX8_reachBy_257 rfl ?_
                    refine gw_if_eq C (tgt := 267) dX8_reachBy_259 (by decide) ⟨by decide, by decide⟩ (fun h => absurd h (by decide)) (fun _ => ?_)
                    refine gw_iload C dX8_reachBy_262 rfl ?_
                    refine gw_goto C (tgt := 269) dX8_reachBy_264 (by decide) ?_
                    refine gw_istore C (lo1 := [some (vR 231), some (vI x1), some (vI x2), some (vI x3), some (vI x4), some (vL (lbS (I 232) x1.toNat x3)), none, some (vL (sinZ (lbS (I 232) x1.toNat x3))), none, some (vL (sinZ ((lbS (I 232) x1.toNat x3) + 324000))), none, some (vL ((sEa (I 232) ((x1).toNat) (I 232 (103 + 28 * ((x1).toNat))).toNat) - (sEa (I 232) ((x2).toNat) (I 232 (103 + 28 * ((x2).toNat))).toNat))), none, some (vL ((sNo (I 232) ((x1).toNat) (I 232 (103 + 28 * ((x1).toNat))).toNat) - (sNo (I 232) ((x2).toNat) (I 232 (103 + 28 * ((x2).toNat))).toNat))), none, some (vI (1000 * ((k : Int) + 1))), some (vI (lvS (I 232) x1.toNat x2.toNat x3 k)), some (vI (1000 * ((k : Int) + 1))), some (vI (lvS (I 232) x1.toNat x2.toNat x3 k)), some (vI 1)]) dX8_reachBy_269 (by decide) rfl ?_
                    refine gw_iincW C (lo1 := [some (vR 231), some (vI x1), some (vI x2), some (vI x3), some (vI x4), some (vL (lbS (I 232) x1.toNat x3)), none, some (vL (sinZ (lbS (I 232) x1.toNat x3))), none, some (vL (sinZ ((lbS (I 232) x1.toNat x3) + 324000))), none, some (vL ((sEa (I 232) ((x1).toNat) (I 232 (103 + 28 * ((x1).toNat))).toNat) - (sEa (I 232) ((x2).toNat) (I 232 (103 + 28 * ((x2).toNat))).toNat))), none, some (vL ((sNo (I 232) ((x1).toNat) (I 232 (103 + 28 * ((x1).toNat))).toNat) - (sNo (I 232) ((x2).toNat) (I 232 (103 + 28 * ((x2).toNat))).toNat))), none, some (vI (1000 * ((k : Int) + 1))), some (vI (lvS (I 232) x1.toNat x2.toNat x3 k)), some (vI ((1000 * ((k : Int) + 1)) + 1000)), some (vI (lvS (I 232) x1.toNat x2.toNat x3 k)), some (vI 1)]) dX8_reachBy_271 rfl (by decide) rfl ?_
                    refine gw_goto C (tgt := 180) dX8_reachBy_277 (by decide) ?_
                    exact gw_weak (lo' := [some (vR 231), some (vI x1), some (vI x2), some (vI x3), some (vI x4), some (vL (lbS (I 232) x1.toNat x3)), none, some (vL (sinZ (lbS (I 232) x1.toNat x3))), none, some (vL (sinZ ((lbS (I 232) x1.toNat x3) + 324000))), none, some (vL ((sEa (I 232) ((x1).toNat) (I 232 (103 + 28 * ((x1).toNat))).toNat) - (sEa (I 232) ((x2).toNat) (I 232 (103 + 28 * ((x2).toNat))).toNat))), none, some (vL ((sNo (I 232) ((x1).toNat) (I 232 (103 + 28 * ((x1).toNat))).toNat) - (sNo (I 232) ((x2).toNat) (I 232 (103 + 28 * ((x2).toNat))).toNat))), none, some (vI (1000 * ((k : Int) + 1))), some (vI (lvS (I 232) x1.toNat x2.toNat x3 k)), some (vI (1000 * ((((k + 1) : Nat) : Int) + 1))), none, none]) ⟨rfl, rfl, rfl, rfl, rfl, rfl, rfl, rfl, rfl, rfl, rfl, rfl, congrArg (fun q => some (vI q)) (by omega), trivial⟩ (ih_180 (1000 * ((k : Int) + 1)) (lvS (I 232) x1.toNat x2.toNat x3 k) (k + 1) z_217 (by omega) (by first | (exfalso; omega) | exact agK_t hu (by omega) | exact agK_f hu (by omega)) (by omega) (by omega) (by omega))
                  · skip
                    refine gw_iload C dX8_reachBy_229 rfl ?_
                    refine gw_iload C dX8_reachBy_231 rfl ?_
                    refine gw_icmp_ge C (tgt := 240) dX8_reachBy_233 (by decide) (by first | omega | exact hgi _ _) (by first | omega | exact hgi _ _) (fun h_233 => ?_) (fun h_233 => ?_)
                    · skip
                      refine gw_iconst C dX8_reachBy_240 ?_
                      refine gw_istore C (lo1 := [some (vR 231), some (vI x1), some (vI x2), some (vI x3), some (vI x4), some (vL (lbS (I 232) x1.toNat x3)), none, some (vL (sinZ (lbS (I 232) x1.toNat x3))), none, some (vL (sinZ ((lbS (I 232) x1.toNat x3) + 324000))), none, some (vL ((sEa (I 232) ((x1).toNat) (I 232 (103 + 28 * ((x1).toNat))).toNat) - (sEa (I 232) ((x2).toNat) (I 232 (103 + 28 * ((x2).toNat))).toNat))), none, some (vL ((sNo (I 232) ((x1).toNat) (I 232 (103 + 28 * ((x1).toNat))).toNat) - (sNo (I 232) ((x2).toNat) (I 232 (103 + 28 * ((x2).toNat))).toNat))), none, some (vI fd), some (vI ls), some (vI (1000 * ((k : Int) + 1))), some (vI (lvS (I 232) x1.toNat x2.toNat x3 k)), some (vI 0)]) dX8_reachBy_241 (by decide) rfl ?_
                      refine gw_iload C dX8_reachBy_243 rfl ?_
                      refine gw_if_eq C (tgt := 253) dX8_reachBy_245 (by decide) ⟨by decide, by decide⟩ (fun _ => ?_) (fun h => absurd h (by decide))
                      refine gw_iload C dX8_reachBy_253 rfl ?_
                      refine gw_istore C (lo1 := [some (vR 231), some (vI x1), some (vI x2), some (vI x3), some (vI x4), some (vL (lbS (I 232) x1.toNat x3)), none, some (vL (sinZ (lbS (I 232) x1.toNat x3))), none, some (vL (sinZ ((lbS (I 232) x1.toNat x3) + 324000))), none, some (vL ((sEa (I 232) ((x1).toNat) (I 232 (103 + 28 * ((x1).toNat))).toNat) - (sEa (I 232) ((x2).toNat) (I 232 (103 + 28 * ((x2).toNat))).toNat))), none, some (vL ((sNo (I 232) ((x1).toNat) (I 232 (103 + 28 * ((x1).toNat))).toNat) - (sNo (I 232) ((x2).toNat) (I 232 (103 + 28 * ((x2).toNat))).toNat))), none, some (vI fd), some (vI ls), some (vI (1000 * ((k : Int) + 1))), some (vI (lvS (I 232) x1.toNat x2.toNat x3 k)), some (vI 0)]) dX8_reachBy_255 (by decide) rfl ?_
                      refine gw_iload C dX8_reachBy_257 rfl ?_
                      refine gw_if_eq C (tgt := 267) dX8_reachBy_259 (by decide) ⟨by decide, by decide⟩ (fun _ => ?_) (fun h => absurd h (by decide))
                      refine gw_iload C dX8_reachBy_267 rfl ?_
                      refine gw_istore C (lo1 := [some (vR 231), some (vI x1), some (vI x2), some (vI x3), some (vI x4), some (vL (lbS (I 232) x1.toNat x3)), none, some (vL (sinZ (lbS (I 232) x1.toNat x3))), none, some (vL (sinZ ((lbS (I 232) x1.toNat x3) + 324000))), none, some (vL ((sEa (I 232) ((x1).toNat) (I 232 (103 + 28 * ((x1).toNat))).toNat) - (sEa (I 232) ((x2).toNat) (I 232 (103 + 28 * ((x2).toNat))).toNat))), none, some (vL ((sNo (I 232) ((x1).toNat) (I 232 (103 + 28 * ((x1).toNat))).toNat) - (sNo (I 232) ((x2).toNat) (I 232 (103 + 28 * ((x2).toNat))).toNat))), none, some (vI fd), some (vI ls), some (vI (1000 * ((k : Int) + 1))), some (vI (lvS (I 232) x1.toNat x2.toNat x3 k)), some (vI 0)]) dX8_reachBy_269 (by decide) rfl ?_
                      refine gw_iincW C (lo1 := [some (vR 231), some (vI x1), some (vI x2), some (vI x3), some (vI x4), some (vL (lbS (I 232) x1.toNat x3)), none, some (vL (sinZ (lbS (I 232) x1.toNat x3))), none, some (vL (sinZ ((lbS (I 232) x1.toNat x3) + 324000))), none, some (vL ((sEa (I 232) ((x1).toNat) (I 232 (103 + 28 * ((x1).toNat))).toNat) - (sEa (I 232) ((x2).toNat) (I 232 (103 + 28 * ((x2).toNat))).toNat))), none, some (vL ((sNo (I 232) ((x1).toNat) (I 232 (103 + 28 * ((x1).toNat))).toNat) - (sNo (I 232) ((x2).toNat) (I 232 (103 + 28 * ((x2).toNat))).toNat))), none, some (vI fd), some (vI ls), some (vI ((1000 * ((k : Int) + 1)) + 1000)), some (vI (lvS (I 232) x1.toNat x2.toNat x3 k)), some (vI 0)]) dX8_reachBy_271 rfl (by decide) rfl ?_
                      refine gw_goto C (tgt := 180) dX8_reachBy_277 (by decide) ?_
                      exact gw_weak (lo' := [some (vR 231), some (vI x1), some (vI x2), some (vI x3), some (vI x4), some (vL (lbS (I 232) x1.toNat x3)), none, some (vL (sinZ (lbS (I 232) x1.toNat x3))), none, some (vL (sinZ ((lbS (I 232) x1.toNat x3) + 324000))), none, some (vL ((sEa (I 232) ((x1).toNat) (I 232 (103 + 28 * ((x1).toNat))).toNat) - (sEa (I 232) ((x2).toNat) (I 232 (103 + 28 * ((x2).toNat))).toNat))), none, some (vL ((sNo (I 232) ((x1).toNat) (I 232 (103 + 28 * ((x1).toNat))).toNat) - (sNo (I 232) ((x2).toNat) (I 232 (103 + 28 * ((x2).toNat))).toNat))), none, some (vI fd), some (vI ls), some (vI (1000 * ((((k + 1) : Nat) : Int) + 1))), none, none]) ⟨rfl, rfl, rfl, rfl, rfl, rfl, rfl, rfl, rfl, rfl, rfl, rfl, congrArg (fun q => some (vI q)) (by omega), trivial⟩ (ih_180 fd ls (k + 1) z_217 (by omega) (by first | (exfalso; omega) | exact agK_t hu (by omega) | exact agK_f hu (by omega)) (by omega) (by omega) (by omega))
                    · skip
                      refine gw_iconst C dX8_reachBy_236 ?_
                      refine gw_goto C (tgt := 241) dX8_reachBy_237 (by decide) ?_
                      refine gw_istore C (lo1 := [some (vR 231), some (vI x1), some (vI x2), some (vI x3), some (vI x4), some (vL (lbS (I 232) x1.toNat x3)), none, some (vL (sinZ (lbS (I 232) x1.toNat x3))), none, some (vL (sinZ ((lbS (I 232) x1.toNat x3) + 324000))), none, some (vL ((sEa (I 232) ((x1).toNat) (I 232 (103 + 28 * ((x1).toNat))).toNat) - (sEa (I 232) ((x2).toNat) (I 232 (103 + 28 * ((x2).toNat))).toNat))), none, some (vL ((sNo (I 232) ((x1).toNat) (I 232 (103 + 28 * ((x1).toNat))).toNat) - (sNo (I 232) ((x2).toNat) (I 232 (103 + 28 * ((x2).toNat))).toNat))), none, some (vI fd), some (vI ls), some (vI (1000 * ((k : Int) + 1))), some (vI (lvS (I 232) x1.toNat x2.toNat x3 k)), some (vI 1)]) dX8_reachBy_241 (by decide) rfl ?_
                      refine gw_iload C dX8_reachBy_243 rfl ?_
                      refine gw_if_eq C (tgt := 253) dX8_reachBy_245 (by decide) ⟨by decide, by decide⟩ (fun h => absurd h (by decide)) (fun _ => ?_)
                      refine gw_iload C dX8_reachBy_248 rfl ?_
                      refine gw_goto C (tgt := 255) dX8_reachBy_250 (by decide) ?_
                      refine gw_istore C (lo1 := [some (vR 231), some (vI x1), some (vI x2), some (vI x3), some (vI x4), some (vL (lbS (I 232) x1.toNat x3)), none, some (vL (sinZ (lbS (I 232) x1.toNat x3))), none, some (vL (sinZ ((lbS (I 232) x1.toNat x3) + 324000))), none, some (vL ((sEa (I 232) ((x1).toNat) (I 232 (103 + 28 * ((x1).toNat))).toNat) - (sEa (I 232) ((x2).toNat) (I 232 (103 + 28 * ((x2).toNat))).toNat))), none, some (vL ((sNo (I 232) ((x1).toNat) (I 232 (103 + 28 * ((x1).toNat))).toNat) - (sNo (I 232) ((x2).toNat) (I 232 (103 + 28 * ((x2).toNat))).toNat))), none, some (vI (1000 * ((k : Int) + 1))), some (vI ls), some (vI (1000 * ((k : Int) + 1))), some (vI (lvS (I 232) x1.toNat x2.toNat x3 k)), some (vI 1)]) dX8_reachBy_255 (by decide) rfl ?_
                      refine gw_iload C dX8_reachBy_257 rfl ?_
                      refine gw_if_eq C (tgt := 267) dX8_reachBy_259 (by decide) ⟨by decide, by decide⟩ (fun h => absurd h (by decide)) (fun _ => ?_)
                      refine gw_iload C dX8_reachBy_262 rfl ?_
                      refine gw_goto C (tgt := 269) dX8_reachBy_264 (by decide) ?_
                      refine gw_istore C (lo1 := [some (vR 231), some (vI x1), some (vI x2), some (vI x3), some (vI x4), some (vL (lbS (I 232) x1.toNat x3)), none, some (vL (sinZ (lbS (I 232) x1.toNat x3))), none, some (vL (sinZ ((lbS (I 232) x1.toNat x3) + 324000))), none, some (vL ((sEa (I 232) ((x1).toNat) (I 232 (103 + 28 * ((x1).toNat))).toNat) - (sEa (I 232) ((x2).toNat) (I 232 (103 + 28 * ((x2).toNat))).toNat))), none, some (vL ((sNo (I 232) ((x1).toNat) (I 232 (103 + 28 * ((x1).toNat))).toNat) - (sNo (I 232) ((x2).toNat) (I 232 (103 + 28 * ((x2).toNat))).toNat))), none, some (vI (1000 * ((k : Int) + 1))), some (vI (lvS (I 232) x1.toNat x2.toNat x3 k)), some (vI (1000 * ((k : Int) + 1))), some (vI (lvS (I 232) x1.toNat x2.toNat x3 k)), some (vI 1)]) dX8_reachBy_269 (by decide) rfl ?_
                      refine gw_iincW C (lo1 := [some (vR 231), some (vI x1), some (vI x2), some (vI x3), some (vI x4), some (vL (lbS (I 232) x1.toNat x3)), none, some (vL (sinZ (lbS (I 232) x1.toNat x3))), none, some (vL (sinZ ((lbS (I 232) x1.toNat x3) + 324000))), none, some (vL ((sEa (I 232) ((x1).toNat) (I 232 (103 + 28 * ((x1).toNat))).toNat) - (sEa (I 232) ((x2).toNat) (I 232 (103 + 28 * ((x2).toNat))).toNat))), none, some (vL ((sNo (I 232) ((x1).toNat) (I 232 (103 + 28 * ((x1).toNat))).toNat) - (sNo (I 232) ((x2).toNat) (I 232 (103 + 28 * ((x2).toNat))).toNat))), none, some (vI (1000 * ((k : Int) + 1))), some (vI (lvS (I 232) x1.toNat x2.toNat x3 k)), some (vI ((1000 * ((k : Int) + 1)) + 1000)), some (vI (lvS (I 232) x1.toNat x2.toNat x3 k)), some (vI 1)]) dX8_reachBy_271 rfl (by decide) rfl ?_
                      refine gw_goto C (tgt := 180) dX8_reachBy_277 (by decide) ?_
                      exact gw_weak (lo' := [some (vR 231), some (vI x1), some (vI x2), some (vI x3), some (vI x4), some (vL (lbS (I 232) x1.toNat x3)), none, some (vL (sinZ (lbS (I 232) x1.toNat x3))), none, some (vL (sinZ ((lbS (I 232) x1.toNat x3) + 324000))), none, some (vL ((sEa (I 232) ((x1).toNat) (I 232 (103 + 28 * ((x1).toNat))).toNat) - (sEa (I 232) ((x2).toNat) (I 232 (103 + 28 * ((x2).toNat))).toNat))), none, some (vL ((sNo (I 232) ((x1).toNat) (I 232 (103 + 28 * ((x1).toNat))).toNat) - (sNo (I 232) ((x2).toNat) (I 232 (103 + 28 * ((x2).toNat))).toNat))), none, some (vI (1000 * ((k : Int) + 1))), some (vI (lvS (I 232) x1.toNat x2.toNat x3 k)), some (vI (1000 * ((((k + 1) : Nat) : Int) + 1))), none, none]) ⟨rfl, rfl, rfl, rfl, rfl, rfl, rfl, rfl, rfl, rfl, rfl, rfl, congrArg (fun q => some (vI q)) (by omega), trivial⟩ (ih_180 (1000 * ((k : Int) + 1)) (lvS (I 232) x1.toNat x2.toNat x3 k) (k + 1) z_217 (by omega) (by first | (exfalso; omega) | exact agK_t hu (by omega) | exact agK_f hu (by omega)) (by omega) (by omega) (by omega))
            exact gw_weak (lo' := [some (vR 231), some (vI x1), some (vI x2), some (vI x3), some (vI x4), some (vL (lbS (I 232) x1.toNat x3)), none, some (vL (sinZ (lbS (I 232) x1.toNat x3))), none, some (vL (sinZ ((lbS (I 232) x1.toNat x3) + 324000))), none, some (vL ((sEa (I 232) ((x1).toNat) (I 232 (103 + 28 * ((x1).toNat))).toNat) - (sEa (I 232) ((x2).toNat) (I 232 (103 + 28 * ((x2).toNat))).toNat))), none, some (vL ((sNo (I 232) ((x1).toNat) (I 232 (103 + 28 * ((x1).toNat))).toNat) - (sNo (I 232) ((x2).toNat) (I 232 (103 + 28 * ((x2).toNat))).toNat))), none, some (vI (-2000000000)), some (vI 0), some (vI (1000 * ((0 : Int) + 1))), none, none]) ⟨rfl, rfl, rfl, rfl, rfl, rfl, rfl, rfl, rfl, rfl, rfl, rfl, congrArg (fun q => some (vI q)) (by omega), trivial⟩ (loop_180 _ (-2000000000) 0 0 z_161 (by omega) (by rfl) (by omega) (by omega) (Nat.lt_succ_self _))
          · skip
            refine gw_ldc C (x := (-2000000000)) dX8_reachBy_65 kX8_105 (by decide) ?_
            exact gw_iret C (Nat.le_of_ble_eq_true rfl) (Nat.le_of_ble_eq_true rfl) dX8_reachBy_67 (mr_0 (by unfold kBy; (repeat (first | rw [if_pos (by omega)] | rw [if_neg (by omega)]))) (by unfold rBy; rw [if_neg (ap_n (by omega))]))
        · skip
          refine gw_if_eq C (tgt := 45) dX8_reachBy_38 (by decide) ⟨by decide, by decide⟩ (fun _ => ?_) (fun h => absurd h (by decide))
          refine gw_iconst C dX8_reachBy_45 ?_
          refine gw_callVm C (as := [vI 2]) (st := []) (ci := 7) (T0 := TX8) (N := 10) (c_X8_throwsAt hl0 G I J 2 ⟨by decide, by decide⟩) dX8_reachBy_46 kX8_70 qX8_throwsAt hdX8_throwsAt ⟨Nat.le_of_ble_eq_true rfl, Nat.le_of_ble_eq_true rfl⟩ ⟨Nat.le_of_ble_eq_true rfl, Nat.le_of_ble_eq_true rfl⟩ (Nat.le_of_ble_eq_true rfl) rfl xs_231 xn_231 rfl (fun z_46_2 => ?_)
          rw [show (if (0 : Int) < 2 then (1 : Int) else 0) = 1 from by decide]
          refine gw_if_eq C (tgt := 54) dX8_reachBy_49 (by decide) ⟨by decide, by decide⟩ (fun h => absurd h (by decide)) (fun _ => ?_)
          refine gw_iconst C dX8_reachBy_52 ?_
          exact gw_iret C (Nat.le_of_ble_eq_true rfl) (Nat.le_of_ble_eq_true rfl) dX8_reachBy_53 (mr_1 (by unfold kBy; (repeat (first | rw [if_pos (by omega)] | rw [if_neg (by omega)]))) (by decide))
      · skip
        refine gw_if_eq C (tgt := 45) dX8_reachBy_25 (by decide) ⟨by decide, by decide⟩ (fun _ => ?_) (fun h => absurd h (by decide))
        refine gw_iconst C dX8_reachBy_45 ?_
        refine gw_callVm C (as := [vI 2]) (st := []) (ci := 7) (T0 := TX8) (N := 10) (c_X8_throwsAt hl0 G I J 2 ⟨by decide, by decide⟩) dX8_reachBy_46 kX8_70 qX8_throwsAt hdX8_throwsAt ⟨Nat.le_of_ble_eq_true rfl, Nat.le_of_ble_eq_true rfl⟩ ⟨Nat.le_of_ble_eq_true rfl, Nat.le_of_ble_eq_true rfl⟩ (Nat.le_of_ble_eq_true rfl) rfl xs_231 xn_231 rfl (fun z_46_3 => ?_)
        rw [show (if (0 : Int) < 2 then (1 : Int) else 0) = 1 from by decide]
        refine gw_if_eq C (tgt := 54) dX8_reachBy_49 (by decide) ⟨by decide, by decide⟩ (fun h => absurd h (by decide)) (fun _ => ?_)
        refine gw_iconst C dX8_reachBy_52 ?_
        exact gw_iret C (Nat.le_of_ble_eq_true rfl) (Nat.le_of_ble_eq_true rfl) dX8_reachBy_53 (mr_1 (by unfold kBy; (repeat (first | rw [if_pos (by omega)] | rw [if_neg (by omega)]))) (by decide))
    · skip
      refine gw_if_ne C (tgt := 21) dX8_reachBy_14 (by decide) ⟨by decide, by decide⟩ (fun h => absurd h (by decide)) (fun _ => ?_)
      refine gw_iconst C dX8_reachBy_17 ?_
      refine gw_goto C (tgt := 46) dX8_reachBy_18 (by decide) ?_
      refine gw_callVm C (as := [vI 1]) (st := []) (ci := 7) (T0 := TX8) (N := 10) (c_X8_throwsAt hl0 G I J 1 ⟨by decide, by decide⟩) dX8_reachBy_46 kX8_70 qX8_throwsAt hdX8_throwsAt ⟨Nat.le_of_ble_eq_true rfl, Nat.le_of_ble_eq_true rfl⟩ ⟨Nat.le_of_ble_eq_true rfl, Nat.le_of_ble_eq_true rfl⟩ (Nat.le_of_ble_eq_true rfl) rfl xs_231 xn_231 rfl (fun z_46_4 => ?_)
      rw [show (if (0 : Int) < 1 then (1 : Int) else 0) = 1 from by decide]
      refine gw_if_eq C (tgt := 54) dX8_reachBy_49 (by decide) ⟨by decide, by decide⟩ (fun h => absurd h (by decide)) (fun _ => ?_)
      refine gw_iconst C dX8_reachBy_52 ?_
      exact gw_iret C (Nat.le_of_ble_eq_true rfl) (Nat.le_of_ble_eq_true rfl) dX8_reachBy_53 (mr_1 (by unfold kBy; (repeat (first | rw [if_pos (by omega)] | rw [if_neg (by omega)]))) (by decide))
  · skip
    refine gw_if_eq C (tgt := 17) dX8_reachBy_6 (by decide) ⟨by decide, by decide⟩ (fun _ => ?_) (fun h => absurd h (by decide))
    refine gw_iconst C dX8_reachBy_17 ?_
    refine gw_goto C (tgt := 46) dX8_reachBy_18 (by decide) ?_
    refine gw_callVm C (as := [vI 1]) (st := []) (ci := 7) (T0 := TX8) (N := 10) (c_X8_throwsAt hl0 G I J 1 ⟨by decide, by decide⟩) dX8_reachBy_46 kX8_70 qX8_throwsAt hdX8_throwsAt ⟨Nat.le_of_ble_eq_true rfl, Nat.le_of_ble_eq_true rfl⟩ ⟨Nat.le_of_ble_eq_true rfl, Nat.le_of_ble_eq_true rfl⟩ (Nat.le_of_ble_eq_true rfl) rfl xs_231 xn_231 rfl (fun z_46_5 => ?_)
    rw [show (if (0 : Int) < 1 then (1 : Int) else 0) = 1 from by decide]
    refine gw_if_eq C (tgt := 54) dX8_reachBy_49 (by decide) ⟨by decide, by decide⟩ (fun h => absurd h (by decide)) (fun _ => ?_)
    refine gw_iconst C dX8_reachBy_52 ?_
    exact gw_iret C (Nat.le_of_ble_eq_true rfl) (Nat.le_of_ble_eq_true rfl) dX8_reachBy_53 (mr_1 (by unfold kBy; (repeat (first | rw [if_pos (by omega)] | rw [if_neg (by omega)]))) (by decide))
set_option maxHeartbeats 4000000 in
set_option maxRecDepth 100000 in
theorem c_X8_type {l : Launch} (hl0 : l.stackTraces = false) (G : GG) (I J : GI) {z : Nat} (hty : 0 ≤ I 231 5 ∧ I 231 5 ≤ 90) (x1 : Int) (hx1 : inI x1) : GM l yX8_type (.code yX8_type cX8_type 2 (some .int)) 1 25 0 0 G N0 SH RR [vR 231, vI x1] z I J (fun v _ I' J' => v = some (vI (if kType (I 231 5) x1 = 0 then I 231 5 + 1 else 0)) ∧ I' = (if kType (I 231 5) x1 = 0 then up (up (up I 231 6 0) 234 (I 231 5).toNat x1) 231 5 (I 231 5 + 1) else up I 231 6 (kType (I 231 5) x1)) ∧ J' = J) gNo := by
  refine gm_of (lo0 := [some (vR 231), some (vI x1)]) hl0 (by decide) rfl (Nat.le_of_ble_eq_true rfl) ?_
  intro p e s m args below meth c C ht hgi
  have C : gC G p l s m args meth c cX8_type 2 RX8 (some .int) "type" := C
  refine gw_aload_n C 0 dX8_type_0 rfl rfl ?_
  refine gw_iload_n C 1 dX8_type_1 rfl rfl ?_
  refine gw_i2l C dX8_type_2 hx1 ?_
  refine gw_ldc2 C (x := 32) dX8_type_3 kX8_237 (by decide) ?_
  refine gw_ldc2 C (x := 126) dX8_type_6 kX8_239 (by decide) ?_
  refine gw_callSb C (as := [vL x1, vL 32, vL 126]) (st := [vR 231]) (c_X8_in hl0 G x1 32 126 (by omega) ⟨by decide, by decide⟩ ⟨by decide, by decide⟩) dX8_type_9 kX8_62 qX8_in hdX8_in ⟨Nat.le_of_ble_eq_true rfl, Nat.le_of_ble_eq_true rfl⟩ ⟨Nat.le_of_ble_eq_true rfl, Nat.le_of_ble_eq_true rfl⟩ (Nat.le_of_ble_eq_true rfl) rfl (fun h_9 z_9 => ?_) (fun h_9 z_9 => ?_)
  · skip
    refine gw_if_ne C (tgt := 19) dX8_type_12 (by decide) ⟨by decide, by decide⟩ (fun _ => ?_) (fun h => absurd h (by decide))
    refine gw_aload_n C 0 dX8_type_19 rfl rfl ?_
    refine gw_getI (ci := 7) (Cn := RX8) (T0 := TX8) (N := 10) C 5 kX8_241 fX8 rfl (by decide) rfl rfl dX8_type_20 xs_231 xn_231 (fun hI_20 => ?_)
    refine gw_bipush C dX8_type_23 rfl ?_
    refine gw_icmp_ne C (tgt := 32) dX8_type_25 (by decide) hI_20 ⟨by decide, by decide⟩ (fun h_25 => ?_) (fun h_25 => ?_)
    · skip
      refine gw_iconst C dX8_type_32 ?_
      refine gw_callVm C (as := [vI 0]) (st := []) (ci := 7) (T0 := TX8) (N := 10) (c_X8_throwsAt hl0 G I J 0 ⟨by decide, by decide⟩) dX8_type_33 kX8_70 qX8_throwsAt hdX8_throwsAt ⟨Nat.le_of_ble_eq_true rfl, Nat.le_of_ble_eq_true rfl⟩ ⟨Nat.le_of_ble_eq_true rfl, Nat.le_of_ble_eq_true rfl⟩ (Nat.le_of_ble_eq_true rfl) rfl xs_231 xn_231 rfl (fun z_33 => ?_)
      rw [show (if (0 : Int) < 0 then (1 : Int) else 0) = 0 from by decide]
      refine gw_if_eq C (tgt := 41) dX8_type_36 (by decide) ⟨by decide, by decide⟩ (fun _ => ?_) (fun h => absurd h (by decide))
      refine gw_aload_n C 0 dX8_type_41 rfl rfl ?_
      refine gw_getRs (ci := 7) (Cn := RX8) (T0 := TX8) (N := 10) C 234 4 kX8_16 fX8 rfl (by decide) rfl rfl dX8_type_42 xs_231 xn_231 xr_231_4 ?_
      refine gw_aload_n C 0 dX8_type_45 rfl rfl ?_
      refine gw_getI (ci := 7) (Cn := RX8) (T0 := TX8) (N := 10) C 5 kX8_241 fX8 rfl (by decide) rfl rfl dX8_type_46 xs_231 xn_231 (fun hI_46 => ?_)
      rw [show ((up I 231 6 0) 231 5) = (I 231 5) from by (repeat (first | rw [up_eq] | rw [up_ne (by decide)] | rw [up_ne2 (by first | decide | omega)]))] at hI_46 ⊢
      refine gw_iload_n C 1 dX8_type_49 rfl rfl ?_
      refine gw_iast C ((I 231 5).toNat) dX8_type_50 xs_234 xn_234 (by omega) (by omega) (by decide) hx1 ?_
      refine gw_aload_n C 0 dX8_type_51 rfl rfl ?_
      refine gw_dupR C dX8_type_52 ?_
      refine gw_getI (ci := 7) (Cn := RX8) (T0 := TX8) (N := 10) C 5 kX8_241 fX8 rfl (by decide) rfl rfl dX8_type_53 xs_231 xn_231 (fun hI_53 => ?_)
      rw [show ((up (up I 231 6 0) 234 ((I 231 5).toNat) x1) 231 5) = (I 231 5) from by (repeat (first | rw [up_eq] | rw [up_ne (by decide)] | rw [up_ne2 (by first | decide | omega)]))] at hI_53 ⊢
      refine gw_iconst C dX8_type_56 ?_
      refine gw_iadd C dX8_type_57 ?_
      refine gw_putI (ci := 7) (Cn := RX8) (T0 := TX8) (N := 10) C (ty := .int) 5 kX8_241 fX8 rfl (by decide) rfl rfl tyX8 tyX8_ok nmX8 rfl (by decide) rfl rfl (by omega) dX8_type_58 xs_231 xn_231 ?_
      refine gw_aload_n C 0 dX8_type_61 rfl rfl ?_
      refine gw_getI (ci := 7) (Cn := RX8) (T0 := TX8) (N := 10) C 5 kX8_241 fX8 rfl (by decide) rfl rfl dX8_type_62 xs_231 xn_231 (fun hI_62 => ?_)
      rw [show ((up (up (up I 231 6 0) 234 ((I 231 5).toNat) x1) 231 5 ((I 231 5) + 1)) 231 5) = ((I 231 5) + 1) from by (repeat (first | rw [up_eq] | rw [up_ne (by decide)] | rw [up_ne2 (by first | decide | omega)]))] at hI_62 ⊢
      exact gw_iret C (Nat.le_of_ble_eq_true rfl) (Nat.le_of_ble_eq_true rfl) dX8_type_65 ((by have e : kType (I 231 5) x1 = 0 := (by unfold kType; (repeat (first | rw [if_pos (by omega)] | rw [if_neg (by omega)]))); exact ⟨by rw [e]; rfl, by rw [e]; rfl, rfl⟩))
    · skip
      refine gw_iconst C dX8_type_28 ?_
      refine gw_goto C (tgt := 33) dX8_type_29 (by decide) ?_
      refine gw_callVm C (as := [vI 2]) (st := []) (ci := 7) (T0 := TX8) (N := 10) (c_X8_throwsAt hl0 G I J 2 ⟨by decide, by decide⟩) dX8_type_33 kX8_70 qX8_throwsAt hdX8_throwsAt ⟨Nat.le_of_ble_eq_true rfl, Nat.le_of_ble_eq_true rfl⟩ ⟨Nat.le_of_ble_eq_true rfl, Nat.le_of_ble_eq_true rfl⟩ (Nat.le_of_ble_eq_true rfl) rfl xs_231 xn_231 rfl (fun z_33_2 => ?_)
      rw [show (if (0 : Int) < 2 then (1 : Int) else 0) = 1 from by decide]
      refine gw_if_eq C (tgt := 41) dX8_type_36 (by decide) ⟨by decide, by decide⟩ (fun h => absurd h (by decide)) (fun _ => ?_)
      refine gw_iconst C dX8_type_39 ?_
      exact gw_iret C (Nat.le_of_ble_eq_true rfl) (Nat.le_of_ble_eq_true rfl) dX8_type_40 ((by have e : kType (I 231 5) x1 = 2 := (by unfold kType; (repeat (first | rw [if_pos (by omega)] | rw [if_neg (by omega)]))); exact ⟨by rw [e]; rfl, by rw [e]; rfl, rfl⟩))
  · skip
    refine gw_if_ne C (tgt := 19) dX8_type_12 (by decide) ⟨by decide, by decide⟩ (fun h => absurd h (by decide)) (fun _ => ?_)
    refine gw_iconst C dX8_type_15 ?_
    refine gw_goto C (tgt := 33) dX8_type_16 (by decide) ?_
    refine gw_callVm C (as := [vI 1]) (st := []) (ci := 7) (T0 := TX8) (N := 10) (c_X8_throwsAt hl0 G I J 1 ⟨by decide, by decide⟩) dX8_type_33 kX8_70 qX8_throwsAt hdX8_throwsAt ⟨Nat.le_of_ble_eq_true rfl, Nat.le_of_ble_eq_true rfl⟩ ⟨Nat.le_of_ble_eq_true rfl, Nat.le_of_ble_eq_true rfl⟩ (Nat.le_of_ble_eq_true rfl) rfl xs_231 xn_231 rfl (fun z_33_3 => ?_)
    rw [show (if (0 : Int) < 1 then (1 : Int) else 0) = 1 from by decide]
    refine gw_if_eq C (tgt := 41) dX8_type_36 (by decide) ⟨by decide, by decide⟩ (fun h => absurd h (by decide)) (fun _ => ?_)
    refine gw_iconst C dX8_type_39 ?_
    exact gw_iret C (Nat.le_of_ble_eq_true rfl) (Nat.le_of_ble_eq_true rfl) dX8_type_40 ((by have e : kType (I 231 5) x1 = 1 := (by unfold kType; (repeat (first | rw [if_pos (by omega)] | rw [if_neg (by omega)]))); exact ⟨by rw [e]; rfl, by rw [e]; rfl, rfl⟩))
set_option maxHeartbeats 4000000 in
set_option maxRecDepth 100000 in
theorem c_X8_clearText {l : Launch} (hl0 : l.stackTraces = false) (G : GG) (I J : GI) {z : Nat} (hty : 0 ≤ I 231 5 ∧ I 231 5 ≤ 90) : GM l yX8_clearText (.code yX8_clearText cX8_clearText 2 (some .int)) 0 0 0 0 G N0 SH RR [vR 231] z I J (memQ (some (vI (I 231 5))) (up (up I 231 6 0) 231 5 0) J) gNo := by
  refine gm_of (lo0 := [some (vR 231), none]) hl0 (by decide) rfl (Nat.le_of_ble_eq_true rfl) ?_
  intro p e s m args below meth c C ht hgi
  have C : gC G p l s m args meth c cX8_clearText 2 RX8 (some .int) "clearText" := C
  refine gw_aload_n C 0 dX8_clearText_0 rfl rfl ?_
  refine gw_iconst C dX8_clearText_1 ?_
  refine gw_putI (ci := 7) (Cn := RX8) (T0 := TX8) (N := 10) C (ty := .int) 6 kX8_22 fX8 rfl (by decide) rfl rfl tyX8 tyX8_ok nmX8 rfl (by decide) rfl rfl ⟨by decide, by decide⟩ dX8_clearText_2 xs_231 xn_231 ?_
  refine gw_aload_n C 0 dX8_clearText_5 rfl rfl ?_
  refine gw_getI (ci := 7) (Cn := RX8) (T0 := TX8) (N := 10) C 5 kX8_241 fX8 rfl (by decide) rfl rfl dX8_clearText_6 xs_231 xn_231 (fun hI_6 => ?_)
  rw [show ((up I 231 6 0) 231 5) = (I 231 5) from by (repeat (first | rw [up_eq] | rw [up_ne (by decide)] | rw [up_ne2 (by first | decide | omega)]))] at hI_6 ⊢
  refine gw_istore_n C (lo1 := [some (vR 231), some (vI (I 231 5))]) 1 dX8_clearText_9 rfl (by decide) rfl ?_
  refine gw_aload_n C 0 dX8_clearText_10 rfl rfl ?_
  refine gw_iconst C dX8_clearText_11 ?_
  refine gw_putI (ci := 7) (Cn := RX8) (T0 := TX8) (N := 10) C (ty := .int) 5 kX8_241 fX8 rfl (by decide) rfl rfl tyX8 tyX8_ok nmX8 rfl (by decide) rfl rfl ⟨by decide, by decide⟩ dX8_clearText_12 xs_231 xn_231 ?_
  refine gw_iload_n C 1 dX8_clearText_15 rfl rfl ?_
  exact gw_iret C (Nat.le_of_ble_eq_true rfl) (Nat.le_of_ble_eq_true rfl) dX8_clearText_16 (⟨rfl, rfl, rfl⟩)
set_option maxHeartbeats 4000000 in
set_option maxRecDepth 100000 in
theorem c_X8_say {l : Launch} (hl0 : l.stackTraces = false) (G : GG) (I J : GI) {z : Nat} (x : Int) : GM l yX8_say (.code yX8_say cX8_say 3 none) 0 0 0 0 G N0 SH RR [vR 231, vL x] z I J (memQ none I (up J 231 9 (31 * J 231 9 + x))) gNo := by
  refine gm_of (lo0 := [some (vR 231), some (vL x), none]) hl0 (by decide) rfl (Nat.le_of_ble_eq_true rfl) ?_
  intro p e s m args below meth c C ht hgi
  have C : gC G p l s m args meth c cX8_say 3 RX8 none "say" := C
  refine gw_aload_n C 0 dX8_say_0 rfl rfl ?_
  refine gw_ldc2 C (x := 31) dX8_say_1 kX8_281 (by decide) ?_
  refine gw_aload_n C 0 dX8_say_4 rfl rfl ?_
  refine gw_getL (ci := 7) (Cn := RX8) (T0 := TX8) (N := 10) C 9 kX8_283 fX8 rfl (by decide) rfl rfl dX8_say_5 xs_231 xn_231 ?_
  refine gw_lmul C dX8_say_8 ?_
  refine gw_lload_n C 1 dX8_say_9 rfl rfl ?_
  refine gw_ladd C dX8_say_10 ?_
  refine gw_putL (ci := 7) (Cn := RX8) (T0 := TX8) (N := 10) C (ty := .long) 9 kX8_283 fX8 rfl (by decide) rfl rfl tyX8 tyX8_ok nmX8 rfl (by decide) rfl rfl dX8_say_11 xs_231 xn_231 ?_
  exact gw_vret C (Nat.le_of_ble_eq_true rfl) (Nat.le_of_ble_eq_true rfl) dX8_say_14 (⟨rfl, rfl, rfl⟩)
def muQ (I J : GI) : Option GV → Nat → GI → GI → Prop := fun v _ I' J' => v = some (vI (if I 231 2 = 0 then 0 else I 231 2 - 1)) ∧ ((I 231 2 = 0 → I' = up I 231 6 1) ∧ (I 231 2 ≠ 0 → (I' 231 2 = I 231 2 - 1 ∧ I' 231 6 = 0) ∧ (∀ f, f < 214 → I' 232 f = I 233 (214 * ((I 231 2).toNat - 1) + f)) ∧ (∀ f, 214 ≤ f → I' 232 f = I 232 f) ∧ ∀ q f, q ≠ 232 → ¬ (q = 231 ∧ (f = 2 ∨ f = 6)) → I' q f = I q f)) ∧ J' = J
theorem mu_1 {I J : GI} {z : Nat} (h : I 231 2 = 0) : muQ I J (some (vI 0)) z (up I 231 6 1) J := ⟨by rw [if_pos h], ⟨fun _ => rfl, fun e => absurd h e⟩, rfl⟩
theorem mu_0 {I K J : GI} {z p : Nat} {x : Int} (h : I 231 2 ≠ 0) (hp : I 231 2 = (p : Int) + 1) (hx : x = (p : Int)) (h1 : ∀ q f, q ≠ 232 → K q f = up (up I 231 6 0) 231 2 (p : Int) q f) (h2 : ∀ f, f < 214 → K 232 f = I 233 (214 * p + f)) (h3 : ∀ f, 214 ≤ f → K 232 f = I 232 f) : muQ I J (some (vI x)) z K J := by
  subst hx
  refine ⟨by rw [if_neg h, show I 231 2 - 1 = (p : Int) by omega], ⟨fun e => absurd e h, fun _ => ⟨⟨?_, ?_⟩, fun f hf => ?_, h3, fun q f a b => ?_⟩⟩, rfl⟩
  · rw [h1 231 2 (by decide), up_eq]; omega
  · rw [h1 231 6 (by decide), up_ne2 (by decide), up_eq]
  · rw [h2 f hf, show (I 231 2).toNat - 1 = p by omega]
  · rw [h1 q f a, up_nn (by omega), up_nn (by omega)]
set_option maxHeartbeats 4000000 in
set_option maxRecDepth 100000 in
theorem c_X8_undo {l : Launch} (hl0 : l.stackTraces = false) (G : GG) (I J : GI) {z : Nat} (hp : 0 ≤ I 231 2 ∧ I 231 2 ≤ 4) : GM l yX8_undo (.code yX8_undo cX8_undo 2 (some .int)) 1 21 0 0 G N0 SH RR [vR 231] z I J (muQ I J) gNo := by
  refine gm_of (lo0 := [some (vR 231), none]) hl0 (by decide) rfl (Nat.le_of_ble_eq_true rfl) ?_
  intro p e s m args below meth c C ht hgi
  have C : gC G p l s m args meth c cX8_undo 2 RX8 (some .int) "undo" := C
  refine gw_aload_n C 0 dX8_undo_0 rfl rfl ?_
  refine gw_aload_n C 0 dX8_undo_1 rfl rfl ?_
  refine gw_getI (ci := 7) (Cn := RX8) (T0 := TX8) (N := 10) C 2 kX8_30 fX8 rfl (by decide) rfl rfl dX8_undo_2 xs_231 xn_231 (fun hI_2 => ?_)
  refine gw_if_ne C (tgt := 12) dX8_undo_5 (by decide) hI_2 (fun h_5 => ?_) (fun h_5 => ?_)
  · skip
    refine gw_iconst C dX8_undo_12 ?_
    refine gw_callVm C (as := [vI 0]) (st := []) (ci := 7) (T0 := TX8) (N := 10) (c_X8_throwsAt hl0 G I J 0 ⟨by decide, by decide⟩) dX8_undo_13 kX8_70 qX8_throwsAt hdX8_throwsAt ⟨Nat.le_of_ble_eq_true rfl, Nat.le_of_ble_eq_true rfl⟩ ⟨Nat.le_of_ble_eq_true rfl, Nat.le_of_ble_eq_true rfl⟩ (Nat.le_of_ble_eq_true rfl) rfl xs_231 xn_231 rfl (fun z_13 => ?_)
    rw [show (if (0 : Int) < 0 then (1 : Int) else 0) = 0 from by decide]
    refine gw_if_eq C (tgt := 21) dX8_undo_16 (by decide) ⟨by decide, by decide⟩ (fun _ => ?_) (fun h => absurd h (by decide))
    refine gw_aload_n C 0 dX8_undo_21 rfl rfl ?_
    refine gw_dupR C dX8_undo_22 ?_
    refine gw_getI (ci := 7) (Cn := RX8) (T0 := TX8) (N := 10) C 2 kX8_30 fX8 rfl (by decide) rfl rfl dX8_undo_23 xs_231 xn_231 (fun hI_23 => ?_)
    rw [show ((up I 231 6 0) 231 2) = (I 231 2) from by (repeat (first | rw [up_eq] | rw [up_ne (by decide)] | rw [up_ne2 (by first | decide | omega)]))] at hI_23 ⊢
    refine gw_iconst C dX8_undo_26 ?_
    refine gw_isub C dX8_undo_27 ?_
    refine gw_putI (ci := 7) (Cn := RX8) (T0 := TX8) (N := 10) C (ty := .int) 2 kX8_30 fX8 rfl (by decide) rfl rfl tyX8 tyX8_ok nmX8 rfl (by decide) rfl rfl (by omega) dX8_undo_28 xs_231 xn_231 ?_
    obtain ⟨p9, hp9⟩ : ∃ p : Nat, I 231 2 = (p : Int) + 1 := ⟨(I 231 2).toNat - 1, by omega⟩
    rw [show I 231 2 - 1 = (p9 : Int) by omega]
    refine gw_iconst C dX8_undo_31 ?_
    refine gw_istore_n C (lo1 := [some (vR 231), some (vI 0)]) 1 dX8_undo_32 rfl (by decide) rfl ?_
    have loop_33 : ∀ (fuel : Nat) (k : Nat) (Ku : GI), (k ≤ 214) → (∀ q f, q ≠ 232 → Ku q f = up (up I 231 6 0) 231 2 (p9 : Int) q f) → (∀ f, f < k → Ku 232 f = I 233 (214 * p9 + f)) → (∀ f, k ≤ f → Ku 232 f = I 232 f) → 215 - k < fuel → GW G p l e ({ frames := 1, cells := 0, slots := 0, locals := 21 } : Room) s m args below meth c 2 z_13 N0 SH RR Ku J 0 0 (vx_MQ below (GQ G N0 SH RR (muQ I J)) (GX G N0 SH RR gNo) args s 0 0 (ge G)) 33 [some (vR 231), some (vI (k : Int))] [] := by
      intro fuel
      induction fuel with
      | zero => intro k Ku hk hU1 hU2 hU3 hf_33; exact absurd hf_33 (Nat.not_lt_zero _)
      | succ fuel ih_33 =>
        intro k Ku hk hU1 hU2 hU3 hf_33
        refine gw_iload_n C 1 dX8_undo_33 rfl rfl ?_
        refine gw_sipush C dX8_undo_34 rfl ?_
        refine gw_icmp_ge C (tgt := 67) dX8_undo_37 (by decide) (by omega) ⟨by decide, by decide⟩ (fun h_37 => ?_) (fun h_37 => ?_)
        · skip
          refine gw_aload_n C 0 dX8_undo_67 rfl rfl ?_
          refine gw_getI (ci := 7) (Cn := RX8) (T0 := TX8) (N := 10) C 2 kX8_30 fX8 rfl (by decide) rfl rfl dX8_undo_68 xs_231 xn_231 (fun hI_68 => ?_)
          rw [show (Ku 231 2) = (p9 : Int) from by rw [hU1 231 2 (by decide), up_eq]] at hI_68 ⊢
          exact gw_iret C (Nat.le_of_ble_eq_true rfl) (Nat.le_of_ble_eq_true rfl) dX8_undo_71 (mu_0 (by omega) hp9 rfl hU1 (fun f hf => hU2 f (by omega)) (fun f hf => hU3 f (by omega)))
        · skip
          refine gw_aload_n C 0 dX8_undo_40 rfl rfl ?_
          refine gw_getRs (ci := 7) (Cn := RX8) (T0 := TX8) (N := 10) C 232 0 kX8_7 fX8 rfl (by decide) rfl rfl dX8_undo_41 xs_231 xn_231 xr_231_0 ?_
          refine gw_iload_n C 1 dX8_undo_44 rfl rfl ?_
          refine gw_aload_n C 0 dX8_undo_45 rfl rfl ?_
          refine gw_getRs (ci := 7) (Cn := RX8) (T0 := TX8) (N := 10) C 233 1 kX8_13 fX8 rfl (by decide) rfl rfl dX8_undo_46 xs_231 xn_231 xr_231_1 ?_
          refine gw_sipush C dX8_undo_49 rfl ?_
          refine gw_aload_n C 0 dX8_undo_52 rfl rfl ?_
          refine gw_getI (ci := 7) (Cn := RX8) (T0 := TX8) (N := 10) C 2 kX8_30 fX8 rfl (by decide) rfl rfl dX8_undo_53 xs_231 xn_231 (fun hI_53 => ?_)
          rw [show (Ku 231 2) = (p9 : Int) from by rw [hU1 231 2 (by decide), up_eq]] at hI_53 ⊢
          refine gw_imul C dX8_undo_56 ?_
          refine gw_iload_n C 1 dX8_undo_57 rfl rfl ?_
          refine gw_iadd C dX8_undo_58 ?_
          refine gw_iald C (214 * p9 + k) dX8_undo_59 xs_233 xn_233 (by omega) (by omega) (by decide) (fun hI_59 => ?_)
          rw [show (Ku 233 (214 * p9 + k)) = I 233 (214 * p9 + k) from by rw [hU1 233 _ (by decide), up_ne (by decide), up_ne (by decide)]] at hI_59 ⊢
          refine gw_iast C k dX8_undo_60 xs_232 xn_232 (by omega) (by omega) (by decide) hI_59 ?_
          refine gw_iinc C (lo1 := [some (vR 231), some (vI ((k : Int) + 1))]) dX8_undo_61 rfl (by decide) rfl ?_
          refine gw_goto C (tgt := 33) dX8_undo_64 (by decide) ?_
          exact gw_weak (lo' := [some (vR 231), some (vI (((k + 1) : Nat) : Int))]) ⟨rfl, congrArg (fun q => some (vI q)) (by omega), trivial⟩ (ih_33 (k + 1) (up Ku 232 k (I 233 (214 * p9 + k))) (by omega) (by intro q f hq; rw [up_ne hq]; exact hU1 q f hq) (by intro f hf; by_cases e : f = k; (subst e; rw [up_eq]); (rw [up_ne2 e]; exact hU2 f (by omega))) (by intro f hf; rw [up_ne2 (by omega)]; exact hU3 f (by omega)) (by omega))
    exact gw_weak (lo' := [some (vR 231), some (vI (0 : Int))]) ⟨rfl, congrArg (fun q => some (vI q)) (by omega), trivial⟩ (loop_33 _ 0 (up (up I 231 6 0) 231 2 (p9 : Int)) (by omega) (by intro q f _; rfl) (by intro f hf; omega) (by intro f _; rw [up_ne (by decide), up_ne (by decide)]) (Nat.lt_succ_self _))
  · skip
    refine gw_iconst C dX8_undo_8 ?_
    refine gw_goto C (tgt := 13) dX8_undo_9 (by decide) ?_
    refine gw_callVm C (as := [vI 1]) (st := []) (ci := 7) (T0 := TX8) (N := 10) (c_X8_throwsAt hl0 G I J 1 ⟨by decide, by decide⟩) dX8_undo_13 kX8_70 qX8_throwsAt hdX8_throwsAt ⟨Nat.le_of_ble_eq_true rfl, Nat.le_of_ble_eq_true rfl⟩ ⟨Nat.le_of_ble_eq_true rfl, Nat.le_of_ble_eq_true rfl⟩ (Nat.le_of_ble_eq_true rfl) rfl xs_231 xn_231 rfl (fun z_13_2 => ?_)
    rw [show (if (0 : Int) < 1 then (1 : Int) else 0) = 1 from by decide]
    refine gw_if_eq C (tgt := 21) dX8_undo_16 (by decide) ⟨by decide, by decide⟩ (fun h => absurd h (by decide)) (fun _ => ?_)
    refine gw_iconst C dX8_undo_19 ?_
    exact gw_iret C (Nat.le_of_ble_eq_true rfl) (Nat.le_of_ble_eq_true rfl) dX8_undo_20 (mu_1 (by omega))
