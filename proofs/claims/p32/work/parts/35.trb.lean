def jlF (I : GI) (v : Int) (p : Nat) : Int := if v = 1 then I p 6 else if v = 2 ∧ I p 5 ≠ 0 then I p 5 else -2000000000
def trbF (I : GI) (b r : Nat) (v : Int) : Int := if v = 0 then (if I r 3 = 0 then -2000000000 else I r 3) else if I r 3 = 6 then (if 0 ≤ I r 0 ∧ I r 0 < I b 2 then jlF I v (b + 17 + (I r 0).toNat) else -2000000000) else if I r 3 = 7 then (if 0 ≤ I r 1 ∧ I r 1 < I b 2 then jlF I v (b + 17 + (I r 1).toNat) else -2000000000) else -2000000000
theorem jl_1 {I : GI} {v : Int} {p : Nat} (h : v = 1) : I p 6 = jlF I v p := by unfold jlF; rw [if_pos h]
theorem jl_2 {I : GI} {v : Int} {p : Nat} (h : v = 2) (h1 : I p 5 ≠ 0) : I p 5 = jlF I v p := by unfold jlF; rw [if_neg (by omega), if_pos ⟨h, h1⟩]
theorem jl_3 {I : GI} {v : Int} {p : Nat} (h : v ≠ 1) (h1 : ¬ (v = 2 ∧ I p 5 ≠ 0)) : -2000000000 = jlF I v p := by unfold jlF; rw [if_neg h, if_neg h1]
theorem tb_0 {I : GI} {b r : Nat} {v : Int} (h : v = 0) (h1 : I r 3 = 0) : -2000000000 = trbF I b r v := by unfold trbF; rw [if_pos h, if_pos h1]
theorem tb_1 {I : GI} {b r : Nat} {v : Int} (h : v = 0) (h1 : I r 3 ≠ 0) : I r 3 = trbF I b r v := by unfold trbF; rw [if_pos h, if_neg h1]
theorem tb_6 {I : GI} {b r : Nat} {v x : Int} (h : v ≠ 0) (h1 : I r 3 = 6) (h2 : 0 ≤ I r 0 ∧ I r 0 < I b 2) (e : x = jlF I v (b + 17 + (I r 0).toNat)) : x = trbF I b r v := by unfold trbF; rw [if_neg h, if_pos h1, if_pos h2]; exact e
theorem tb_6n {I : GI} {b r : Nat} {v : Int} (h : v ≠ 0) (h1 : I r 3 = 6) (h2 : ¬ (0 ≤ I r 0 ∧ I r 0 < I b 2)) : -2000000000 = trbF I b r v := by unfold trbF; rw [if_neg h, if_pos h1, if_neg h2]
theorem tb_7 {I : GI} {b r : Nat} {v x : Int} (h : v ≠ 0) (h1 : I r 3 = 7) (h2 : 0 ≤ I r 1 ∧ I r 1 < I b 2) (e : x = jlF I v (b + 17 + (I r 1).toNat)) : x = trbF I b r v := by unfold trbF; rw [if_neg h, if_neg (by omega), if_pos h1, if_pos h2]; exact e
theorem tb_7n {I : GI} {b r : Nat} {v : Int} (h : v ≠ 0) (h1 : I r 3 = 7) (h2 : ¬ (0 ≤ I r 1 ∧ I r 1 < I b 2)) : -2000000000 = trbF I b r v := by unfold trbF; rw [if_neg h, if_neg (by omega), if_pos h1, if_neg h2]
theorem tb_n {I : GI} {b r : Nat} {v : Int} (h : v ≠ 0) (h1 : I r 3 ≠ 6) (h2 : I r 3 ≠ 7) : -2000000000 = trbF I b r v := by unfold trbF; rw [if_neg h, if_neg h1, if_neg h2]
set_option maxHeartbeats 4000000 in
set_option maxRecDepth 100000 in
theorem c_X2_troubleOf {l : Launch} (hl0 : l.stackTraces = false) (G : GG) (I J : GI) {z : Nat} {b : Nat} (hb : mineQ b) {r : Nat} (hr : travQ r) (hc2 : 0 ≤ I b 2 ∧ I b 2 ≤ 4) (v : Int) (hv : inI v) : GM l yX2_troubleOf (.code yX2_troubleOf cX2_troubleOf 4 (some .int)) 2 43 0 0 G N0 SH RR [vR b, vR r, vI v] z I J (memQ (some (vI (trbF I b r v))) I J) gNo := by
  refine gm_of (lo0 := [some (vR b), some (vR r), some (vI v), none]) hl0 (by decide) rfl (Nat.le_of_ble_eq_true rfl) ?_
  intro p e s m args below meth c C ht hgi
  have C : gC G p l s m args meth c cX2_troubleOf 4 RX2 (some .int) "troubleOf" := C
  refine gw_iload_n C 2 dX2_troubleOf_0 rfl rfl ?_
  refine gw_if_ne C (tgt := 21) dX2_troubleOf_1 (by decide) hv (fun h_1 => ?_) (fun h_1 => ?_)
  · skip
    refine gw_null C dX2_troubleOf_21 ?_
    refine gw_astoreN_n C (lo1 := [some (vR b), some (vR r), some (vI v), some (vN)]) 3 dX2_troubleOf_22 rfl (by decide) rfl ?_
    refine gw_aload_n C 1 dX2_troubleOf_23 rfl rfl ?_
    refine gw_getI (ci := 4) (Cn := RX5) (T0 := TX5) (N := 15) C 3 kX2_127 fX5 rfl (by decide) rfl rfl dX2_troubleOf_24 (tq_s hr) (tq_n hr) (fun hI_24 => ?_)
    refine gw_bipush C dX2_troubleOf_27 rfl ?_
    refine gw_icmp_ne C (tgt := 44) dX2_troubleOf_29 (by decide) hI_24 ⟨by decide, by decide⟩ (fun h_29 => ?_) (fun h_29 => ?_)
    · skip
      refine gw_aload_n C 1 dX2_troubleOf_44 rfl rfl ?_
      refine gw_getI (ci := 4) (Cn := RX5) (T0 := TX5) (N := 15) C 3 kX2_127 fX5 rfl (by decide) rfl rfl dX2_troubleOf_45 (tq_s hr) (tq_n hr) (fun hI_45 => ?_)
      refine gw_bipush C dX2_troubleOf_48 rfl ?_
      refine gw_icmp_ne C (tgt := 62) dX2_troubleOf_50 (by decide) hI_45 ⟨by decide, by decide⟩ (fun h_50 => ?_) (fun h_50 => ?_)
      · skip
        refine gw_aloadN_n C 3 dX2_troubleOf_62 rfl rfl ?_
        refine gw_ifnonnullN C dX2_troubleOf_63 ?_
        refine gw_ldc C (x := (-2000000000)) dX2_troubleOf_66 kX2_102 (by decide) ?_
        exact gw_iret C (Nat.le_of_ble_eq_true rfl) (Nat.le_of_ble_eq_true rfl) dX2_troubleOf_68 (⟨congrArg (fun q => some (vI q)) (tb_n (by omega) (by omega) (by omega)), rfl, rfl⟩)
      · skip
        refine gw_aload_n C 0 dX2_troubleOf_53 rfl rfl ?_
        refine gw_aload_n C 1 dX2_troubleOf_54 rfl rfl ?_
        refine gw_getI (ci := 4) (Cn := RX5) (T0 := TX5) (N := 15) C 1 kX2_86 fX5 rfl (by decide) rfl rfl dX2_troubleOf_55 (tq_s hr) (tq_n hr) (fun hI_55 => ?_)
        refine gw_callV C (as := [vI (I r 1)]) (st := []) (ci := 2) (T0 := TX2) (N := 7) (c_X2_joinAt hl0 G I J hb hc2 (I r 1) hI_55) dX2_troubleOf_58 kX2_82 qX2_joinAt hdX2_joinAt ⟨Nat.le_of_ble_eq_true rfl, Nat.le_of_ble_eq_true rfl⟩ ⟨Nat.le_of_ble_eq_true rfl, Nat.le_of_ble_eq_true rfl⟩ (Nat.le_of_ble_eq_true rfl) rfl (mq_s hb) (mq_n hb) rfl (fun _ _ _ _ h => h.elim) ?_
        intro v_58 zq_58 I_58 J_58 hq_58_2
        obtain ⟨⟨hq_58_2, rfl⟩ | ⟨hq_58_2, rfl⟩, eI_58, eJ_58⟩ := hq_58_2
        all_goals rw [eI_58, eJ_58]
        · skip
          show GW G p l e ({ frames := 2, cells := 0, slots := 0, locals := 43 } : Room) s m args below meth c 4 zq_58 N0 SH RR I J 0 0 (vx_MQ below (GQ G N0 SH RR (memQ (some (vI (trbF I b r v))) I J)) (GX G N0 SH RR gNo) args s 0 0 (ge G)) 61 [some (vR b), some (vR r), some (vI v), some (vN)] [vR (b + 17 + ((I r 1)).toNat)]
          refine gw_astore_n C (lo1 := [some (vR b), some (vR r), some (vI v), some (vR (b + 17 + ((I r 1)).toNat))]) 3 dX2_troubleOf_61 rfl (by decide) rfl ?_
          refine gw_aload_n C 3 dX2_troubleOf_62 rfl rfl ?_
          refine gw_ifnonnull C (tgt := 69) dX2_troubleOf_63 (by decide) ?_
          refine gw_iload_n C 2 dX2_troubleOf_69 rfl rfl ?_
          refine gw_iconst C dX2_troubleOf_70 ?_
          refine gw_icmp_ne C (tgt := 79) dX2_troubleOf_71 (by decide) hv ⟨by decide, by decide⟩ (fun h_71 => ?_) (fun h_71 => ?_)
          · skip
            refine gw_iload_n C 2 dX2_troubleOf_79 rfl rfl ?_
            refine gw_iconst C dX2_troubleOf_80 ?_
            refine gw_icmp_ne C (tgt := 98) dX2_troubleOf_81 (by decide) hv ⟨by decide, by decide⟩ (fun h_81 => ?_) (fun h_81 => ?_)
            · skip
              refine gw_ldc C (x := (-2000000000)) dX2_troubleOf_98 kX2_102 (by decide) ?_
              exact gw_iret C (Nat.le_of_ble_eq_true rfl) (Nat.le_of_ble_eq_true rfl) dX2_troubleOf_100 (⟨congrArg (fun q => some (vI q)) (tb_7 (by omega) (by omega) hq_58_2 (jl_3 (by omega) (by omega))), rfl, rfl⟩)
            · skip
              refine gw_aload_n C 3 dX2_troubleOf_84 rfl rfl ?_
              refine gw_getI (ci := 1) (Cn := RX1) (T0 := TX1) (N := 12) C 5 kX2_131 fX1 rfl (by decide) rfl rfl dX2_troubleOf_85 (jq_s (mq_jq hb ((I r 1)).toNat (by omega))) (jq_n (mq_jq hb ((I r 1)).toNat (by omega))) (fun hI_85 => ?_)
              refine gw_if_eq C (tgt := 98) dX2_troubleOf_88 (by decide) hI_85 (fun h_88 => ?_) (fun h_88 => ?_)
              · skip
                refine gw_ldc C (x := (-2000000000)) dX2_troubleOf_98 kX2_102 (by decide) ?_
                exact gw_iret C (Nat.le_of_ble_eq_true rfl) (Nat.le_of_ble_eq_true rfl) dX2_troubleOf_100 (⟨congrArg (fun q => some (vI q)) (tb_7 (by omega) (by omega) hq_58_2 (jl_3 (by omega) (by omega))), rfl, rfl⟩)
              · skip
                refine gw_aload_n C 3 dX2_troubleOf_91 rfl rfl ?_
                refine gw_getI (ci := 1) (Cn := RX1) (T0 := TX1) (N := 12) C 5 kX2_131 fX1 rfl (by decide) rfl rfl dX2_troubleOf_92 (jq_s (mq_jq hb ((I r 1)).toNat (by omega))) (jq_n (mq_jq hb ((I r 1)).toNat (by omega))) (fun hI_92 => ?_)
                refine gw_goto C (tgt := 100) dX2_troubleOf_95 (by decide) ?_
                exact gw_iret C (Nat.le_of_ble_eq_true rfl) (Nat.le_of_ble_eq_true rfl) dX2_troubleOf_100 (⟨congrArg (fun q => some (vI q)) (tb_7 (by omega) (by omega) hq_58_2 (jl_2 (by omega) (by omega))), rfl, rfl⟩)
          · skip
            refine gw_aload_n C 3 dX2_troubleOf_74 rfl rfl ?_
            refine gw_getI (ci := 1) (Cn := RX1) (T0 := TX1) (N := 12) C 6 kX2_130 fX1 rfl (by decide) rfl rfl dX2_troubleOf_75 (jq_s (mq_jq hb ((I r 1)).toNat (by omega))) (jq_n (mq_jq hb ((I r 1)).toNat (by omega))) (fun hI_75 => ?_)
            exact gw_iret C (Nat.le_of_ble_eq_true rfl) (Nat.le_of_ble_eq_true rfl) dX2_troubleOf_78 (⟨congrArg (fun q => some (vI q)) (tb_7 (by omega) (by omega) hq_58_2 (jl_1 (by omega))), rfl, rfl⟩)
        · skip
          show GW G p l e ({ frames := 2, cells := 0, slots := 0, locals := 43 } : Room) s m args below meth c 4 zq_58 N0 SH RR I J 0 0 (vx_MQ below (GQ G N0 SH RR (memQ (some (vI (trbF I b r v))) I J)) (GX G N0 SH RR gNo) args s 0 0 (ge G)) 61 [some (vR b), some (vR r), some (vI v), some (vN)] [vN]
          refine gw_astoreN_n C (lo1 := [some (vR b), some (vR r), some (vI v), some (vN)]) 3 dX2_troubleOf_61 rfl (by decide) rfl ?_
          refine gw_aloadN_n C 3 dX2_troubleOf_62 rfl rfl ?_
          refine gw_ifnonnullN C dX2_troubleOf_63 ?_
          refine gw_ldc C (x := (-2000000000)) dX2_troubleOf_66 kX2_102 (by decide) ?_
          exact gw_iret C (Nat.le_of_ble_eq_true rfl) (Nat.le_of_ble_eq_true rfl) dX2_troubleOf_68 (⟨congrArg (fun q => some (vI q)) (tb_7n (by omega) (by omega) hq_58_2), rfl, rfl⟩)
    · skip
      refine gw_aload_n C 0 dX2_troubleOf_32 rfl rfl ?_
      refine gw_aload_n C 1 dX2_troubleOf_33 rfl rfl ?_
      refine gw_getI (ci := 4) (Cn := RX5) (T0 := TX5) (N := 15) C 0 kX2_79 fX5 rfl (by decide) rfl rfl dX2_troubleOf_34 (tq_s hr) (tq_n hr) (fun hI_34 => ?_)
      refine gw_callV C (as := [vI (I r 0)]) (st := []) (ci := 2) (T0 := TX2) (N := 7) (c_X2_joinAt hl0 G I J hb hc2 (I r 0) hI_34) dX2_troubleOf_37 kX2_82 qX2_joinAt hdX2_joinAt ⟨Nat.le_of_ble_eq_true rfl, Nat.le_of_ble_eq_true rfl⟩ ⟨Nat.le_of_ble_eq_true rfl, Nat.le_of_ble_eq_true rfl⟩ (Nat.le_of_ble_eq_true rfl) rfl (mq_s hb) (mq_n hb) rfl (fun _ _ _ _ h => h.elim) ?_
      intro v_37 zq_37 I_37 J_37 hq_37_2
      obtain ⟨⟨hq_37_2, rfl⟩ | ⟨hq_37_2, rfl⟩, eI_37, eJ_37⟩ := hq_37_2
      all_goals rw [eI_37, eJ_37]
      · skip
        show GW G p l e ({ frames := 2, cells := 0, slots := 0, locals := 43 } : Room) s m args below meth c 4 zq_37 N0 SH RR I J 0 0 (vx_MQ below (GQ G N0 SH RR (memQ (some (vI (trbF I b r v))) I J)) (GX G N0 SH RR gNo) args s 0 0 (ge G)) 40 [some (vR b), some (vR r), some (vI v), some (vN)] [vR (b + 17 + ((I r 0)).toNat)]
        refine gw_astore_n C (lo1 := [some (vR b), some (vR r), some (vI v), some (vR (b + 17 + ((I r 0)).toNat))]) 3 dX2_troubleOf_40 rfl (by decide) rfl ?_
        refine gw_goto C (tgt := 62) dX2_troubleOf_41 (by decide) ?_
        refine gw_aload_n C 3 dX2_troubleOf_62 rfl rfl ?_
        refine gw_ifnonnull C (tgt := 69) dX2_troubleOf_63 (by decide) ?_
        refine gw_iload_n C 2 dX2_troubleOf_69 rfl rfl ?_
        refine gw_iconst C dX2_troubleOf_70 ?_
        refine gw_icmp_ne C (tgt := 79) dX2_troubleOf_71 (by decide) hv ⟨by decide, by decide⟩ (fun h_71_2 => ?_) (fun h_71_2 => ?_)
        · skip
          refine gw_iload_n C 2 dX2_troubleOf_79 rfl rfl ?_
          refine gw_iconst C dX2_troubleOf_80 ?_
          refine gw_icmp_ne C (tgt := 98) dX2_troubleOf_81 (by decide) hv ⟨by decide, by decide⟩ (fun h_81_2 => ?_) (fun h_81_2 => ?_)
          · skip
            refine gw_ldc C (x := (-2000000000)) dX2_troubleOf_98 kX2_102 (by decide) ?_
            exact gw_iret C (Nat.le_of_ble_eq_true rfl) (Nat.le_of_ble_eq_true rfl) dX2_troubleOf_100 (⟨congrArg (fun q => some (vI q)) (tb_6 (by omega) (by omega) hq_37_2 (jl_3 (by omega) (by omega))), rfl, rfl⟩)
          · skip
            refine gw_aload_n C 3 dX2_troubleOf_84 rfl rfl ?_
            refine gw_getI (ci := 1) (Cn := RX1) (T0 := TX1) (N := 12) C 5 kX2_131 fX1 rfl (by decide) rfl rfl dX2_troubleOf_85 (jq_s (mq_jq hb ((I r 0)).toNat (by omega))) (jq_n (mq_jq hb ((I r 0)).toNat (by omega))) (fun hI_85_2 => ?_)
            refine gw_if_eq C (tgt := 98) dX2_troubleOf_88 (by decide) hI_85_2 (fun h_88_2 => ?_) (fun h_88_2 => ?_)
            · skip
              refine gw_ldc C (x := (-2000000000)) dX2_troubleOf_98 kX2_102 (by decide) ?_
              exact gw_iret C (Nat.le_of_ble_eq_true rfl) (Nat.le_of_ble_eq_true rfl) dX2_troubleOf_100 (⟨congrArg (fun q => some (vI q)) (tb_6 (by omega) (by omega) hq_37_2 (jl_3 (by omega) (by omega))), rfl, rfl⟩)
            · skip
              refine gw_aload_n C 3 dX2_troubleOf_91 rfl rfl ?_
              refine gw_getI (ci := 1) (Cn := RX1) (T0 := TX1) (N := 12) C 5 kX2_131 fX1 rfl (by decide) rfl rfl dX2_troubleOf_92 (jq_s (mq_jq hb ((I r 0)).toNat (by omega))) (jq_n (mq_jq hb ((I r 0)).toNat (by omega))) (fun hI_92_2 => ?_)
              refine gw_goto C (tgt := 100) dX2_troubleOf_95 (by decide) ?_
              exact gw_iret C (Nat.le_of_ble_eq_true rfl) (Nat.le_of_ble_eq_true rfl) dX2_troubleOf_100 (⟨congrArg (fun q => some (vI q)) (tb_6 (by omega) (by omega) hq_37_2 (jl_2 (by omega) (by omega))), rfl, rfl⟩)
        · skip
          refine gw_aload_n C 3 dX2_troubleOf_74 rfl rfl ?_
          refine gw_getI (ci := 1) (Cn := RX1) (T0 := TX1) (N := 12) C 6 kX2_130 fX1 rfl (by decide) rfl rfl dX2_troubleOf_75 (jq_s (mq_jq hb ((I r 0)).toNat (by omega))) (jq_n (mq_jq hb ((I r 0)).toNat (by omega))) (fun hI_75_2 => ?_)
          exact gw_iret C (Nat.le_of_ble_eq_true rfl) (Nat.le_of_ble_eq_true rfl) dX2_troubleOf_78 (⟨congrArg (fun q => some (vI q)) (tb_6 (by omega) (by omega) hq_37_2 (jl_1 (by omega))), rfl, rfl⟩)
      · skip
        show GW G p l e ({ frames := 2, cells := 0, slots := 0, locals := 43 } : Room) s m args below meth c 4 zq_37 N0 SH RR I J 0 0 (vx_MQ below (GQ G N0 SH RR (memQ (some (vI (trbF I b r v))) I J)) (GX G N0 SH RR gNo) args s 0 0 (ge G)) 40 [some (vR b), some (vR r), some (vI v), some (vN)] [vN]
        refine gw_astoreN_n C (lo1 := [some (vR b), some (vR r), some (vI v), some (vN)]) 3 dX2_troubleOf_40 rfl (by decide) rfl ?_
        refine gw_goto C (tgt := 62) dX2_troubleOf_41 (by decide) ?_
        refine gw_aloadN_n C 3 dX2_troubleOf_62 rfl rfl ?_
        refine gw_ifnonnullN C dX2_troubleOf_63 ?_
        refine gw_ldc C (x := (-2000000000)) dX2_troubleOf_66 kX2_102 (by decide) ?_
        exact gw_iret C (Nat.le_of_ble_eq_true rfl) (Nat.le_of_ble_eq_true rfl) dX2_troubleOf_68 (⟨congrArg (fun q => some (vI q)) (tb_6n (by omega) (by omega) hq_37_2), rfl, rfl⟩)
  · skip
    refine gw_aload_n C 1 dX2_troubleOf_4 rfl rfl ?_
    refine gw_getI (ci := 4) (Cn := RX5) (T0 := TX5) (N := 15) C 3 kX2_127 fX5 rfl (by decide) rfl rfl dX2_troubleOf_5 (tq_s hr) (tq_n hr) (fun hI_5 => ?_)
    refine gw_if_ne C (tgt := 16) dX2_troubleOf_8 (by decide) hI_5 (fun h_8 => ?_) (fun h_8 => ?_)
    · skip
      refine gw_aload_n C 1 dX2_troubleOf_16 rfl rfl ?_
      refine gw_getI (ci := 4) (Cn := RX5) (T0 := TX5) (N := 15) C 3 kX2_127 fX5 rfl (by decide) rfl rfl dX2_troubleOf_17 (tq_s hr) (tq_n hr) (fun hI_17 => ?_)
      exact gw_iret C (Nat.le_of_ble_eq_true rfl) (Nat.le_of_ble_eq_true rfl) dX2_troubleOf_20 (⟨congrArg (fun q => some (vI q)) (tb_1 (by omega) (by omega)), rfl, rfl⟩)
    · skip
      refine gw_ldc C (x := (-2000000000)) dX2_troubleOf_11 kX2_102 (by decide) ?_
      refine gw_goto C (tgt := 20) dX2_troubleOf_13 (by decide) ?_
      exact gw_iret C (Nat.le_of_ble_eq_true rfl) (Nat.le_of_ble_eq_true rfl) dX2_troubleOf_20 (⟨congrArg (fun q => some (vI q)) (tb_0 (by omega) (by omega)), rfl, rfl⟩)
