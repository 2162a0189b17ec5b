set_option maxHeartbeats 4000000 in
set_option maxRecDepth 100000 in
theorem c_X5_lengthTowards {l : Launch} (hl0 : l.stackTraces = false) (G : GG) (I J : GI) {z : Nat} {r : Nat} (hr : travQ r) {q : Nat} (hq : travQ q) (hT : tOk I r) (he : (I r 3 ≠ 5 ∧ I r 3 ≠ 6) → endd I r ∧ 1 ≤ I r 2 ∧ 0 ≤ I (r + 3) ((I r 2).toNat - 1) ∧ I (r + 3) ((I r 2).toNat - 1) < 1296000) (he1 : (I q 3 ≠ 5 ∧ I q 3 ≠ 6) → endd I q) (x y : Int) (hx : 0 ≤ x ∧ x ≤ 1295999) (hy : 1 ≤ y ∧ y ≤ 2000) : GM l yX5_lengthTowards (.code yX5_lengthTowards cX5_lengthTowards 14 (some .int)) 2 49 0 0 G N0 SH RR [vR r, vR q, vI x, vI y] z I J (memQ (some (vI (if (I r 3 ≠ 5 ∧ I r 3 ≠ 6) ∧ I q 3 ≠ 5 ∧ I q 3 ≠ 6 then (agK (fun k => 1000 * ((k : Int) + 1)) (ltV I r q x) y.toNat).1 else -2000000000))) I J) gNo := by
  refine gm_of (lo0 := [some (vR r), some (vR q), some (vI x), some (vI y), none, none, none, none, none, none, none, none, none, none]) hl0 (by decide) rfl (Nat.le_of_ble_eq_true rfl) ?_
  intro p e s m args below meth c C ht hgi
  have C : gC G p l s m args meth c cX5_lengthTowards 14 RX5 (some .int) "lengthTowards" := C
  have h2 := hT.2.1.1
  obtain ⟨n, hnn⟩ : ∃ n : Nat, I r 2 = (n : Int) := ⟨(I r 2).toNat, by omega⟩
  have hn1 : (I r 2).toNat = n := by omega
  obtain ⟨mm, hmm⟩ : ∃ mm : Nat, y = (mm : Int) := ⟨y.toNat, by omega⟩
  have hm1 : y.toNat = mm := by omega
  refine gw_aload_n C 0 dX5_lengthTowards_0 rfl rfl ?_
  refine gw_callVb C (as := []) (st := []) (ci := 4) (T0 := TX5) (N := 15) (c_X5_hasEnd hl0 G I J hr ) dX5_lengthTowards_1 kX5_58 qX5_hasEnd hdX5_hasEnd ⟨Nat.le_of_ble_eq_true rfl, Nat.le_of_ble_eq_true rfl⟩ ⟨Nat.le_of_ble_eq_true rfl, Nat.le_of_ble_eq_true rfl⟩ (Nat.le_of_ble_eq_true rfl) rfl (tq_s hr) (tq_n hr) rfl (fun h_1 z_1 => ?_) (fun h_1 z_1 => ?_)
  · skip
    refine gw_if_eq C (tgt := 27) dX5_lengthTowards_4 (by decide) ⟨by decide, by decide⟩ (fun h => absurd h (by decide)) (fun _ => ?_)
    refine gw_aload_n C 1 dX5_lengthTowards_7 rfl rfl ?_
    refine gw_callVb C (as := []) (st := []) (ci := 4) (T0 := TX5) (N := 15) (c_X5_hasEnd hl0 G I J hq ) dX5_lengthTowards_8 kX5_58 qX5_hasEnd hdX5_hasEnd ⟨Nat.le_of_ble_eq_true rfl, Nat.le_of_ble_eq_true rfl⟩ ⟨Nat.le_of_ble_eq_true rfl, Nat.le_of_ble_eq_true rfl⟩ (Nat.le_of_ble_eq_true rfl) rfl (tq_s hq) (tq_n hq) rfl (fun h_8 z_8 => ?_) (fun h_8 z_8 => ?_)
    · skip
      refine gw_if_eq C (tgt := 27) dX5_lengthTowards_11 (by decide) ⟨by decide, by decide⟩ (fun h => absurd h (by decide)) (fun _ => ?_)
      refine gw_aload_n C 0 dX5_lengthTowards_14 rfl rfl ?_
      refine gw_aload_n C 0 dX5_lengthTowards_15 rfl rfl ?_
      refine gw_getI (ci := 4) (Cn := RX5) (T0 := TX5) (N := 15) C 2 kX5_37 fX5 rfl (by decide) rfl rfl dX5_lengthTowards_16 (tq_s hr) (tq_n hr) (fun hI_16 => ?_)
      rw [hnn] at hI_16 ⊢
      refine gw_iconst C dX5_lengthTowards_19 ?_
      refine gw_isub C dX5_lengthTowards_20 ?_
      refine gw_callVb C (as := [vI ((n : Int) - 1)]) (st := []) (ci := 4) (T0 := TX5) (N := 15) (c_X5_hasLeg hl0 G I J hr ((n : Int) - 1) (by omega)) dX5_lengthTowards_21 kX5_82 qX5_hasLeg hdX5_hasLeg ⟨Nat.le_of_ble_eq_true rfl, Nat.le_of_ble_eq_true rfl⟩ ⟨Nat.le_of_ble_eq_true rfl, Nat.le_of_ble_eq_true rfl⟩ (Nat.le_of_ble_eq_true rfl) rfl (tq_s hr) (tq_n hr) rfl (fun h_21 z_21 => ?_) (fun h_21 z_21 => ?_)
      · skip
        refine gw_if_ne C (tgt := 30) dX5_lengthTowards_24 (by decide) ⟨by decide, by decide⟩ (fun _ => ?_) (fun h => absurd h (by decide))
        have e0 := he (by omega)
        have e3 := e0.2.2
        rw [hn1] at e3
        have e1 := e0.1
        have e2 := he1 (by omega)
        unfold endd at e1 e2
        refine gw_aload_n C 0 dX5_lengthTowards_30 rfl rfl ?_
        refine gw_getRs (ci := 4) (Cn := RX5) (T0 := TX5) (N := 15) C (r + 3) 12 kX5_18 fX5 rfl (by decide) rfl rfl dX5_lengthTowards_31 (tq_s hr) (tq_n hr) (tq_R3 hr) ?_
        refine gw_aload_n C 0 dX5_lengthTowards_34 rfl rfl ?_
        refine gw_getI (ci := 4) (Cn := RX5) (T0 := TX5) (N := 15) C 2 kX5_37 fX5 rfl (by decide) rfl rfl dX5_lengthTowards_35 (tq_s hr) (tq_n hr) (fun hI_35 => ?_)
        rw [hnn] at hI_35 ⊢
        refine gw_iconst C dX5_lengthTowards_38 ?_
        refine gw_isub C dX5_lengthTowards_39 ?_
        refine gw_iald C (n - 1) dX5_lengthTowards_40 (tq_s3 hr) (tq_n3 hr) (by omega) (by omega) (by decide) (fun hI_40 => ?_)
        refine gw_iload_n C 2 dX5_lengthTowards_41 rfl rfl ?_
        refine gw_iadd C dX5_lengthTowards_42 ?_
        refine gw_ldc C (x := 648000) dX5_lengthTowards_43 kX5_93 (by decide) ?_
        refine gw_iadd C dX5_lengthTowards_45 ?_
        refine gw_istore C (lo1 := [some (vR r), some (vR q), some (vI x), some (vI y), some (vI (((I (r + 3) (n - 1)) + x) + 648000)), none, none, none, none, none, none, none, none, none]) dX5_lengthTowards_46 (by decide) rfl ?_
        rw [show (((I (r + 3) (n - 1)) + x) + 648000) = ltB I r x from by unfold ltB; rw [hn1]]
        have hB : 648000 ≤ ltB I r x ∧ ltB I r x < 3240000 := by unfold ltB; rw [hn1]; omega
        have hs1 := sinZ_b (ltB I r x)
        have hs2 := sinZ_b (ltB I r x + 324000)
        refine gw_iload C dX5_lengthTowards_48 rfl ?_
        refine gw_callSm C (as := [vI (ltB I r x)]) (st := []) (c_X3_sineOf hl0 G (ltB I r x) (by omega)) dX5_lengthTowards_50 kX5_122 qX3_sineOf hdX3_sineOf ⟨Nat.le_of_ble_eq_true rfl, Nat.le_of_ble_eq_true rfl⟩ ⟨Nat.le_of_ble_eq_true rfl, Nat.le_of_ble_eq_true rfl⟩ (Nat.le_of_ble_eq_true rfl) rfl (fun z_50 => ?_)
        have hr_50 := sinZ_b (ltB I r x)
        refine gw_istore C (lo1 := [some (vR r), some (vR q), some (vI x), some (vI y), some (vI (ltB I r x)), some (vI (sinZ (ltB I r x))), none, none, none, none, none, none, none, none]) dX5_lengthTowards_53 (by decide) rfl ?_
        refine gw_iload C dX5_lengthTowards_55 rfl ?_
        refine gw_ldc C (x := 324000) dX5_lengthTowards_57 kX5_129 (by decide) ?_
        refine gw_iadd C dX5_lengthTowards_59 ?_
        refine gw_callSm C (as := [vI ((ltB I r x) + 324000)]) (st := []) (c_X3_sineOf hl0 G ((ltB I r x) + 324000) (by omega)) dX5_lengthTowards_60 kX5_122 qX3_sineOf hdX3_sineOf ⟨Nat.le_of_ble_eq_true rfl, Nat.le_of_ble_eq_true rfl⟩ ⟨Nat.le_of_ble_eq_true rfl, Nat.le_of_ble_eq_true rfl⟩ (Nat.le_of_ble_eq_true rfl) rfl (fun z_60 => ?_)
        have hr_60 := sinZ_b ((ltB I r x) + 324000)
        refine gw_istore C (lo1 := [some (vR r), some (vR q), some (vI x), some (vI y), some (vI (ltB I r x)), some (vI (sinZ (ltB I r x))), some (vI (sinZ ((ltB I r x) + 324000))), none, none, none, none, none, none, none]) dX5_lengthTowards_63 (by decide) rfl ?_
        refine gw_ldc C (x := (-2000000000)) dX5_lengthTowards_65 kX5_46 (by decide) ?_
        refine gw_istore C (lo1 := [some (vR r), some (vR q), some (vI x), some (vI y), some (vI (ltB I r x)), some (vI (sinZ (ltB I r x))), some (vI (sinZ ((ltB I r x) + 324000))), some (vI (-2000000000)), none, none, none, none, none, none]) dX5_lengthTowards_67 (by decide) rfl ?_
        refine gw_lconst C 0 dX5_lengthTowards_69 (by decide) ?_
        refine gw_lstore C (lo1 := [some (vR r), some (vR q), some (vI x), some (vI y), some (vI (ltB I r x)), some (vI (sinZ (ltB I r x))), some (vI (sinZ ((ltB I r x) + 324000))), some (vI (-2000000000)), some (vL 0), none, none, none, none, none]) dX5_lengthTowards_70 (by decide) rfl ?_
        refine gw_iconst C dX5_lengthTowards_72 ?_
        refine gw_istore C (lo1 := [some (vR r), some (vR q), some (vI x), some (vI y), some (vI (ltB I r x)), some (vI (sinZ (ltB I r x))), some (vI (sinZ ((ltB I r x) + 324000))), some (vI (-2000000000)), some (vL 0), none, some (vI 1), none, none, none]) dX5_lengthTowards_73 (by decide) rfl ?_
        have loop_75 : ∀ (fuel : Nat) (u : Int) (v : Int) (k : Nat) (z1 : Nat), (k ≤ mm) → (agK (fun k => 1000 * ((k : Int) + 1)) (ltV I r q x) k = (u, v)) → (0 ≤ v ∧ v ≤ 100000000) → (u = -2000000000 ∨ (0 ≤ u ∧ u ≤ 2000000)) → mm - k < fuel → GW G p l e ({ frames := 2, cells := 0, slots := 0, locals := 49 } : Room) s m args below meth c 14 z1 N0 SH RR I J 0 0 (vx_MQ below (GQ G N0 SH RR (memQ (some (vI (if (I r 3 ≠ 5 ∧ I r 3 ≠ 6) ∧ I q 3 ≠ 5 ∧ I q 3 ≠ 6 then (agK (fun k => 1000 * ((k : Int) + 1)) (ltV I r q x) y.toNat).1 else -2000000000))) I J)) (GX G N0 SH RR gNo) args s 0 0 (ge G)) 75 [some (vR r), some (vR q), some (vI x), some (vI y), some (vI (ltB I r x)), some (vI (sinZ (ltB I r x))), some (vI (sinZ ((ltB I r x) + 324000))), some (vI u), some (vL v), none, some (vI ((k : Int) + 1)), none, none, none] [] := by
          intro fuel
          induction fuel with
          | zero => intro u v k z1 hk hu hv hub hf_75; exact absurd hf_75 (Nat.not_lt_zero _)
          | succ fuel ih_75 =>
            intro u v k z1 hk hu hv hub hf_75
            refine gw_iload C dX5_lengthTowards_75 rfl ?_
            refine gw_iload_n C 3 dX5_lengthTowards_77 rfl rfl ?_
            refine gw_icmp_gt C (tgt := 176) dX5_lengthTowards_78 (by decide) (by omega) (by omega) (fun h_78 => ?_) (fun h_78 => ?_)
            · skip
              refine gw_iload C dX5_lengthTowards_176 rfl ?_
              exact gw_iret C (Nat.le_of_ble_eq_true rfl) (Nat.le_of_ble_eq_true rfl) dX5_lengthTowards_178 (⟨congrArg (fun q => some (vI q)) (by rw [if_pos (by omega), hm1, show mm = k by omega, hu]), rfl, rfl⟩)
            · skip
              refine gw_sipush C dX5_lengthTowards_81 rfl ?_
              refine gw_iload C dX5_lengthTowards_84 rfl ?_
              refine gw_imul C dX5_lengthTowards_86 ?_
              refine gw_istore C (lo1 := [some (vR r), some (vR q), some (vI x), some (vI y), some (vI (ltB I r x)), some (vI (sinZ (ltB I r x))), some (vI (sinZ ((ltB I r x) + 324000))), some (vI u), some (vL v), none, some (vI ((k : Int) + 1)), some (vI (1000 * ((k : Int) + 1))), none, none]) dX5_lengthTowards_87 (by decide) rfl ?_
              refine gw_aload_n C 0 dX5_lengthTowards_89 rfl rfl ?_
              refine gw_getI (ci := 4) (Cn := RX5) (T0 := TX5) (N := 15) C 6 kX5_100 fX5 rfl (by decide) rfl rfl dX5_lengthTowards_90 (tq_s hr) (tq_n hr) (fun hI_90 => ?_)
              refine gw_iload C dX5_lengthTowards_93 rfl ?_
              refine gw_i2l C dX5_lengthTowards_95 (by omega) ?_
              refine gw_iload C dX5_lengthTowards_96 rfl ?_
              refine gw_callSm C (as := [vL (1000 * ((k : Int) + 1)), vI (sinZ (ltB I r x))]) (st := [vI (I r 6)]) (c_X5_step hl0 G (1000 * ((k : Int) + 1)) (sinZ (ltB I r x)) (by omega) (by omega)) dX5_lengthTowards_98 kX5_125 qX5_step hdX5_step ⟨Nat.le_of_ble_eq_true rfl, Nat.le_of_ble_eq_true rfl⟩ ⟨Nat.le_of_ble_eq_true rfl, Nat.le_of_ble_eq_true rfl⟩ (Nat.le_of_ble_eq_true rfl) rfl (fun z_98 => ?_)
              have e4 := (st_b (x := 1000 * ((k : Int) + 1)) (by omega) hs1).2
              refine gw_iadd C dX5_lengthTowards_101 ?_
              refine gw_aload_n C 1 dX5_lengthTowards_102 rfl rfl ?_
              refine gw_getI (ci := 4) (Cn := RX5) (T0 := TX5) (N := 15) C 6 kX5_100 fX5 rfl (by decide) rfl rfl dX5_lengthTowards_103 (tq_s hq) (tq_n hq) (fun hI_103 => ?_)
              refine gw_isub C dX5_lengthTowards_106 ?_
              refine gw_istore C (lo1 := [some (vR r), some (vR q), some (vI x), some (vI y), some (vI (ltB I r x)), some (vI (sinZ (ltB I r x))), some (vI (sinZ ((ltB I r x) + 324000))), some (vI u), some (vL v), none, some (vI ((k : Int) + 1)), some (vI (1000 * ((k : Int) + 1))), some (vI (((I r 6) + (((1000 * ((k : Int) + 1)) * (sinZ (ltB I r x))).tdiv 10000)) - (I q 6))), none]) dX5_lengthTowards_107 (by decide) rfl ?_
              have hq_12 : -8800000 ≤ (((I r 6) + (((1000 * ((k : Int) + 1)) * (sinZ (ltB I r x))).tdiv 10000)) - (I q 6)) ∧ (((I r 6) + (((1000 * ((k : Int) + 1)) * (sinZ (ltB I r x))).tdiv 10000)) - (I q 6)) ≤ 8800000 := by omega
              rw [show (((I r 6) + (((1000 * ((k : Int) + 1)) * (sinZ (ltB I r x))).tdiv 10000)) - (I q 6)) = (exF (I r 6) (I q 6) (sinZ (ltB I r x)) k) from rfl] at hq_12 ⊢
              refine gw_aload_n C 0 dX5_lengthTowards_109 rfl rfl ?_
              refine gw_getI (ci := 4) (Cn := RX5) (T0 := TX5) (N := 15) C 7 kX5_109 fX5 rfl (by decide) rfl rfl dX5_lengthTowards_110 (tq_s hr) (tq_n hr) (fun hI_110 => ?_)
              refine gw_iload C dX5_lengthTowards_113 rfl ?_
              refine gw_i2l C dX5_lengthTowards_115 (by omega) ?_
              refine gw_iload C dX5_lengthTowards_116 rfl ?_
              refine gw_callSm C (as := [vL (1000 * ((k : Int) + 1)), vI (sinZ ((ltB I r x) + 324000))]) (st := [vI (I r 7)]) (c_X5_step hl0 G (1000 * ((k : Int) + 1)) (sinZ ((ltB I r x) + 324000)) (by omega) (by omega)) dX5_lengthTowards_118 kX5_125 qX5_step hdX5_step ⟨Nat.le_of_ble_eq_true rfl, Nat.le_of_ble_eq_true rfl⟩ ⟨Nat.le_of_ble_eq_true rfl, Nat.le_of_ble_eq_true rfl⟩ (Nat.le_of_ble_eq_true rfl) rfl (fun z_118 => ?_)
              have e5 := (st_b (x := 1000 * ((k : Int) + 1)) (by omega) hs2).2
              refine gw_iadd C dX5_lengthTowards_121 ?_
              refine gw_aload_n C 1 dX5_lengthTowards_122 rfl rfl ?_
              refine gw_getI (ci := 4) (Cn := RX5) (T0 := TX5) (N := 15) C 7 kX5_109 fX5 rfl (by decide) rfl rfl dX5_lengthTowards_123 (tq_s hq) (tq_n hq) (fun hI_123 => ?_)
              refine gw_isub C dX5_lengthTowards_126 ?_
              refine gw_istore C (lo1 := [some (vR r), some (vR q), some (vI x), some (vI y), some (vI (ltB I r x)), some (vI (sinZ (ltB I r x))), some (vI (sinZ ((ltB I r x) + 324000))), some (vI u), some (vL v), none, some (vI ((k : Int) + 1)), some (vI (1000 * ((k : Int) + 1))), some (vI (exF (I r 6) (I q 6) (sinZ (ltB I r x)) k)), some (vI (((I r 7) + (((1000 * ((k : Int) + 1)) * (sinZ ((ltB I r x) + 324000))).tdiv 10000)) - (I q 7)))]) dX5_lengthTowards_127 (by decide) rfl ?_
              have hq_13 : -8800000 ≤ (((I r 7) + (((1000 * ((k : Int) + 1)) * (sinZ ((ltB I r x) + 324000))).tdiv 10000)) - (I q 7)) ∧ (((I r 7) + (((1000 * ((k : Int) + 1)) * (sinZ ((ltB I r x) + 324000))).tdiv 10000)) - (I q 7)) ≤ 8800000 := by omega
              rw [show (((I r 7) + (((1000 * ((k : Int) + 1)) * (sinZ ((ltB I r x) + 324000))).tdiv 10000)) - (I q 7)) = (exF (I r 7) (I q 7) (sinZ (ltB I r x + 324000)) k) from rfl] at hq_13 ⊢
              have hsq := sq2_b (x := (exF (I r 6) (I q 6) (sinZ (ltB I r x)) k)) (y := (exF (I r 7) (I q 7) (sinZ (ltB I r x + 324000)) k)) (by omega) (by omega)
              have hvv := mul_b (a := v) (b := v) (m := 100000000) (k := 100000000) (by omega) (by omega)
              refine gw_iload C dX5_lengthTowards_129 rfl ?_
              refine gw_ldc C (x := (-2000000000)) dX5_lengthTowards_131 kX5_46 (by decide) ?_
              refine gw_icmp_eq C (tgt := 154) dX5_lengthTowards_133 (by decide) (by omega) ⟨by decide, by decide⟩ (fun h_133 => ?_) (fun h_133 => ?_)
              · skip
                refine gw_iload C dX5_lengthTowards_154 rfl ?_
                refine gw_i2l C dX5_lengthTowards_156 (by omega) ?_
                refine gw_iload C dX5_lengthTowards_157 rfl ?_
                refine gw_i2l C dX5_lengthTowards_159 (by omega) ?_
                refine gw_callSm C (as := [vL (exF (I r 6) (I q 6) (sinZ (ltB I r x)) k), vL (exF (I r 7) (I q 7) (sinZ (ltB I r x + 324000)) k)]) (st := []) (c_X3_lengthOf hl0 G (exF (I r 6) (I q 6) (sinZ (ltB I r x)) k) (exF (I r 7) (I q 7) (sinZ (ltB I r x + 324000)) k) hsq.1) dX5_lengthTowards_160 kX5_142 qX3_lengthOf hdX3_lengthOf ⟨Nat.le_of_ble_eq_true rfl, Nat.le_of_ble_eq_true rfl⟩ ⟨Nat.le_of_ble_eq_true rfl, Nat.le_of_ble_eq_true rfl⟩ (Nat.le_of_ble_eq_true rfl) rfl (fun z_160 => ?_)
                have hrb : 0 ≤ (rootZ ((exF (I r 6) (I q 6) (sinZ (ltB I r x)) k) * (exF (I r 6) (I q 6) (sinZ (ltB I r x)) k) + (exF (I r 7) (I q 7) (sinZ (ltB I r x + 324000)) k) * (exF (I r 7) (I q 7) (sinZ (ltB I r x + 324000)) k))) ∧ (rootZ ((exF (I r 6) (I q 6) (sinZ (ltB I r x)) k) * (exF (I r 6) (I q 6) (sinZ (ltB I r x)) k) + (exF (I r 7) (I q 7) (sinZ (ltB I r x + 324000)) k) * (exF (I r 7) (I q 7) (sinZ (ltB I r x + 324000)) k))) ≤ 100000000 := ⟨(rootZ_s hsq.1.1).1, rootZ_le hsq.1.1 (by decide) (by omega)⟩
                refine gw_i2l C dX5_lengthTowards_163 (by omega) ?_
                refine gw_lstore C (lo1 := [some (vR r), some (vR q), some (vI x), some (vI y), some (vI (ltB I r x)), some (vI (sinZ (ltB I r x))), some (vI (sinZ ((ltB I r x) + 324000))), some (vI u), some (vL (rootZ ((exF (I r 6) (I q 6) (sinZ (ltB I r x)) k) * (exF (I r 6) (I q 6) (sinZ (ltB I r x)) k) + (exF (I r 7) (I q 7) (sinZ (ltB I r x + 324000)) k) * (exF (I r 7) (I q 7) (sinZ (ltB I r x + 324000)) k)))), none, some (vI ((k : Int) + 1)), some (vI (1000 * ((k : Int) + 1))), some (vI (exF (I r 6) (I q 6) (sinZ (ltB I r x)) k)), some (vI (exF (I r 7) (I q 7) (sinZ (ltB I r x + 324000)) k))]) dX5_lengthTowards_164 (by decide) rfl ?_
                refine gw_iload C dX5_lengthTowards_166 rfl ?_
                refine gw_istore C (lo1 := [some (vR r), some (vR q), some (vI x), some (vI y), some (vI (ltB I r x)), some (vI (sinZ (ltB I r x))), some (vI (sinZ ((ltB I r x) + 324000))), some (vI (1000 * ((k : Int) + 1))), some (vL (rootZ ((exF (I r 6) (I q 6) (sinZ (ltB I r x)) k) * (exF (I r 6) (I q 6) (sinZ (ltB I r x)) k) + (exF (I r 7) (I q 7) (sinZ (ltB I r x + 324000)) k) * (exF (I r 7) (I q 7) (sinZ (ltB I r x + 324000)) k)))), none, some (vI ((k : Int) + 1)), some (vI (1000 * ((k : Int) + 1))), some (vI (exF (I r 6) (I q 6) (sinZ (ltB I r x)) k)), some (vI (exF (I r 7) (I q 7) (sinZ (ltB I r x + 324000)) k))]) dX5_lengthTowards_168 (by decide) rfl ?_
                refine gw_iinc C (lo1 := [some (vR r), some (vR q), some (vI x), some (vI y), some (vI (ltB I r x)), some (vI (sinZ (ltB I r x))), some (vI (sinZ ((ltB I r x) + 324000))), some (vI (1000 * ((k : Int) + 1))), some (vL (rootZ ((exF (I r 6) (I q 6) (sinZ (ltB I r x)) k) * (exF (I r 6) (I q 6) (sinZ (ltB I r x)) k) + (exF (I r 7) (I q 7) (sinZ (ltB I r x + 324000)) k) * (exF (I r 7) (I q 7) (sinZ (ltB I r x + 324000)) k)))), none, some (vI (((k : Int) + 1) + 1)), some (vI (1000 * ((k : Int) + 1))), some (vI (exF (I r 6) (I q 6) (sinZ (ltB I r x)) k)), some (vI (exF (I r 7) (I q 7) (sinZ (ltB I r x + 324000)) k))]) dX5_lengthTowards_170 rfl (by decide) rfl ?_
                refine gw_goto C (tgt := 75) dX5_lengthTowards_173 (by decide) ?_
                exact gw_weak (lo' := [some (vR r), some (vR q), some (vI x), some (vI y), some (vI (ltB I r x)), some (vI (sinZ (ltB I r x))), some (vI (sinZ ((ltB I r x) + 324000))), some (vI (1000 * ((k : Int) + 1))), some (vL (rootZ ((exF (I r 6) (I q 6) (sinZ (ltB I r x)) k) * (exF (I r 6) (I q 6) (sinZ (ltB I r x)) k) + (exF (I r 7) (I q 7) (sinZ (ltB I r x + 324000)) k) * (exF (I r 7) (I q 7) (sinZ (ltB I r x + 324000)) k)))), none, some (vI ((((k + 1) : Nat) : Int) + 1)), none, none, none]) ⟨rfl, rfl, rfl, rfl, rfl, rfl, rfl, rfl, rfl, congrArg (fun q => some (vI q)) (by omega), trivial⟩ (ih_75 (1000 * ((k : Int) + 1)) (rootZ ((exF (I r 6) (I q 6) (sinZ (ltB I r x)) k) * (exF (I r 6) (I q 6) (sinZ (ltB I r x)) k) + (exF (I r 7) (I q 7) (sinZ (ltB I r x + 324000)) k) * (exF (I r 7) (I q 7) (sinZ (ltB I r x + 324000)) k))) (k + 1) z_160 (by omega) (by first | exact agK_t hu (Or.inl (by omega)) | exact agK_t hu (Or.inr ((root_lt (by omega) (by omega)).mpr (by omega))) | exact agK_f hu (fun hh => hh.elim (fun h3 => absurd h3 (by omega)) (fun h3 => absurd ((root_lt hsq.1.1 (by omega)).mp h3) (by omega)))) (by omega) (by omega) (by omega))
              · skip
                refine gw_iload C dX5_lengthTowards_136 rfl ?_
                refine gw_i2l C dX5_lengthTowards_138 (by omega) ?_
                refine gw_iload C dX5_lengthTowards_139 rfl ?_
                refine gw_i2l C dX5_lengthTowards_141 (by omega) ?_
                refine gw_callSm C (as := [vL (exF (I r 6) (I q 6) (sinZ (ltB I r x)) k), vL (exF (I r 7) (I q 7) (sinZ (ltB I r x + 324000)) k)]) (st := []) (c_X3_squareOf hl0 G (exF (I r 6) (I q 6) (sinZ (ltB I r x)) k) (exF (I r 7) (I q 7) (sinZ (ltB I r x + 324000)) k) ) dX5_lengthTowards_142 kX5_151 qX3_squareOf hdX3_squareOf ⟨Nat.le_of_ble_eq_true rfl, Nat.le_of_ble_eq_true rfl⟩ ⟨Nat.le_of_ble_eq_true rfl, Nat.le_of_ble_eq_true rfl⟩ (Nat.le_of_ble_eq_true rfl) rfl (fun z_142 => ?_)
                refine gw_lload C dX5_lengthTowards_145 rfl ?_
                refine gw_lload C dX5_lengthTowards_147 rfl ?_
                refine gw_lmul C dX5_lengthTowards_149 ?_
                refine gw_lcmp C dX5_lengthTowards_150 (by omega) (by omega) (fun h_150 => ?_) (fun h_150 => ?_) (fun h_150 => ?_)
                · skip
                  refine gw_if_ge C (tgt := 170) dX5_lengthTowards_151 (by decide) ⟨by decide, by decide⟩ (fun h => absurd h (by decide)) (fun _ => ?_)
                  refine gw_iload C dX5_lengthTowards_154 rfl ?_
                  refine gw_i2l C dX5_lengthTowards_156 (by omega) ?_
                  refine gw_iload C dX5_lengthTowards_157 rfl ?_
                  refine gw_i2l C dX5_lengthTowards_159 (by omega) ?_
                  refine gw_callSm C (as := [vL (exF (I r 6) (I q 6) (sinZ (ltB I r x)) k), vL (exF (I r 7) (I q 7) (sinZ (ltB I r x + 324000)) k)]) (st := []) (c_X3_lengthOf hl0 G (exF (I r 6) (I q 6) (sinZ (ltB I r x)) k) (exF (I r 7) (I q 7) (sinZ (ltB I r x + 324000)) k) hsq.1) dX5_lengthTowards_160 kX5_142 qX3_lengthOf hdX3_lengthOf ⟨Nat.le_of_ble_eq_true rfl, Nat.le_of_ble_eq_true rfl⟩ ⟨Nat.le_of_ble_eq_true rfl, Nat.le_of_ble_eq_true rfl⟩ (Nat.le_of_ble_eq_true rfl) rfl (fun z_160_2 => ?_)
                  have hrb : 0 ≤ (rootZ ((exF (I r 6) (I q 6) (sinZ (ltB I r x)) k) * (exF (I r 6) (I q 6) (sinZ (ltB I r x)) k) + (exF (I r 7) (I q 7) (sinZ (ltB I r x + 324000)) k) * (exF (I r 7) (I q 7) (sinZ (ltB I r x + 324000)) k))) ∧ (rootZ ((exF (I r 6) (I q 6) (sinZ (ltB I r x)) k) * (exF (I r 6) (I q 6) (sinZ (ltB I r x)) k) + (exF (I r 7) (I q 7) (sinZ (ltB I r x + 324000)) k) * (exF (I r 7) (I q 7) (sinZ (ltB I r x + 324000)) k))) ≤ 100000000 := ⟨(rootZ_s hsq.1.1).1, rootZ_le hsq.1.1 (by decide) (by omega)⟩
                  refine gw_i2l C dX5_lengthTowards_163 (by omega) ?_
                  refine gw_lstore C (lo1 := [some (vR r), some (vR q), some (vI x), some (vI y), some (vI (ltB I r x)), some (vI (sinZ (ltB I r x))), some (vI (sinZ ((ltB I r x) + 324000))), some (vI u), some (vL (rootZ ((exF (I r 6) (I q 6) (sinZ (ltB I r x)) k) * (exF (I r 6) (I q 6) (sinZ (ltB I r x)) k) + (exF (I r 7) (I q 7) (sinZ (ltB I r x + 324000)) k) * (exF (I r 7) (I q 7) (sinZ (ltB I r x + 324000)) k)))), none, some (vI ((k : Int) + 1)), some (vI (1000 * ((k : Int) + 1))), some (vI (exF (I r 6) (I q 6) (sinZ (ltB I r x)) k)), some (vI (exF (I r 7) (I q 7) (sinZ (ltB I r x + 324000)) k))]) dX5_lengthTowards_164 (by decide) rfl ?_
                  refine gw_iload C dX5_lengthTowards_166 rfl ?_
                  refine gw_istore C (lo1 := [some (vR r), some (vR q), some (vI x), some (vI y), some (vI (ltB I r x)), some (vI (sinZ (ltB I r x))), some (vI (sinZ ((ltB I r x) + 324000))), some (vI (1000 * ((k : Int) + 1))), some (vL (rootZ ((exF (I r 6) (I q 6) (sinZ (ltB I r x)) k) * (exF (I r 6) (I q 6) (sinZ (ltB I r x)) k) + (exF (I r 7) (I q 7) (sinZ (ltB I r x + 324000)) k) * (exF (I r 7) (I q 7) (sinZ (ltB I r x + 324000)) k)))), none, some (vI ((k : Int) + 1)), some (vI (1000 * ((k : Int) + 1))), some (vI (exF (I r 6) (I q 6) (sinZ (ltB I r x)) k)), some (vI (exF (I r 7) (I q 7) (sinZ (ltB I r x + 324000)) k))]) dX5_lengthTowards_168 (by decide) rfl ?_
                  refine gw_iinc C (lo1 := [some (vR r), some (vR q), some (vI x), some (vI y), some (vI (ltB I r x)), some (vI (sinZ (ltB I r x))), some (vI (sinZ ((ltB I r x) + 324000))), some (vI (1000 * ((k : Int) + 1))), some (vL (rootZ ((exF (I r 6) (I q 6) (sinZ (ltB I r x)) k) * (exF (I r 6) (I q 6) (sinZ (ltB I r x)) k) + (exF (I r 7) (I q 7) (sinZ (ltB I r x + 324000)) k) * (exF (I r 7) (I q 7) (sinZ (ltB I r x + 324000)) k)))), none, some (vI (((k : Int) + 1) + 1)), some (vI (1000 * ((k : Int) + 1))), some (vI (exF (I r 6) (I q 6) (sinZ (ltB I r x)) k)), some (vI (exF (I r 7) (I q 7) (sinZ (ltB I r x + 324000)) k))]) dX5_lengthTowards_170 rfl (by decide) rfl ?_
                  refine gw_goto C (tgt := 75) dX5_lengthTowards_173 (by decide) ?_
                  exact gw_weak (lo' := [some (vR r), some (vR q), some (vI x), some (vI y), some (vI (ltB I r x)), some (vI (sinZ (ltB I r x))), some (vI (sinZ ((ltB I r x) + 324000))), some (vI (1000 * ((k : Int) + 1))), some (vL (rootZ ((exF (I r 6) (I q 6) (sinZ (ltB I r x)) k) * (exF (I r 6) (I q 6) (sinZ (ltB I r x)) k) + (exF (I r 7) (I q 7) (sinZ (ltB I r x + 324000)) k) * (exF (I r 7) (I q 7) (sinZ (ltB I r x + 324000)) k)))), none, some (vI ((((k + 1) : Nat) : Int) + 1)), none, none, none]) ⟨rfl, rfl, rfl, rfl, rfl, rfl, rfl, rfl, rfl, congrArg (fun q => some (vI q)) (by omega), trivial⟩ (ih_75 (1000 * ((k : Int) + 1)) (rootZ ((exF (I r 6) (I q 6) (sinZ (ltB I r x)) k) * (exF (I r 6) (I q 6) (sinZ (ltB I r x)) k) + (exF (I r 7) (I q 7) (sinZ (ltB I r x + 324000)) k) * (exF (I r 7) (I q 7) (sinZ (ltB I r x + 324000)) k))) (k + 1) z_160_2 (by omega) (by first | exact agK_t hu (Or.inl (by omega)) | exact agK_t hu (Or.inr ((root_lt (by omega) (by omega)).mpr (by omega))) | exact agK_f hu (fun hh => hh.elim (fun h3 => absurd h3 (by omega)) (fun h3 => absurd ((root_lt hsq.1.1 (by omega)).mp h3) (by omega)))) (by omega) (by omega) (by omega))
                · skip
                  refine gw_if_ge C (tgt := 170) dX5_lengthTowards_151 (by decide) ⟨by decide, by decide⟩ (fun _ => ?_) (fun h => absurd h (by decide))
                  refine gw_iinc C (lo1 := [some (vR r), some (vR q), some (vI x), some (vI y), some (vI (ltB I r x)), some (vI (sinZ (ltB I r x))), some (vI (sinZ ((ltB I r x) + 324000))), some (vI u), some (vL v), none, some (vI (((k : Int) + 1) + 1)), some (vI (1000 * ((k : Int) + 1))), some (vI (exF (I r 6) (I q 6) (sinZ (ltB I r x)) k)), some (vI (exF (I r 7) (I q 7) (sinZ (ltB I r x + 324000)) k))]) dX5_lengthTowards_170 rfl (by decide) rfl ?_
                  refine gw_goto C (tgt := 75) dX5_lengthTowards_173 (by decide) ?_
                  exact gw_weak (lo' := [some (vR r), some (vR q), some (vI x), some (vI y), some (vI (ltB I r x)), some (vI (sinZ (ltB I r x))), some (vI (sinZ ((ltB I r x) + 324000))), some (vI u), some (vL v), none, some (vI ((((k + 1) : Nat) : Int) + 1)), none, none, none]) ⟨rfl, rfl, rfl, rfl, rfl, rfl, rfl, rfl, rfl, congrArg (fun q => some (vI q)) (by omega), trivial⟩ (ih_75 u v (k + 1) z_142 (by omega) (by first | exact agK_t hu (Or.inl (by omega)) | exact agK_t hu (Or.inr ((root_lt (by omega) (by omega)).mpr (by omega))) | exact agK_f hu (fun hh => hh.elim (fun h3 => absurd h3 (by omega)) (fun h3 => absurd ((root_lt hsq.1.1 (by omega)).mp h3) (by omega)))) (by omega) (by omega) (by omega))
                · skip
                  refine gw_if_ge C (tgt := 170) dX5_lengthTowards_151 (by decide) ⟨by decide, by decide⟩ (fun _ => ?_) (fun h => absurd h (by decide))
                  refine gw_iinc C (lo1 := [some (vR r), some (vR q), some (vI x), some (vI y), some (vI (ltB I r x)), some (vI (sinZ (ltB I r x))), some (vI (sinZ ((ltB I r x) + 324000))), some (vI u), some (vL v), none, some (vI (((k : Int) + 1) + 1)), some (vI (1000 * ((k : Int) + 1))), some (vI (exF (I r 6) (I q 6) (sinZ (ltB I r x)) k)), some (vI (exF (I r 7) (I q 7) (sinZ (ltB I r x + 324000)) k))]) dX5_lengthTowards_170 rfl (by decide) rfl ?_
                  refine gw_goto C (tgt := 75) dX5_lengthTowards_173 (by decide) ?_
                  exact gw_weak (lo' := [some (vR r), some (vR q), some (vI x), some (vI y), some (vI (ltB I r x)), some (vI (sinZ (ltB I r x))), some (vI (sinZ ((ltB I r x) + 324000))), some (vI u), some (vL v), none, some (vI ((((k + 1) : Nat) : Int) + 1)), none, none, none]) ⟨rfl, rfl, rfl, rfl, rfl, rfl, rfl, rfl, rfl, congrArg (fun q => some (vI q)) (by omega), trivial⟩ (ih_75 u v (k + 1) z_142 (by omega) (by first | exact agK_t hu (Or.inl (by omega)) | exact agK_t hu (Or.inr ((root_lt (by omega) (by omega)).mpr (by omega))) | exact agK_f hu (fun hh => hh.elim (fun h3 => absurd h3 (by omega)) (fun h3 => absurd ((root_lt hsq.1.1 (by omega)).mp h3) (by omega)))) (by omega) (by omega) (by omega))
        exact gw_weak (lo' := [some (vR r), some (vR q), some (vI x), some (vI y), some (vI (ltB I r x)), some (vI (sinZ (ltB I r x))), some (vI (sinZ ((ltB I r x) + 324000))), some (vI (-2000000000)), some (vL 0), none, some (vI ((0 : Int) + 1)), none, none, none]) ⟨rfl, rfl, rfl, rfl, rfl, rfl, rfl, rfl, rfl, congrArg (fun q => some (vI q)) (by omega), trivial⟩ (loop_75 _ (-2000000000) 0 0 z_60 (by omega) (by rfl) (by omega) (by omega) (Nat.lt_succ_self _))
      · exact absurd True.intro (by (have e0 := he (by omega)); omega)
    · skip
      refine gw_if_eq C (tgt := 27) dX5_lengthTowards_11 (by decide) ⟨by decide, by decide⟩ (fun _ => ?_) (fun h => absurd h (by decide))
      refine gw_ldc C (x := (-2000000000)) dX5_lengthTowards_27 kX5_46 (by decide) ?_
      exact gw_iret C (Nat.le_of_ble_eq_true rfl) (Nat.le_of_ble_eq_true rfl) dX5_lengthTowards_29 (⟨congrArg (fun q => some (vI q)) (by rw [if_neg (by omega)]), rfl, rfl⟩)
  · skip
    refine gw_if_eq C (tgt := 27) dX5_lengthTowards_4 (by decide) ⟨by decide, by decide⟩ (fun _ => ?_) (fun h => absurd h (by decide))
    refine gw_ldc C (x := (-2000000000)) dX5_lengthTowards_27 kX5_46 (by decide) ?_
    exact gw_iret C (Nat.le_of_ble_eq_true rfl) (Nat.le_of_ble_eq_true rfl) dX5_lengthTowards_29 (⟨congrArg (fun q => some (vI q)) (by rw [if_neg (by omega)]), rfl, rfl⟩)
