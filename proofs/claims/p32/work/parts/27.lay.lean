def layI (I : GI) (r : Nat) (s0 e0 n0 : Int) : Nat → GI
  | 0 => up (up I r 6 e0) r 7 n0
  | i + 1 => up (up (up (up (up (layI I r s0 e0 n0 i) r 6 (pF 0 e0 s0 (I (r + 1)) (I (r + 2)) (i + 1))) r 7 (pF 324000 n0 s0 (I (r + 1)) (I (r + 2)) (i + 1))) (r + 3) i (bF s0 (I (r + 1)) (i + 1))) (r + 4) i (pF 0 e0 s0 (I (r + 1)) (I (r + 2)) (i + 1))) (r + 5) i (pF 324000 n0 s0 (I (r + 1)) (I (r + 2)) (i + 1))
theorem layI_s {I : GI} {r : Nat} {s0 e0 n0 : Int} {i : Nat} : layI I r s0 e0 n0 (i + 1) = up (up (up (up (up (layI I r s0 e0 n0 i) r 6 (pF 0 e0 s0 (I (r + 1)) (I (r + 2)) (i + 1))) r 7 (pF 324000 n0 s0 (I (r + 1)) (I (r + 2)) (i + 1))) (r + 3) i (bF s0 (I (r + 1)) (i + 1))) (r + 4) i (pF 0 e0 s0 (I (r + 1)) (I (r + 2)) (i + 1))) (r + 5) i (pF 324000 n0 s0 (I (r + 1)) (I (r + 2)) (i + 1)) := rfl
theorem lay_o {I : GI} {r : Nat} {s0 e0 n0 : Int} {q : Nat} (h : q ≠ r ∧ q ≠ r + 3 ∧ q ≠ r + 4 ∧ q ≠ r + 5) : ∀ i : Nat, layI I r s0 e0 n0 i q = I q := by
  intro i
  induction i with
  | zero => rw [layI, up_ne h.1, up_ne h.1]
  | succ i ih => rw [layI_s, up_ne h.2.2.2, up_ne h.2.2.1, up_ne h.2.1, up_ne h.1, up_ne h.1, ih]
theorem lay_r {I : GI} {r : Nat} {s0 e0 n0 : Int} {j : Nat} (h : j ≠ 6 ∧ j ≠ 7) : ∀ i : Nat, layI I r s0 e0 n0 i r j = I r j := by
  intro i
  induction i with
  | zero => rw [layI, up_ne2 h.2, up_ne2 h.1]
  | succ i ih => rw [layI_s, up_ne (by omega), up_ne (by omega), up_ne (by omega), up_ne2 h.2, up_ne2 h.1, ih]
theorem lay_6 {I : GI} {r : Nat} {s0 e0 n0 : Int} : ∀ i : Nat, layI I r s0 e0 n0 i r 6 = pF 0 e0 s0 (I (r + 1)) (I (r + 2)) i := by
  intro i
  rcases i with _ | i
  · rw [layI, up_ne2 (by decide), up_eq]; rfl
  · rw [layI_s, up_ne (by omega), up_ne (by omega), up_ne (by omega), up_ne2 (by decide), up_eq]
theorem lay_7 {I : GI} {r : Nat} {s0 e0 n0 : Int} : ∀ i : Nat, layI I r s0 e0 n0 i r 7 = pF 324000 n0 s0 (I (r + 1)) (I (r + 2)) i := by
  intro i
  rcases i with _ | i
  · rw [layI, up_eq]; rfl
  · rw [layI_s, up_ne (by omega), up_ne (by omega), up_ne (by omega), up_eq]
theorem lay_3 {I : GI} {r : Nat} {s0 e0 n0 : Int} : ∀ i k : Nat, k < i → layI I r s0 e0 n0 i (r + 3) k = bF s0 (I (r + 1)) (k + 1) ∧ layI I r s0 e0 n0 i (r + 4) k = pF 0 e0 s0 (I (r + 1)) (I (r + 2)) (k + 1) ∧ layI I r s0 e0 n0 i (r + 5) k = pF 324000 n0 s0 (I (r + 1)) (I (r + 2)) (k + 1) := by
  intro i
  induction i with
  | zero => intro k hk; omega
  | succ i ih =>
    intro k hk
    rw [layI_s]
    by_cases e : k = i
    · subst e
      refine ⟨?_, ?_, ?_⟩
      · rw [up_ne (by omega), up_ne (by omega), up_eq]
      · rw [up_ne (by omega), up_eq]
      · rw [up_eq]
    · have h := ih k (by omega)
      refine ⟨?_, ?_, ?_⟩
      · rw [up_ne (by omega), up_ne (by omega), up_ne2 e, up_ne (by omega), up_ne (by omega)]; exact h.1
      · rw [up_ne (by omega), up_ne2 e, up_ne (by omega), up_ne (by omega), up_ne (by omega)]; exact h.2.1
      · rw [up_ne2 e, up_ne (by omega), up_ne (by omega), up_ne (by omega), up_ne (by omega)]; exact h.2.2
set_option maxHeartbeats 4000000 in
set_option maxRecDepth 100000 in
theorem c_X5_layOut {l : Launch} (hl0 : l.stackTraces = false) (G : GG) (I J : GI) {z : Nat} {r f : Nat} (hr : travQ r) (hq : joinQ f) (hf : f ≠ r) (hT : tOk I r) (hs : 0 ≤ I f 7 ∧ I f 7 < 1296000) (he : -1000000 ≤ I f 3 ∧ I f 3 ≤ 1000000) (hn : -1000000 ≤ I f 4 ∧ I f 4 ≤ 1000000) : GM l yX5_layOut (.code yX5_layOut cX5_layOut 4 (some .int)) 2 49 0 0 G N0 SH RR [vR r, vR f] z I J (memQ (some (vI (bF (I f 7) (I (r + 1)) (I r 2).toNat))) (layI I r (I f 7) (I f 3) (I f 4) (I r 2).toNat) J) gNo := by
  refine gm_of (lo0 := [some (vR r), some (vR f), none, none]) hl0 (by decide) rfl (Nat.le_of_ble_eq_true rfl) ?_
  intro p e s m args below meth c C ht hgi
  have C : gC G p l s m args meth c cX5_layOut 4 RX5 (some .int) "layOut" := C
  obtain ⟨n, hnn⟩ : ∃ n : Nat, I r 2 = (n : Int) := ⟨(I r 2).toNat, by have := hT.2.1.1; omega⟩
  have h12 : n ≤ 12 := by have := hT.2.1.1; omega
  have hn1 : (I r 2).toNat = n := by omega
  refine gw_aload_n C 1 dX5_layOut_0 rfl rfl ?_
  refine gw_getI (ci := 1) (Cn := RX1) (T0 := TX1) (N := 12) C 7 kX5_94 fX1 rfl (by decide) rfl rfl dX5_layOut_1 (jq_s hq) (jq_n hq) (fun hI_1 => ?_)
  refine gw_ldc C (x := 648000) dX5_layOut_4 kX5_93 (by decide) ?_
  refine gw_iadd C dX5_layOut_6 ?_
  refine gw_istore_n C (lo1 := [some (vR r), some (vR f), some (vI ((I f 7) + 648000)), none]) 2 dX5_layOut_7 rfl (by decide) rfl ?_
  refine gw_aload_n C 0 dX5_layOut_8 rfl rfl ?_
  refine gw_aload_n C 1 dX5_layOut_9 rfl rfl ?_
  refine gw_getI (ci := 1) (Cn := RX1) (T0 := TX1) (N := 12) C 3 kX5_103 fX1 rfl (by decide) rfl rfl dX5_layOut_10 (jq_s hq) (jq_n hq) (fun hI_10 => ?_)
  refine gw_putI (ci := 4) (Cn := RX5) (T0 := TX5) (N := 15) C (ty := .int) 6 kX5_100 fX5 rfl (by decide) rfl rfl tyX5 tyX5_ok nmX5 rfl (by decide) rfl rfl hI_10 dX5_layOut_13 (tq_s hr) (tq_n hr) ?_
  refine gw_aload_n C 0 dX5_layOut_16 rfl rfl ?_
  refine gw_aload_n C 1 dX5_layOut_17 rfl rfl ?_
  refine gw_getI (ci := 1) (Cn := RX1) (T0 := TX1) (N := 12) C 4 kX5_112 fX1 rfl (by decide) rfl rfl dX5_layOut_18 (jq_s hq) (jq_n hq) (fun hI_18 => ?_)
  rw [show ((up I r 6 (I f 3)) f 4) = (I f 4) from by simp [up, hf]] at hI_18 ⊢
  refine gw_putI (ci := 4) (Cn := RX5) (T0 := TX5) (N := 15) C (ty := .int) 7 kX5_109 fX5 rfl (by decide) rfl rfl tyX5 tyX5_ok nmX5 rfl (by decide) rfl rfl hI_18 dX5_layOut_21 (tq_s hr) (tq_n hr) ?_
  refine gw_iconst C dX5_layOut_24 ?_
  refine gw_istore_n C (lo1 := [some (vR r), some (vR f), some (vI ((I f 7) + 648000)), some (vI 0)]) 3 dX5_layOut_25 rfl (by decide) rfl ?_
  have loop_26 : ∀ (fuel : Nat) (b : Int) (i : Nat) (K : GI) (z1 : Nat), (i ≤ n) → (b = (bF (I f 7) (I (r + 1)) i)) → (K = layI I r (I f 7) (I f 3) (I f 4) i) → n - i < fuel → GW G p l e ({ frames := 2, cells := 0, slots := 0, locals := 49 } : Room) s m args below meth c 4 z1 N0 SH RR K J 0 0 (vx_MQ below (GQ G N0 SH RR (memQ (some (vI (bF (I f 7) (I (r + 1)) (I r 2).toNat))) (layI I r (I f 7) (I f 3) (I f 4) (I r 2).toNat) J)) (GX G N0 SH RR gNo) args s 0 0 (ge G)) 26 [some (vR r), some (vR f), some (vI b), some (vI (i : Int))] [] := by
    intro fuel
    induction fuel with
    | zero => intro b i K z1 hi hb hK hf_26; exact absurd hf_26 (Nat.not_lt_zero _)
    | succ fuel ih_26 =>
      intro b i K z1 hi hb hK hf_26
      have hbb := bF_b (a := I (r + 1)) hs i
      rw [← hb] at hbb
      have p0 := pF_b (q := 0) (e0 := I f 3) (s0 := I f 7) (a := I (r + 1)) hT.2.2.2 i (by omega)
      have p1 := pF_b (q := 324000) (e0 := I f 4) (s0 := I f 7) (a := I (r + 1)) hT.2.2.2 i (by omega)
      refine gw_iload_n C 3 dX5_layOut_26 rfl rfl ?_
      refine gw_aload_n C 0 dX5_layOut_27 rfl rfl ?_
      refine gw_getI (ci := 4) (Cn := RX5) (T0 := TX5) (N := 15) C 2 kX5_37 fX5 rfl (by decide) rfl rfl dX5_layOut_28 (tq_s hr) (tq_n hr) (fun hI_28 => ?_)
      rw [show (K r 2) = (n : Int) from by (repeat (first | rw [up_ne2 (by decide)] | rw [up_ne (by omega)])); rw [hK, lay_r (by decide)]; exact hnn] at hI_28 ⊢
      refine gw_icmp_ge C (tgt := 137) dX5_layOut_31 (by decide) (by omega) hI_28 (fun h_31 => ?_) (fun h_31 => ?_)
      · skip
        refine gw_iload_n C 2 dX5_layOut_137 rfl rfl ?_
        exact gw_iret C (Nat.le_of_ble_eq_true rfl) (Nat.le_of_ble_eq_true rfl) dX5_layOut_138 (⟨congrArg (fun q => some (vI q)) (by rw [hb, hn1, show i = n by omega]), (by rw [hK, hn1, show i = n by omega]), rfl⟩)
      · skip
        refine gw_iload_n C 3 dX5_layOut_34 rfl rfl ?_
        refine gw_bipush C dX5_layOut_35 rfl ?_
        refine gw_icmp_ge C (tgt := 137) dX5_layOut_37 (by decide) (by omega) ⟨by decide, by decide⟩ (fun h => absurd h (by omega)) (fun _ => ?_)
        refine gw_iload_n C 2 dX5_layOut_40 rfl rfl ?_
        refine gw_aload_n C 0 dX5_layOut_41 rfl rfl ?_
        refine gw_getRs (ci := 4) (Cn := RX5) (T0 := TX5) (N := 15) C (r + 1) 10 kX5_9 fX5 rfl (by decide) rfl rfl dX5_layOut_42 (tq_s hr) (tq_n hr) (tq_R1 hr) ?_
        refine gw_iload_n C 3 dX5_layOut_45 rfl rfl ?_
        refine gw_iald C i dX5_layOut_46 (tq_s1 hr) (tq_n1 hr) (by omega) (by omega) (by decide) (fun hI_46 => ?_)
        rw [show (K (r + 1) i) = (I (r + 1) i) from by (repeat rw [up_ne (by omega)]); rw [hK, lay_o (by omega)]] at hI_46 ⊢; have ha_46 := hT.2.2.1 i (by omega)
        refine gw_iadd C dX5_layOut_47 ?_
        refine gw_ldc C (x := 648000) dX5_layOut_48 kX5_93 (by decide) ?_
        refine gw_iadd C dX5_layOut_50 ?_
        refine gw_callSm C (as := [vI ((b + (I (r + 1) i)) + 648000)]) (st := []) (c_X3_norm hl0 G ((b + (I (r + 1) i)) + 648000) (by omega)) dX5_layOut_51 kX5_79 qX3_norm hdX3_norm ⟨Nat.le_of_ble_eq_true rfl, Nat.le_of_ble_eq_true rfl⟩ ⟨Nat.le_of_ble_eq_true rfl, Nat.le_of_ble_eq_true rfl⟩ (Nat.le_of_ble_eq_true rfl) rfl (fun z_51 => ?_)
        have hr_51 := normZ_b ((b + (I (r + 1) i)) + 648000)
        refine gw_istore_n C (lo1 := [some (vR r), some (vR f), some (vI (normZ ((b + (I (r + 1) i)) + 648000))), some (vI (i : Int))]) 2 dX5_layOut_54 rfl (by decide) rfl ?_
        obtain ⟨b1, hb1⟩ : ∃ b1, b1 = (bF (I f 7) (I (r + 1)) (i + 1)) := ⟨_, rfl⟩
        rw [show ((normZ ((b + (I (r + 1) i)) + 648000))) = b1 from by rw [hb1, bF_s, hb]]
        have hb1b := bF_b1 (s0 := I f 7) (a := I (r + 1)) i
        rw [← hb1] at hb1b
        have q0 := pF_b (q := 0) (e0 := I f 3) (s0 := I f 7) (a := I (r + 1)) hT.2.2.2 (i + 1) (by omega)
        have q1 := pF_b (q := 324000) (e0 := I f 4) (s0 := I f 7) (a := I (r + 1)) hT.2.2.2 (i + 1) (by omega)
        refine gw_aload_n C 0 dX5_layOut_55 rfl rfl ?_
        refine gw_dupR C dX5_layOut_56 ?_
        refine gw_getI (ci := 4) (Cn := RX5) (T0 := TX5) (N := 15) C 6 kX5_100 fX5 rfl (by decide) rfl rfl dX5_layOut_57 (tq_s hr) (tq_n hr) (fun hI_57 => ?_)
        rw [show (K r 6) = (pF 0 (I f 3) (I f 7) (I (r + 1)) (I (r + 2)) i) from by (repeat (first | rw [up_ne2 (by decide)] | rw [up_ne (by omega)])); rw [hK, lay_6]]
        refine gw_aload_n C 0 dX5_layOut_60 rfl rfl ?_
        refine gw_getRs (ci := 4) (Cn := RX5) (T0 := TX5) (N := 15) C (r + 2) 11 kX5_15 fX5 rfl (by decide) rfl rfl dX5_layOut_61 (tq_s hr) (tq_n hr) (tq_R2 hr) ?_
        refine gw_iload_n C 3 dX5_layOut_64 rfl rfl ?_
        refine gw_iald C i dX5_layOut_65 (tq_s2 hr) (tq_n2 hr) (by omega) (by omega) (by decide) (fun hI_65 => ?_)
        rw [show (K (r + 2) i) = (I (r + 2) i) from by (repeat rw [up_ne (by omega)]); rw [hK, lay_o (by omega)]] at hI_65 ⊢; have ha_65 := hT.2.2.2 i (by omega)
        refine gw_i2l C dX5_layOut_66 hI_65 ?_
        refine gw_iload_n C 2 dX5_layOut_67 rfl rfl ?_
        refine gw_callSm C (as := [vI b1]) (st := [vL (I (r + 2) i), vI (pF 0 (I f 3) (I f 7) (I (r + 1)) (I (r + 2)) i), vR r]) (c_X3_sineOf hl0 G b1 (by omega)) dX5_layOut_68 kX5_122 qX3_sineOf hdX3_sineOf ⟨Nat.le_of_ble_eq_true rfl, Nat.le_of_ble_eq_true rfl⟩ ⟨Nat.le_of_ble_eq_true rfl, Nat.le_of_ble_eq_true rfl⟩ (Nat.le_of_ble_eq_true rfl) rfl (fun z_68 => ?_)
        have hr_68 := sinZ_b b1
        refine gw_callSm C (as := [vL (I (r + 2) i), vI (sinZ b1)]) (st := [vI (pF 0 (I f 3) (I f 7) (I (r + 1)) (I (r + 2)) i), vR r]) (c_X5_step hl0 G (I (r + 2) i) (sinZ b1) (by omega) (by omega)) dX5_layOut_71 kX5_125 qX5_step hdX5_step ⟨Nat.le_of_ble_eq_true rfl, Nat.le_of_ble_eq_true rfl⟩ ⟨Nat.le_of_ble_eq_true rfl, Nat.le_of_ble_eq_true rfl⟩ (Nat.le_of_ble_eq_true rfl) rfl (fun z_71 => ?_)
        refine gw_iadd C dX5_layOut_74 ?_
        rw [show ((pF 0 (I f 3) (I f 7) (I (r + 1)) (I (r + 2)) i) + (((I (r + 2) i) * (sinZ b1)).tdiv 10000)) = (pF 0 (I f 3) (I f 7) (I (r + 1)) (I (r + 2)) (i + 1)) from by rw [pF_s, ← hb1, Int.add_zero]]
        refine gw_putI (ci := 4) (Cn := RX5) (T0 := TX5) (N := 15) C (ty := .int) 6 kX5_100 fX5 rfl (by decide) rfl rfl tyX5 tyX5_ok nmX5 rfl (by decide) rfl rfl (by omega) dX5_layOut_75 (tq_s hr) (tq_n hr) ?_
        refine gw_aload_n C 0 dX5_layOut_78 rfl rfl ?_
        refine gw_dupR C dX5_layOut_79 ?_
        refine gw_getI (ci := 4) (Cn := RX5) (T0 := TX5) (N := 15) C 7 kX5_109 fX5 rfl (by decide) rfl rfl dX5_layOut_80 (tq_s hr) (tq_n hr) (fun hI_80 => ?_)
        rw [show ((up K r 6 (pF 0 (I f 3) (I f 7) (I (r + 1)) (I (r + 2)) (i + 1))) r 7) = (pF 324000 (I f 4) (I f 7) (I (r + 1)) (I (r + 2)) i) from by (repeat (first | rw [up_ne2 (by decide)] | rw [up_ne (by omega)])); rw [hK, lay_7]]
        refine gw_aload_n C 0 dX5_layOut_83 rfl rfl ?_
        refine gw_getRs (ci := 4) (Cn := RX5) (T0 := TX5) (N := 15) C (r + 2) 11 kX5_15 fX5 rfl (by decide) rfl rfl dX5_layOut_84 (tq_s hr) (tq_n hr) (tq_R2 hr) ?_
        refine gw_iload_n C 3 dX5_layOut_87 rfl rfl ?_
        refine gw_iald C i dX5_layOut_88 (tq_s2 hr) (tq_n2 hr) (by omega) (by omega) (by decide) (fun hI_88 => ?_)
        rw [show ((up K r 6 (pF 0 (I f 3) (I f 7) (I (r + 1)) (I (r + 2)) (i + 1))) (r + 2) i) = (I (r + 2) i) from by (repeat rw [up_ne (by omega)]); rw [hK, lay_o (by omega)]] at hI_88 ⊢; have ha_88 := hT.2.2.2 i (by omega)
        refine gw_i2l C dX5_layOut_89 hI_88 ?_
        refine gw_iload_n C 2 dX5_layOut_90 rfl rfl ?_
        refine gw_ldc C (x := 324000) dX5_layOut_91 kX5_129 (by decide) ?_
        refine gw_iadd C dX5_layOut_93 ?_
        refine gw_callSm C (as := [vI (b1 + 324000)]) (st := [vL (I (r + 2) i), vI (pF 324000 (I f 4) (I f 7) (I (r + 1)) (I (r + 2)) i), vR r]) (c_X3_sineOf hl0 G (b1 + 324000) (by omega)) dX5_layOut_94 kX5_122 qX3_sineOf hdX3_sineOf ⟨Nat.le_of_ble_eq_true rfl, Nat.le_of_ble_eq_true rfl⟩ ⟨Nat.le_of_ble_eq_true rfl, Nat.le_of_ble_eq_true rfl⟩ (Nat.le_of_ble_eq_true rfl) rfl (fun z_94 => ?_)
        have hr_94 := sinZ_b (b1 + 324000)
        refine gw_callSm C (as := [vL (I (r + 2) i), vI (sinZ (b1 + 324000))]) (st := [vI (pF 324000 (I f 4) (I f 7) (I (r + 1)) (I (r + 2)) i), vR r]) (c_X5_step hl0 G (I (r + 2) i) (sinZ (b1 + 324000)) (by omega) (by omega)) dX5_layOut_97 kX5_125 qX5_step hdX5_step ⟨Nat.le_of_ble_eq_true rfl, Nat.le_of_ble_eq_true rfl⟩ ⟨Nat.le_of_ble_eq_true rfl, Nat.le_of_ble_eq_true rfl⟩ (Nat.le_of_ble_eq_true rfl) rfl (fun z_97 => ?_)
        refine gw_iadd C dX5_layOut_100 ?_
        rw [show ((pF 324000 (I f 4) (I f 7) (I (r + 1)) (I (r + 2)) i) + (((I (r + 2) i) * (sinZ (b1 + 324000))).tdiv 10000)) = (pF 324000 (I f 4) (I f 7) (I (r + 1)) (I (r + 2)) (i + 1)) from by rw [pF_s, ← hb1]]
        refine gw_putI (ci := 4) (Cn := RX5) (T0 := TX5) (N := 15) C (ty := .int) 7 kX5_109 fX5 rfl (by decide) rfl rfl tyX5 tyX5_ok nmX5 rfl (by decide) rfl rfl (by omega) dX5_layOut_101 (tq_s hr) (tq_n hr) ?_
        refine gw_aload_n C 0 dX5_layOut_104 rfl rfl ?_
        refine gw_getRs (ci := 4) (Cn := RX5) (T0 := TX5) (N := 15) C (r + 3) 12 kX5_18 fX5 rfl (by decide) rfl rfl dX5_layOut_105 (tq_s hr) (tq_n hr) (tq_R3 hr) ?_
        refine gw_iload_n C 3 dX5_layOut_108 rfl rfl ?_
        refine gw_iload_n C 2 dX5_layOut_109 rfl rfl ?_
        refine gw_iast C i dX5_layOut_110 (tq_s3 hr) (tq_n3 hr) (by omega) (by omega) (by decide) (by omega) ?_
        refine gw_aload_n C 0 dX5_layOut_111 rfl rfl ?_
        refine gw_getRs (ci := 4) (Cn := RX5) (T0 := TX5) (N := 15) C (r + 4) 13 kX5_21 fX5 rfl (by decide) rfl rfl dX5_layOut_112 (tq_s hr) (tq_n hr) (tq_R4 hr) ?_
        refine gw_iload_n C 3 dX5_layOut_115 rfl rfl ?_
        refine gw_aload_n C 0 dX5_layOut_116 rfl rfl ?_
        refine gw_getI (ci := 4) (Cn := RX5) (T0 := TX5) (N := 15) C 6 kX5_100 fX5 rfl (by decide) rfl rfl dX5_layOut_117 (tq_s hr) (tq_n hr) (fun hI_117 => ?_)
        rw [show ((up (up (up K r 6 (pF 0 (I f 3) (I f 7) (I (r + 1)) (I (r + 2)) (i + 1))) r 7 (pF 324000 (I f 4) (I f 7) (I (r + 1)) (I (r + 2)) (i + 1))) (r + 3) i b1) r 6) = (pF 0 (I f 3) (I f 7) (I (r + 1)) (I (r + 2)) (i + 1)) from by (repeat (first | rw [up_eq] | rw [up_ne2 (by decide)] | rw [up_ne (by omega)]))]
        refine gw_iast C i dX5_layOut_120 (tq_s4 hr) (tq_n4 hr) (by omega) (by omega) (by decide) (by omega) ?_
        refine gw_aload_n C 0 dX5_layOut_121 rfl rfl ?_
        refine gw_getRs (ci := 4) (Cn := RX5) (T0 := TX5) (N := 15) C (r + 5) 14 kX5_24 fX5 rfl (by decide) rfl rfl dX5_layOut_122 (tq_s hr) (tq_n hr) (tq_R5 hr) ?_
        refine gw_iload_n C 3 dX5_layOut_125 rfl rfl ?_
        refine gw_aload_n C 0 dX5_layOut_126 rfl rfl ?_
        refine gw_getI (ci := 4) (Cn := RX5) (T0 := TX5) (N := 15) C 7 kX5_109 fX5 rfl (by decide) rfl rfl dX5_layOut_127 (tq_s hr) (tq_n hr) (fun hI_127 => ?_)
        rw [show ((up (up (up (up K r 6 (pF 0 (I f 3) (I f 7) (I (r + 1)) (I (r + 2)) (i + 1))) r 7 (pF 324000 (I f 4) (I f 7) (I (r + 1)) (I (r + 2)) (i + 1))) (r + 3) i b1) (r + 4) i (pF 0 (I f 3) (I f 7) (I (r + 1)) (I (r + 2)) (i + 1))) r 7) = (pF 324000 (I f 4) (I f 7) (I (r + 1)) (I (r + 2)) (i + 1)) from by (repeat (first | rw [up_eq] | rw [up_ne2 (by decide)] | rw [up_ne (by omega)]))]
        refine gw_iast C i dX5_layOut_130 (tq_s5 hr) (tq_n5 hr) (by omega) (by omega) (by decide) (by omega) ?_
        refine gw_iinc C (lo1 := [some (vR r), some (vR f), some (vI b1), some (vI ((i : Int) + 1))]) dX5_layOut_131 rfl (by decide) rfl ?_
        refine gw_goto C (tgt := 26) dX5_layOut_134 (by decide) ?_
        exact gw_weak (lo' := [some (vR r), some (vR f), some (vI b1), some (vI (((i + 1) : Nat) : Int))]) ⟨rfl, rfl, rfl, congrArg (fun q => some (vI q)) (by omega), trivial⟩ (ih_26 b1 (i + 1) (up (up (up (up (up K r 6 (pF 0 (I f 3) (I f 7) (I (r + 1)) (I (r + 2)) (i + 1))) r 7 (pF 324000 (I f 4) (I f 7) (I (r + 1)) (I (r + 2)) (i + 1))) (r + 3) i b1) (r + 4) i (pF 0 (I f 3) (I f 7) (I (r + 1)) (I (r + 2)) (i + 1))) (r + 5) i (pF 324000 (I f 4) (I f 7) (I (r + 1)) (I (r + 2)) (i + 1))) z_97 (by omega) (by exact hb1) (by rw [layI_s, ← hK, ← hb1]) (by omega))
  exact gw_weak (lo' := [some (vR r), some (vR f), some (vI ((I f 7) + 648000)), some (vI (0 : Int))]) ⟨rfl, rfl, rfl, congrArg (fun q => some (vI q)) (by omega), trivial⟩ (loop_26 _ ((I f 7) + 648000) 0 (up (up I r 6 (I f 3)) r 7 (I f 4)) z (by omega) (by rfl) (by rfl) (Nat.lt_succ_self _))
