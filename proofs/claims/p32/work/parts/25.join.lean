def jOk (I : GI) (r : Nat) : Prop := ((0 ≤ I r 0 ∧ I r 0 ≤ 5) ∧ (0 ≤ I r 1 ∧ I r 1 ≤ 5)) ∧ ((0 ≤ I r 8 ∧ I r 8 ≤ 1295999) ∧ (100 ≤ I r 9 ∧ I r 9 ≤ 20000)) ∧ ((100 ≤ I r 10 ∧ I r 10 ≤ 50000) ∧ (-3600 ≤ I r 2 ∧ I r 2 ≤ 3600))
theorem jOk_c {I I' : GI} {r : Nat} (h : jOk I r) (e : (I' r 0 = I r 0 ∧ I' r 1 = I r 1) ∧ (I' r 8 = I r 8 ∧ I' r 9 = I r 9) ∧ (I' r 10 = I r 10 ∧ I' r 2 = I r 2)) : jOk I' r := by
  unfold jOk
  rw [e.1.1, e.1.2, e.2.1.1, e.2.1.2, e.2.2.1, e.2.2.2]
  exact h
def sB (I : GI) (r : Nat) (g : Int) : Int := normZ (I r 8 + (g * I r 10).tdiv (I r 9) + I r 11)
theorem sB_c {I I' : GI} {r : Nat} {g : Int} (e : (I' r 8 = I r 8 ∧ I' r 9 = I r 9) ∧ I' r 10 = I r 10 ∧ I' r 11 = I r 11) : sB I' r g = sB I r g := by
  unfold sB
  rw [e.1.1, e.1.2, e.2.1, e.2.2]
theorem sB_b (I : GI) (r : Nat) (g : Int) : 0 ≤ sB I r g ∧ sB I r g < 1296000 := normZ_b _
def jC (I : GI) (a b : Nat) : Int := if I a 5 ≠ 0 then I a 5 else I b 5
def jT (I : GI) (r a b : Nat) : Int := if jC I a b ≠ 0 then 3 else if 3 * I r 9 < I r 10 then 4 else 0
def jS (I : GI) (r a b : Nat) : Int := if jC I a b ≠ 0 then 0 else ((I b 3 - I a 3) * 20626).tdiv (I r 9)
def jB (I : GI) (r a b : Nat) : Int := if jT I r a b ≠ 0 then -2000000000 else normZ (I r 8 + (I r 2 * I r 10).tdiv (I r 9) + jS I r a b)
def jJ (I : GI) (r a b : Nat) : GI := up (up (up (up (up (up I r 3 (I a 0)) r 4 (I a 1)) r 5 (jC I a b)) r 6 (jT I r a b)) r 11 (jS I r a b)) r 7 (jB I r a b)
theorem ga_b {g a c : Int} (hg : -3600 ≤ g ∧ g ≤ 3600) (ha : 100 ≤ a ∧ a ≤ 50000) (hc : 100 ≤ c) : (-180000000 ≤ g * a ∧ g * a ≤ 180000000) ∧ -1800001 < (g * a).tdiv c ∧ (g * a).tdiv c < 1800001 := by
  have h := mul_b (a := g) (b := a) (m := 3600) (k := 50000) hg (by omega)
  exact ⟨by omega, tdiv_lt (m := 1800001) (by omega) (by omega) (by omega)⟩
theorem sw_b {x c : Int} (hx : -999 ≤ x ∧ x ≤ 999) (hc : 100 ≤ c) : -206060 < (x * 20626).tdiv c ∧ (x * 20626).tdiv c < 206060 := tdiv_lt (m := 206060) (by omega) (by omega) (by omega)
set_option maxHeartbeats 4000000 in
set_option maxRecDepth 100000 in
theorem c_X1_copyFrom {l : Launch} (hl0 : l.stackTraces = false) (G : GG) (I J : GI) {z : Nat} {r q : Nat} (hr : joinQ r) (hq : joinQ q) (hne : q ≠ r) : GM l yX1_copyFrom (.code yX1_copyFrom cX1_copyFrom 2 none) 0 0 0 0 G N0 SH RR [vR r, vR q] z I J (memQ none (up (up (up (up (up (up I r 0 (I q 0)) r 1 (I q 1)) r 8 (I q 8)) r 9 (I q 9)) r 10 (I q 10)) r 2 (I q 2)) J) gNo := by
  refine gm_of (lo0 := [some (vR r), some (vR q)]) hl0 (by decide) rfl (Nat.le_of_ble_eq_true rfl) ?_
  intro p e s m args below meth c C ht hgi
  have C : gC G p l s m args meth c cX1_copyFrom 2 RX1 none "copyFrom" := C
  refine gw_aload_n C 0 dX1_copyFrom_0 rfl rfl ?_
  refine gw_aload_n C 1 dX1_copyFrom_1 rfl rfl ?_
  refine gw_getI (ci := 1) (Cn := RX1) (T0 := TX1) (N := 12) C 0 kX1_9 fX1 rfl (by decide) rfl rfl dX1_copyFrom_2 (jq_s hq) (jq_n hq) (fun hI_2 => ?_)
  refine gw_putI (ci := 1) (Cn := RX1) (T0 := TX1) (N := 12) C (ty := .int) 0 kX1_9 fX1 rfl (by decide) rfl rfl tyX1 tyX1_ok nmX1 rfl (by decide) rfl rfl hI_2 dX1_copyFrom_5 (jq_s hr) (jq_n hr) ?_
  refine gw_aload_n C 0 dX1_copyFrom_8 rfl rfl ?_
  refine gw_aload_n C 1 dX1_copyFrom_9 rfl rfl ?_
  refine gw_getI (ci := 1) (Cn := RX1) (T0 := TX1) (N := 12) C 1 kX1_15 fX1 rfl (by decide) rfl rfl dX1_copyFrom_10 (jq_s hq) (jq_n hq) (fun hI_10 => ?_)
  rw [show ((up I r 0 (I q 0)) q 1) = (I q 1) from by simp [up, hne]] at hI_10 ⊢
  refine gw_putI (ci := 1) (Cn := RX1) (T0 := TX1) (N := 12) C (ty := .int) 1 kX1_15 fX1 rfl (by decide) rfl rfl tyX1 tyX1_ok nmX1 rfl (by decide) rfl rfl hI_10 dX1_copyFrom_13 (jq_s hr) (jq_n hr) ?_
  refine gw_aload_n C 0 dX1_copyFrom_16 rfl rfl ?_
  refine gw_aload_n C 1 dX1_copyFrom_17 rfl rfl ?_
  refine gw_getI (ci := 1) (Cn := RX1) (T0 := TX1) (N := 12) C 8 kX1_18 fX1 rfl (by decide) rfl rfl dX1_copyFrom_18 (jq_s hq) (jq_n hq) (fun hI_18 => ?_)
  rw [show ((up (up I r 0 (I q 0)) r 1 (I q 1)) q 8) = (I q 8) from by simp [up, hne]] at hI_18 ⊢
  refine gw_putI (ci := 1) (Cn := RX1) (T0 := TX1) (N := 12) C (ty := .int) 8 kX1_18 fX1 rfl (by decide) rfl rfl tyX1 tyX1_ok nmX1 rfl (by decide) rfl rfl hI_18 dX1_copyFrom_21 (jq_s hr) (jq_n hr) ?_
  refine gw_aload_n C 0 dX1_copyFrom_24 rfl rfl ?_
  refine gw_aload_n C 1 dX1_copyFrom_25 rfl rfl ?_
  refine gw_getI (ci := 1) (Cn := RX1) (T0 := TX1) (N := 12) C 9 kX1_21 fX1 rfl (by decide) rfl rfl dX1_copyFrom_26 (jq_s hq) (jq_n hq) (fun hI_26 => ?_)
  rw [show ((up (up (up I r 0 (I q 0)) r 1 (I q 1)) r 8 (I q 8)) q 9) = (I q 9) from by simp [up, hne]] at hI_26 ⊢
  refine gw_putI (ci := 1) (Cn := RX1) (T0 := TX1) (N := 12) C (ty := .int) 9 kX1_21 fX1 rfl (by decide) rfl rfl tyX1 tyX1_ok nmX1 rfl (by decide) rfl rfl hI_26 dX1_copyFrom_29 (jq_s hr) (jq_n hr) ?_
  refine gw_aload_n C 0 dX1_copyFrom_32 rfl rfl ?_
  refine gw_aload_n C 1 dX1_copyFrom_33 rfl rfl ?_
  refine gw_getI (ci := 1) (Cn := RX1) (T0 := TX1) (N := 12) C 10 kX1_24 fX1 rfl (by decide) rfl rfl dX1_copyFrom_34 (jq_s hq) (jq_n hq) (fun hI_34 => ?_)
  rw [show ((up (up (up (up I r 0 (I q 0)) r 1 (I q 1)) r 8 (I q 8)) r 9 (I q 9)) q 10) = (I q 10) from by simp [up, hne]] at hI_34 ⊢
  refine gw_putI (ci := 1) (Cn := RX1) (T0 := TX1) (N := 12) C (ty := .int) 10 kX1_24 fX1 rfl (by decide) rfl rfl tyX1 tyX1_ok nmX1 rfl (by decide) rfl rfl hI_34 dX1_copyFrom_37 (jq_s hr) (jq_n hr) ?_
  refine gw_aload_n C 0 dX1_copyFrom_40 rfl rfl ?_
  refine gw_aload_n C 1 dX1_copyFrom_41 rfl rfl ?_
  refine gw_getI (ci := 1) (Cn := RX1) (T0 := TX1) (N := 12) C 2 kX1_27 fX1 rfl (by decide) rfl rfl dX1_copyFrom_42 (jq_s hq) (jq_n hq) (fun hI_42 => ?_)
  rw [show ((up (up (up (up (up I r 0 (I q 0)) r 1 (I q 1)) r 8 (I q 8)) r 9 (I q 9)) r 10 (I q 10)) q 2) = (I q 2) from by simp [up, hne]] at hI_42 ⊢
  refine gw_putI (ci := 1) (Cn := RX1) (T0 := TX1) (N := 12) C (ty := .int) 2 kX1_27 fX1 rfl (by decide) rfl rfl tyX1 tyX1_ok nmX1 rfl (by decide) rfl rfl hI_42 dX1_copyFrom_45 (jq_s hr) (jq_n hr) ?_
  exact gw_vret C (Nat.le_of_ble_eq_true rfl) (Nat.le_of_ble_eq_true rfl) dX1_copyFrom_48 (⟨rfl, rfl, rfl⟩)
set_option maxHeartbeats 4000000 in
set_option maxRecDepth 100000 in
theorem c_X1_lay {l : Launch} (hl0 : l.stackTraces = false) (G : GG) (I J : GI) {z : Nat} {r : Nat} (hr : joinQ r) (x1 x2 x3 x4 x5 x6 : Int) (h1 : inI x1) (h2 : inI x2) (h3 : inI x3) (h4 : inI x4) (h5 : inI x5) (h6 : inI x6) : GM l yX1_lay (.code yX1_lay cX1_lay 7 none) 0 0 0 0 G N0 SH RR [vR r, vI x1, vI x2, vI x3, vI x4, vI x5, vI x6] z I J (memQ none (up (up (up (up (up (up I r 0 x1) r 1 x2) r 8 x3) r 9 x4) r 10 x5) r 2 x6) J) gNo := by
  refine gm_of (lo0 := [some (vR r), some (vI x1), some (vI x2), some (vI x3), some (vI x4), some (vI x5), some (vI x6)]) hl0 (by decide) rfl (Nat.le_of_ble_eq_true rfl) ?_
  intro p e s m args below meth c C ht hgi
  have C : gC G p l s m args meth c cX1_lay 7 RX1 none "lay" := C
  refine gw_aload_n C 0 dX1_lay_0 rfl rfl ?_
  refine gw_iload_n C 1 dX1_lay_1 rfl rfl ?_
  refine gw_putI (ci := 1) (Cn := RX1) (T0 := TX1) (N := 12) C (ty := .int) 0 kX1_9 fX1 rfl (by decide) rfl rfl tyX1 tyX1_ok nmX1 rfl (by decide) rfl rfl h1 dX1_lay_2 (jq_s hr) (jq_n hr) ?_
  refine gw_aload_n C 0 dX1_lay_5 rfl rfl ?_
  refine gw_iload_n C 2 dX1_lay_6 rfl rfl ?_
  refine gw_putI (ci := 1) (Cn := RX1) (T0 := TX1) (N := 12) C (ty := .int) 1 kX1_15 fX1 rfl (by decide) rfl rfl tyX1 tyX1_ok nmX1 rfl (by decide) rfl rfl h2 dX1_lay_7 (jq_s hr) (jq_n hr) ?_
  refine gw_aload_n C 0 dX1_lay_10 rfl rfl ?_
  refine gw_iload_n C 3 dX1_lay_11 rfl rfl ?_
  refine gw_putI (ci := 1) (Cn := RX1) (T0 := TX1) (N := 12) C (ty := .int) 8 kX1_18 fX1 rfl (by decide) rfl rfl tyX1 tyX1_ok nmX1 rfl (by decide) rfl rfl h3 dX1_lay_12 (jq_s hr) (jq_n hr) ?_
  refine gw_aload_n C 0 dX1_lay_15 rfl rfl ?_
  refine gw_iload C dX1_lay_16 rfl ?_
  refine gw_putI (ci := 1) (Cn := RX1) (T0 := TX1) (N := 12) C (ty := .int) 9 kX1_21 fX1 rfl (by decide) rfl rfl tyX1 tyX1_ok nmX1 rfl (by decide) rfl rfl h4 dX1_lay_18 (jq_s hr) (jq_n hr) ?_
  refine gw_aload_n C 0 dX1_lay_21 rfl rfl ?_
  refine gw_iload C dX1_lay_22 rfl ?_
  refine gw_putI (ci := 1) (Cn := RX1) (T0 := TX1) (N := 12) C (ty := .int) 10 kX1_24 fX1 rfl (by decide) rfl rfl tyX1 tyX1_ok nmX1 rfl (by decide) rfl rfl h5 dX1_lay_24 (jq_s hr) (jq_n hr) ?_
  refine gw_aload_n C 0 dX1_lay_27 rfl rfl ?_
  refine gw_iload C dX1_lay_28 rfl ?_
  refine gw_putI (ci := 1) (Cn := RX1) (T0 := TX1) (N := 12) C (ty := .int) 2 kX1_27 fX1 rfl (by decide) rfl rfl tyX1 tyX1_ok nmX1 rfl (by decide) rfl rfl h6 dX1_lay_30 (jq_s hr) (jq_n hr) ?_
  exact gw_vret C (Nat.le_of_ble_eq_true rfl) (Nat.le_of_ble_eq_true rfl) dX1_lay_33 (⟨rfl, rfl, rfl⟩)
set_option maxHeartbeats 4000000 in
set_option maxRecDepth 100000 in
theorem c_X1_startWith {l : Launch} (hl0 : l.stackTraces = false) (G : GG) (I J : GI) {z : Nat} {r : Nat} (hr : joinQ r) (hj : jOk I r) (hs : -300000 ≤ I r 11 ∧ I r 11 ≤ 300000) (g : Int) (hg : -3600 ≤ g ∧ g ≤ 3600) : GM l yX1_startWith (.code yX1_startWith cX1_startWith 2 (some .int)) 1 23 0 0 G N0 SH RR [vR r, vI g] z I J (memQ (some (vI (sB I r g))) I J) gNo := by
  refine gm_of (lo0 := [some (vR r), some (vI g)]) hl0 (by decide) rfl (Nat.le_of_ble_eq_true rfl) ?_
  intro p e s m args below meth c C ht hgi
  have C : gC G p l s m args meth c cX1_startWith 2 RX1 (some .int) "startWith" := C
  have h8 := hj.2.1.1
  have h9 := hj.2.1.2
  have h10 := hj.2.2.1
  have hb := ga_b hg h10 h9.1
  refine gw_aload_n C 0 dX1_startWith_0 rfl rfl ?_
  refine gw_getI (ci := 1) (Cn := RX1) (T0 := TX1) (N := 12) C 8 kX1_18 fX1 rfl (by decide) rfl rfl dX1_startWith_1 (jq_s hr) (jq_n hr) (fun hI_1 => ?_)
  refine gw_iload_n C 1 dX1_startWith_4 rfl rfl ?_
  refine gw_aload_n C 0 dX1_startWith_5 rfl rfl ?_
  refine gw_getI (ci := 1) (Cn := RX1) (T0 := TX1) (N := 12) C 10 kX1_24 fX1 rfl (by decide) rfl rfl dX1_startWith_6 (jq_s hr) (jq_n hr) (fun hI_6 => ?_)
  refine gw_imul C dX1_startWith_9 ?_
  refine gw_i2l C dX1_startWith_10 (by omega) ?_
  refine gw_aload_n C 0 dX1_startWith_11 rfl rfl ?_
  refine gw_getI (ci := 1) (Cn := RX1) (T0 := TX1) (N := 12) C 9 kX1_21 fX1 rfl (by decide) rfl rfl dX1_startWith_12 (jq_s hr) (jq_n hr) (fun hI_12 => ?_)
  refine gw_i2l C dX1_startWith_15 hI_12 ?_
  refine gw_callSm C (as := [vL (g * (I r 10)), vL (I r 9)]) (st := [vI (I r 8)]) (c_X3_quotient hl0 G (g * (I r 10)) (I r 9) (by omega) (by omega) (by omega)) dX1_startWith_16 kX1_52 qX3_quotient hdX3_quotient ⟨Nat.le_of_ble_eq_true rfl, Nat.le_of_ble_eq_true rfl⟩ ⟨Nat.le_of_ble_eq_true rfl, Nat.le_of_ble_eq_true rfl⟩ (Nat.le_of_ble_eq_true rfl) rfl (fun z_16 => ?_)
  refine gw_iadd C dX1_startWith_19 ?_
  refine gw_aload_n C 0 dX1_startWith_20 rfl rfl ?_
  refine gw_getI (ci := 1) (Cn := RX1) (T0 := TX1) (N := 12) C 11 kX1_58 fX1 rfl (by decide) rfl rfl dX1_startWith_21 (jq_s hr) (jq_n hr) (fun hI_21 => ?_)
  refine gw_iadd C dX1_startWith_24 ?_
  refine gw_callSm C (as := [vI (((I r 8) + ((g * (I r 10)).tdiv (I r 9))) + (I r 11))]) (st := []) (c_X3_norm hl0 G (((I r 8) + ((g * (I r 10)).tdiv (I r 9))) + (I r 11)) (by omega)) dX1_startWith_25 kX1_69 qX3_norm hdX3_norm ⟨Nat.le_of_ble_eq_true rfl, Nat.le_of_ble_eq_true rfl⟩ ⟨Nat.le_of_ble_eq_true rfl, Nat.le_of_ble_eq_true rfl⟩ (Nat.le_of_ble_eq_true rfl) rfl (fun z_25 => ?_)
  have hr_25 := normZ_b (((I r 8) + ((g * (I r 10)).tdiv (I r 9))) + (I r 11))
  exact gw_iret C (Nat.le_of_ble_eq_true rfl) (Nat.le_of_ble_eq_true rfl) dX1_startWith_28 (⟨congrArg (fun q => some (vI q)) (by rfl), rfl, rfl⟩)
set_option maxHeartbeats 4000000 in
set_option maxRecDepth 100000 in
theorem c_X1_judge {l : Launch} (hl0 : l.stackTraces = false) (G : GG) (I J : GI) {z : Nat} {r a b : Nat} (hr : joinQ r) (ha : wireQ a) (hb : wireQ b) (hj : jOk I r) (hna : a ≠ r) (hnb : b ≠ r) (h0 : jC I a b = 0 → (0 ≤ I a 3 ∧ I a 3 ≤ 999) ∧ (0 ≤ I b 3 ∧ I b 3 ≤ 999)) : GM l yX1_judge (.code yX1_judge cX1_judge 3 none) 2 44 0 0 G N0 SH RR [vR r, vR a, vR b] z I J (memQ none (jJ I r a b) J) gNo := by
  refine gm_of (lo0 := [some (vR r), some (vR a), some (vR b)]) hl0 (by decide) rfl (Nat.le_of_ble_eq_true rfl) ?_
  intro p e s m args below meth c C ht hgi
  have C : gC G p l s m args meth c cX1_judge 3 RX1 none "judge" := C
  have h8 := hj.2.1.1
  have h9 := hj.2.1.2
  have h10 := hj.2.2.1
  have h2 := hj.2.2.2
  refine gw_aload_n C 1 dX1_judge_0 rfl rfl ?_
  refine gw_ifnull C dX1_judge_1 ?_
  refine gw_aload_n C 2 dX1_judge_4 rfl rfl ?_
  refine gw_ifnonnull C (tgt := 9) dX1_judge_5 (by decide) ?_
  refine gw_aload_n C 0 dX1_judge_9 rfl rfl ?_
  refine gw_aload_n C 1 dX1_judge_10 rfl rfl ?_
  refine gw_getI (ci := 5) (Cn := RX6) (T0 := TX6) (N := 7) C 0 kX1_30 fX6 rfl (by decide) rfl rfl dX1_judge_11 (wq_s ha) (wq_n ha) (fun hI_11 => ?_)
  refine gw_putI (ci := 1) (Cn := RX1) (T0 := TX1) (N := 12) C (ty := .int) 3 kX1_35 fX1 rfl (by decide) rfl rfl tyX1 tyX1_ok nmX1 rfl (by decide) rfl rfl hI_11 dX1_judge_14 (jq_s hr) (jq_n hr) ?_
  refine gw_aload_n C 0 dX1_judge_17 rfl rfl ?_
  refine gw_aload_n C 1 dX1_judge_18 rfl rfl ?_
  refine gw_getI (ci := 5) (Cn := RX6) (T0 := TX6) (N := 7) C 1 kX1_36 fX6 rfl (by decide) rfl rfl dX1_judge_19 (wq_s ha) (wq_n ha) (fun hI_19 => ?_)
  rw [show ((up I r 3 (I a 0)) a 1) = (I a 1) from by simp [up, hna, hnb]] at hI_19 ⊢
  refine gw_putI (ci := 1) (Cn := RX1) (T0 := TX1) (N := 12) C (ty := .int) 4 kX1_39 fX1 rfl (by decide) rfl rfl tyX1 tyX1_ok nmX1 rfl (by decide) rfl rfl hI_19 dX1_judge_22 (jq_s hr) (jq_n hr) ?_
  refine gw_aload_n C 0 dX1_judge_25 rfl rfl ?_
  refine gw_aload_n C 1 dX1_judge_26 rfl rfl ?_
  refine gw_getI (ci := 5) (Cn := RX6) (T0 := TX6) (N := 7) C 5 kX1_40 fX6 rfl (by decide) rfl rfl dX1_judge_27 (wq_s ha) (wq_n ha) (fun hI_27 => ?_)
  rw [show ((up (up I r 3 (I a 0)) r 4 (I a 1)) a 5) = (I a 5) from by simp [up, hna, hnb]] at hI_27 ⊢
  refine gw_if_eq C (tgt := 40) dX1_judge_30 (by decide) hI_27 (fun h_30 => ?_) (fun h_30 => ?_)
  · skip
    refine gw_aload_n C 2 dX1_judge_40 rfl rfl ?_
    refine gw_getI (ci := 5) (Cn := RX6) (T0 := TX6) (N := 7) C 5 kX1_40 fX6 rfl (by decide) rfl rfl dX1_judge_41 (wq_s hb) (wq_n hb) (fun hI_41 => ?_)
    rw [show ((up (up I r 3 (I a 0)) r 4 (I a 1)) b 5) = (I b 5) from by simp [up, hna, hnb]] at hI_41 ⊢
    refine gw_putI (ci := 1) (Cn := RX1) (T0 := TX1) (N := 12) C (ty := .int) 5 kX1_43 fX1 rfl (by decide) rfl rfl tyX1 tyX1_ok nmX1 rfl (by decide) rfl rfl hI_41 dX1_judge_44 (jq_s hr) (jq_n hr) ?_
    refine gw_aload_n C 0 dX1_judge_47 rfl rfl ?_
    refine gw_aload_n C 0 dX1_judge_48 rfl rfl ?_
    refine gw_getI (ci := 1) (Cn := RX1) (T0 := TX1) (N := 12) C 5 kX1_43 fX1 rfl (by decide) rfl rfl dX1_judge_49 (jq_s hr) (jq_n hr) (fun hI_49 => ?_)
    rw [show ((up (up (up I r 3 (I a 0)) r 4 (I a 1)) r 5 (I b 5)) r 5) = (I b 5) from by simp [up, hna, hnb]] at hI_49 ⊢
    refine gw_if_eq C (tgt := 59) dX1_judge_52 (by decide) hI_49 (fun h_52 => ?_) (fun h_52 => ?_)
    · skip
      skip
      refine gw_aload_n C 0 dX1_judge_59 rfl rfl ?_
      refine gw_getI (ci := 1) (Cn := RX1) (T0 := TX1) (N := 12) C 10 kX1_24 fX1 rfl (by decide) rfl rfl dX1_judge_60 (jq_s hr) (jq_n hr) (fun hI_60 => ?_)
      rw [show ((up (up (up I r 3 (I a 0)) r 4 (I a 1)) r 5 (I b 5)) r 10) = (I r 10) from by simp [up, hna, hnb]] at hI_60 ⊢
      refine gw_iconst C dX1_judge_63 ?_
      refine gw_aload_n C 0 dX1_judge_64 rfl rfl ?_
      refine gw_getI (ci := 1) (Cn := RX1) (T0 := TX1) (N := 12) C 9 kX1_21 fX1 rfl (by decide) rfl rfl dX1_judge_65 (jq_s hr) (jq_n hr) (fun hI_65 => ?_)
      rw [show ((up (up (up I r 3 (I a 0)) r 4 (I a 1)) r 5 (I b 5)) r 9) = (I r 9) from by simp [up, hna, hnb]] at hI_65 ⊢
      refine gw_imul C dX1_judge_68 ?_
      refine gw_icmp_le C (tgt := 76) dX1_judge_69 (by decide) hI_60 (by omega) (fun h_69 => ?_) (fun h_69 => ?_)
      · skip
        refine gw_iconst C dX1_judge_76 ?_
        refine gw_putI (ci := 1) (Cn := RX1) (T0 := TX1) (N := 12) C (ty := .int) 6 kX1_46 fX1 rfl (by decide) rfl rfl tyX1 tyX1_ok nmX1 rfl (by decide) rfl rfl ⟨by decide, by decide⟩ dX1_judge_77 (jq_s hr) (jq_n hr) ?_
        refine gw_aload_n C 0 dX1_judge_80 rfl rfl ?_
        refine gw_aload_n C 0 dX1_judge_81 rfl rfl ?_
        refine gw_getI (ci := 1) (Cn := RX1) (T0 := TX1) (N := 12) C 5 kX1_43 fX1 rfl (by decide) rfl rfl dX1_judge_82 (jq_s hr) (jq_n hr) (fun hI_82 => ?_)
        rw [show ((up (up (up (up I r 3 (I a 0)) r 4 (I a 1)) r 5 (I b 5)) r 6 0) r 5) = (I b 5) from by simp [up, hna, hnb]] at hI_82 ⊢
        refine gw_if_eq C (tgt := 92) dX1_judge_85 (by decide) hI_82 (fun _ => ?_) (fun h => absurd h (by omega))
        have h00 := h0 (by unfold jC; split <;> omega)
        have hsw := sw_b (x := (I b 3) - (I a 3)) (by omega) h9.1
        refine gw_aload_n C 2 dX1_judge_92 rfl rfl ?_
        refine gw_getI (ci := 5) (Cn := RX6) (T0 := TX6) (N := 7) C 3 kX1_47 fX6 rfl (by decide) rfl rfl dX1_judge_93 (wq_s hb) (wq_n hb) (fun hI_93 => ?_)
        rw [show ((up (up (up (up I r 3 (I a 0)) r 4 (I a 1)) r 5 (I b 5)) r 6 0) b 3) = (I b 3) from by simp [up, hna, hnb]] at hI_93 ⊢
        refine gw_aload_n C 1 dX1_judge_96 rfl rfl ?_
        refine gw_getI (ci := 5) (Cn := RX6) (T0 := TX6) (N := 7) C 3 kX1_47 fX6 rfl (by decide) rfl rfl dX1_judge_97 (wq_s ha) (wq_n ha) (fun hI_97 => ?_)
        rw [show ((up (up (up (up I r 3 (I a 0)) r 4 (I a 1)) r 5 (I b 5)) r 6 0) a 3) = (I a 3) from by simp [up, hna, hnb]] at hI_97 ⊢
        refine gw_isub C dX1_judge_100 ?_
        refine gw_i2l C dX1_judge_101 (by omega) ?_
        refine gw_ldc2 C (x := 20626) dX1_judge_102 kX1_50 (by decide) ?_
        refine gw_lmul C dX1_judge_105 ?_
        refine gw_aload_n C 0 dX1_judge_106 rfl rfl ?_
        refine gw_getI (ci := 1) (Cn := RX1) (T0 := TX1) (N := 12) C 9 kX1_21 fX1 rfl (by decide) rfl rfl dX1_judge_107 (jq_s hr) (jq_n hr) (fun hI_107 => ?_)
        rw [show ((up (up (up (up I r 3 (I a 0)) r 4 (I a 1)) r 5 (I b 5)) r 6 0) r 9) = (I r 9) from by simp [up, hna, hnb]] at hI_107 ⊢
        refine gw_i2l C dX1_judge_110 hI_107 ?_
        refine gw_callSm C (as := [vL (((I b 3) - (I a 3)) * 20626), vL (I r 9)]) (st := [vR r]) (c_X3_quotient hl0 G (((I b 3) - (I a 3)) * 20626) (I r 9) (by omega) (by omega) (by omega)) dX1_judge_111 kX1_52 qX3_quotient hdX3_quotient ⟨Nat.le_of_ble_eq_true rfl, Nat.le_of_ble_eq_true rfl⟩ ⟨Nat.le_of_ble_eq_true rfl, Nat.le_of_ble_eq_true rfl⟩ (Nat.le_of_ble_eq_true rfl) rfl (fun z_111 => ?_)
        refine gw_putI (ci := 1) (Cn := RX1) (T0 := TX1) (N := 12) C (ty := .int) 11 kX1_58 fX1 rfl (by decide) rfl rfl tyX1 tyX1_ok nmX1 rfl (by decide) rfl rfl (by omega) dX1_judge_114 (jq_s hr) (jq_n hr) ?_
        refine gw_aload_n C 0 dX1_judge_117 rfl rfl ?_
        refine gw_aload_n C 0 dX1_judge_118 rfl rfl ?_
        refine gw_getI (ci := 1) (Cn := RX1) (T0 := TX1) (N := 12) C 6 kX1_46 fX1 rfl (by decide) rfl rfl dX1_judge_119 (jq_s hr) (jq_n hr) (fun hI_119 => ?_)
        rw [show ((up (up (up (up (up I r 3 (I a 0)) r 4 (I a 1)) r 5 (I b 5)) r 6 0) r 11 ((((I b 3) - (I a 3)) * 20626).tdiv (I r 9))) r 6) = 0 from by simp [up, hna, hnb]]
        refine gw_if_eq C (tgt := 130) dX1_judge_122 (by decide) ⟨by decide, by decide⟩ (fun _ => ?_) (fun h => absurd h (by decide))
        refine gw_aload_n C 0 dX1_judge_130 rfl rfl ?_
        refine gw_aload_n C 0 dX1_judge_131 rfl rfl ?_
        refine gw_getI (ci := 1) (Cn := RX1) (T0 := TX1) (N := 12) C 2 kX1_27 fX1 rfl (by decide) rfl rfl dX1_judge_132 (jq_s hr) (jq_n hr) (fun hI_132 => ?_)
        rw [show ((up (up (up (up (up I r 3 (I a 0)) r 4 (I a 1)) r 5 (I b 5)) r 6 0) r 11 ((((I b 3) - (I a 3)) * 20626).tdiv (I r 9))) r 2) = (I r 2) from by simp [up, hna, hnb]] at hI_132 ⊢
        refine gw_callVm C (as := [vI (I r 2)]) (st := [vR r]) (ci := 1) (T0 := TX1) (N := 12) (c_X1_startWith hl0 G (up (up (up (up (up I r 3 (I a 0)) r 4 (I a 1)) r 5 (I b 5)) r 6 0) r 11 ((((I b 3) - (I a 3)) * 20626).tdiv (I r 9))) J hr (jOk_c hj (by simp [up])) (by simp [up]; omega) (I r 2) h2) dX1_judge_135 kX1_62 qX1_startWith hdX1_startWith ⟨Nat.le_of_ble_eq_true rfl, Nat.le_of_ble_eq_true rfl⟩ ⟨Nat.le_of_ble_eq_true rfl, Nat.le_of_ble_eq_true rfl⟩ (Nat.le_of_ble_eq_true rfl) rfl (jq_s hr) (jq_n hr) rfl (fun z_135 => ?_)
        have hsB_135 := sB_b (up (up (up (up (up I r 3 (I a 0)) r 4 (I a 1)) r 5 (I b 5)) r 6 0) r 11 ((((I b 3) - (I a 3)) * 20626).tdiv (I r 9))) r (I r 2)
        refine gw_putI (ci := 1) (Cn := RX1) (T0 := TX1) (N := 12) C (ty := .int) 7 kX1_66 fX1 rfl (by decide) rfl rfl tyX1 tyX1_ok nmX1 rfl (by decide) rfl rfl (by omega) dX1_judge_138 (jq_s hr) (jq_n hr) ?_
        exact gw_vret C (Nat.le_of_ble_eq_true rfl) (Nat.le_of_ble_eq_true rfl) dX1_judge_141 (⟨rfl, (by have eC : jC I a b = (I b 5) := (by unfold jC; split <;> omega); have eT : jT I r a b = 0 := (by unfold jT; rw [eC]; (repeat' split) <;> omega); have eS : jS I r a b = ((((I b 3) - (I a 3)) * 20626).tdiv (I r 9)) := (by unfold jS; rw [eC]; (repeat' split) <;> first | rfl | omega); have eB : jB I r a b = (sB (up (up (up (up (up I r 3 (I a 0)) r 4 (I a 1)) r 5 (I b 5)) r 6 0) r 11 ((((I b 3) - (I a 3)) * 20626).tdiv (I r 9))) r (I r 2)) := (by unfold jB; rw [eT, if_neg (by decide), eS]; unfold sB; simp [up]); unfold jJ; rw [eC, eT, eS, eB]), rfl⟩)
      · skip
        refine gw_iconst C dX1_judge_72 ?_
        refine gw_goto C (tgt := 77) dX1_judge_73 (by decide) ?_
        refine gw_putI (ci := 1) (Cn := RX1) (T0 := TX1) (N := 12) C (ty := .int) 6 kX1_46 fX1 rfl (by decide) rfl rfl tyX1 tyX1_ok nmX1 rfl (by decide) rfl rfl ⟨by decide, by decide⟩ dX1_judge_77 (jq_s hr) (jq_n hr) ?_
        refine gw_aload_n C 0 dX1_judge_80 rfl rfl ?_
        refine gw_aload_n C 0 dX1_judge_81 rfl rfl ?_
        refine gw_getI (ci := 1) (Cn := RX1) (T0 := TX1) (N := 12) C 5 kX1_43 fX1 rfl (by decide) rfl rfl dX1_judge_82 (jq_s hr) (jq_n hr) (fun hI_82_2 => ?_)
        rw [show ((up (up (up (up I r 3 (I a 0)) r 4 (I a 1)) r 5 (I b 5)) r 6 4) r 5) = (I b 5) from by simp [up, hna, hnb]] at hI_82_2 ⊢
        refine gw_if_eq C (tgt := 92) dX1_judge_85 (by decide) hI_82_2 (fun _ => ?_) (fun h => absurd h (by omega))
        have h00 := h0 (by unfold jC; split <;> omega)
        have hsw := sw_b (x := (I b 3) - (I a 3)) (by omega) h9.1
        refine gw_aload_n C 2 dX1_judge_92 rfl rfl ?_
        refine gw_getI (ci := 5) (Cn := RX6) (T0 := TX6) (N := 7) C 3 kX1_47 fX6 rfl (by decide) rfl rfl dX1_judge_93 (wq_s hb) (wq_n hb) (fun hI_93_2 => ?_)
        rw [show ((up (up (up (up I r 3 (I a 0)) r 4 (I a 1)) r 5 (I b 5)) r 6 4) b 3) = (I b 3) from by simp [up, hna, hnb]] at hI_93_2 ⊢
        refine gw_aload_n C 1 dX1_judge_96 rfl rfl ?_
        refine gw_getI (ci := 5) (Cn := RX6) (T0 := TX6) (N := 7) C 3 kX1_47 fX6 rfl (by decide) rfl rfl dX1_judge_97 (wq_s ha) (wq_n ha) (fun hI_97_2 => ?_)
        rw [show ((up (up (up (up I r 3 (I a 0)) r 4 (I a 1)) r 5 (I b 5)) r 6 4) a 3) = (I a 3) from by simp [up, hna, hnb]] at hI_97_2 ⊢
        refine gw_isub C dX1_judge_100 ?_
        refine gw_i2l C dX1_judge_101 (by omega) ?_
        refine gw_ldc2 C (x := 20626) dX1_judge_102 kX1_50 (by decide) ?_
        refine gw_lmul C dX1_judge_105 ?_
        refine gw_aload_n C 0 dX1_judge_106 rfl rfl ?_
        refine gw_getI (ci := 1) (Cn := RX1) (T0 := TX1) (N := 12) C 9 kX1_21 fX1 rfl (by decide) rfl rfl dX1_judge_107 (jq_s hr) (jq_n hr) (fun hI_107_2 => ?_)
        rw [show ((up (up (up (up I r 3 (I a 0)) r 4 (I a 1)) r 5 (I b 5)) r 6 4) r 9) = (I r 9) from by simp [up, hna, hnb]] at hI_107_2 ⊢
        refine gw_i2l C dX1_judge_110 hI_107_2 ?_
        refine gw_callSm C (as := [vL (((I b 3) - (I a 3)) * 20626), vL (I r 9)]) (st := [vR r]) (c_X3_quotient hl0 G (((I b 3) - (I a 3)) * 20626) (I r 9) (by omega) (by omega) (by omega)) dX1_judge_111 kX1_52 qX3_quotient hdX3_quotient ⟨Nat.le_of_ble_eq_true rfl, Nat.le_of_ble_eq_true rfl⟩ ⟨Nat.le_of_ble_eq_true rfl, Nat.le_of_ble_eq_true rfl⟩ (Nat.le_of_ble_eq_true rfl) rfl (fun z_111_2 => ?_)
        refine gw_putI (ci := 1) (Cn := RX1) (T0 := TX1) (N := 12) C (ty := .int) 11 kX1_58 fX1 rfl (by decide) rfl rfl tyX1 tyX1_ok nmX1 rfl (by decide) rfl rfl (by omega) dX1_judge_114 (jq_s hr) (jq_n hr) ?_
        refine gw_aload_n C 0 dX1_judge_117 rfl rfl ?_
        refine gw_aload_n C 0 dX1_judge_118 rfl rfl ?_
        refine gw_getI (ci := 1) (Cn := RX1) (T0 := TX1) (N := 12) C 6 kX1_46 fX1 rfl (by decide) rfl rfl dX1_judge_119 (jq_s hr) (jq_n hr) (fun hI_119_2 => ?_)
        rw [show ((up (up (up (up (up I r 3 (I a 0)) r 4 (I a 1)) r 5 (I b 5)) r 6 4) r 11 ((((I b 3) - (I a 3)) * 20626).tdiv (I r 9))) r 6) = 4 from by simp [up, hna, hnb]]
        refine gw_if_eq C (tgt := 130) dX1_judge_122 (by decide) ⟨by decide, by decide⟩ (fun h => absurd h (by decide)) (fun _ => ?_)
        refine gw_ldc C (x := (-2000000000)) dX1_judge_125 kX1_61 (by decide) ?_
        refine gw_goto C (tgt := 138) dX1_judge_127 (by decide) ?_
        refine gw_putI (ci := 1) (Cn := RX1) (T0 := TX1) (N := 12) C (ty := .int) 7 kX1_66 fX1 rfl (by decide) rfl rfl tyX1 tyX1_ok nmX1 rfl (by decide) rfl rfl ⟨by decide, by decide⟩ dX1_judge_138 (jq_s hr) (jq_n hr) ?_
        exact gw_vret C (Nat.le_of_ble_eq_true rfl) (Nat.le_of_ble_eq_true rfl) dX1_judge_141 (⟨rfl, (by have eC : jC I a b = (I b 5) := (by unfold jC; split <;> omega); have eT : jT I r a b = 4 := (by unfold jT; rw [eC]; (repeat' split) <;> omega); have eS : jS I r a b = ((((I b 3) - (I a 3)) * 20626).tdiv (I r 9)) := (by unfold jS; rw [eC]; (repeat' split) <;> first | rfl | omega); have eB : jB I r a b = (-2000000000) := (by unfold jB; rw [eT, if_pos (by decide)]); unfold jJ; rw [eC, eT, eS, eB]), rfl⟩)
    · skip
      skip
      refine gw_iconst C dX1_judge_55 ?_
      refine gw_goto C (tgt := 77) dX1_judge_56 (by decide) ?_
      refine gw_putI (ci := 1) (Cn := RX1) (T0 := TX1) (N := 12) C (ty := .int) 6 kX1_46 fX1 rfl (by decide) rfl rfl tyX1 tyX1_ok nmX1 rfl (by decide) rfl rfl ⟨by decide, by decide⟩ dX1_judge_77 (jq_s hr) (jq_n hr) ?_
      refine gw_aload_n C 0 dX1_judge_80 rfl rfl ?_
      refine gw_aload_n C 0 dX1_judge_81 rfl rfl ?_
      refine gw_getI (ci := 1) (Cn := RX1) (T0 := TX1) (N := 12) C 5 kX1_43 fX1 rfl (by decide) rfl rfl dX1_judge_82 (jq_s hr) (jq_n hr) (fun hI_82_3 => ?_)
      rw [show ((up (up (up (up I r 3 (I a 0)) r 4 (I a 1)) r 5 (I b 5)) r 6 3) r 5) = (I b 5) from by simp [up, hna, hnb]] at hI_82_3 ⊢
      refine gw_if_eq C (tgt := 92) dX1_judge_85 (by decide) hI_82_3 (fun h => absurd h (by omega)) (fun _ => ?_)
      refine gw_iconst C dX1_judge_88 ?_
      refine gw_goto C (tgt := 114) dX1_judge_89 (by decide) ?_
      refine gw_putI (ci := 1) (Cn := RX1) (T0 := TX1) (N := 12) C (ty := .int) 11 kX1_58 fX1 rfl (by decide) rfl rfl tyX1 tyX1_ok nmX1 rfl (by decide) rfl rfl ⟨by decide, by decide⟩ dX1_judge_114 (jq_s hr) (jq_n hr) ?_
      refine gw_aload_n C 0 dX1_judge_117 rfl rfl ?_
      refine gw_aload_n C 0 dX1_judge_118 rfl rfl ?_
      refine gw_getI (ci := 1) (Cn := RX1) (T0 := TX1) (N := 12) C 6 kX1_46 fX1 rfl (by decide) rfl rfl dX1_judge_119 (jq_s hr) (jq_n hr) (fun hI_119_3 => ?_)
      rw [show ((up (up (up (up (up I r 3 (I a 0)) r 4 (I a 1)) r 5 (I b 5)) r 6 3) r 11 0) r 6) = 3 from by simp [up, hna, hnb]]
      refine gw_if_eq C (tgt := 130) dX1_judge_122 (by decide) ⟨by decide, by decide⟩ (fun h => absurd h (by decide)) (fun _ => ?_)
      refine gw_ldc C (x := (-2000000000)) dX1_judge_125 kX1_61 (by decide) ?_
      refine gw_goto C (tgt := 138) dX1_judge_127 (by decide) ?_
      refine gw_putI (ci := 1) (Cn := RX1) (T0 := TX1) (N := 12) C (ty := .int) 7 kX1_66 fX1 rfl (by decide) rfl rfl tyX1 tyX1_ok nmX1 rfl (by decide) rfl rfl ⟨by decide, by decide⟩ dX1_judge_138 (jq_s hr) (jq_n hr) ?_
      exact gw_vret C (Nat.le_of_ble_eq_true rfl) (Nat.le_of_ble_eq_true rfl) dX1_judge_141 (⟨rfl, (by have eC : jC I a b = (I b 5) := (by unfold jC; split <;> omega); have eT : jT I r a b = 3 := (by unfold jT; rw [eC]; (repeat' split) <;> omega); have eS : jS I r a b = 0 := (by unfold jS; rw [eC]; (repeat' split) <;> first | rfl | omega); have eB : jB I r a b = (-2000000000) := (by unfold jB; rw [eT, if_pos (by decide)]); unfold jJ; rw [eC, eT, eS, eB]), rfl⟩)
  · skip
    refine gw_aload_n C 1 dX1_judge_33 rfl rfl ?_
    refine gw_getI (ci := 5) (Cn := RX6) (T0 := TX6) (N := 7) C 5 kX1_40 fX6 rfl (by decide) rfl rfl dX1_judge_34 (wq_s ha) (wq_n ha) (fun hI_34 => ?_)
    rw [show ((up (up I r 3 (I a 0)) r 4 (I a 1)) a 5) = (I a 5) from by simp [up, hna, hnb]] at hI_34 ⊢
    refine gw_goto C (tgt := 44) dX1_judge_37 (by decide) ?_
    refine gw_putI (ci := 1) (Cn := RX1) (T0 := TX1) (N := 12) C (ty := .int) 5 kX1_43 fX1 rfl (by decide) rfl rfl tyX1 tyX1_ok nmX1 rfl (by decide) rfl rfl hI_34 dX1_judge_44 (jq_s hr) (jq_n hr) ?_
    refine gw_aload_n C 0 dX1_judge_47 rfl rfl ?_
    refine gw_aload_n C 0 dX1_judge_48 rfl rfl ?_
    refine gw_getI (ci := 1) (Cn := RX1) (T0 := TX1) (N := 12) C 5 kX1_43 fX1 rfl (by decide) rfl rfl dX1_judge_49 (jq_s hr) (jq_n hr) (fun hI_49_2 => ?_)
    rw [show ((up (up (up I r 3 (I a 0)) r 4 (I a 1)) r 5 (I a 5)) r 5) = (I a 5) from by simp [up, hna, hnb]] at hI_49_2 ⊢
    refine gw_if_eq C (tgt := 59) dX1_judge_52 (by decide) hI_49_2 (fun h_52_2 => ?_) (fun h_52_2 => ?_)
    · skip
      skip
      refine gw_aload_n C 0 dX1_judge_59 rfl rfl ?_
      refine gw_getI (ci := 1) (Cn := RX1) (T0 := TX1) (N := 12) C 10 kX1_24 fX1 rfl (by decide) rfl rfl dX1_judge_60 (jq_s hr) (jq_n hr) (fun hI_60_2 => ?_)
      rw [show ((up (up (up I r 3 (I a 0)) r 4 (I a 1)) r 5 (I a 5)) r 10) = (I r 10) from by simp [up, hna, hnb]] at hI_60_2 ⊢
      refine gw_iconst C dX1_judge_63 ?_
      refine gw_aload_n C 0 dX1_judge_64 rfl rfl ?_
      refine gw_getI (ci := 1) (Cn := RX1) (T0 := TX1) (N := 12) C 9 kX1_21 fX1 rfl (by decide) rfl rfl dX1_judge_65 (jq_s hr) (jq_n hr) (fun hI_65_2 => ?_)
      rw [show ((up (up (up I r 3 (I a 0)) r 4 (I a 1)) r 5 (I a 5)) r 9) = (I r 9) from by simp [up, hna, hnb]] at hI_65_2 ⊢
      refine gw_imul C dX1_judge_68 ?_
      refine gw_icmp_le C (tgt := 76) dX1_judge_69 (by decide) hI_60_2 (by omega) (fun h_69_2 => ?_) (fun h_69_2 => ?_)
      · skip
        refine gw_iconst C dX1_judge_76 ?_
        refine gw_putI (ci := 1) (Cn := RX1) (T0 := TX1) (N := 12) C (ty := .int) 6 kX1_46 fX1 rfl (by decide) rfl rfl tyX1 tyX1_ok nmX1 rfl (by decide) rfl rfl ⟨by decide, by decide⟩ dX1_judge_77 (jq_s hr) (jq_n hr) ?_
        refine gw_aload_n C 0 dX1_judge_80 rfl rfl ?_
        refine gw_aload_n C 0 dX1_judge_81 rfl rfl ?_
        refine gw_getI (ci := 1) (Cn := RX1) (T0 := TX1) (N := 12) C 5 kX1_43 fX1 rfl (by decide) rfl rfl dX1_judge_82 (jq_s hr) (jq_n hr) (fun hI_82_4 => ?_)
        rw [show ((up (up (up (up I r 3 (I a 0)) r 4 (I a 1)) r 5 (I a 5)) r 6 0) r 5) = (I a 5) from by simp [up, hna, hnb]] at hI_82_4 ⊢
        refine gw_if_eq C (tgt := 92) dX1_judge_85 (by decide) hI_82_4 (fun _ => ?_) (fun h => absurd h (by omega))
        have h00 := h0 (by unfold jC; split <;> omega)
        have hsw := sw_b (x := (I b 3) - (I a 3)) (by omega) h9.1
        refine gw_aload_n C 2 dX1_judge_92 rfl rfl ?_
        refine gw_getI (ci := 5) (Cn := RX6) (T0 := TX6) (N := 7) C 3 kX1_47 fX6 rfl (by decide) rfl rfl dX1_judge_93 (wq_s hb) (wq_n hb) (fun hI_93_3 => ?_)
        rw [show ((up (up (up (up I r 3 (I a 0)) r 4 (I a 1)) r 5 (I a 5)) r 6 0) b 3) = (I b 3) from by simp [up, hna, hnb]] at hI_93_3 ⊢
        refine gw_aload_n C 1 dX1_judge_96 rfl rfl ?_
        refine gw_getI (ci := 5) (Cn := RX6) (T0 := TX6) (N := 7) C 3 kX1_47 fX6 rfl (by decide) rfl rfl dX1_judge_97 (wq_s ha) (wq_n ha) (fun hI_97_3 => ?_)
        rw [show ((up (up (up (up I r 3 (I a 0)) r 4 (I a 1)) r 5 (I a 5)) r 6 0) a 3) = (I a 3) from by simp [up, hna, hnb]] at hI_97_3 ⊢
        refine gw_isub C dX1_judge_100 ?_
        refine gw_i2l C dX1_judge_101 (by omega) ?_
        refine gw_ldc2 C (x := 20626) dX1_judge_102 kX1_50 (by decide) ?_
        refine gw_lmul C dX1_judge_105 ?_
        refine gw_aload_n C 0 dX1_judge_106 rfl rfl ?_
        refine gw_getI (ci := 1) (Cn := RX1) (T0 := TX1) (N := 12) C 9 kX1_21 fX1 rfl (by decide) rfl rfl dX1_judge_107 (jq_s hr) (jq_n hr) (fun hI_107_3 => ?_)
        rw [show ((up (up (up (up I r 3 (I a 0)) r 4 (I a 1)) r 5 (I a 5)) r 6 0) r 9) = (I r 9) from by simp [up, hna, hnb]] at hI_107_3 ⊢
        refine gw_i2l C dX1_judge_110 hI_107_3 ?_
        refine gw_callSm C (as := [vL (((I b 3) - (I a 3)) * 20626), vL (I r 9)]) (st := [vR r]) (c_X3_quotient hl0 G (((I b 3) - (I a 3)) * 20626) (I r 9) (by omega) (by omega) (by omega)) dX1_judge_111 kX1_52 qX3_quotient hdX3_quotient ⟨Nat.le_of_ble_eq_true rfl, Nat.le_of_ble_eq_true rfl⟩ ⟨Nat.le_of_ble_eq_true rfl, Nat.le_of_ble_eq_true rfl⟩ (Nat.le_of_ble_eq_true rfl) rfl (fun z_111_3 => ?_)
        refine gw_putI (ci := 1) (Cn := RX1) (T0 := TX1) (N := 12) C (ty := .int) 11 kX1_58 fX1 rfl (by decide) rfl rfl tyX1 tyX1_ok nmX1 rfl (by decide) rfl rfl (by omega) dX1_judge_114 (jq_s hr) (jq_n hr) ?_
        refine gw_aload_n C 0 dX1_judge_117 rfl rfl ?_
        refine gw_aload_n C 0 dX1_judge_118 rfl rfl ?_
        refine gw_getI (ci := 1) (Cn := RX1) (T0 := TX1) (N := 12) C 6 kX1_46 fX1 rfl (by decide) rfl rfl dX1_judge_119 (jq_s hr) (jq_n hr) (fun hI_119_4 => ?_)
        rw [show ((up (up (up (up (up I r 3 (I a 0)) r 4 (I a 1)) r 5 (I a 5)) r 6 0) r 11 ((((I b 3) - (I a 3)) * 20626).tdiv (I r 9))) r 6) = 0 from by simp [up, hna, hnb]]
        refine gw_if_eq C (tgt := 130) dX1_judge_122 (by decide) ⟨by decide, by decide⟩ (fun _ => ?_) (fun h => absurd h (by decide))
        refine gw_aload_n C 0 dX1_judge_130 rfl rfl ?_
        refine gw_aload_n C 0 dX1_judge_131 rfl rfl ?_
        refine gw_getI (ci := 1) (Cn := RX1) (T0 := TX1) (N := 12) C 2 kX1_27 fX1 rfl (by decide) rfl rfl dX1_judge_132 (jq_s hr) (jq_n hr) (fun hI_132_2 => ?_)
        rw [show ((up (up (up (up (up I r 3 (I a 0)) r 4 (I a 1)) r 5 (I a 5)) r 6 0) r 11 ((((I b 3) - (I a 3)) * 20626).tdiv (I r 9))) r 2) = (I r 2) from by simp [up, hna, hnb]] at hI_132_2 ⊢
        refine gw_callVm C (as := [vI (I r 2)]) (st := [vR r]) (ci := 1) (T0 := TX1) (N := 12) (c_X1_startWith hl0 G (up (up (up (up (up I r 3 (I a 0)) r 4 (I a 1)) r 5 (I a 5)) r 6 0) r 11 ((((I b 3) - (I a 3)) * 20626).tdiv (I r 9))) J hr (jOk_c hj (by simp [up])) (by simp [up]; omega) (I r 2) h2) dX1_judge_135 kX1_62 qX1_startWith hdX1_startWith ⟨Nat.le_of_ble_eq_true rfl, Nat.le_of_ble_eq_true rfl⟩ ⟨Nat.le_of_ble_eq_true rfl, Nat.le_of_ble_eq_true rfl⟩ (Nat.le_of_ble_eq_true rfl) rfl (jq_s hr) (jq_n hr) rfl (fun z_135_2 => ?_)
        have hsB_135 := sB_b (up (up (up (up (up I r 3 (I a 0)) r 4 (I a 1)) r 5 (I a 5)) r 6 0) r 11 ((((I b 3) - (I a 3)) * 20626).tdiv (I r 9))) r (I r 2)
        refine gw_putI (ci := 1) (Cn := RX1) (T0 := TX1) (N := 12) C (ty := .int) 7 kX1_66 fX1 rfl (by decide) rfl rfl tyX1 tyX1_ok nmX1 rfl (by decide) rfl rfl (by omega) dX1_judge_138 (jq_s hr) (jq_n hr) ?_
        exact gw_vret C (Nat.le_of_ble_eq_true rfl) (Nat.le_of_ble_eq_true rfl) dX1_judge_141 (⟨rfl, (by have eC : jC I a b = (I a 5) := (by unfold jC; split <;> omega); have eT : jT I r a b = 0 := (by unfold jT; rw [eC]; (repeat' split) <;> omega); have eS : jS I r a b = ((((I b 3) - (I a 3)) * 20626).tdiv (I r 9)) := (by unfold jS; rw [eC]; (repeat' split) <;> first | rfl | omega); have eB : jB I r a b = (sB (up (up (up (up (up I r 3 (I a 0)) r 4 (I a 1)) r 5 (I a 5)) r 6 0) r 11 ((((I b 3) - (I a 3)) * 20626).tdiv (I r 9))) r (I r 2)) := (by unfold jB; rw [eT, if_neg (by decide), eS]; unfold sB; simp [up]); unfold jJ; rw [eC, eT, eS, eB]), rfl⟩)
      · skip
        refine gw_iconst C dX1_judge_72 ?_
        refine gw_goto C (tgt := 77) dX1_judge_73 (by decide) ?_
        refine gw_putI (ci := 1) (Cn := RX1) (T0 := TX1) (N := 12) C (ty := .int) 6 kX1_46 fX1 rfl (by decide) rfl rfl tyX1 tyX1_ok nmX1 rfl (by decide) rfl rfl ⟨by decide, by decide⟩ dX1_judge_77 (jq_s hr) (jq_n hr) ?_
        refine gw_aload_n C 0 dX1_judge_80 rfl rfl ?_
        refine gw_aload_n C 0 dX1_judge_81 rfl rfl ?_
        refine gw_getI (ci := 1) (Cn := RX1) (T0 := TX1) (N := 12) C 5 kX1_43 fX1 rfl (by decide) rfl rfl dX1_judge_82 (jq_s hr) (jq_n hr) (fun hI_82_5 => ?_)
        rw [show ((up (up (up (up I r 3 (I a 0)) r 4 (I a 1)) r 5 (I a 5)) r 6 4) r 5) = (I a 5) from by simp [up, hna, hnb]] at hI_82_5 ⊢
        refine gw_if_eq C (tgt := 92) dX1_judge_85 (by decide) hI_82_5 (fun _ => ?_) (fun h => absurd h (by omega))
        have h00 := h0 (by unfold jC; split <;> omega)
        have hsw := sw_b (x := (I b 3) - (I a 3)) (by omega) h9.1
        refine gw_aload_n C 2 dX1_judge_92 rfl rfl ?_
        refine gw_getI (ci := 5) (Cn := RX6) (T0 := TX6) (N := 7) C 3 kX1_47 fX6 rfl (by decide) rfl rfl dX1_judge_93 (wq_s hb) (wq_n hb) (fun hI_93_4 => ?_)
        rw [show ((up (up (up (up I r 3 (I a 0)) r 4 (I a 1)) r 5 (I a 5)) r 6 4) b 3) = (I b 3) from by simp [up, hna, hnb]] at hI_93_4 ⊢
        refine gw_aload_n C 1 dX1_judge_96 rfl rfl ?_
        refine gw_getI (ci := 5) (Cn := RX6) (T0 := TX6) (N := 7) C 3 kX1_47 fX6 rfl (by decide) rfl rfl dX1_judge_97 (wq_s ha) (wq_n ha) (fun hI_97_4 => ?_)
        rw [show ((up (up (up (up I r 3 (I a 0)) r 4 (I a 1)) r 5 (I a 5)) r 6 4) a 3) = (I a 3) from by simp [up, hna, hnb]] at hI_97_4 ⊢
        refine gw_isub C dX1_judge_100 ?_
        refine gw_i2l C dX1_judge_101 (by omega) ?_
        refine gw_ldc2 C (x := 20626) dX1_judge_102 kX1_50 (by decide) ?_
        refine gw_lmul C dX1_judge_105 ?_
        refine gw_aload_n C 0 dX1_judge_106 rfl rfl ?_
        refine gw_getI (ci := 1) (Cn := RX1) (T0 := TX1) (N := 12) C 9 kX1_21 fX1 rfl (by decide) rfl rfl dX1_judge_107 (jq_s hr) (jq_n hr) (fun hI_107_4 => ?_)
        rw [show ((up (up (up (up I r 3 (I a 0)) r 4 (I a 1)) r 5 (I a 5)) r 6 4) r 9) = (I r 9) from by simp [up, hna, hnb]] at hI_107_4 ⊢
        refine gw_i2l C dX1_judge_110 hI_107_4 ?_
        refine gw_callSm C (as := [vL (((I b 3) - (I a 3)) * 20626), vL (I r 9)]) (st := [vR r]) (c_X3_quotient hl0 G (((I b 3) - (I a 3)) * 20626) (I r 9) (by omega) (by omega) (by omega)) dX1_judge_111 kX1_52 qX3_quotient hdX3_quotient ⟨Nat.le_of_ble_eq_true rfl, Nat.le_of_ble_eq_true rfl⟩ ⟨Nat.le_of_ble_eq_true rfl, Nat.le_of_ble_eq_true rfl⟩ (Nat.le_of_ble_eq_true rfl) rfl (fun z_111_4 => ?_)
        refine gw_putI (ci := 1) (Cn := RX1) (T0 := TX1) (N := 12) C (ty := .int) 11 kX1_58 fX1 rfl (by decide) rfl rfl tyX1 tyX1_ok nmX1 rfl (by decide) rfl rfl (by omega) dX1_judge_114 (jq_s hr) (jq_n hr) ?_
        refine gw_aload_n C 0 dX1_judge_117 rfl rfl ?_
        refine gw_aload_n C 0 dX1_judge_118 rfl rfl ?_
        refine gw_getI (ci := 1) (Cn := RX1) (T0 := TX1) (N := 12) C 6 kX1_46 fX1 rfl (by decide) rfl rfl dX1_judge_119 (jq_s hr) (jq_n hr) (fun hI_119_5 => ?_)
        rw [show ((up (up (up (up (up I r 3 (I a 0)) r 4 (I a 1)) r 5 (I a 5)) r 6 4) r 11 ((((I b 3) - (I a 3)) * 20626).tdiv (I r 9))) r 6) = 4 from by simp [up, hna, hnb]]
        refine gw_if_eq C (tgt := 130) dX1_judge_122 (by decide) ⟨by decide, by decide⟩ (fun h => absurd h (by decide)) (fun _ => ?_)
        refine gw_ldc C (x := (-2000000000)) dX1_judge_125 kX1_61 (by decide) ?_
        refine gw_goto C (tgt := 138) dX1_judge_127 (by decide) ?_
        refine gw_putI (ci := 1) (Cn := RX1) (T0 := TX1) (N := 12) C (ty := .int) 7 kX1_66 fX1 rfl (by decide) rfl rfl tyX1 tyX1_ok nmX1 rfl (by decide) rfl rfl ⟨by decide, by decide⟩ dX1_judge_138 (jq_s hr) (jq_n hr) ?_
        exact gw_vret C (Nat.le_of_ble_eq_true rfl) (Nat.le_of_ble_eq_true rfl) dX1_judge_141 (⟨rfl, (by have eC : jC I a b = (I a 5) := (by unfold jC; split <;> omega); have eT : jT I r a b = 4 := (by unfold jT; rw [eC]; (repeat' split) <;> omega); have eS : jS I r a b = ((((I b 3) - (I a 3)) * 20626).tdiv (I r 9)) := (by unfold jS; rw [eC]; (repeat' split) <;> first | rfl | omega); have eB : jB I r a b = (-2000000000) := (by unfold jB; rw [eT, if_pos (by decide)]); unfold jJ; rw [eC, eT, eS, eB]), rfl⟩)
    · skip
      skip
      refine gw_iconst C dX1_judge_55 ?_
      refine gw_goto C (tgt := 77) dX1_judge_56 (by decide) ?_
      refine gw_putI (ci := 1) (Cn := RX1) (T0 := TX1) (N := 12) C (ty := .int) 6 kX1_46 fX1 rfl (by decide) rfl rfl tyX1 tyX1_ok nmX1 rfl (by decide) rfl rfl ⟨by decide, by decide⟩ dX1_judge_77 (jq_s hr) (jq_n hr) ?_
      refine gw_aload_n C 0 dX1_judge_80 rfl rfl ?_
      refine gw_aload_n C 0 dX1_judge_81 rfl rfl ?_
      refine gw_getI (ci := 1) (Cn := RX1) (T0 := TX1) (N := 12) C 5 kX1_43 fX1 rfl (by decide) rfl rfl dX1_judge_82 (jq_s hr) (jq_n hr) (fun hI_82_6 => ?_)
      rw [show ((up (up (up (up I r 3 (I a 0)) r 4 (I a 1)) r 5 (I a 5)) r 6 3) r 5) = (I a 5) from by simp [up, hna, hnb]] at hI_82_6 ⊢
      refine gw_if_eq C (tgt := 92) dX1_judge_85 (by decide) hI_82_6 (fun h => absurd h (by omega)) (fun _ => ?_)
      refine gw_iconst C dX1_judge_88 ?_
      refine gw_goto C (tgt := 114) dX1_judge_89 (by decide) ?_
      refine gw_putI (ci := 1) (Cn := RX1) (T0 := TX1) (N := 12) C (ty := .int) 11 kX1_58 fX1 rfl (by decide) rfl rfl tyX1 tyX1_ok nmX1 rfl (by decide) rfl rfl ⟨by decide, by decide⟩ dX1_judge_114 (jq_s hr) (jq_n hr) ?_
      refine gw_aload_n C 0 dX1_judge_117 rfl rfl ?_
      refine gw_aload_n C 0 dX1_judge_118 rfl rfl ?_
      refine gw_getI (ci := 1) (Cn := RX1) (T0 := TX1) (N := 12) C 6 kX1_46 fX1 rfl (by decide) rfl rfl dX1_judge_119 (jq_s hr) (jq_n hr) (fun hI_119_6 => ?_)
      rw [show ((up (up (up (up (up I r 3 (I a 0)) r 4 (I a 1)) r 5 (I a 5)) r 6 3) r 11 0) r 6) = 3 from by simp [up, hna, hnb]]
      refine gw_if_eq C (tgt := 130) dX1_judge_122 (by decide) ⟨by decide, by decide⟩ (fun h => absurd h (by decide)) (fun _ => ?_)
      refine gw_ldc C (x := (-2000000000)) dX1_judge_125 kX1_61 (by decide) ?_
      refine gw_goto C (tgt := 138) dX1_judge_127 (by decide) ?_
      refine gw_putI (ci := 1) (Cn := RX1) (T0 := TX1) (N := 12) C (ty := .int) 7 kX1_66 fX1 rfl (by decide) rfl rfl tyX1 tyX1_ok nmX1 rfl (by decide) rfl rfl ⟨by decide, by decide⟩ dX1_judge_138 (jq_s hr) (jq_n hr) ?_
      exact gw_vret C (Nat.le_of_ble_eq_true rfl) (Nat.le_of_ble_eq_true rfl) dX1_judge_141 (⟨rfl, (by have eC : jC I a b = (I a 5) := (by unfold jC; split <;> omega); have eT : jT I r a b = 3 := (by unfold jT; rw [eC]; (repeat' split) <;> omega); have eS : jS I r a b = 0 := (by unfold jS; rw [eC]; (repeat' split) <;> first | rfl | omega); have eB : jB I r a b = (-2000000000) := (by unfold jB; rw [eT, if_pos (by decide)]); unfold jJ; rw [eC, eT, eS, eB]), rfl⟩)
set_option maxHeartbeats 4000000 in
set_option maxRecDepth 100000 in
theorem c_X1_number {l : Launch} (hl0 : l.stackTraces = false) (G : GG) (I J : GI) {z : Nat} {r : Nat} (hr : joinQ r) (w : Int) (hww : inI w) : GM l yX1_number (.code yX1_number cX1_number 2 (some .int)) 0 0 0 0 G N0 SH RR [vR r, vI w] z I J (memQ (some (vI (if w = 0 then I r 0 else if w = 1 then I r 1 else if w = 2 then I r 8 else if w = 3 then I r 9 else if w = 4 then I r 10 else if w = 5 then I r 2 else if w = 6 then I r 6 else I r 7))) I J) gNo := by
  refine gm_of (lo0 := [some (vR r), some (vI w)]) hl0 (by decide) rfl (Nat.le_of_ble_eq_true rfl) ?_
  intro p e s m args below meth c C ht hgi
  have C : gC G p l s m args meth c cX1_number 2 RX1 (some .int) "number" := C
  refine gw_iload_n C 1 dX1_number_0 rfl rfl ?_
  rcases (show w = 0 ∨ w = 1 ∨ w = 2 ∨ w = 3 ∨ w = 4 ∨ w = 5 ∨ w = 6 ∨ (w < 0 ∨ 6 < w) from by omega) with h_1 | h_1 | h_1 | h_1 | h_1 | h_1 | h_1 | h_1
  · skip
    refine gw_tableIn C (tgt := 44) (off := 43) dX1_number_1 hww (by omega) (by omega) (by rw [h_1]; rfl) (by decide) ?_
    refine gw_aload_n C 0 dX1_number_44 rfl rfl ?_
    refine gw_getI (ci := 1) (Cn := RX1) (T0 := TX1) (N := 12) C 0 kX1_9 fX1 rfl (by decide) rfl rfl dX1_number_45 (jq_s hr) (jq_n hr) (fun hI_45 => ?_)
    exact gw_iret C (Nat.le_of_ble_eq_true rfl) (Nat.le_of_ble_eq_true rfl) dX1_number_48 (⟨congrArg (fun q => some (vI q)) (by first | (rw [h_1]; rfl) | (repeat (first | rw [if_pos (by omega)] | rw [if_neg (by omega)]))), rfl, rfl⟩)
  · skip
    refine gw_tableIn C (tgt := 49) (off := 48) dX1_number_1 hww (by omega) (by omega) (by rw [h_1]; rfl) (by decide) ?_
    refine gw_aload_n C 0 dX1_number_49 rfl rfl ?_
    refine gw_getI (ci := 1) (Cn := RX1) (T0 := TX1) (N := 12) C 1 kX1_15 fX1 rfl (by decide) rfl rfl dX1_number_50 (jq_s hr) (jq_n hr) (fun hI_50 => ?_)
    exact gw_iret C (Nat.le_of_ble_eq_true rfl) (Nat.le_of_ble_eq_true rfl) dX1_number_53 (⟨congrArg (fun q => some (vI q)) (by first | (rw [h_1]; rfl) | (repeat (first | rw [if_pos (by omega)] | rw [if_neg (by omega)]))), rfl, rfl⟩)
  · skip
    refine gw_tableIn C (tgt := 54) (off := 53) dX1_number_1 hww (by omega) (by omega) (by rw [h_1]; rfl) (by decide) ?_
    refine gw_aload_n C 0 dX1_number_54 rfl rfl ?_
    refine gw_getI (ci := 1) (Cn := RX1) (T0 := TX1) (N := 12) C 8 kX1_18 fX1 rfl (by decide) rfl rfl dX1_number_55 (jq_s hr) (jq_n hr) (fun hI_55 => ?_)
    exact gw_iret C (Nat.le_of_ble_eq_true rfl) (Nat.le_of_ble_eq_true rfl) dX1_number_58 (⟨congrArg (fun q => some (vI q)) (by first | (rw [h_1]; rfl) | (repeat (first | rw [if_pos (by omega)] | rw [if_neg (by omega)]))), rfl, rfl⟩)
  · skip
    refine gw_tableIn C (tgt := 59) (off := 58) dX1_number_1 hww (by omega) (by omega) (by rw [h_1]; rfl) (by decide) ?_
    refine gw_aload_n C 0 dX1_number_59 rfl rfl ?_
    refine gw_getI (ci := 1) (Cn := RX1) (T0 := TX1) (N := 12) C 9 kX1_21 fX1 rfl (by decide) rfl rfl dX1_number_60 (jq_s hr) (jq_n hr) (fun hI_60 => ?_)
    exact gw_iret C (Nat.le_of_ble_eq_true rfl) (Nat.le_of_ble_eq_true rfl) dX1_number_63 (⟨congrArg (fun q => some (vI q)) (by first | (rw [h_1]; rfl) | (repeat (first | rw [if_pos (by omega)] | rw [if_neg (by omega)]))), rfl, rfl⟩)
  · skip
    refine gw_tableIn C (tgt := 64) (off := 63) dX1_number_1 hww (by omega) (by omega) (by rw [h_1]; rfl) (by decide) ?_
    refine gw_aload_n C 0 dX1_number_64 rfl rfl ?_
    refine gw_getI (ci := 1) (Cn := RX1) (T0 := TX1) (N := 12) C 10 kX1_24 fX1 rfl (by decide) rfl rfl dX1_number_65 (jq_s hr) (jq_n hr) (fun hI_65 => ?_)
    exact gw_iret C (Nat.le_of_ble_eq_true rfl) (Nat.le_of_ble_eq_true rfl) dX1_number_68 (⟨congrArg (fun q => some (vI q)) (by first | (rw [h_1]; rfl) | (repeat (first | rw [if_pos (by omega)] | rw [if_neg (by omega)]))), rfl, rfl⟩)
  · skip
    refine gw_tableIn C (tgt := 69) (off := 68) dX1_number_1 hww (by omega) (by omega) (by rw [h_1]; rfl) (by decide) ?_
    refine gw_aload_n C 0 dX1_number_69 rfl rfl ?_
    refine gw_getI (ci := 1) (Cn := RX1) (T0 := TX1) (N := 12) C 2 kX1_27 fX1 rfl (by decide) rfl rfl dX1_number_70 (jq_s hr) (jq_n hr) (fun hI_70 => ?_)
    exact gw_iret C (Nat.le_of_ble_eq_true rfl) (Nat.le_of_ble_eq_true rfl) dX1_number_73 (⟨congrArg (fun q => some (vI q)) (by first | (rw [h_1]; rfl) | (repeat (first | rw [if_pos (by omega)] | rw [if_neg (by omega)]))), rfl, rfl⟩)
  · skip
    refine gw_tableIn C (tgt := 74) (off := 73) dX1_number_1 hww (by omega) (by omega) (by rw [h_1]; rfl) (by decide) ?_
    refine gw_aload_n C 0 dX1_number_74 rfl rfl ?_
    refine gw_getI (ci := 1) (Cn := RX1) (T0 := TX1) (N := 12) C 6 kX1_46 fX1 rfl (by decide) rfl rfl dX1_number_75 (jq_s hr) (jq_n hr) (fun hI_75 => ?_)
    exact gw_iret C (Nat.le_of_ble_eq_true rfl) (Nat.le_of_ble_eq_true rfl) dX1_number_78 (⟨congrArg (fun q => some (vI q)) (by first | (rw [h_1]; rfl) | (repeat (first | rw [if_pos (by omega)] | rw [if_neg (by omega)]))), rfl, rfl⟩)
  · skip
    refine gw_tableOut C (tgt := 79) dX1_number_1 hww h_1 (by decide) ?_
    refine gw_aload_n C 0 dX1_number_79 rfl rfl ?_
    refine gw_getI (ci := 1) (Cn := RX1) (T0 := TX1) (N := 12) C 7 kX1_66 fX1 rfl (by decide) rfl rfl dX1_number_80 (jq_s hr) (jq_n hr) (fun hI_80 => ?_)
    exact gw_iret C (Nat.le_of_ble_eq_true rfl) (Nat.le_of_ble_eq_true rfl) dX1_number_83 (⟨congrArg (fun q => some (vI q)) (by first | (rw [h_1]; rfl) | (repeat (first | rw [if_pos (by omega)] | rw [if_neg (by omega)]))), rfl, rfl⟩)
