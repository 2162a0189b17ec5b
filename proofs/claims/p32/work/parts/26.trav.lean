def bF (s0 : Int) (a : Nat → Int) : Nat → Int
  | 0 => s0 + 648000
  | i + 1 => normZ (bF s0 a i + a i + 648000)
def pF (q e0 s0 : Int) (a l : Nat → Int) : Nat → Int
  | 0 => e0
  | i + 1 => pF q e0 s0 a l i + (l i * sinZ (bF s0 a (i + 1) + q)).tdiv 10000
theorem bF_s {s0 : Int} {a : Nat → Int} {i : Nat} : bF s0 a (i + 1) = normZ (bF s0 a i + a i + 648000) := rfl
theorem pF_s {q e0 s0 : Int} {a l : Nat → Int} {i : Nat} : pF q e0 s0 a l (i + 1) = pF q e0 s0 a l i + (l i * sinZ (bF s0 a (i + 1) + q)).tdiv 10000 := rfl
theorem bF_b {s0 : Int} {a : Nat → Int} (h : 0 ≤ s0 ∧ s0 < 1296000) (i : Nat) : 0 ≤ bF s0 a i ∧ bF s0 a i < 1944000 := by
  rcases i with _ | i
  · rw [bF]; omega
  · have := normZ_b (bF s0 a i + a i + 648000)
    rw [bF_s]; omega
theorem bF_b1 {s0 : Int} {a : Nat → Int} (i : Nat) : 0 ≤ bF s0 a (i + 1) ∧ bF s0 a (i + 1) < 1296000 := normZ_b _
theorem st_b {x y : Int} (hx : 0 ≤ x ∧ x ≤ 2000000) (hy : -10000 ≤ y ∧ y ≤ 10000) : (-20000000000 ≤ x * y ∧ x * y ≤ 20000000000) ∧ -x ≤ (x * y).tdiv 10000 ∧ (x * y).tdiv 10000 ≤ x := by
  have h := mul_b (a := x) (b := y) (m := 2000000) (k := 10000) (by omega) hy
  refine ⟨by omega, ?_⟩
  have h1 := mul_b (a := x) (b := y) (m := x) (k := 10000) (by omega) hy
  have t := tdiv_c (x * y) (c := 10000) (by decide)
  omega
theorem pF_b {q e0 s0 : Int} {a l : Nat → Int} {m : Nat} (hl : ∀ k, k < m → 0 ≤ l k ∧ l k ≤ 200000) : ∀ i : Nat, i ≤ m → e0 - 200000 * (i : Int) ≤ pF q e0 s0 a l i ∧ pF q e0 s0 a l i ≤ e0 + 200000 * (i : Int) := by
  intro i
  induction i with
  | zero => intro _; rw [pF]; omega
  | succ i ih =>
    intro hi
    have h1 := ih (by omega)
    have h2 := hl i (by omega)
    have h3 := (st_b (x := l i) (by omega) (sinZ_b (bF s0 a (i + 1) + q))).2
    rw [pF_s]
    omega
theorem bF_c {s0 : Int} {a a' : Nat → Int} : ∀ i : Nat, (∀ k, k < i → a k = a' k) → bF s0 a i = bF s0 a' i := by
  intro i
  induction i with
  | zero => intro _; rfl
  | succ i ih =>
    intro h
    rw [bF_s, bF_s, ih (fun k hk => h k (by omega)), h i (by omega)]
theorem pF_c {q e0 s0 : Int} {a a' l l' : Nat → Int} : ∀ i : Nat, (∀ k, k < i → a k = a' k) → (∀ k, k < i → l k = l' k) → pF q e0 s0 a l i = pF q e0 s0 a' l' i := by
  intro i
  induction i with
  | zero => intro _ _; rfl
  | succ i ih =>
    intro h g
    rw [pF_s, pF_s, ih (fun k hk => h k (by omega)) (fun k hk => g k (by omega)), g i (by omega), bF_c (i + 1) h]
def tOk (I : GI) (r : Nat) : Prop := ((0 ≤ I r 0 ∧ I r 0 ≤ 3) ∧ (I r 1 = -2000000000 ∨ (0 ≤ I r 1 ∧ I r 1 ≤ 3))) ∧ ((0 ≤ I r 2 ∧ I r 2 ≤ 12) ∧ (I r 4 = -2000000000 ∨ (0 ≤ I r 4 ∧ I r 4 ≤ 1295999))) ∧ (∀ k, k < 12 → 0 ≤ I (r + 1) k ∧ I (r + 1) k ≤ 1295999) ∧ ∀ k, k < 12 → 0 ≤ I (r + 2) k ∧ I (r + 2) k ≤ 200000
theorem tOk_c {I I' : GI} {r : Nat} (h : tOk I r) (e : (I' r 0 = I r 0 ∧ I' r 1 = I r 1) ∧ (I' r 2 = I r 2 ∧ I' r 4 = I r 4) ∧ (∀ k, k < 12 → I' (r + 1) k = I (r + 1) k) ∧ ∀ k, k < 12 → I' (r + 2) k = I (r + 2) k) : tOk I' r := by
  unfold tOk
  rw [e.1.1, e.1.2, e.2.1.1, e.2.1.2]
  refine ⟨h.1, h.2.1, fun k hk => ?_, fun k hk => ?_⟩
  · rw [e.2.2.1 k hk]; exact h.2.2.1 k hk
  · rw [e.2.2.2 k hk]; exact h.2.2.2 k hk
set_option maxHeartbeats 4000000 in
set_option maxRecDepth 100000 in
theorem c_X5_copyFrom {l : Launch} (hl0 : l.stackTraces = false) (G : GG) (I J : GI) {z : Nat} {r q : Nat} (hr : travQ r) (hq : travQ q) (hne : q ≠ r) (hn1 : q + 1 ≠ r + 1) (hn2 : q + 2 ≠ r + 2) (hn3 : q + 2 ≠ r + 1) : GM l yX5_copyFrom (.code yX5_copyFrom cX5_copyFrom 2 none) 1 40 0 0 G N0 SH RR [vR r, vR q] z I J (memQ none (cpI (cpI (up (up (up (up I r 0 (I q 0)) r 1 (I q 1)) r 4 (I q 4)) r 2 (I q 2)) (q + 1) (r + 1) 12) (q + 2) (r + 2) 12) J) gNo := by
  refine gm_of (lo0 := [some (vR r), some (vR q)]) hl0 (by decide) rfl (Nat.le_of_ble_eq_true rfl) ?_
  intro p e s m args below meth c C ht hgi
  have C : gC G p l s m args meth c cX5_copyFrom 2 RX5 none "copyFrom" := C
  refine gw_aload_n C 0 dX5_copyFrom_0 rfl rfl ?_
  refine gw_aload_n C 1 dX5_copyFrom_1 rfl rfl ?_
  refine gw_getI (ci := 4) (Cn := RX5) (T0 := TX5) (N := 15) C 0 kX5_27 fX5 rfl (by decide) rfl rfl dX5_copyFrom_2 (tq_s hq) (tq_n hq) (fun hI_2 => ?_)
  refine gw_putI (ci := 4) (Cn := RX5) (T0 := TX5) (N := 15) C (ty := .int) 0 kX5_27 fX5 rfl (by decide) rfl rfl tyX5 tyX5_ok nmX5 rfl (by decide) rfl rfl hI_2 dX5_copyFrom_5 (tq_s hr) (tq_n hr) ?_
  refine gw_aload_n C 0 dX5_copyFrom_8 rfl rfl ?_
  refine gw_aload_n C 1 dX5_copyFrom_9 rfl rfl ?_
  refine gw_getI (ci := 4) (Cn := RX5) (T0 := TX5) (N := 15) C 1 kX5_31 fX5 rfl (by decide) rfl rfl dX5_copyFrom_10 (tq_s hq) (tq_n hq) (fun hI_10 => ?_)
  rw [show ((up I r 0 (I q 0)) q 1) = (I q 1) from by simp [up, hne]] at hI_10 ⊢
  refine gw_putI (ci := 4) (Cn := RX5) (T0 := TX5) (N := 15) C (ty := .int) 1 kX5_31 fX5 rfl (by decide) rfl rfl tyX5 tyX5_ok nmX5 rfl (by decide) rfl rfl hI_10 dX5_copyFrom_13 (tq_s hr) (tq_n hr) ?_
  refine gw_aload_n C 0 dX5_copyFrom_16 rfl rfl ?_
  refine gw_aload_n C 1 dX5_copyFrom_17 rfl rfl ?_
  refine gw_getI (ci := 4) (Cn := RX5) (T0 := TX5) (N := 15) C 4 kX5_34 fX5 rfl (by decide) rfl rfl dX5_copyFrom_18 (tq_s hq) (tq_n hq) (fun hI_18 => ?_)
  rw [show ((up (up I r 0 (I q 0)) r 1 (I q 1)) q 4) = (I q 4) from by simp [up, hne]] at hI_18 ⊢
  refine gw_putI (ci := 4) (Cn := RX5) (T0 := TX5) (N := 15) C (ty := .int) 4 kX5_34 fX5 rfl (by decide) rfl rfl tyX5 tyX5_ok nmX5 rfl (by decide) rfl rfl hI_18 dX5_copyFrom_21 (tq_s hr) (tq_n hr) ?_
  refine gw_aload_n C 0 dX5_copyFrom_24 rfl rfl ?_
  refine gw_aload_n C 1 dX5_copyFrom_25 rfl rfl ?_
  refine gw_getI (ci := 4) (Cn := RX5) (T0 := TX5) (N := 15) C 2 kX5_37 fX5 rfl (by decide) rfl rfl dX5_copyFrom_26 (tq_s hq) (tq_n hq) (fun hI_26 => ?_)
  rw [show ((up (up (up I r 0 (I q 0)) r 1 (I q 1)) r 4 (I q 4)) q 2) = (I q 2) from by simp [up, hne]] at hI_26 ⊢
  refine gw_putI (ci := 4) (Cn := RX5) (T0 := TX5) (N := 15) C (ty := .int) 2 kX5_37 fX5 rfl (by decide) rfl rfl tyX5 tyX5_ok nmX5 rfl (by decide) rfl rfl hI_26 dX5_copyFrom_29 (tq_s hr) (tq_n hr) ?_
  refine gw_aload_n C 1 dX5_copyFrom_32 rfl rfl ?_
  refine gw_getRs (ci := 4) (Cn := RX5) (T0 := TX5) (N := 15) C (q + 1) 10 kX5_9 fX5 rfl (by decide) rfl rfl dX5_copyFrom_33 (tq_s hq) (tq_n hq) (tq_R1 hq) ?_
  refine gw_iconst C dX5_copyFrom_36 ?_
  refine gw_aload_n C 0 dX5_copyFrom_37 rfl rfl ?_
  refine gw_getRs (ci := 4) (Cn := RX5) (T0 := TX5) (N := 15) C (r + 1) 10 kX5_9 fX5 rfl (by decide) rfl rfl dX5_copyFrom_38 (tq_s hr) (tq_n hr) (tq_R1 hr) ?_
  refine gw_iconst C dX5_copyFrom_41 ?_
  refine gw_bipush C dX5_copyFrom_42 rfl ?_
  refine gw_copy C (u := 12) dX5_copyFrom_44 kX5_40 (tq_s1 hq) (tq_n1 hq) (tq_s1 hr) (tq_n1 hr) (by decide) (by decide) (by decide) (by omega) (Nat.le_of_ble_eq_true rfl) (Nat.le_of_ble_eq_true rfl) (fun z_44 => ?_)
  refine gw_aload_n C 1 dX5_copyFrom_47 rfl rfl ?_
  refine gw_getRs (ci := 4) (Cn := RX5) (T0 := TX5) (N := 15) C (q + 2) 11 kX5_15 fX5 rfl (by decide) rfl rfl dX5_copyFrom_48 (tq_s hq) (tq_n hq) (tq_R2 hq) ?_
  refine gw_iconst C dX5_copyFrom_51 ?_
  refine gw_aload_n C 0 dX5_copyFrom_52 rfl rfl ?_
  refine gw_getRs (ci := 4) (Cn := RX5) (T0 := TX5) (N := 15) C (r + 2) 11 kX5_15 fX5 rfl (by decide) rfl rfl dX5_copyFrom_53 (tq_s hr) (tq_n hr) (tq_R2 hr) ?_
  refine gw_iconst C dX5_copyFrom_56 ?_
  refine gw_bipush C dX5_copyFrom_57 rfl ?_
  refine gw_copy C (u := 12) dX5_copyFrom_59 kX5_40 (tq_s2 hq) (tq_n2 hq) (tq_s2 hr) (tq_n2 hr) (by decide) (by decide) (by decide) (by omega) (Nat.le_of_ble_eq_true rfl) (Nat.le_of_ble_eq_true rfl) (fun z_59 => ?_)
  exact gw_vret C (Nat.le_of_ble_eq_true rfl) (Nat.le_of_ble_eq_true rfl) dX5_copyFrom_62 (⟨rfl, rfl, rfl⟩)
set_option maxHeartbeats 4000000 in
set_option maxRecDepth 100000 in
theorem c_X5_closeOn {l : Launch} (hl0 : l.stackTraces = false) (G : GG) (I J : GI) {z : Nat} {r : Nat} (hr : travQ r) (x y : Int) (hx : inI x) (hy : inI y) : GM l yX5_closeOn (.code yX5_closeOn cX5_closeOn 3 none) 0 0 0 0 G N0 SH RR [vR r, vI x, vI y] z I J (memQ none (up (up I r 1 x) r 4 y) J) gNo := by
  refine gm_of (lo0 := [some (vR r), some (vI x), some (vI y)]) hl0 (by decide) rfl (Nat.le_of_ble_eq_true rfl) ?_
  intro p e s m args below meth c C ht hgi
  have C : gC G p l s m args meth c cX5_closeOn 3 RX5 none "closeOn" := C
  refine gw_aload_n C 0 dX5_closeOn_0 rfl rfl ?_
  refine gw_iload_n C 1 dX5_closeOn_1 rfl rfl ?_
  refine gw_putI (ci := 4) (Cn := RX5) (T0 := TX5) (N := 15) C (ty := .int) 1 kX5_31 fX5 rfl (by decide) rfl rfl tyX5 tyX5_ok nmX5 rfl (by decide) rfl rfl hx dX5_closeOn_2 (tq_s hr) (tq_n hr) ?_
  refine gw_aload_n C 0 dX5_closeOn_5 rfl rfl ?_
  refine gw_iload_n C 2 dX5_closeOn_6 rfl rfl ?_
  refine gw_putI (ci := 4) (Cn := RX5) (T0 := TX5) (N := 15) C (ty := .int) 4 kX5_34 fX5 rfl (by decide) rfl rfl tyX5 tyX5_ok nmX5 rfl (by decide) rfl rfl hy dX5_closeOn_7 (tq_s hr) (tq_n hr) ?_
  exact gw_vret C (Nat.le_of_ble_eq_true rfl) (Nat.le_of_ble_eq_true rfl) dX5_closeOn_10 (⟨rfl, rfl, rfl⟩)
set_option maxHeartbeats 4000000 in
set_option maxRecDepth 100000 in
theorem c_X5_startAt {l : Launch} (hl0 : l.stackTraces = false) (G : GG) (I J : GI) {z : Nat} {r : Nat} (hr : travQ r) (x : Int) (hx : inI x) : GM l yX5_startAt (.code yX5_startAt cX5_startAt 2 none) 1 22 0 0 G N0 SH RR [vR r, vI x] z I J (memQ none (up (up (up (up I r 0 x) r 2 0) r 1 (-2000000000)) r 4 (-2000000000)) J) gNo := by
  refine gm_of (lo0 := [some (vR r), some (vI x)]) hl0 (by decide) rfl (Nat.le_of_ble_eq_true rfl) ?_
  intro p e s m args below meth c C ht hgi
  have C : gC G p l s m args meth c cX5_startAt 2 RX5 none "startAt" := C
  refine gw_aload_n C 0 dX5_startAt_0 rfl rfl ?_
  refine gw_iload_n C 1 dX5_startAt_1 rfl rfl ?_
  refine gw_putI (ci := 4) (Cn := RX5) (T0 := TX5) (N := 15) C (ty := .int) 0 kX5_27 fX5 rfl (by decide) rfl rfl tyX5 tyX5_ok nmX5 rfl (by decide) rfl rfl hx dX5_startAt_2 (tq_s hr) (tq_n hr) ?_
  refine gw_aload_n C 0 dX5_startAt_5 rfl rfl ?_
  refine gw_iconst C dX5_startAt_6 ?_
  refine gw_putI (ci := 4) (Cn := RX5) (T0 := TX5) (N := 15) C (ty := .int) 2 kX5_37 fX5 rfl (by decide) rfl rfl tyX5 tyX5_ok nmX5 rfl (by decide) rfl rfl ⟨by decide, by decide⟩ dX5_startAt_7 (tq_s hr) (tq_n hr) ?_
  refine gw_aload_n C 0 dX5_startAt_10 rfl rfl ?_
  refine gw_ldc C (x := (-2000000000)) dX5_startAt_11 kX5_46 (by decide) ?_
  refine gw_ldc C (x := (-2000000000)) dX5_startAt_13 kX5_46 (by decide) ?_
  refine gw_callVm C (as := [vI (-2000000000), vI (-2000000000)]) (st := []) (ci := 4) (T0 := TX5) (N := 15) (c_X5_closeOn hl0 G (up (up I r 0 x) r 2 0) J hr (-2000000000) (-2000000000) ⟨by decide, by decide⟩ ⟨by decide, by decide⟩) dX5_startAt_15 kX5_47 qX5_closeOn hdX5_closeOn ⟨Nat.le_of_ble_eq_true rfl, Nat.le_of_ble_eq_true rfl⟩ ⟨Nat.le_of_ble_eq_true rfl, Nat.le_of_ble_eq_true rfl⟩ (Nat.le_of_ble_eq_true rfl) rfl (tq_s hr) (tq_n hr) rfl (fun z_15 => ?_)
  exact gw_vret C (Nat.le_of_ble_eq_true rfl) (Nat.le_of_ble_eq_true rfl) dX5_startAt_18 (⟨rfl, rfl, rfl⟩)
set_option maxHeartbeats 4000000 in
set_option maxRecDepth 100000 in
theorem c_X5_isClosed {l : Launch} (hl0 : l.stackTraces = false) (G : GG) (I J : GI) {z : Nat} {r : Nat} (hr : travQ r) : GM l yX5_isClosed (.code yX5_isClosed cX5_isClosed 1 (some .boolean)) 0 0 0 0 G N0 SH RR [vR r] z I J (boolQ (I r 1 ≠ -2000000000) I J) gNo := by
  refine gm_of (lo0 := [some (vR r)]) hl0 (by decide) rfl (Nat.le_of_ble_eq_true rfl) ?_
  intro p e s m args below meth c C ht hgi
  have C : gC G p l s m args meth c cX5_isClosed 1 RX5 (some .boolean) "isClosed" := C
  refine gw_aload_n C 0 dX5_isClosed_0 rfl rfl ?_
  refine gw_getI (ci := 4) (Cn := RX5) (T0 := TX5) (N := 15) C 1 kX5_31 fX5 rfl (by decide) rfl rfl dX5_isClosed_1 (tq_s hr) (tq_n hr) (fun hI_1 => ?_)
  refine gw_ldc C (x := (-2000000000)) dX5_isClosed_4 kX5_46 (by decide) ?_
  refine gw_icmp_eq C (tgt := 13) dX5_isClosed_6 (by decide) hI_1 ⟨by decide, by decide⟩ (fun h_6 => ?_) (fun h_6 => ?_)
  · skip
    refine gw_iconst C dX5_isClosed_13 ?_
    exact gw_zret C (Nat.le_of_ble_eq_true rfl) (Nat.le_of_ble_eq_true rfl) dX5_isClosed_14 (Or.inl rfl) (⟨Or.inr ⟨(by omega), rfl⟩, rfl, rfl⟩)
  · skip
    refine gw_iconst C dX5_isClosed_9 ?_
    refine gw_goto C (tgt := 14) dX5_isClosed_10 (by decide) ?_
    exact gw_zret C (Nat.le_of_ble_eq_true rfl) (Nat.le_of_ble_eq_true rfl) dX5_isClosed_14 (Or.inr rfl) (⟨Or.inl ⟨(by omega), rfl⟩, rfl, rfl⟩)
set_option maxHeartbeats 4000000 in
set_option maxRecDepth 100000 in
theorem c_X5_hasLeg {l : Launch} (hl0 : l.stackTraces = false) (G : GG) (I J : GI) {z : Nat} {r : Nat} (hr : travQ r) (x : Int) (hx : inI x) : GM l yX5_hasLeg (.code yX5_hasLeg cX5_hasLeg 2 (some .boolean)) 0 0 0 0 G N0 SH RR [vR r, vI x] z I J (boolQ (0 ≤ x ∧ x < I r 2 ∧ x < 12) I J) gNo := by
  refine gm_of (lo0 := [some (vR r), some (vI x)]) hl0 (by decide) rfl (Nat.le_of_ble_eq_true rfl) ?_
  intro p e s m args below meth c C ht hgi
  have C : gC G p l s m args meth c cX5_hasLeg 2 RX5 (some .boolean) "hasLeg" := C
  refine gw_iload_n C 1 dX5_hasLeg_0 rfl rfl ?_
  refine gw_if_lt C (tgt := 22) dX5_hasLeg_1 (by decide) hx (fun h_1 => ?_) (fun h_1 => ?_)
  · skip
    refine gw_iconst C dX5_hasLeg_22 ?_
    exact gw_zret C (Nat.le_of_ble_eq_true rfl) (Nat.le_of_ble_eq_true rfl) dX5_hasLeg_23 (Or.inl rfl) (⟨Or.inr ⟨(by omega), rfl⟩, rfl, rfl⟩)
  · skip
    refine gw_iload_n C 1 dX5_hasLeg_4 rfl rfl ?_
    refine gw_aload_n C 0 dX5_hasLeg_5 rfl rfl ?_
    refine gw_getI (ci := 4) (Cn := RX5) (T0 := TX5) (N := 15) C 2 kX5_37 fX5 rfl (by decide) rfl rfl dX5_hasLeg_6 (tq_s hr) (tq_n hr) (fun hI_6 => ?_)
    refine gw_icmp_ge C (tgt := 22) dX5_hasLeg_9 (by decide) hx hI_6 (fun h_9 => ?_) (fun h_9 => ?_)
    · skip
      refine gw_iconst C dX5_hasLeg_22 ?_
      exact gw_zret C (Nat.le_of_ble_eq_true rfl) (Nat.le_of_ble_eq_true rfl) dX5_hasLeg_23 (Or.inl rfl) (⟨Or.inr ⟨(by omega), rfl⟩, rfl, rfl⟩)
    · skip
      refine gw_iload_n C 1 dX5_hasLeg_12 rfl rfl ?_
      refine gw_bipush C dX5_hasLeg_13 rfl ?_
      refine gw_icmp_ge C (tgt := 22) dX5_hasLeg_15 (by decide) hx ⟨by decide, by decide⟩ (fun h_15 => ?_) (fun h_15 => ?_)
      · skip
        refine gw_iconst C dX5_hasLeg_22 ?_
        exact gw_zret C (Nat.le_of_ble_eq_true rfl) (Nat.le_of_ble_eq_true rfl) dX5_hasLeg_23 (Or.inl rfl) (⟨Or.inr ⟨(by omega), rfl⟩, rfl, rfl⟩)
      · skip
        refine gw_iconst C dX5_hasLeg_18 ?_
        refine gw_goto C (tgt := 23) dX5_hasLeg_19 (by decide) ?_
        exact gw_zret C (Nat.le_of_ble_eq_true rfl) (Nat.le_of_ble_eq_true rfl) dX5_hasLeg_23 (Or.inr rfl) (⟨Or.inl ⟨(by omega), rfl⟩, rfl, rfl⟩)
set_option maxHeartbeats 4000000 in
set_option maxRecDepth 100000 in
theorem c_X5_hasEnd {l : Launch} (hl0 : l.stackTraces = false) (G : GG) (I J : GI) {z : Nat} {r : Nat} (hr : travQ r) : GM l yX5_hasEnd (.code yX5_hasEnd cX5_hasEnd 1 (some .boolean)) 0 0 0 0 G N0 SH RR [vR r] z I J (boolQ (I r 3 ≠ 5 ∧ I r 3 ≠ 6) I J) gNo := by
  refine gm_of (lo0 := [some (vR r)]) hl0 (by decide) rfl (Nat.le_of_ble_eq_true rfl) ?_
  intro p e s m args below meth c C ht hgi
  have C : gC G p l s m args meth c cX5_hasEnd 1 RX5 (some .boolean) "hasEnd" := C
  refine gw_aload_n C 0 dX5_hasEnd_0 rfl rfl ?_
  refine gw_getI (ci := 4) (Cn := RX5) (T0 := TX5) (N := 15) C 3 kX5_51 fX5 rfl (by decide) rfl rfl dX5_hasEnd_1 (tq_s hr) (tq_n hr) (fun hI_1 => ?_)
  refine gw_iconst C dX5_hasEnd_4 ?_
  refine gw_icmp_eq C (tgt := 21) dX5_hasEnd_5 (by decide) hI_1 ⟨by decide, by decide⟩ (fun h_5 => ?_) (fun h_5 => ?_)
  · skip
    refine gw_iconst C dX5_hasEnd_21 ?_
    exact gw_zret C (Nat.le_of_ble_eq_true rfl) (Nat.le_of_ble_eq_true rfl) dX5_hasEnd_22 (Or.inl rfl) (⟨Or.inr ⟨(by omega), rfl⟩, rfl, rfl⟩)
  · skip
    refine gw_aload_n C 0 dX5_hasEnd_8 rfl rfl ?_
    refine gw_getI (ci := 4) (Cn := RX5) (T0 := TX5) (N := 15) C 3 kX5_51 fX5 rfl (by decide) rfl rfl dX5_hasEnd_9 (tq_s hr) (tq_n hr) (fun hI_9 => ?_)
    refine gw_bipush C dX5_hasEnd_12 rfl ?_
    refine gw_icmp_eq C (tgt := 21) dX5_hasEnd_14 (by decide) hI_9 ⟨by decide, by decide⟩ (fun h_14 => ?_) (fun h_14 => ?_)
    · skip
      refine gw_iconst C dX5_hasEnd_21 ?_
      exact gw_zret C (Nat.le_of_ble_eq_true rfl) (Nat.le_of_ble_eq_true rfl) dX5_hasEnd_22 (Or.inl rfl) (⟨Or.inr ⟨(by omega), rfl⟩, rfl, rfl⟩)
    · skip
      refine gw_iconst C dX5_hasEnd_17 ?_
      refine gw_goto C (tgt := 22) dX5_hasEnd_18 (by decide) ?_
      exact gw_zret C (Nat.le_of_ble_eq_true rfl) (Nat.le_of_ble_eq_true rfl) dX5_hasEnd_22 (Or.inr rfl) (⟨Or.inl ⟨(by omega), rfl⟩, rfl, rfl⟩)
set_option maxHeartbeats 4000000 in
set_option maxRecDepth 100000 in
theorem c_X5_hasGap {l : Launch} (hl0 : l.stackTraces = false) (G : GG) (I J : GI) {z : Nat} {r : Nat} (hr : travQ r) : GM l yX5_hasGap (.code yX5_hasGap cX5_hasGap 1 (some .boolean)) 1 20 0 0 G N0 SH RR [vR r] z I J (boolQ (I r 1 ≠ -2000000000 ∧ (I r 3 ≠ 5 ∧ I r 3 ≠ 6) ∧ I r 3 ≠ 7) I J) gNo := by
  refine gm_of (lo0 := [some (vR r)]) hl0 (by decide) rfl (Nat.le_of_ble_eq_true rfl) ?_
  intro p e s m args below meth c C ht hgi
  have C : gC G p l s m args meth c cX5_hasGap 1 RX5 (some .boolean) "hasGap" := C
  refine gw_aload_n C 0 dX5_hasGap_0 rfl rfl ?_
  refine gw_callVb C (as := []) (st := []) (ci := 4) (T0 := TX5) (N := 15) (c_X5_isClosed hl0 G I J hr ) dX5_hasGap_1 kX5_54 qX5_isClosed hdX5_isClosed ⟨Nat.le_of_ble_eq_true rfl, Nat.le_of_ble_eq_true rfl⟩ ⟨Nat.le_of_ble_eq_true rfl, Nat.le_of_ble_eq_true rfl⟩ (Nat.le_of_ble_eq_true rfl) rfl (tq_s hr) (tq_n hr) rfl (fun h_1 z_1 => ?_) (fun h_1 z_1 => ?_)
  · skip
    refine gw_if_eq C (tgt := 27) dX5_hasGap_4 (by decide) ⟨by decide, by decide⟩ (fun h => absurd h (by decide)) (fun _ => ?_)
    refine gw_aload_n C 0 dX5_hasGap_7 rfl rfl ?_
    refine gw_callVb C (as := []) (st := []) (ci := 4) (T0 := TX5) (N := 15) (c_X5_hasEnd hl0 G I J hr ) dX5_hasGap_8 kX5_58 qX5_hasEnd hdX5_hasEnd ⟨Nat.le_of_ble_eq_true rfl, Nat.le_of_ble_eq_true rfl⟩ ⟨Nat.le_of_ble_eq_true rfl, Nat.le_of_ble_eq_true rfl⟩ (Nat.le_of_ble_eq_true rfl) rfl (tq_s hr) (tq_n hr) rfl (fun h_8 z_8 => ?_) (fun h_8 z_8 => ?_)
    · skip
      refine gw_if_eq C (tgt := 27) dX5_hasGap_11 (by decide) ⟨by decide, by decide⟩ (fun h => absurd h (by decide)) (fun _ => ?_)
      refine gw_aload_n C 0 dX5_hasGap_14 rfl rfl ?_
      refine gw_getI (ci := 4) (Cn := RX5) (T0 := TX5) (N := 15) C 3 kX5_51 fX5 rfl (by decide) rfl rfl dX5_hasGap_15 (tq_s hr) (tq_n hr) (fun hI_15 => ?_)
      refine gw_bipush C dX5_hasGap_18 rfl ?_
      refine gw_icmp_eq C (tgt := 27) dX5_hasGap_20 (by decide) hI_15 ⟨by decide, by decide⟩ (fun h_20 => ?_) (fun h_20 => ?_)
      · skip
        refine gw_iconst C dX5_hasGap_27 ?_
        exact gw_zret C (Nat.le_of_ble_eq_true rfl) (Nat.le_of_ble_eq_true rfl) dX5_hasGap_28 (Or.inl rfl) (⟨Or.inr ⟨(by omega), rfl⟩, rfl, rfl⟩)
      · skip
        refine gw_iconst C dX5_hasGap_23 ?_
        refine gw_goto C (tgt := 28) dX5_hasGap_24 (by decide) ?_
        exact gw_zret C (Nat.le_of_ble_eq_true rfl) (Nat.le_of_ble_eq_true rfl) dX5_hasGap_28 (Or.inr rfl) (⟨Or.inl ⟨(by omega), rfl⟩, rfl, rfl⟩)
    · skip
      refine gw_if_eq C (tgt := 27) dX5_hasGap_11 (by decide) ⟨by decide, by decide⟩ (fun _ => ?_) (fun h => absurd h (by decide))
      refine gw_iconst C dX5_hasGap_27 ?_
      exact gw_zret C (Nat.le_of_ble_eq_true rfl) (Nat.le_of_ble_eq_true rfl) dX5_hasGap_28 (Or.inl rfl) (⟨Or.inr ⟨(by omega), rfl⟩, rfl, rfl⟩)
  · skip
    refine gw_if_eq C (tgt := 27) dX5_hasGap_4 (by decide) ⟨by decide, by decide⟩ (fun _ => ?_) (fun h => absurd h (by decide))
    refine gw_iconst C dX5_hasGap_27 ?_
    exact gw_zret C (Nat.le_of_ble_eq_true rfl) (Nat.le_of_ble_eq_true rfl) dX5_hasGap_28 (Or.inl rfl) (⟨Or.inr ⟨(by omega), rfl⟩, rfl, rfl⟩)
set_option maxHeartbeats 4000000 in
set_option maxRecDepth 100000 in
theorem c_X5_append {l : Launch} (hl0 : l.stackTraces = false) (G : GG) (I J : GI) {z : Nat} {r : Nat} (hr : travQ r) (x y : Int) (hx : inI x) (hy : inI y) (h2 : 0 ≤ I r 2 ∧ I r 2 < 12) : GM l yX5_append (.code yX5_append cX5_append 3 (some .int)) 0 0 0 0 G N0 SH RR [vR r, vI x, vI y] z I J (memQ (some (vI (I r 2))) (up (up (up I (r + 1) (I r 2).toNat x) (r + 2) (I r 2).toNat y) r 2 (I r 2 + 1)) J) gNo := by
  refine gm_of (lo0 := [some (vR r), some (vI x), some (vI y)]) hl0 (by decide) rfl (Nat.le_of_ble_eq_true rfl) ?_
  intro p e s m args below meth c C ht hgi
  have C : gC G p l s m args meth c cX5_append 3 RX5 (some .int) "append" := C
  refine gw_aload_n C 0 dX5_append_0 rfl rfl ?_
  refine gw_getI (ci := 4) (Cn := RX5) (T0 := TX5) (N := 15) C 2 kX5_37 fX5 rfl (by decide) rfl rfl dX5_append_1 (tq_s hr) (tq_n hr) (fun hI_1 => ?_)
  refine gw_if_lt C (tgt := 16) dX5_append_4 (by decide) hI_1 (fun h => absurd h (by omega)) (fun _ => ?_)
  refine gw_aload_n C 0 dX5_append_7 rfl rfl ?_
  refine gw_getI (ci := 4) (Cn := RX5) (T0 := TX5) (N := 15) C 2 kX5_37 fX5 rfl (by decide) rfl rfl dX5_append_8 (tq_s hr) (tq_n hr) (fun hI_8 => ?_)
  refine gw_bipush C dX5_append_11 rfl ?_
  refine gw_icmp_lt C (tgt := 19) dX5_append_13 (by decide) hI_8 ⟨by decide, by decide⟩ (fun _ => ?_) (fun h => absurd h (by omega))
  refine gw_aload_n C 0 dX5_append_19 rfl rfl ?_
  refine gw_getRs (ci := 4) (Cn := RX5) (T0 := TX5) (N := 15) C (r + 1) 10 kX5_9 fX5 rfl (by decide) rfl rfl dX5_append_20 (tq_s hr) (tq_n hr) (tq_R1 hr) ?_
  refine gw_aload_n C 0 dX5_append_23 rfl rfl ?_
  refine gw_getI (ci := 4) (Cn := RX5) (T0 := TX5) (N := 15) C 2 kX5_37 fX5 rfl (by decide) rfl rfl dX5_append_24 (tq_s hr) (tq_n hr) (fun hI_24 => ?_)
  refine gw_iload_n C 1 dX5_append_27 rfl rfl ?_
  refine gw_iast C (((I r 2)).toNat) dX5_append_28 (tq_s1 hr) (tq_n1 hr) (by omega) (by omega) (by decide) hx ?_
  refine gw_aload_n C 0 dX5_append_29 rfl rfl ?_
  refine gw_getRs (ci := 4) (Cn := RX5) (T0 := TX5) (N := 15) C (r + 2) 11 kX5_15 fX5 rfl (by decide) rfl rfl dX5_append_30 (tq_s hr) (tq_n hr) (tq_R2 hr) ?_
  refine gw_aload_n C 0 dX5_append_33 rfl rfl ?_
  refine gw_getI (ci := 4) (Cn := RX5) (T0 := TX5) (N := 15) C 2 kX5_37 fX5 rfl (by decide) rfl rfl dX5_append_34 (tq_s hr) (tq_n hr) (fun hI_34 => ?_)
  rw [show ((up I (r + 1) (((I r 2)).toNat) x) r 2) = (I r 2) from by simp [up]] at hI_34 ⊢
  refine gw_iload_n C 2 dX5_append_37 rfl rfl ?_
  refine gw_iast C (((I r 2)).toNat) dX5_append_38 (tq_s2 hr) (tq_n2 hr) (by omega) (by omega) (by decide) hy ?_
  refine gw_aload_n C 0 dX5_append_39 rfl rfl ?_
  refine gw_dupR C dX5_append_40 ?_
  refine gw_getI (ci := 4) (Cn := RX5) (T0 := TX5) (N := 15) C 2 kX5_37 fX5 rfl (by decide) rfl rfl dX5_append_41 (tq_s hr) (tq_n hr) (fun hI_41 => ?_)
  rw [show ((up (up I (r + 1) (((I r 2)).toNat) x) (r + 2) (((I r 2)).toNat) y) r 2) = (I r 2) from by simp [up]] at hI_41 ⊢
  refine gw_iconst C dX5_append_44 ?_
  refine gw_iadd C dX5_append_45 ?_
  refine gw_putI (ci := 4) (Cn := RX5) (T0 := TX5) (N := 15) C (ty := .int) 2 kX5_37 fX5 rfl (by decide) rfl rfl tyX5 tyX5_ok nmX5 rfl (by decide) rfl rfl (by omega) dX5_append_46 (tq_s hr) (tq_n hr) ?_
  refine gw_aload_n C 0 dX5_append_49 rfl rfl ?_
  refine gw_getI (ci := 4) (Cn := RX5) (T0 := TX5) (N := 15) C 2 kX5_37 fX5 rfl (by decide) rfl rfl dX5_append_50 (tq_s hr) (tq_n hr) (fun hI_50 => ?_)
  rw [show ((up (up (up I (r + 1) (((I r 2)).toNat) x) (r + 2) (((I r 2)).toNat) y) r 2 ((I r 2) + 1)) r 2) = (I r 2 + 1) from by simp [up]] at hI_50 ⊢
  refine gw_iconst C dX5_append_53 ?_
  refine gw_isub C dX5_append_54 ?_
  exact gw_iret C (Nat.le_of_ble_eq_true rfl) (Nat.le_of_ble_eq_true rfl) dX5_append_55 (⟨congrArg (fun q => some (vI q)) (by omega), rfl, rfl⟩)
set_option maxHeartbeats 4000000 in
set_option maxRecDepth 100000 in
theorem c_X5_shorten {l : Launch} (hl0 : l.stackTraces = false) (G : GG) (I J : GI) {z : Nat} {r : Nat} (hr : travQ r) (h2 : 0 < I r 2 ∧ I r 2 ≤ 12) : GM l yX5_shorten (.code yX5_shorten cX5_shorten 1 (some .int)) 1 22 0 0 G N0 SH RR [vR r] z I J (memQ (some (vI (I r 2 - 1))) (up (up (up I r 2 (I r 2 - 1)) r 1 (-2000000000)) r 4 (-2000000000)) J) gNo := by
  refine gm_of (lo0 := [some (vR r)]) hl0 (by decide) rfl (Nat.le_of_ble_eq_true rfl) ?_
  intro p e s m args below meth c C ht hgi
  have C : gC G p l s m args meth c cX5_shorten 1 RX5 (some .int) "shorten" := C
  refine gw_aload_n C 0 dX5_shorten_0 rfl rfl ?_
  refine gw_getI (ci := 4) (Cn := RX5) (T0 := TX5) (N := 15) C 2 kX5_37 fX5 rfl (by decide) rfl rfl dX5_shorten_1 (tq_s hr) (tq_n hr) (fun hI_1 => ?_)
  refine gw_if_le C (tgt := 17) dX5_shorten_4 (by decide) hI_1 (fun h => absurd h (by omega)) (fun _ => ?_)
  refine gw_aload_n C 0 dX5_shorten_7 rfl rfl ?_
  refine gw_dupR C dX5_shorten_8 ?_
  refine gw_getI (ci := 4) (Cn := RX5) (T0 := TX5) (N := 15) C 2 kX5_37 fX5 rfl (by decide) rfl rfl dX5_shorten_9 (tq_s hr) (tq_n hr) (fun hI_9 => ?_)
  refine gw_iconst C dX5_shorten_12 ?_
  refine gw_isub C dX5_shorten_13 ?_
  refine gw_putI (ci := 4) (Cn := RX5) (T0 := TX5) (N := 15) C (ty := .int) 2 kX5_37 fX5 rfl (by decide) rfl rfl tyX5 tyX5_ok nmX5 rfl (by decide) rfl rfl (by omega) dX5_shorten_14 (tq_s hr) (tq_n hr) ?_
  refine gw_aload_n C 0 dX5_shorten_17 rfl rfl ?_
  refine gw_ldc C (x := (-2000000000)) dX5_shorten_18 kX5_46 (by decide) ?_
  refine gw_ldc C (x := (-2000000000)) dX5_shorten_20 kX5_46 (by decide) ?_
  refine gw_callVm C (as := [vI (-2000000000), vI (-2000000000)]) (st := []) (ci := 4) (T0 := TX5) (N := 15) (c_X5_closeOn hl0 G (up I r 2 ((I r 2) - 1)) J hr (-2000000000) (-2000000000) ⟨by decide, by decide⟩ ⟨by decide, by decide⟩) dX5_shorten_22 kX5_47 qX5_closeOn hdX5_closeOn ⟨Nat.le_of_ble_eq_true rfl, Nat.le_of_ble_eq_true rfl⟩ ⟨Nat.le_of_ble_eq_true rfl, Nat.le_of_ble_eq_true rfl⟩ (Nat.le_of_ble_eq_true rfl) rfl (tq_s hr) (tq_n hr) rfl (fun z_22 => ?_)
  refine gw_aload_n C 0 dX5_shorten_25 rfl rfl ?_
  refine gw_getI (ci := 4) (Cn := RX5) (T0 := TX5) (N := 15) C 2 kX5_37 fX5 rfl (by decide) rfl rfl dX5_shorten_26 (tq_s hr) (tq_n hr) (fun hI_26 => ?_)
  rw [show ((up (up (up I r 2 ((I r 2) - 1)) r 1 (-2000000000)) r 4 (-2000000000)) r 2) = ((I r 2) - 1) from by simp [up]] at hI_26 ⊢
  exact gw_iret C (Nat.le_of_ble_eq_true rfl) (Nat.le_of_ble_eq_true rfl) dX5_shorten_29 (⟨rfl, rfl, rfl⟩)
set_option maxHeartbeats 4000000 in
set_option maxRecDepth 100000 in
theorem c_X5_step {l : Launch} (hl0 : l.stackTraces = false) (G : GG) {n : Nat} {sh : GSh} {R : GR} {z : Nat} {I J : GI} (x : Int) (y : Int) (hx : 0 ≤ x ∧ x ≤ 2000000) (hy : -10000 ≤ y ∧ y ≤ 10000) : GM l yX5_step (.code yX5_step cX5_step 3 (some .int)) 1 23 0 0 G n sh R [vL x, vI y] z I J (memQ (some (vI ((x * y).tdiv 10000))) I J) gNo := by
  refine gm_of (lo0 := [some (vL x), none, some (vI y)]) hl0 (by decide) rfl (Nat.le_of_ble_eq_true rfl) ?_
  intro p e s m args below meth c C ht hgi
  have C : gC G p l s m args meth c cX5_step 3 RX5 (some .int) "step" := C
  have hb := st_b hx hy
  refine gw_lload_n C 0 dX5_step_0 rfl rfl ?_
  refine gw_iload_n C 2 dX5_step_1 rfl rfl ?_
  refine gw_i2l C dX5_step_2 (by omega) ?_
  refine gw_lmul C dX5_step_3 ?_
  refine gw_ldc2 C (x := 10000) dX5_step_4 kX5_130 (by decide) ?_
  refine gw_callSm C (as := [vL (x * y), vL 10000]) (st := []) (c_X3_quotient hl0 G (x * y) 10000 (by omega) ⟨by decide, by decide⟩ (by omega)) dX5_step_7 kX5_64 qX3_quotient hdX3_quotient ⟨Nat.le_of_ble_eq_true rfl, Nat.le_of_ble_eq_true rfl⟩ ⟨Nat.le_of_ble_eq_true rfl, Nat.le_of_ble_eq_true rfl⟩ (Nat.le_of_ble_eq_true rfl) rfl (fun z_7 => ?_)
  exact gw_iret C (Nat.le_of_ble_eq_true rfl) (Nat.le_of_ble_eq_true rfl) dX5_step_10 (⟨congrArg (fun q => some (vI q)) (by rfl), rfl, rfl⟩)
