theorem rel_sh {b c9 : Nat} {I K : GI} {S : Nat → Int} (h : Rel b I S) (ho : Oks S) (e : ∀ k f, rawC k f → K (c9 + k) f = I (b + k) f) : Rel c9 K S := by
  have h3 := ho.2.1
  refine ⟨fun k hk => ?_, ⟨?_, ?_, ?_⟩, fun i hi => ?_, fun j hj => ?_, fun t hi => ?_⟩
  · rw [e 1 k (by unfold rawC; omega)]; exact h.1 k hk
  · have := e 0 1 (by unfold rawC; omega); rw [Nat.add_zero, Nat.add_zero] at this; rw [this]; exact h.2.1.1
  · have := e 0 2 (by unfold rawC; omega); rw [Nat.add_zero, Nat.add_zero] at this; rw [this]; exact h.2.1.2.1
  · have := e 0 3 (by unfold rawC; omega); rw [Nat.add_zero, Nat.add_zero] at this; rw [this]; exact h.2.1.2.2
  · have hw := h.2.2.1 i hi
    have hc := (ho.2.2.1 i hi).1.2.2
    have e1 : ∀ f, f < 3 → K (wP c9 i) f = I (wP b i) f := fun f hf => by
      have := e (5 + 2 * i) f (by unfold rawC; omega)
      rw [show b + (5 + 2 * i) = wP b i by unfold wP; omega, show c9 + (5 + 2 * i) = wP c9 i by unfold wP; omega] at this
      exact this
    have e2 : ∀ f, f < 9 → K (wP c9 i + 1) f = I (wP b i + 1) f := fun f hf => by
      have := e (6 + 2 * i) f (by unfold rawC; omega)
      rw [show b + (6 + 2 * i) = wP b i + 1 by unfold wP; omega, show c9 + (6 + 2 * i) = wP c9 i + 1 by unfold wP; omega] at this
      exact this
    rw [e1 0 (by decide), e1 1 (by decide), e1 2 (by decide)]
    exact ⟨hw.1, fun k hk => by rw [e2 k (by omega)]; exact hw.2 k hk⟩
  · have hw := h.2.2.2.1 j hj
    have e1 : ∀ f, (f < 3 ∨ (8 ≤ f ∧ f ≤ 10)) → K (jP c9 j) f = I (jP b j) f := fun f hf => by
      have := e (17 + j) f (by unfold rawC; omega)
      rw [show b + (17 + j) = jP b j by unfold jP; omega, show c9 + (17 + j) = jP c9 j by unfold jP; omega] at this
      exact this
    rw [e1 0 (by omega), e1 1 (by omega), e1 2 (by omega), e1 8 (by omega), e1 9 (by omega), e1 10 (by omega)]
    exact hw
  · have hw := h.2.2.2.2 t hi
    have hc := (ho.2.2.2.2 t hi).1.2.1
    have e1 : ∀ f, (f < 3 ∨ f = 4) → K (tP c9 t) f = I (tP b t) f := fun f hf => by
      have := e (21 + 6 * t) f (by unfold rawC; omega)
      rw [show b + (21 + 6 * t) = tP b t by unfold tP; omega, show c9 + (21 + 6 * t) = tP c9 t by unfold tP; omega] at this
      exact this
    have e2 : ∀ f, f < 12 → K (tP c9 t + 1) f = I (tP b t + 1) f := fun f hf => by
      have := e (22 + 6 * t) f (by unfold rawC; omega)
      rw [show b + (22 + 6 * t) = tP b t + 1 by unfold tP; omega, show c9 + (22 + 6 * t) = tP c9 t + 1 by unfold tP; omega] at this
      exact this
    have e3 : ∀ f, f < 12 → K (tP c9 t + 2) f = I (tP b t + 2) f := fun f hf => by
      have := e (23 + 6 * t) f (by unfold rawC; omega)
      rw [show b + (23 + 6 * t) = tP b t + 2 by unfold tP; omega, show c9 + (23 + 6 * t) = tP c9 t + 2 by unfold tP; omega] at this
      exact this
    rw [e1 0 (by omega), e1 1 (by omega), e1 2 (by omega), e1 4 (by omega)]
    exact ⟨hw.1, hw.2.1, fun k hk => by rw [e2 k (by omega), e3 k (by omega)]; exact hw.2.2 k hk⟩
theorem raw_sh {b c9 : Nat} {I K : GI} (h : Raw b I) (e : ∀ k f, rawC k f → K (c9 + k) f = I (b + k) f) : Raw c9 K := by
  refine ⟨fun i hi => ?_, fun t hi => ?_⟩
  · have e1 : ∀ f, f < 3 → K (wP c9 i) f = I (wP b i) f := fun f hf => by
      have := e (5 + 2 * i) f (by unfold rawC; omega)
      rw [show b + (5 + 2 * i) = wP b i by unfold wP; omega, show c9 + (5 + 2 * i) = wP c9 i by unfold wP; omega] at this
      exact this
    have e2 : ∀ f, f < 9 → K (wP c9 i + 1) f = I (wP b i + 1) f := fun f hf => by
      have := e (6 + 2 * i) f (by unfold rawC; omega)
      rw [show b + (6 + 2 * i) = wP b i + 1 by unfold wP; omega, show c9 + (6 + 2 * i) = wP c9 i + 1 by unfold wP; omega] at this
      exact this
    have hw := h.1 i hi
    unfold wOk
    rw [e1 0 (by decide), e1 1 (by decide), e1 2 (by decide)]
    exact ⟨hw.1, hw.2.1, fun k hk => by rw [e2 k hk]; exact hw.2.2 k hk⟩
  · have e0 : ∀ f, (f < 3 ∨ f = 4) → K (tP c9 t) f = I (tP b t) f := fun f hf => by
      have := e (21 + 6 * t) f (by unfold rawC; omega)
      rw [show b + (21 + 6 * t) = tP b t by unfold tP; omega, show c9 + (21 + 6 * t) = tP c9 t by unfold tP; omega] at this
      exact this
    have e1 : ∀ f, f < 12 → K (tP c9 t + 1) f = I (tP b t + 1) f := fun f hf => by
      have := e (22 + 6 * t) f (by unfold rawC; omega)
      rw [show b + (22 + 6 * t) = tP b t + 1 by unfold tP; omega, show c9 + (22 + 6 * t) = tP c9 t + 1 by unfold tP; omega] at this
      exact this
    have e2 : ∀ f, f < 12 → K (tP c9 t + 2) f = I (tP b t + 2) f := fun f hf => by
      have := e (23 + 6 * t) f (by unfold rawC; omega)
      rw [show b + (23 + 6 * t) = tP b t + 2 by unfold tP; omega, show c9 + (23 + 6 * t) = tP c9 t + 2 by unfold tP; omega] at this
      exact this
    have hw := h.2 t hi
    unfold tOk
    rw [e0 0 (by omega), e0 1 (by omega), e0 2 (by omega), e0 4 (by omega)]
    exact ⟨hw.1, hw.2.1, fun k hk => by rw [e1 k hk]; exact hw.2.2.1 k hk, fun k hk => by rw [e2 k hk]; exact hw.2.2.2 k hk⟩
theorem rawC_lt {k f : Nat} (h : rawC k f) : k < 45 := by unfold rawC at h; omega
theorem cpd_out {b q p f : Nat} {I K : GI} (h : cpd b q rawC I K) (hp : p < b ∨ b + 45 ≤ p) : K p f = I p f := h.1 p f (fun hh => by have := rawC_lt hh.2; omega)
def lNx (x : Int) : Nat := if 0 ≤ x ∧ x ≤ 2 then (x + 1).toNat else 0
def kpR (I K : GI) (n : Nat) (c : Int) : Prop := (K 46 1 = (n : Int) ∧ K 46 0 = c) ∧ (∀ q f, ¬ (q = 46 ∧ f < 2) → ¬ (48 + 45 * n ≤ q ∧ rawC (q - (48 + 45 * n)) f) → K q f = I q f) ∧ ∀ k f, rawC k f → K (48 + 45 * n + k) f = I (1 + k) f
def kpQ (I J : GI) : Option GV → Nat → GI → GI → Prop := fun v _ I' J' => v = none ∧ kpR I I' (lNx (I 46 1)) (if I 46 0 < 4 then I 46 0 + 1 else 4) ∧ J' = J
theorem kp_of {I K : GI} {n : Nat} {x c c' : Int} (hx : x = (n : Int)) (h : cpd (48 + 45 * n) 1 rawC (up I 46 1 x) K) (hc : c = c') : kpR I (up K 46 0 c) n c' := by
  subst hx hc
  refine ⟨⟨?_, up_eq⟩, fun q f h1 h2 => ?_, fun k f hk => ?_⟩
  · rw [up_ne2 (by decide), h.1 46 1 (by omega), up_eq]
  · rw [up_nn (by omega), h.1 q f h2, up_nn (by omega)]
  · have := rawC_lt hk
    rw [up_ne (by omega), h.2 k f hk, up_ne (by omega)]
def gbR (I K : GI) (n : Nat) (x c : Int) : Prop := (K 46 1 = x ∧ K 46 0 = c) ∧ (∀ q f, ¬ (q = 46 ∧ f < 2) → ¬ (1 ≤ q ∧ rawC (q - 1) f) → K q f = I q f) ∧ ∀ k f, rawC k f → K (1 + k) f = I (48 + 45 * n + k) f
def gbQ (I J : GI) : Option GV → Nat → GI → GI → Prop := fun v _ I' J' => v = some (vI (I 46 0 - 1)) ∧ gbR I I' (I 46 1).toNat (if I 46 1 = 0 then 3 else I 46 1 - 1) (I 46 0 - 1) ∧ J' = J
theorem gb_of {I K : GI} {n : Nat} {x x' c : Int} (hx : x = x') (h : cpd 1 (48 + 45 * n) rawC I K) : gbR I (up (up K 46 1 x) 46 0 c) n x' c := by
  subst hx
  refine ⟨⟨?_, up_eq⟩, fun q f h1 h2 => ?_, fun k f hk => ?_⟩
  · rw [up_ne2 (by decide), up_eq]
  · rw [up_nn (by omega), up_nn (by omega), h.1 q f h2]
  · have := rawC_lt hk
    rw [up_ne (by omega), up_ne (by omega), h.2 k f hk]
set_option maxHeartbeats 4000000 in
set_option maxRecDepth 100000 in
theorem c_X0_keep {l : Launch} (hl0 : l.stackTraces = false) (G : GG) (I J : GI) {z : Nat} (hl : 0 ≤ I 46 1 ∧ I 46 1 ≤ 3) (hc : 0 ≤ I 46 0 ∧ I 46 0 ≤ 4) : GM l yX0_keep (.code yX0_keep cX0_keep 2 none) 3 83 0 0 G N0 SH RR [vR 46, vR 1] z I J (kpQ I J) gNo := by
  refine gm_of (lo0 := [some (vR 46), some (vR 1)]) hl0 (by decide) rfl (Nat.le_of_ble_eq_true rfl) ?_
  intro p e s m args below meth c C ht hgi
  have C : gC G p l s m args meth c cX0_keep 2 RX0 none "keep" := C
  refine gw_aload_n C 0 dX0_keep_0 rfl rfl ?_
  refine gw_aload_n C 0 dX0_keep_1 rfl rfl ?_
  refine gw_getI (ci := 0) (Cn := RX0) (T0 := TX0) (N := 3) C 1 kX0_18 fX0 rfl (by decide) rfl rfl dX0_keep_2 xs_46 xn_46 (fun hI_2 => ?_)
  refine gw_iconst C dX0_keep_5 ?_
  refine gw_iconst C dX0_keep_6 ?_
  refine gw_callSNb C (as := [vI (I 46 1), vI 0, vI 2]) (st := [vR 46]) (c_X7_isIn hl0 G (I 46 1) 0 2 hI_2 ⟨by decide, by decide⟩ ⟨by decide, by decide⟩) dX0_keep_7 (List.mem_of_getElem? (i := 4) rfl) qX7_isIn hdX7_isIn ⟨Nat.le_of_ble_eq_true rfl, Nat.le_of_ble_eq_true rfl⟩ ⟨Nat.le_of_ble_eq_true rfl, Nat.le_of_ble_eq_true rfl⟩ (Nat.le_of_ble_eq_true rfl) rfl (fun h_7 z_7 => ?_) (fun h_7 z_7 => ?_)
  · skip
    refine gw_if_eq C (tgt := 22) dX0_keep_10 (by decide) ⟨by decide, by decide⟩ (fun h => absurd h (by decide)) (fun _ => ?_)
    refine gw_aload_n C 0 dX0_keep_13 rfl rfl ?_
    refine gw_getI (ci := 0) (Cn := RX0) (T0 := TX0) (N := 3) C 1 kX0_18 fX0 rfl (by decide) rfl rfl dX0_keep_14 xs_46 xn_46 (fun hI_14 => ?_)
    refine gw_iconst C dX0_keep_17 ?_
    refine gw_iadd C dX0_keep_18 ?_
    refine gw_goto C (tgt := 23) dX0_keep_19 (by decide) ?_
    refine gw_putI (ci := 0) (Cn := RX0) (T0 := TX0) (N := 3) C (ty := .int) 1 kX0_18 fX0 rfl (by decide) rfl rfl tyX0 tyX0_ok nmX0 rfl (by decide) rfl rfl (by omega) dX0_keep_23 xs_46 xn_46 ?_
    refine gw_aload_n C 0 dX0_keep_26 rfl rfl ?_
    refine gw_getRs (ci := 0) (Cn := RX0) (T0 := TX0) (N := 3) C 47 2 kX0_11 fX0 rfl (by decide) rfl rfl dX0_keep_27 xs_46 xn_46 xr_46_2 ?_
    refine gw_aload_n C 0 dX0_keep_30 rfl rfl ?_
    refine gw_getI (ci := 0) (Cn := RX0) (T0 := TX0) (N := 3) C 1 kX0_18 fX0 rfl (by decide) rfl rfl dX0_keep_31 xs_46 xn_46 (fun hI_31 => ?_)
    rw [show ((up I 46 1 ((I 46 1) + 1)) 46 1) = ((I 46 1) + 1) from up_eq] at hI_31 ⊢
    refine gw_aalds C (t := 6) (48 + 45 * ((((I 46 1) + 1)).toNat)) ((((I 46 1) + 1)).toNat) dX0_keep_34 rfl (by decide) xs_47 xn_47 (by omega) (by omega) (by decide) (xr_47 ((((I 46 1) + 1)).toNat) (by omega)) ?_
    refine gw_aload_n C 1 dX0_keep_35 rfl rfl ?_
    refine gw_callV C (as := [vR 1]) (st := []) (ci := 2) (T0 := TX2) (N := 7) (c_X2_copyFrom hl0 G (up I 46 1 ((I 46 1) + 1)) J (mineQ_copy ((((I 46 1) + 1)).toNat) (by omega)) mineQ_live (by omega)) dX0_keep_36 kX0_26 qX2_copyFrom hdX2_copyFrom ⟨Nat.le_of_ble_eq_true rfl, Nat.le_of_ble_eq_true rfl⟩ ⟨Nat.le_of_ble_eq_true rfl, Nat.le_of_ble_eq_true rfl⟩ (Nat.le_of_ble_eq_true rfl) rfl (mq_s (mineQ_copy ((((I 46 1) + 1)).toNat) (by omega))) (mq_n (mineQ_copy ((((I 46 1) + 1)).toNat) (by omega))) rfl (fun _ _ _ _ h => h.elim) ?_
    intro v_36 z_36_2 Kc_36 J_36 hv_36
    obtain ⟨ev_36, hcp_36, eJ_36⟩ := hv_36
    rw [ev_36, eJ_36]
    show GW G p l e ({ frames := 3, cells := 0, slots := 0, locals := 83 } : Room) s m args below meth c 2 z_36_2 N0 SH RR Kc_36 J 0 0 (vx_MQ below (GQ G N0 SH RR (kpQ I J)) (GX G N0 SH RR gNo) args s 0 0 (ge G)) 39 [some (vR 46), some (vR 1)] []
    refine gw_aload_n C 0 dX0_keep_39 rfl rfl ?_
    refine gw_aload_n C 0 dX0_keep_40 rfl rfl ?_
    refine gw_getI (ci := 0) (Cn := RX0) (T0 := TX0) (N := 3) C 0 kX0_30 fX0 rfl (by decide) rfl rfl dX0_keep_41 xs_46 xn_46 (fun hI_41 => ?_)
    rw [show (Kc_36 46 0) = (I 46 0) from by rw [cpd_out hcp_36 (by omega)]; exact up_ne2 (by decide)] at hI_41 ⊢
    refine gw_iconst C dX0_keep_44 ?_
    refine gw_iadd C dX0_keep_45 ?_
    refine gw_iconst C dX0_keep_46 ?_
    refine gw_imin C dX0_keep_47 kX0_33 (by omega) ⟨by decide, by decide⟩ (Nat.le_of_ble_eq_true rfl) (Nat.le_of_ble_eq_true rfl) (Nat.le_of_ble_eq_true rfl) (Nat.le_of_ble_eq_true rfl) ?_
    refine gw_putI (ci := 0) (Cn := RX0) (T0 := TX0) (N := 3) C (ty := .int) 0 kX0_30 fX0 rfl (by decide) rfl rfl tyX0 tyX0_ok nmX0 rfl (by decide) rfl rfl (by omega) dX0_keep_50 xs_46 xn_46 ?_
    exact gw_vret C (Nat.le_of_ble_eq_true rfl) (Nat.le_of_ble_eq_true rfl) dX0_keep_53 (⟨rfl, (by rw [show lNx (I 46 1) = ((((I 46 1) + 1)).toNat) from by unfold lNx; rw [if_pos (by omega)]]; exact kp_of (by omega) hcp_36 (by (repeat' split) <;> omega)), rfl⟩)
  · skip
    refine gw_if_eq C (tgt := 22) dX0_keep_10 (by decide) ⟨by decide, by decide⟩ (fun _ => ?_) (fun h => absurd h (by decide))
    refine gw_iconst C dX0_keep_22 ?_
    refine gw_putI (ci := 0) (Cn := RX0) (T0 := TX0) (N := 3) C (ty := .int) 1 kX0_18 fX0 rfl (by decide) rfl rfl tyX0 tyX0_ok nmX0 rfl (by decide) rfl rfl ⟨by decide, by decide⟩ dX0_keep_23 xs_46 xn_46 ?_
    refine gw_aload_n C 0 dX0_keep_26 rfl rfl ?_
    refine gw_getRs (ci := 0) (Cn := RX0) (T0 := TX0) (N := 3) C 47 2 kX0_11 fX0 rfl (by decide) rfl rfl dX0_keep_27 xs_46 xn_46 xr_46_2 ?_
    refine gw_aload_n C 0 dX0_keep_30 rfl rfl ?_
    refine gw_getI (ci := 0) (Cn := RX0) (T0 := TX0) (N := 3) C 1 kX0_18 fX0 rfl (by decide) rfl rfl dX0_keep_31 xs_46 xn_46 (fun hI_31_2 => ?_)
    rw [show ((up I 46 1 0) 46 1) = 0 from up_eq] at hI_31_2 ⊢
    refine gw_aalds C (t := 6) (48 + 45 * 0) 0 dX0_keep_34 rfl (by decide) xs_47 xn_47 (by omega) (by omega) (by decide) (xr_47 0 (by omega)) ?_
    refine gw_aload_n C 1 dX0_keep_35 rfl rfl ?_
    refine gw_callV C (as := [vR 1]) (st := []) (ci := 2) (T0 := TX2) (N := 7) (c_X2_copyFrom hl0 G (up I 46 1 0) J (mineQ_copy 0 (by omega)) mineQ_live (by omega)) dX0_keep_36 kX0_26 qX2_copyFrom hdX2_copyFrom ⟨Nat.le_of_ble_eq_true rfl, Nat.le_of_ble_eq_true rfl⟩ ⟨Nat.le_of_ble_eq_true rfl, Nat.le_of_ble_eq_true rfl⟩ (Nat.le_of_ble_eq_true rfl) rfl (mq_s (mineQ_copy 0 (by omega))) (mq_n (mineQ_copy 0 (by omega))) rfl (fun _ _ _ _ h => h.elim) ?_
    intro v_36 z_36_4 Kc_36 J_36 hv_36
    obtain ⟨ev_36, hcp_36, eJ_36⟩ := hv_36
    rw [ev_36, eJ_36]
    show GW G p l e ({ frames := 3, cells := 0, slots := 0, locals := 83 } : Room) s m args below meth c 2 z_36_4 N0 SH RR Kc_36 J 0 0 (vx_MQ below (GQ G N0 SH RR (kpQ I J)) (GX G N0 SH RR gNo) args s 0 0 (ge G)) 39 [some (vR 46), some (vR 1)] []
    refine gw_aload_n C 0 dX0_keep_39 rfl rfl ?_
    refine gw_aload_n C 0 dX0_keep_40 rfl rfl ?_
    refine gw_getI (ci := 0) (Cn := RX0) (T0 := TX0) (N := 3) C 0 kX0_30 fX0 rfl (by decide) rfl rfl dX0_keep_41 xs_46 xn_46 (fun hI_41_2 => ?_)
    rw [show (Kc_36 46 0) = (I 46 0) from by rw [cpd_out hcp_36 (by omega)]; exact up_ne2 (by decide)] at hI_41_2 ⊢
    refine gw_iconst C dX0_keep_44 ?_
    refine gw_iadd C dX0_keep_45 ?_
    refine gw_iconst C dX0_keep_46 ?_
    refine gw_imin C dX0_keep_47 kX0_33 (by omega) ⟨by decide, by decide⟩ (Nat.le_of_ble_eq_true rfl) (Nat.le_of_ble_eq_true rfl) (Nat.le_of_ble_eq_true rfl) (Nat.le_of_ble_eq_true rfl) ?_
    refine gw_putI (ci := 0) (Cn := RX0) (T0 := TX0) (N := 3) C (ty := .int) 0 kX0_30 fX0 rfl (by decide) rfl rfl tyX0 tyX0_ok nmX0 rfl (by decide) rfl rfl (by omega) dX0_keep_50 xs_46 xn_46 ?_
    exact gw_vret C (Nat.le_of_ble_eq_true rfl) (Nat.le_of_ble_eq_true rfl) dX0_keep_53 (⟨rfl, (by rw [show lNx (I 46 1) = 0 from by unfold lNx; rw [if_neg (by omega)]]; exact kp_of rfl hcp_36 (by (repeat' split) <;> omega)), rfl⟩)
