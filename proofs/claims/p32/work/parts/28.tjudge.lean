def tF0 (n ft : Int) : Int := if n = 0 then 5 else if ft ≠ 0 then 6 else 0
def gpF (I : GI) (r f l : Nat) : Int := centZ (bF (I f 7) (I (r + 1)) (I r 2).toNat + I r 4 + 648000 - I l 7)
def lyF (I : GI) (r f : Nat) : GI := layI (up I r 3 0) r (I f 7) (I f 3) (I f 4) (I r 2).toNat
def eaF (I : GI) (r f : Nat) : Int := pF 0 (I f 3) (I f 7) (I (r + 1)) (I (r + 2)) (I r 2).toNat
def noF (I : GI) (r f : Nat) : Int := pF 324000 (I f 4) (I f 7) (I (r + 1)) (I (r + 2)) (I r 2).toNat
def trJ0 (I : GI) (r f : Nat) : GI := if tF0 (I r 2) (I f 6) ≠ 0 then up I r 3 (tF0 (I r 2) (I f 6)) else lyF I r f
def t8F (I : GI) (r f l : Nat) (tol : Int) : Int := if tol * rootZ (I r 2 + 1) < ((gpF I r f l).natAbs : Int) then 8 else 0
def trJ1 (I : GI) (r f l : Nat) (tol : Int) : GI := if tF0 (I r 2) (I f 6) ≠ 0 then up I r 3 (tF0 (I r 2) (I f 6)) else if I l 6 ≠ 0 then up (lyF I r f) r 3 7 else
  up (up (up (up (lyF I r f) r 5 (gpF I r f l)) r 8 (eaF I r f - I l 3)) r 9 (noF I r f - I l 4)) r 3 (t8F I r f l tol)
theorem rtn_b {n : Int} (h : 0 ≤ n ∧ n ≤ 13) : 0 ≤ rootZ n ∧ rootZ n ≤ 3 := ⟨(rootZ_s h.1).1, rootZ_le h.1 (by decide) (by omega)⟩
set_option maxHeartbeats 4000000 in
set_option maxRecDepth 100000 in
theorem c_X5_judge_n {l : Launch} (hl0 : l.stackTraces = false) (G : GG) (I J : GI) {z : Nat} {r f : Nat} (hr : travQ r) (hq : joinQ f) (hT : tOk I r) (hf : f < r) (hs : I f 6 = 0 → 0 ≤ I f 7 ∧ I f 7 < 1296000) (he : -1000000 ≤ I f 3 ∧ I f 3 ≤ 1000000) (hn : -1000000 ≤ I f 4 ∧ I f 4 ≤ 1000000) (tol : Int) (htol : 1 ≤ tol ∧ tol ≤ 600) : GM l yX5_judge (.code yX5_judge cX5_judge 5 none) 3 72 0 0 G N0 SH RR [vR r, vR f, vN, vI tol] z I J (memQ none (trJ0 I r f) J) gNo := by
  refine gm_of (lo0 := [some (vR r), some (vR f), some (vN), some (vI tol), none]) hl0 (by decide) rfl (Nat.le_of_ble_eq_true rfl) ?_
  intro p e s m args below meth c C ht hgi
  have C : gC G p l s m args meth c cX5_judge 5 RX5 none "judge" := C
  have hfr : f ≠ r := by omega
  have h12 := hT.2.1.1
  refine gw_aload_n C 1 dX5_judge_0 rfl rfl ?_
  refine gw_ifnonnull C (tgt := 5) dX5_judge_1 (by decide) ?_
  refine gw_aload_n C 0 dX5_judge_5 rfl rfl ?_
  refine gw_aload_n C 0 dX5_judge_6 rfl rfl ?_
  refine gw_getI (ci := 4) (Cn := RX5) (T0 := TX5) (N := 15) C 2 kX5_37 fX5 rfl (by decide) rfl rfl dX5_judge_7 (tq_s hr) (tq_n hr) (fun hI_7 => ?_)
  refine gw_if_ne C (tgt := 17) dX5_judge_10 (by decide) hI_7 (fun h_10 => ?_) (fun h_10 => ?_)
  · skip
    refine gw_aload_n C 1 dX5_judge_17 rfl rfl ?_
    refine gw_getI (ci := 1) (Cn := RX1) (T0 := TX1) (N := 12) C 6 kX5_86 fX1 rfl (by decide) rfl rfl dX5_judge_18 (jq_s hq) (jq_n hq) (fun hI_18 => ?_)
    refine gw_if_eq C (tgt := 29) dX5_judge_21 (by decide) hI_18 (fun h_21 => ?_) (fun h_21 => ?_)
    · skip
      have h6 : I f 6 = 0 := (by omega)
      refine gw_iconst C dX5_judge_29 ?_
      refine gw_putI (ci := 4) (Cn := RX5) (T0 := TX5) (N := 15) C (ty := .int) 3 kX5_51 fX5 rfl (by decide) rfl rfl tyX5 tyX5_ok nmX5 rfl (by decide) rfl rfl ⟨by decide, by decide⟩ dX5_judge_30 (tq_s hr) (tq_n hr) ?_
      refine gw_aload_n C 0 dX5_judge_33 rfl rfl ?_
      refine gw_getI (ci := 4) (Cn := RX5) (T0 := TX5) (N := 15) C 3 kX5_51 fX5 rfl (by decide) rfl rfl dX5_judge_34 (tq_s hr) (tq_n hr) (fun hI_34 => ?_)
      rw [show ((up I r 3 0) r 3) = 0 from by simp [up, hfr]]
      refine gw_if_eq C (tgt := 41) dX5_judge_37 (by decide) ⟨by decide, by decide⟩ (fun _ => ?_) (fun h => absurd h (by decide))
      refine gw_aload_n C 0 dX5_judge_41 rfl rfl ?_
      refine gw_aload_n C 1 dX5_judge_42 rfl rfl ?_
      refine gw_callVm C (as := [vR f]) (st := []) (ci := 4) (T0 := TX5) (N := 15) (c_X5_layOut hl0 G (up I r 3 0) J hr hq hfr (tOk_c hT (by refine ⟨⟨?_, ?_⟩, ⟨?_, ?_⟩, fun k hk => ?_, fun k hk => ?_⟩ <;> simp [up])) (by rw [up_ne hfr]; exact hs h6) (by rw [up_ne hfr]; exact he) (by rw [up_ne hfr]; exact hn)) dX5_judge_43 kX5_89 qX5_layOut hdX5_layOut ⟨Nat.le_of_ble_eq_true rfl, Nat.le_of_ble_eq_true rfl⟩ ⟨Nat.le_of_ble_eq_true rfl, Nat.le_of_ble_eq_true rfl⟩ (Nat.le_of_ble_eq_true rfl) rfl (tq_s hr) (tq_n hr) rfl (fun z_43 => ?_)
      rw [show up I r 3 0 f = I f from up_ne hfr, show up I r 3 0 (r + 1) = I (r + 1) from up_ne (by omega), show up I r 3 0 r 2 = I r 2 from up_ne2 (by decide)]
      obtain ⟨K, hK⟩ : ∃ K, K = layI (up I r 3 0) r (I f 7) (I f 3) (I f 4) (I r 2).toNat := ⟨_, rfl⟩
      rw [← hK]
      have k6 : K r 6 = eaF I r f := by rw [hK, lay_6, show up I r 3 0 (r + 1) = I (r + 1) from up_ne (by omega), show up I r 3 0 (r + 2) = I (r + 2) from up_ne (by omega)]; rfl
      have k7 : K r 7 = noF I r f := by rw [hK, lay_7, show up I r 3 0 (r + 1) = I (r + 1) from up_ne (by omega), show up I r 3 0 (r + 2) = I (r + 2) from up_ne (by omega)]; rfl
      have kr : ∀ j, (j ≠ 6 ∧ j ≠ 7) ∧ j ≠ 3 → K r j = I r j := fun j hj => by rw [hK, lay_r hj.1, up_ne2 hj.2]
      have bb := bF_b (a := I (r + 1)) (hs h6) (I r 2).toNat
      have pe : -3400000 ≤ eaF I r f ∧ eaF I r f ≤ 3400000 := by have := pF_b (q := 0) (e0 := I f 3) (s0 := I f 7) (a := I (r + 1)) hT.2.2.2 (I r 2).toNat (by omega); unfold eaF; omega
      have pn : -3400000 ≤ noF I r f ∧ noF I r f ≤ 3400000 := by have := pF_b (q := 324000) (e0 := I f 4) (s0 := I f 7) (a := I (r + 1)) hT.2.2.2 (I r 2).toNat (by omega); unfold noF; omega
      refine gw_istore C (lo1 := [some (vR r), some (vR f), some (vN), some (vI tol), some (vI (bF (I f 7) (I (r + 1)) (I r 2).toNat))]) dX5_judge_46 (by decide) rfl ?_
      refine gw_aloadN_n C 2 dX5_judge_48 rfl rfl ?_
      refine gw_ifnonnullN C dX5_judge_49 ?_
      exact gw_vret C (Nat.le_of_ble_eq_true rfl) (Nat.le_of_ble_eq_true rfl) dX5_judge_52 (⟨rfl, (by have e : tF0 (I r 2) (I f 6) = 0 := (by unfold tF0; (repeat' split) <;> omega); unfold trJ0; rw [e, if_neg (by decide)]; unfold lyF; rw [← hK]), rfl⟩)
    · skip
      refine gw_bipush C dX5_judge_24 rfl ?_
      refine gw_goto C (tgt := 30) dX5_judge_26 (by decide) ?_
      refine gw_putI (ci := 4) (Cn := RX5) (T0 := TX5) (N := 15) C (ty := .int) 3 kX5_51 fX5 rfl (by decide) rfl rfl tyX5 tyX5_ok nmX5 rfl (by decide) rfl rfl ⟨by decide, by decide⟩ dX5_judge_30 (tq_s hr) (tq_n hr) ?_
      refine gw_aload_n C 0 dX5_judge_33 rfl rfl ?_
      refine gw_getI (ci := 4) (Cn := RX5) (T0 := TX5) (N := 15) C 3 kX5_51 fX5 rfl (by decide) rfl rfl dX5_judge_34 (tq_s hr) (tq_n hr) (fun hI_34_2 => ?_)
      rw [show ((up I r 3 6) r 3) = 6 from by simp [up, hfr]]
      refine gw_if_eq C (tgt := 41) dX5_judge_37 (by decide) ⟨by decide, by decide⟩ (fun h => absurd h (by decide)) (fun _ => ?_)
      exact gw_vret C (Nat.le_of_ble_eq_true rfl) (Nat.le_of_ble_eq_true rfl) dX5_judge_40 (⟨rfl, (by have e : tF0 (I r 2) (I f 6) = 6 := (by unfold tF0; (repeat' split) <;> omega); unfold trJ0; rw [e, if_pos (by decide)]), rfl⟩)
  · skip
    refine gw_iconst C dX5_judge_13 ?_
    refine gw_goto C (tgt := 30) dX5_judge_14 (by decide) ?_
    refine gw_putI (ci := 4) (Cn := RX5) (T0 := TX5) (N := 15) C (ty := .int) 3 kX5_51 fX5 rfl (by decide) rfl rfl tyX5 tyX5_ok nmX5 rfl (by decide) rfl rfl ⟨by decide, by decide⟩ dX5_judge_30 (tq_s hr) (tq_n hr) ?_
    refine gw_aload_n C 0 dX5_judge_33 rfl rfl ?_
    refine gw_getI (ci := 4) (Cn := RX5) (T0 := TX5) (N := 15) C 3 kX5_51 fX5 rfl (by decide) rfl rfl dX5_judge_34 (tq_s hr) (tq_n hr) (fun hI_34_3 => ?_)
    rw [show ((up I r 3 5) r 3) = 5 from by simp [up, hfr]]
    refine gw_if_eq C (tgt := 41) dX5_judge_37 (by decide) ⟨by decide, by decide⟩ (fun h => absurd h (by decide)) (fun _ => ?_)
    exact gw_vret C (Nat.le_of_ble_eq_true rfl) (Nat.le_of_ble_eq_true rfl) dX5_judge_40 (⟨rfl, (by have e : tF0 (I r 2) (I f 6) = 5 := (by unfold tF0; (repeat' split) <;> omega); unfold trJ0; rw [e, if_pos (by decide)]), rfl⟩)
set_option maxHeartbeats 4000000 in
set_option maxRecDepth 100000 in
theorem c_X5_judge_j {l : Launch} (hl0 : l.stackTraces = false) (G : GG) (I J : GI) {z : Nat} {r f g : Nat} (hr : travQ r) (hq : joinQ f) (hT : tOk I r) (hf : f < r) (hs : I f 6 = 0 → 0 ≤ I f 7 ∧ I f 7 < 1296000) (he : -1000000 ≤ I f 3 ∧ I f 3 ≤ 1000000) (hn : -1000000 ≤ I f 4 ∧ I f 4 ≤ 1000000) (hl : joinQ g) (hlt : g < r) (hs1 : I g 6 = 0 → 0 ≤ I g 7 ∧ I g 7 < 1296000) (he1 : -1000000 ≤ I g 3 ∧ I g 3 ≤ 1000000) (hn1 : -1000000 ≤ I g 4 ∧ I g 4 ≤ 1000000) (h4 : 0 ≤ I r 4 ∧ I r 4 ≤ 1295999) (tol : Int) (htol : 1 ≤ tol ∧ tol ≤ 600) : GM l yX5_judge (.code yX5_judge cX5_judge 5 none) 3 72 0 0 G N0 SH RR [vR r, vR f, vR g, vI tol] z I J (memQ none (trJ1 I r f g tol) J) gNo := by
  refine gm_of (lo0 := [some (vR r), some (vR f), some (vR g), some (vI tol), none]) hl0 (by decide) rfl (Nat.le_of_ble_eq_true rfl) ?_
  intro p e s m args below meth c C ht hgi
  have C : gC G p l s m args meth c cX5_judge 5 RX5 none "judge" := C
  have hfr : f ≠ r := by omega
  have hlr : g ≠ r := by omega
  have h12 := hT.2.1.1
  refine gw_aload_n C 1 dX5_judge_0 rfl rfl ?_
  refine gw_ifnonnull C (tgt := 5) dX5_judge_1 (by decide) ?_
  refine gw_aload_n C 0 dX5_judge_5 rfl rfl ?_
  refine gw_aload_n C 0 dX5_judge_6 rfl rfl ?_
  refine gw_getI (ci := 4) (Cn := RX5) (T0 := TX5) (N := 15) C 2 kX5_37 fX5 rfl (by decide) rfl rfl dX5_judge_7 (tq_s hr) (tq_n hr) (fun hI_7 => ?_)
  refine gw_if_ne C (tgt := 17) dX5_judge_10 (by decide) hI_7 (fun h_10 => ?_) (fun h_10 => ?_)
  · skip
    refine gw_aload_n C 1 dX5_judge_17 rfl rfl ?_
    refine gw_getI (ci := 1) (Cn := RX1) (T0 := TX1) (N := 12) C 6 kX5_86 fX1 rfl (by decide) rfl rfl dX5_judge_18 (jq_s hq) (jq_n hq) (fun hI_18 => ?_)
    refine gw_if_eq C (tgt := 29) dX5_judge_21 (by decide) hI_18 (fun h_21 => ?_) (fun h_21 => ?_)
    · skip
      have h6 : I f 6 = 0 := (by omega)
      refine gw_iconst C dX5_judge_29 ?_
      refine gw_putI (ci := 4) (Cn := RX5) (T0 := TX5) (N := 15) C (ty := .int) 3 kX5_51 fX5 rfl (by decide) rfl rfl tyX5 tyX5_ok nmX5 rfl (by decide) rfl rfl ⟨by decide, by decide⟩ dX5_judge_30 (tq_s hr) (tq_n hr) ?_
      refine gw_aload_n C 0 dX5_judge_33 rfl rfl ?_
      refine gw_getI (ci := 4) (Cn := RX5) (T0 := TX5) (N := 15) C 3 kX5_51 fX5 rfl (by decide) rfl rfl dX5_judge_34 (tq_s hr) (tq_n hr) (fun hI_34 => ?_)
      rw [show ((up I r 3 0) r 3) = 0 from by simp [up, hfr, hlr]]
      refine gw_if_eq C (tgt := 41) dX5_judge_37 (by decide) ⟨by decide, by decide⟩ (fun _ => ?_) (fun h => absurd h (by decide))
      refine gw_aload_n C 0 dX5_judge_41 rfl rfl ?_
      refine gw_aload_n C 1 dX5_judge_42 rfl rfl ?_
      refine gw_callVm C (as := [vR f]) (st := []) (ci := 4) (T0 := TX5) (N := 15) (c_X5_layOut hl0 G (up I r 3 0) J hr hq hfr (tOk_c hT (by refine ⟨⟨?_, ?_⟩, ⟨?_, ?_⟩, fun k hk => ?_, fun k hk => ?_⟩ <;> simp [up])) (by rw [up_ne hfr]; exact hs h6) (by rw [up_ne hfr]; exact he) (by rw [up_ne hfr]; exact hn)) dX5_judge_43 kX5_89 qX5_layOut hdX5_layOut ⟨Nat.le_of_ble_eq_true rfl, Nat.le_of_ble_eq_true rfl⟩ ⟨Nat.le_of_ble_eq_true rfl, Nat.le_of_ble_eq_true rfl⟩ (Nat.le_of_ble_eq_true rfl) rfl (tq_s hr) (tq_n hr) rfl (fun z_43 => ?_)
      rw [show up I r 3 0 f = I f from up_ne hfr, show up I r 3 0 (r + 1) = I (r + 1) from up_ne (by omega), show up I r 3 0 r 2 = I r 2 from up_ne2 (by decide)]
      obtain ⟨K, hK⟩ : ∃ K, K = layI (up I r 3 0) r (I f 7) (I f 3) (I f 4) (I r 2).toNat := ⟨_, rfl⟩
      rw [← hK]
      have k6 : K r 6 = eaF I r f := by rw [hK, lay_6, show up I r 3 0 (r + 1) = I (r + 1) from up_ne (by omega), show up I r 3 0 (r + 2) = I (r + 2) from up_ne (by omega)]; rfl
      have k7 : K r 7 = noF I r f := by rw [hK, lay_7, show up I r 3 0 (r + 1) = I (r + 1) from up_ne (by omega), show up I r 3 0 (r + 2) = I (r + 2) from up_ne (by omega)]; rfl
      have kr : ∀ j, (j ≠ 6 ∧ j ≠ 7) ∧ j ≠ 3 → K r j = I r j := fun j hj => by rw [hK, lay_r hj.1, up_ne2 hj.2]
      have kl : K g = I g := by rw [hK, lay_o (by omega), up_ne hlr]
      have bb := bF_b (a := I (r + 1)) (hs h6) (I r 2).toNat
      have pe : -3400000 ≤ eaF I r f ∧ eaF I r f ≤ 3400000 := by have := pF_b (q := 0) (e0 := I f 3) (s0 := I f 7) (a := I (r + 1)) hT.2.2.2 (I r 2).toNat (by omega); unfold eaF; omega
      have pn : -3400000 ≤ noF I r f ∧ noF I r f ≤ 3400000 := by have := pF_b (q := 324000) (e0 := I f 4) (s0 := I f 7) (a := I (r + 1)) hT.2.2.2 (I r 2).toNat (by omega); unfold noF; omega
      refine gw_istore C (lo1 := [some (vR r), some (vR f), some (vR g), some (vI tol), some (vI (bF (I f 7) (I (r + 1)) (I r 2).toNat))]) dX5_judge_46 (by decide) rfl ?_
      refine gw_aload_n C 2 dX5_judge_48 rfl rfl ?_
      refine gw_ifnonnull C (tgt := 53) dX5_judge_49 (by decide) ?_
      refine gw_aload_n C 2 dX5_judge_53 rfl rfl ?_
      refine gw_getI (ci := 1) (Cn := RX1) (T0 := TX1) (N := 12) C 6 kX5_86 fX1 rfl (by decide) rfl rfl dX5_judge_54 (jq_s hl) (jq_n hl) (fun hI_54 => ?_)
      rw [show (K g 6) = (I g 6) from by (repeat (first | rw [up_eq] | rw [up_ne2 (by decide)] | rw [up_ne (by omega)])); rw [kl]] at hI_54 ⊢
      refine gw_if_eq C (tgt := 67) dX5_judge_57 (by decide) hI_54 (fun h_57 => ?_) (fun h_57 => ?_)
      · skip
        refine gw_aload_n C 0 dX5_judge_67 rfl rfl ?_
        refine gw_iload C dX5_judge_68 rfl ?_
        refine gw_aload_n C 0 dX5_judge_70 rfl rfl ?_
        refine gw_getI (ci := 4) (Cn := RX5) (T0 := TX5) (N := 15) C 4 kX5_34 fX5 rfl (by decide) rfl rfl dX5_judge_71 (tq_s hr) (tq_n hr) (fun hI_71 => ?_)
        rw [show (K r 4) = (I r 4) from by (repeat (first | rw [up_eq] | rw [up_ne2 (by decide)] | rw [up_ne (by omega)])); exact kr 4 (by decide)] at hI_71 ⊢
        refine gw_iadd C dX5_judge_74 ?_
        refine gw_ldc C (x := 648000) dX5_judge_75 kX5_93 (by decide) ?_
        refine gw_iadd C dX5_judge_77 ?_
        refine gw_aload_n C 2 dX5_judge_78 rfl rfl ?_
        refine gw_getI (ci := 1) (Cn := RX1) (T0 := TX1) (N := 12) C 7 kX5_94 fX1 rfl (by decide) rfl rfl dX5_judge_79 (jq_s hl) (jq_n hl) (fun hI_79 => ?_)
        rw [show (K g 7) = (I g 7) from by (repeat (first | rw [up_eq] | rw [up_ne2 (by decide)] | rw [up_ne (by omega)])); rw [kl]] at hI_79 ⊢
        refine gw_isub C dX5_judge_82 ?_
        refine gw_callSm C (as := [vI ((((bF (I f 7) (I (r + 1)) (I r 2).toNat) + (I r 4)) + 648000) - (I g 7))]) (st := [vR r]) (c_X3_centre hl0 G ((((bF (I f 7) (I (r + 1)) (I r 2).toNat) + (I r 4)) + 648000) - (I g 7)) (by omega)) dX5_judge_83 kX5_97 qX3_centre hdX3_centre ⟨Nat.le_of_ble_eq_true rfl, Nat.le_of_ble_eq_true rfl⟩ ⟨Nat.le_of_ble_eq_true rfl, Nat.le_of_ble_eq_true rfl⟩ (Nat.le_of_ble_eq_true rfl) rfl (fun z_83 => ?_)
        have hr_83 := centZ_b ((((bF (I f 7) (I (r + 1)) (I r 2).toNat) + (I r 4)) + 648000) - (I g 7))
        rw [show (centZ ((((bF (I f 7) (I (r + 1)) (I r 2).toNat) + (I r 4)) + 648000) - (I g 7))) = gpF I r f g from rfl]
        have hgb := centZ_b (bF (I f 7) (I (r + 1)) (I r 2).toNat + I r 4 + 648000 - I g 7)
        rw [show centZ (bF (I f 7) (I (r + 1)) (I r 2).toNat + I r 4 + 648000 - I g 7) = gpF I r f g from rfl] at hgb
        refine gw_putI (ci := 4) (Cn := RX5) (T0 := TX5) (N := 15) C (ty := .int) 5 kX5_61 fX5 rfl (by decide) rfl rfl tyX5 tyX5_ok nmX5 rfl (by decide) rfl rfl (by omega) dX5_judge_86 (tq_s hr) (tq_n hr) ?_
        refine gw_aload_n C 0 dX5_judge_89 rfl rfl ?_
        refine gw_aload_n C 0 dX5_judge_90 rfl rfl ?_
        refine gw_getI (ci := 4) (Cn := RX5) (T0 := TX5) (N := 15) C 6 kX5_100 fX5 rfl (by decide) rfl rfl dX5_judge_91 (tq_s hr) (tq_n hr) (fun hI_91 => ?_)
        rw [show ((up K r 5 (gpF I r f g)) r 6) = (eaF I r f) from by (repeat (first | rw [up_eq] | rw [up_ne2 (by decide)] | rw [up_ne (by omega)])); exact k6]
        refine gw_aload_n C 2 dX5_judge_94 rfl rfl ?_
        refine gw_getI (ci := 1) (Cn := RX1) (T0 := TX1) (N := 12) C 3 kX5_103 fX1 rfl (by decide) rfl rfl dX5_judge_95 (jq_s hl) (jq_n hl) (fun hI_95 => ?_)
        rw [show ((up K r 5 (gpF I r f g)) g 3) = (I g 3) from by (repeat (first | rw [up_eq] | rw [up_ne2 (by decide)] | rw [up_ne (by omega)])); rw [kl]] at hI_95 ⊢
        refine gw_isub C dX5_judge_98 ?_
        refine gw_putI (ci := 4) (Cn := RX5) (T0 := TX5) (N := 15) C (ty := .int) 8 kX5_106 fX5 rfl (by decide) rfl rfl tyX5 tyX5_ok nmX5 rfl (by decide) rfl rfl (by omega) dX5_judge_99 (tq_s hr) (tq_n hr) ?_
        refine gw_aload_n C 0 dX5_judge_102 rfl rfl ?_
        refine gw_aload_n C 0 dX5_judge_103 rfl rfl ?_
        refine gw_getI (ci := 4) (Cn := RX5) (T0 := TX5) (N := 15) C 7 kX5_109 fX5 rfl (by decide) rfl rfl dX5_judge_104 (tq_s hr) (tq_n hr) (fun hI_104 => ?_)
        rw [show ((up (up K r 5 (gpF I r f g)) r 8 ((eaF I r f) - (I g 3))) r 7) = (noF I r f) from by (repeat (first | rw [up_eq] | rw [up_ne2 (by decide)] | rw [up_ne (by omega)])); exact k7]
        refine gw_aload_n C 2 dX5_judge_107 rfl rfl ?_
        refine gw_getI (ci := 1) (Cn := RX1) (T0 := TX1) (N := 12) C 4 kX5_112 fX1 rfl (by decide) rfl rfl dX5_judge_108 (jq_s hl) (jq_n hl) (fun hI_108 => ?_)
        rw [show ((up (up K r 5 (gpF I r f g)) r 8 ((eaF I r f) - (I g 3))) g 4) = (I g 4) from by (repeat (first | rw [up_eq] | rw [up_ne2 (by decide)] | rw [up_ne (by omega)])); rw [kl]] at hI_108 ⊢
        refine gw_isub C dX5_judge_111 ?_
        refine gw_putI (ci := 4) (Cn := RX5) (T0 := TX5) (N := 15) C (ty := .int) 9 kX5_115 fX5 rfl (by decide) rfl rfl tyX5 tyX5_ok nmX5 rfl (by decide) rfl rfl (by omega) dX5_judge_112 (tq_s hr) (tq_n hr) ?_
        refine gw_aload_n C 0 dX5_judge_115 rfl rfl ?_
        refine gw_aload_n C 0 dX5_judge_116 rfl rfl ?_
        refine gw_getI (ci := 4) (Cn := RX5) (T0 := TX5) (N := 15) C 5 kX5_61 fX5 rfl (by decide) rfl rfl dX5_judge_117 (tq_s hr) (tq_n hr) (fun hI_117 => ?_)
        rw [show ((up (up (up K r 5 (gpF I r f g)) r 8 ((eaF I r f) - (I g 3))) r 9 ((noF I r f) - (I g 4))) r 5) = (gpF I r f g) from by (repeat (first | rw [up_eq] | rw [up_ne2 (by decide)] | rw [up_ne (by omega)]))]
        refine gw_iabs C dX5_judge_120 kX5_74 (by omega) (by omega) (Nat.le_of_ble_eq_true rfl) (Nat.le_of_ble_eq_true rfl) (Nat.le_of_ble_eq_true rfl) (Nat.le_of_ble_eq_true rfl) ?_
        refine gw_iload_n C 3 dX5_judge_123 rfl rfl ?_
        refine gw_aload_n C 0 dX5_judge_124 rfl rfl ?_
        refine gw_getI (ci := 4) (Cn := RX5) (T0 := TX5) (N := 15) C 2 kX5_37 fX5 rfl (by decide) rfl rfl dX5_judge_125 (tq_s hr) (tq_n hr) (fun hI_125 => ?_)
        rw [show ((up (up (up K r 5 (gpF I r f g)) r 8 ((eaF I r f) - (I g 3))) r 9 ((noF I r f) - (I g 4))) r 2) = (I r 2) from by (repeat (first | rw [up_eq] | rw [up_ne2 (by decide)] | rw [up_ne (by omega)])); exact kr 2 (by decide)] at hI_125 ⊢
        refine gw_iconst C dX5_judge_128 ?_
        refine gw_iadd C dX5_judge_129 ?_
        refine gw_i2l C dX5_judge_130 (by omega) ?_
        refine gw_callSm C (as := [vL ((I r 2) + 1)]) (st := [vI tol, vI (((gpF I r f g)).natAbs : Int), vR r]) (c_X3_rootOf hl0 G ((I r 2) + 1) (by omega)) dX5_judge_131 kX5_118 qX3_rootOf hdX3_rootOf ⟨Nat.le_of_ble_eq_true rfl, Nat.le_of_ble_eq_true rfl⟩ ⟨Nat.le_of_ble_eq_true rfl, Nat.le_of_ble_eq_true rfl⟩ (Nat.le_of_ble_eq_true rfl) rfl (fun z_131 => ?_)
        have hrt := rtn_b (n := I r 2 + 1) (by omega)
        have hmt := mul_b (a := tol) (b := rootZ (I r 2 + 1)) (m := 600) (k := 3) (by omega) (by omega)
        refine gw_imul C dX5_judge_134 ?_
        refine gw_icmp_le C (tgt := 143) dX5_judge_135 (by decide) (by omega) (by omega) (fun h_135 => ?_) (fun h_135 => ?_)
        · skip
          refine gw_iconst C dX5_judge_143 ?_
          refine gw_putI (ci := 4) (Cn := RX5) (T0 := TX5) (N := 15) C (ty := .int) 3 kX5_51 fX5 rfl (by decide) rfl rfl tyX5 tyX5_ok nmX5 rfl (by decide) rfl rfl ⟨by decide, by decide⟩ dX5_judge_144 (tq_s hr) (tq_n hr) ?_
          exact gw_vret C (Nat.le_of_ble_eq_true rfl) (Nat.le_of_ble_eq_true rfl) dX5_judge_147 (⟨rfl, (by have e8 : t8F I r f g tol = 0 := (by unfold t8F; split <;> omega); have e : tF0 (I r 2) (I f 6) = 0 := (by unfold tF0; (repeat' split) <;> omega); unfold trJ1; rw [e, if_neg (by decide), if_neg (by omega)]; unfold lyF; rw [← hK]; rw [e8]), rfl⟩)
        · skip
          refine gw_bipush C dX5_judge_138 rfl ?_
          refine gw_goto C (tgt := 144) dX5_judge_140 (by decide) ?_
          refine gw_putI (ci := 4) (Cn := RX5) (T0 := TX5) (N := 15) C (ty := .int) 3 kX5_51 fX5 rfl (by decide) rfl rfl tyX5 tyX5_ok nmX5 rfl (by decide) rfl rfl ⟨by decide, by decide⟩ dX5_judge_144 (tq_s hr) (tq_n hr) ?_
          exact gw_vret C (Nat.le_of_ble_eq_true rfl) (Nat.le_of_ble_eq_true rfl) dX5_judge_147 (⟨rfl, (by have e8 : t8F I r f g tol = 8 := (by unfold t8F; split <;> omega); have e : tF0 (I r 2) (I f 6) = 0 := (by unfold tF0; (repeat' split) <;> omega); unfold trJ1; rw [e, if_neg (by decide), if_neg (by omega)]; unfold lyF; rw [← hK]; rw [e8]), rfl⟩)
      · skip
        refine gw_aload_n C 0 dX5_judge_60 rfl rfl ?_
        refine gw_bipush C dX5_judge_61 rfl ?_
        refine gw_putI (ci := 4) (Cn := RX5) (T0 := TX5) (N := 15) C (ty := .int) 3 kX5_51 fX5 rfl (by decide) rfl rfl tyX5 tyX5_ok nmX5 rfl (by decide) rfl rfl ⟨by decide, by decide⟩ dX5_judge_63 (tq_s hr) (tq_n hr) ?_
        exact gw_vret C (Nat.le_of_ble_eq_true rfl) (Nat.le_of_ble_eq_true rfl) dX5_judge_66 (⟨rfl, (by have e : tF0 (I r 2) (I f 6) = 0 := (by unfold tF0; (repeat' split) <;> omega); unfold trJ1; rw [e, if_neg (by decide), if_pos (by omega)]; unfold lyF; rw [← hK]), rfl⟩)
    · skip
      refine gw_bipush C dX5_judge_24 rfl ?_
      refine gw_goto C (tgt := 30) dX5_judge_26 (by decide) ?_
      refine gw_putI (ci := 4) (Cn := RX5) (T0 := TX5) (N := 15) C (ty := .int) 3 kX5_51 fX5 rfl (by decide) rfl rfl tyX5 tyX5_ok nmX5 rfl (by decide) rfl rfl ⟨by decide, by decide⟩ dX5_judge_30 (tq_s hr) (tq_n hr) ?_
      refine gw_aload_n C 0 dX5_judge_33 rfl rfl ?_
      refine gw_getI (ci := 4) (Cn := RX5) (T0 := TX5) (N := 15) C 3 kX5_51 fX5 rfl (by decide) rfl rfl dX5_judge_34 (tq_s hr) (tq_n hr) (fun hI_34_2 => ?_)
      rw [show ((up I r 3 6) r 3) = 6 from by simp [up, hfr, hlr]]
      refine gw_if_eq C (tgt := 41) dX5_judge_37 (by decide) ⟨by decide, by decide⟩ (fun h => absurd h (by decide)) (fun _ => ?_)
      exact gw_vret C (Nat.le_of_ble_eq_true rfl) (Nat.le_of_ble_eq_true rfl) dX5_judge_40 (⟨rfl, (by have e : tF0 (I r 2) (I f 6) = 6 := (by unfold tF0; (repeat' split) <;> omega); unfold trJ1; rw [e, if_pos (by decide)]), rfl⟩)
  · skip
    refine gw_iconst C dX5_judge_13 ?_
    refine gw_goto C (tgt := 30) dX5_judge_14 (by decide) ?_
    refine gw_putI (ci := 4) (Cn := RX5) (T0 := TX5) (N := 15) C (ty := .int) 3 kX5_51 fX5 rfl (by decide) rfl rfl tyX5 tyX5_ok nmX5 rfl (by decide) rfl rfl ⟨by decide, by decide⟩ dX5_judge_30 (tq_s hr) (tq_n hr) ?_
    refine gw_aload_n C 0 dX5_judge_33 rfl rfl ?_
    refine gw_getI (ci := 4) (Cn := RX5) (T0 := TX5) (N := 15) C 3 kX5_51 fX5 rfl (by decide) rfl rfl dX5_judge_34 (tq_s hr) (tq_n hr) (fun hI_34_3 => ?_)
    rw [show ((up I r 3 5) r 3) = 5 from by simp [up, hfr, hlr]]
    refine gw_if_eq C (tgt := 41) dX5_judge_37 (by decide) ⟨by decide, by decide⟩ (fun h => absurd h (by decide)) (fun _ => ?_)
    exact gw_vret C (Nat.le_of_ble_eq_true rfl) (Nat.le_of_ble_eq_true rfl) dX5_judge_40 (⟨rfl, (by have e : tF0 (I r 2) (I f 6) = 5 := (by unfold tF0; (repeat' split) <;> omega); unfold trJ1; rw [e, if_pos (by decide)]), rfl⟩)
