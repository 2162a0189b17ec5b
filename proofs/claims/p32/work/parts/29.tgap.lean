def rkF (l : Nat → Int) (k : Nat) : Nat → Int
  | 0 => 0
  | i + 1 => rkF l k i + (if l k < l i ∨ (l i = l k ∧ i < k) then 1 else 0)
theorem rkF_s {l : Nat → Int} {k i : Nat} : rkF l k (i + 1) = rkF l k i + (if l k < l i ∨ (l i = l k ∧ i < k) then 1 else 0) := rfl
theorem rkF_b {l : Nat → Int} {k : Nat} : ∀ i : Nat, 0 ≤ rkF l k i ∧ rkF l k i ≤ (i : Int) := by
  intro i
  induction i with
  | zero => rw [rkF]; omega
  | succ i ih => rw [rkF_s]; split <;> omega
theorem rkF_c {l l' : Nat → Int} {k : Nat} : ∀ i : Nat, l k = l' k → (∀ j, j < i → l j = l' j) → rkF l k i = rkF l' k i := by
  intro i
  induction i with
  | zero => intro _ _; rfl
  | succ i ih => intro h g; rw [rkF_s, rkF_s, ih h (fun j hj => g j (by omega)), h, g i (by omega)]
def moF (k d : Int) : Int := if k < (d.natAbs : Int) then (if d < 0 then -1 else 1) else 0
def gapI (I : GI) (r : Nat) (sh lf : Int) : Nat → GI
  | 0 => I
  | i + 1 => up (gapI I r sh lf i) (r + 1) i (normZ (I (r + 1) i - sh - moF (rkF (I (r + 2)) i (I r 2).toNat) lf))
theorem gapI_s {I : GI} {r : Nat} {sh lf : Int} {i : Nat} : gapI I r sh lf (i + 1) = up (gapI I r sh lf i) (r + 1) i (normZ (I (r + 1) i - sh - moF (rkF (I (r + 2)) i (I r 2).toNat) lf)) := rfl
theorem gap_o {I : GI} {r : Nat} {sh lf : Int} {q : Nat} (h : q ≠ r + 1) : ∀ i : Nat, gapI I r sh lf i q = I q := by
  intro i
  induction i with
  | zero => rfl
  | succ i ih => rw [gapI_s, up_ne h, ih]
theorem gap_hi {I : GI} {r : Nat} {sh lf : Int} {k : Nat} : ∀ i : Nat, i ≤ k → gapI I r sh lf i (r + 1) k = I (r + 1) k := by
  intro i
  induction i with
  | zero => intro _; rfl
  | succ i ih => intro h; rw [gapI_s, up_ne2 (by omega), ih (by omega)]
theorem gap_lo {I : GI} {r : Nat} {sh lf : Int} {k : Nat} : ∀ i : Nat, k < i → gapI I r sh lf i (r + 1) k = normZ (I (r + 1) k - sh - moF (rkF (I (r + 2)) k (I r 2).toNat) lf) := by
  intro i
  induction i with
  | zero => intro h; omega
  | succ i ih =>
    intro h
    rw [gapI_s]
    by_cases e : k = i
    · subst e; rw [up_eq]
    · rw [up_ne2 e, ih (by omega)]
theorem lf_b (g : Int) {c : Int} (hc : 0 < c) : -c < g - c * g.tdiv c ∧ g - c * g.tdiv c < c := by
  rcases tdiv_c g hc with ⟨_, e⟩ | ⟨_, e⟩
  · rw [e]
    have h1 := Int.emod_nonneg g (show c ≠ 0 by omega)
    have h2 := Int.emod_lt_of_pos g hc
    have h3 := Int.emod_def g c
    omega
  · rw [e, Int.mul_neg]
    have h1 := Int.emod_nonneg (-g) (show c ≠ 0 by omega)
    have h2 := Int.emod_lt_of_pos (-g) hc
    have h3 := Int.emod_def (-g) c
    omega
def shF (I : GI) (r : Nat) : Int := (I r 5).tdiv (I r 2 + 1)
def lfF (I : GI) (r : Nat) : Int := I r 5 - (I r 2 + 1) * shF I r
def tkI (I : GI) (r : Nat) : GI := up (gapI I r (shF I r) (lfF I r) (I r 2).toNat) r 4 (normZ (I r 4 - shF I r))
set_option maxHeartbeats 4000000 in
set_option maxRecDepth 100000 in
theorem c_X5_legsBefore {l : Launch} (hl0 : l.stackTraces = false) (G : GG) (I J : GI) {z : Nat} {r : Nat} (hr : travQ r) (k : Nat) (h2 : 0 ≤ I r 2 ∧ I r 2 ≤ 12) (hk : (k : Int) < I r 2) : GM l yX5_legsBefore (.code yX5_legsBefore cX5_legsBefore 4 (some .int)) 1 21 0 0 G N0 SH RR [vR r, vI (k : Int)] z I J (memQ (some (vI (rkF (I (r + 2)) k (I r 2).toNat))) I J) gNo := by
  refine gm_of (lo0 := [some (vR r), some (vI (k : Int)), none, none]) hl0 (by decide) rfl (Nat.le_of_ble_eq_true rfl) ?_
  intro p e s m args below meth c C ht hgi
  have C : gC G p l s m args meth c cX5_legsBefore 4 RX5 (some .int) "legsBefore" := C
  obtain ⟨n, hnn⟩ : ∃ n : Nat, I r 2 = (n : Int) := ⟨(I r 2).toNat, by omega⟩
  have hn1 : (I r 2).toNat = n := by omega
  refine gw_aload_n C 0 dX5_legsBefore_0 rfl rfl ?_
  refine gw_iload_n C 1 dX5_legsBefore_1 rfl rfl ?_
  refine gw_callVb C (as := [vI (k : Int)]) (st := []) (ci := 4) (T0 := TX5) (N := 15) (c_X5_hasLeg hl0 G I J hr (k : Int) (by omega)) dX5_legsBefore_2 kX5_82 qX5_hasLeg hdX5_hasLeg ⟨Nat.le_of_ble_eq_true rfl, Nat.le_of_ble_eq_true rfl⟩ ⟨Nat.le_of_ble_eq_true rfl, Nat.le_of_ble_eq_true rfl⟩ (Nat.le_of_ble_eq_true rfl) rfl (tq_s hr) (tq_n hr) rfl (fun h_2 z_2 => ?_) (fun h_2 z_2 => ?_)
  · skip
    refine gw_if_ne C (tgt := 10) dX5_legsBefore_5 (by decide) ⟨by decide, by decide⟩ (fun _ => ?_) (fun h => absurd h (by decide))
    refine gw_iconst C dX5_legsBefore_10 ?_
    refine gw_istore_n C (lo1 := [some (vR r), some (vI (k : Int)), some (vI 0), none]) 2 dX5_legsBefore_11 rfl (by decide) rfl ?_
    refine gw_iconst C dX5_legsBefore_12 ?_
    refine gw_istore_n C (lo1 := [some (vR r), some (vI (k : Int)), some (vI 0), some (vI 0)]) 3 dX5_legsBefore_13 rfl (by decide) rfl ?_
    have loop_14 : ∀ (fuel : Nat) (u : Int) (i : Nat) (z1 : Nat), (i ≤ n) → (u = rkF (I (r + 2)) k i) → n - i < fuel → GW G p l e ({ frames := 1, cells := 0, slots := 0, locals := 21 } : Room) s m args below meth c 4 z1 N0 SH RR I J 0 0 (vx_MQ below (GQ G N0 SH RR (memQ (some (vI (rkF (I (r + 2)) k (I r 2).toNat))) I J)) (GX G N0 SH RR gNo) args s 0 0 (ge G)) 14 [some (vR r), some (vI (k : Int)), some (vI u), some (vI (i : Int))] [] := by
      intro fuel
      induction fuel with
      | zero => intro u i z1 hi hu hf_14; exact absurd hf_14 (Nat.not_lt_zero _)
      | succ fuel ih_14 =>
        intro u i z1 hi hu hf_14
        have hub := rkF_b (l := I (r + 2)) (k := k) i
        refine gw_iload_n C 3 dX5_legsBefore_14 rfl rfl ?_
        refine gw_aload_n C 0 dX5_legsBefore_15 rfl rfl ?_
        refine gw_getI (ci := 4) (Cn := RX5) (T0 := TX5) (N := 15) C 2 kX5_37 fX5 rfl (by decide) rfl rfl dX5_legsBefore_16 (tq_s hr) (tq_n hr) (fun hI_16 => ?_)
        refine gw_icmp_ge C (tgt := 72) dX5_legsBefore_19 (by decide) (by omega) hI_16 (fun h_19 => ?_) (fun h_19 => ?_)
        · skip
          refine gw_iload_n C 2 dX5_legsBefore_72 rfl rfl ?_
          exact gw_iret C (Nat.le_of_ble_eq_true rfl) (Nat.le_of_ble_eq_true rfl) dX5_legsBefore_73 (⟨congrArg (fun q => some (vI q)) (by rw [hu, hn1, show i = n by omega]), rfl, rfl⟩)
        · skip
          refine gw_iload_n C 3 dX5_legsBefore_22 rfl rfl ?_
          refine gw_bipush C dX5_legsBefore_23 rfl ?_
          refine gw_icmp_ge C (tgt := 72) dX5_legsBefore_25 (by decide) (by omega) ⟨by decide, by decide⟩ (fun h => absurd h (by omega)) (fun _ => ?_)
          refine gw_aload_n C 0 dX5_legsBefore_28 rfl rfl ?_
          refine gw_getRs (ci := 4) (Cn := RX5) (T0 := TX5) (N := 15) C (r + 2) 11 kX5_15 fX5 rfl (by decide) rfl rfl dX5_legsBefore_29 (tq_s hr) (tq_n hr) (tq_R2 hr) ?_
          refine gw_iload_n C 3 dX5_legsBefore_32 rfl rfl ?_
          refine gw_iald C i dX5_legsBefore_33 (tq_s2 hr) (tq_n2 hr) (by omega) (by omega) (by decide) (fun hI_33 => ?_)
          refine gw_aload_n C 0 dX5_legsBefore_34 rfl rfl ?_
          refine gw_getRs (ci := 4) (Cn := RX5) (T0 := TX5) (N := 15) C (r + 2) 11 kX5_15 fX5 rfl (by decide) rfl rfl dX5_legsBefore_35 (tq_s hr) (tq_n hr) (tq_R2 hr) ?_
          refine gw_iload_n C 1 dX5_legsBefore_38 rfl rfl ?_
          refine gw_iald C k dX5_legsBefore_39 (tq_s2 hr) (tq_n2 hr) (by omega) (by omega) (by decide) (fun hI_39 => ?_)
          refine gw_icmp_gt C (tgt := 63) dX5_legsBefore_40 (by decide) hI_33 hI_39 (fun h_40 => ?_) (fun h_40 => ?_)
          · skip
            refine gw_iinc C (lo1 := [some (vR r), some (vI (k : Int)), some (vI (u + 1)), some (vI (i : Int))]) dX5_legsBefore_63 rfl (by decide) rfl ?_
            refine gw_iinc C (lo1 := [some (vR r), some (vI (k : Int)), some (vI (u + 1)), some (vI ((i : Int) + 1))]) dX5_legsBefore_66 rfl (by decide) rfl ?_
            refine gw_goto C (tgt := 14) dX5_legsBefore_69 (by decide) ?_
            exact gw_weak (lo' := [some (vR r), some (vI (k : Int)), some (vI (u + 1)), some (vI (((i + 1) : Nat) : Int))]) ⟨rfl, rfl, rfl, congrArg (fun q => some (vI q)) (by omega), trivial⟩ (ih_14 (u + 1) (i + 1) z1 (by omega) (by first | (rw [rkF_s, if_pos (by omega), ← hu]; done) | (rw [rkF_s, if_neg (by omega), ← hu, Int.add_zero]; done)) (by omega))
          · skip
            refine gw_aload_n C 0 dX5_legsBefore_43 rfl rfl ?_
            refine gw_getRs (ci := 4) (Cn := RX5) (T0 := TX5) (N := 15) C (r + 2) 11 kX5_15 fX5 rfl (by decide) rfl rfl dX5_legsBefore_44 (tq_s hr) (tq_n hr) (tq_R2 hr) ?_
            refine gw_iload_n C 3 dX5_legsBefore_47 rfl rfl ?_
            refine gw_iald C i dX5_legsBefore_48 (tq_s2 hr) (tq_n2 hr) (by omega) (by omega) (by decide) (fun hI_48 => ?_)
            refine gw_aload_n C 0 dX5_legsBefore_49 rfl rfl ?_
            refine gw_getRs (ci := 4) (Cn := RX5) (T0 := TX5) (N := 15) C (r + 2) 11 kX5_15 fX5 rfl (by decide) rfl rfl dX5_legsBefore_50 (tq_s hr) (tq_n hr) (tq_R2 hr) ?_
            refine gw_iload_n C 1 dX5_legsBefore_53 rfl rfl ?_
            refine gw_iald C k dX5_legsBefore_54 (tq_s2 hr) (tq_n2 hr) (by omega) (by omega) (by decide) (fun hI_54 => ?_)
            refine gw_icmp_ne C (tgt := 66) dX5_legsBefore_55 (by decide) hI_48 hI_54 (fun h_55 => ?_) (fun h_55 => ?_)
            · skip
              refine gw_iinc C (lo1 := [some (vR r), some (vI (k : Int)), some (vI u), some (vI ((i : Int) + 1))]) dX5_legsBefore_66 rfl (by decide) rfl ?_
              refine gw_goto C (tgt := 14) dX5_legsBefore_69 (by decide) ?_
              exact gw_weak (lo' := [some (vR r), some (vI (k : Int)), some (vI u), some (vI (((i + 1) : Nat) : Int))]) ⟨rfl, rfl, rfl, congrArg (fun q => some (vI q)) (by omega), trivial⟩ (ih_14 u (i + 1) z1 (by omega) (by first | (rw [rkF_s, if_pos (by omega), ← hu]; done) | (rw [rkF_s, if_neg (by omega), ← hu, Int.add_zero]; done)) (by omega))
            · skip
              refine gw_iload_n C 3 dX5_legsBefore_58 rfl rfl ?_
              refine gw_iload_n C 1 dX5_legsBefore_59 rfl rfl ?_
              refine gw_icmp_ge C (tgt := 66) dX5_legsBefore_60 (by decide) (by omega) (by omega) (fun h_60 => ?_) (fun h_60 => ?_)
              · skip
                refine gw_iinc C (lo1 := [some (vR r), some (vI (k : Int)), some (vI u), some (vI ((i : Int) + 1))]) dX5_legsBefore_66 rfl (by decide) rfl ?_
                refine gw_goto C (tgt := 14) dX5_legsBefore_69 (by decide) ?_
                exact gw_weak (lo' := [some (vR r), some (vI (k : Int)), some (vI u), some (vI (((i + 1) : Nat) : Int))]) ⟨rfl, rfl, rfl, congrArg (fun q => some (vI q)) (by omega), trivial⟩ (ih_14 u (i + 1) z1 (by omega) (by first | (rw [rkF_s, if_pos (by omega), ← hu]; done) | (rw [rkF_s, if_neg (by omega), ← hu, Int.add_zero]; done)) (by omega))
              · skip
                refine gw_iinc C (lo1 := [some (vR r), some (vI (k : Int)), some (vI (u + 1)), some (vI (i : Int))]) dX5_legsBefore_63 rfl (by decide) rfl ?_
                refine gw_iinc C (lo1 := [some (vR r), some (vI (k : Int)), some (vI (u + 1)), some (vI ((i : Int) + 1))]) dX5_legsBefore_66 rfl (by decide) rfl ?_
                refine gw_goto C (tgt := 14) dX5_legsBefore_69 (by decide) ?_
                exact gw_weak (lo' := [some (vR r), some (vI (k : Int)), some (vI (u + 1)), some (vI (((i + 1) : Nat) : Int))]) ⟨rfl, rfl, rfl, congrArg (fun q => some (vI q)) (by omega), trivial⟩ (ih_14 (u + 1) (i + 1) z1 (by omega) (by first | (rw [rkF_s, if_pos (by omega), ← hu]; done) | (rw [rkF_s, if_neg (by omega), ← hu, Int.add_zero]; done)) (by omega))
    exact gw_weak (lo' := [some (vR r), some (vI (k : Int)), some (vI 0), some (vI (0 : Int))]) ⟨rfl, rfl, rfl, congrArg (fun q => some (vI q)) (by omega), trivial⟩ (loop_14 _ 0 0 z_2 (by omega) (by rfl) (Nat.lt_succ_self _))
  · exact absurd True.intro (by omega)
set_option maxHeartbeats 4000000 in
set_option maxRecDepth 100000 in
theorem c_X5_takeGapAway {l : Launch} (hl0 : l.stackTraces = false) (G : GG) (I J : GI) {z : Nat} {r : Nat} (hr : travQ r) (hT : tOk I r) (hg : -648000 ≤ I r 5 ∧ I r 5 < 648000) (h4 : 0 ≤ I r 4 ∧ I r 4 ≤ 1295999) : GM l yX5_takeGapAway (.code yX5_takeGapAway cX5_takeGapAway 7 (some .int)) 2 44 0 0 G N0 SH RR [vR r] z I J (memQ (some (vI (I r 5))) (tkI I r) J) gNo := by
  refine gm_of (lo0 := [some (vR r), none, none, none, none, none, none]) hl0 (by decide) rfl (Nat.le_of_ble_eq_true rfl) ?_
  intro p e s m args below meth c C ht hgi
  have C : gC G p l s m args meth c cX5_takeGapAway 7 RX5 (some .int) "takeGapAway" := C
  have h2 := hT.2.1.1
  obtain ⟨n, hnn⟩ : ∃ n : Nat, I r 2 = (n : Int) := ⟨(I r 2).toNat, by omega⟩
  have hn1 : (I r 2).toNat = n := by omega
  refine gw_aload_n C 0 dX5_takeGapAway_0 rfl rfl ?_
  refine gw_getI (ci := 4) (Cn := RX5) (T0 := TX5) (N := 15) C 5 kX5_61 fX5 rfl (by decide) rfl rfl dX5_takeGapAway_1 (tq_s hr) (tq_n hr) (fun hI_1 => ?_)
  refine gw_istore_n C (lo1 := [some (vR r), some (vI (I r 5)), none, none, none, none, none]) 1 dX5_takeGapAway_4 rfl (by decide) rfl ?_
  refine gw_iload_n C 1 dX5_takeGapAway_5 rfl rfl ?_
  refine gw_i2l C dX5_takeGapAway_6 hI_1 ?_
  refine gw_aload_n C 0 dX5_takeGapAway_7 rfl rfl ?_
  refine gw_getI (ci := 4) (Cn := RX5) (T0 := TX5) (N := 15) C 2 kX5_37 fX5 rfl (by decide) rfl rfl dX5_takeGapAway_8 (tq_s hr) (tq_n hr) (fun hI_8 => ?_)
  refine gw_iconst C dX5_takeGapAway_11 ?_
  refine gw_iadd C dX5_takeGapAway_12 ?_
  refine gw_i2l C dX5_takeGapAway_13 (by omega) ?_
  refine gw_callSm C (as := [vL (I r 5), vL ((I r 2) + 1)]) (st := []) (c_X3_quotient hl0 G (I r 5) ((I r 2) + 1) (by omega) (by omega) (by omega)) dX5_takeGapAway_14 kX5_64 qX3_quotient hdX3_quotient ⟨Nat.le_of_ble_eq_true rfl, Nat.le_of_ble_eq_true rfl⟩ ⟨Nat.le_of_ble_eq_true rfl, Nat.le_of_ble_eq_true rfl⟩ (Nat.le_of_ble_eq_true rfl) rfl (fun z_14 => ?_)
  refine gw_istore_n C (lo1 := [some (vR r), some (vI (I r 5)), some (vI ((I r 5).tdiv ((I r 2) + 1))), none, none, none, none]) 2 dX5_takeGapAway_17 rfl (by decide) rfl ?_
  rw [show (I r 5).tdiv (I r 2 + 1) = shF I r from rfl]
  have hsb := tdiv_b (I r 5) (c := I r 2 + 1) (by omega)
  rw [show (I r 5).tdiv (I r 2 + 1) = shF I r from rfl] at hsb
  refine gw_iload_n C 1 dX5_takeGapAway_18 rfl rfl ?_
  refine gw_aload_n C 0 dX5_takeGapAway_19 rfl rfl ?_
  refine gw_getI (ci := 4) (Cn := RX5) (T0 := TX5) (N := 15) C 2 kX5_37 fX5 rfl (by decide) rfl rfl dX5_takeGapAway_20 (tq_s hr) (tq_n hr) (fun hI_20 => ?_)
  refine gw_iconst C dX5_takeGapAway_23 ?_
  refine gw_iadd C dX5_takeGapAway_24 ?_
  refine gw_iload_n C 2 dX5_takeGapAway_25 rfl rfl ?_
  refine gw_imul C dX5_takeGapAway_26 ?_
  refine gw_isub C dX5_takeGapAway_27 ?_
  refine gw_istore_n C (lo1 := [some (vR r), some (vI (I r 5)), some (vI (shF I r)), some (vI ((I r 5) - (((I r 2) + 1) * (shF I r)))), none, none, none]) 3 dX5_takeGapAway_28 rfl (by decide) rfl ?_
  rw [show ((I r 5) - (((I r 2) + 1) * (shF I r))) = lfF I r from rfl]
  have hlb := lf_b (I r 5) (c := I r 2 + 1) (by omega)
  rw [show I r 5 - (I r 2 + 1) * (I r 5).tdiv (I r 2 + 1) = lfF I r from rfl] at hlb
  refine gw_iload_n C 3 dX5_takeGapAway_29 rfl rfl ?_
  refine gw_if_ge C (tgt := 37) dX5_takeGapAway_30 (by decide) (by omega) (fun h_30 => ?_) (fun h_30 => ?_)
  · skip
    refine gw_iconst C dX5_takeGapAway_37 ?_
    refine gw_istore C (lo1 := [some (vR r), some (vI (I r 5)), some (vI (shF I r)), some (vI (lfF I r)), some (vI 1), none, none]) dX5_takeGapAway_38 (by decide) rfl ?_
    refine gw_iconst C dX5_takeGapAway_40 ?_
    refine gw_istore C (lo1 := [some (vR r), some (vI (I r 5)), some (vI (shF I r)), some (vI (lfF I r)), some (vI 1), some (vI 0), none]) dX5_takeGapAway_41 (by decide) rfl ?_
    have loop_43 : ∀ (fuel : Nat) (i : Nat) (K : GI) (z1 : Nat), (i ≤ n) → (K = gapI I r (shF I r) (lfF I r) i) → n - i < fuel → GW G p l e ({ frames := 2, cells := 0, slots := 0, locals := 44 } : Room) s m args below meth c 7 z1 N0 SH RR K J 0 0 (vx_MQ below (GQ G N0 SH RR (memQ (some (vI (I r 5))) (tkI I r) J)) (GX G N0 SH RR gNo) args s 0 0 (ge G)) 43 [some (vR r), some (vI (I r 5)), some (vI (shF I r)), some (vI (lfF I r)), some (vI 1), some (vI (i : Int)), none] [] := by
      intro fuel
      induction fuel with
      | zero => intro i K z1 hi hK hf_43; exact absurd hf_43 (Nat.not_lt_zero _)
      | succ fuel ih_43 =>
        intro i K z1 hi hK hf_43
        have kr : K r = I r := by rw [hK, gap_o (by omega)]
        refine gw_iload C dX5_takeGapAway_43 rfl ?_
        refine gw_aload_n C 0 dX5_takeGapAway_45 rfl rfl ?_
        refine gw_getI (ci := 4) (Cn := RX5) (T0 := TX5) (N := 15) C 2 kX5_37 fX5 rfl (by decide) rfl rfl dX5_takeGapAway_46 (tq_s hr) (tq_n hr) (fun hI_46 => ?_)
        rw [show (K r 2) = (I r 2) from by rw [kr]] at hI_46 ⊢
        refine gw_icmp_ge C (tgt := 108) dX5_takeGapAway_49 (by decide) (by omega) hI_46 (fun h_49 => ?_) (fun h_49 => ?_)
        · skip
          refine gw_aload_n C 0 dX5_takeGapAway_108 rfl rfl ?_
          refine gw_aload_n C 0 dX5_takeGapAway_109 rfl rfl ?_
          refine gw_getI (ci := 4) (Cn := RX5) (T0 := TX5) (N := 15) C 4 kX5_34 fX5 rfl (by decide) rfl rfl dX5_takeGapAway_110 (tq_s hr) (tq_n hr) (fun hI_110 => ?_)
          rw [show (K r 4) = (I r 4) from by rw [kr]] at hI_110 ⊢
          refine gw_iload_n C 2 dX5_takeGapAway_113 rfl rfl ?_
          refine gw_isub C dX5_takeGapAway_114 ?_
          refine gw_callSm C (as := [vI ((I r 4) - (shF I r))]) (st := [vR r]) (c_X3_norm hl0 G ((I r 4) - (shF I r)) (by omega)) dX5_takeGapAway_115 kX5_79 qX3_norm hdX3_norm ⟨Nat.le_of_ble_eq_true rfl, Nat.le_of_ble_eq_true rfl⟩ ⟨Nat.le_of_ble_eq_true rfl, Nat.le_of_ble_eq_true rfl⟩ (Nat.le_of_ble_eq_true rfl) rfl (fun z_115 => ?_)
          have hr_115 := normZ_b ((I r 4) - (shF I r))
          refine gw_putI (ci := 4) (Cn := RX5) (T0 := TX5) (N := 15) C (ty := .int) 4 kX5_34 fX5 rfl (by decide) rfl rfl tyX5 tyX5_ok nmX5 rfl (by decide) rfl rfl (by omega) dX5_takeGapAway_118 (tq_s hr) (tq_n hr) ?_
          refine gw_iload_n C 1 dX5_takeGapAway_121 rfl rfl ?_
          exact gw_iret C (Nat.le_of_ble_eq_true rfl) (Nat.le_of_ble_eq_true rfl) dX5_takeGapAway_122 (⟨rfl, (by unfold tkI; rw [hK, hn1, show i = n by omega]), rfl⟩)
        · skip
          refine gw_iload C dX5_takeGapAway_52 rfl ?_
          refine gw_bipush C dX5_takeGapAway_54 rfl ?_
          refine gw_icmp_ge C (tgt := 108) dX5_takeGapAway_56 (by decide) (by omega) ⟨by decide, by decide⟩ (fun h => absurd h (by omega)) (fun _ => ?_)
          refine gw_aload_n C 0 dX5_takeGapAway_59 rfl rfl ?_
          refine gw_iload C dX5_takeGapAway_60 rfl ?_
          refine gw_callVm C (as := [vI (i : Int)]) (st := []) (ci := 4) (T0 := TX5) (N := 15) (c_X5_legsBefore hl0 G K J hr i (by rw [kr]; omega) (by rw [kr]; omega)) dX5_takeGapAway_62 kX5_70 qX5_legsBefore hdX5_legsBefore ⟨Nat.le_of_ble_eq_true rfl, Nat.le_of_ble_eq_true rfl⟩ ⟨Nat.le_of_ble_eq_true rfl, Nat.le_of_ble_eq_true rfl⟩ (Nat.le_of_ble_eq_true rfl) rfl (tq_s hr) (tq_n hr) rfl (fun z_62 => ?_)
          rw [show K (r + 2) = I (r + 2) from by rw [hK, gap_o (by omega)], show K r 2 = I r 2 from by rw [kr]]
          have hrk := rkF_b (l := I (r + 2)) (k := i) (I r 2).toNat
          refine gw_iload_n C 3 dX5_takeGapAway_65 rfl rfl ?_
          refine gw_iabs C dX5_takeGapAway_66 kX5_74 (by omega) (by omega) (Nat.le_of_ble_eq_true rfl) (Nat.le_of_ble_eq_true rfl) (Nat.le_of_ble_eq_true rfl) (Nat.le_of_ble_eq_true rfl) ?_
          refine gw_icmp_ge C (tgt := 77) dX5_takeGapAway_69 (by decide) (by omega) (by omega) (fun h_69 => ?_) (fun h_69 => ?_)
          · skip
            refine gw_iconst C dX5_takeGapAway_77 ?_
            refine gw_istore C (lo1 := [some (vR r), some (vI (I r 5)), some (vI (shF I r)), some (vI (lfF I r)), some (vI 1), some (vI (i : Int)), some (vI 0)]) dX5_takeGapAway_78 (by decide) rfl ?_
            refine gw_aload_n C 0 dX5_takeGapAway_80 rfl rfl ?_
            refine gw_getRs (ci := 4) (Cn := RX5) (T0 := TX5) (N := 15) C (r + 1) 10 kX5_9 fX5 rfl (by decide) rfl rfl dX5_takeGapAway_81 (tq_s hr) (tq_n hr) (tq_R1 hr) ?_
            refine gw_iload C dX5_takeGapAway_84 rfl ?_
            refine gw_aload_n C 0 dX5_takeGapAway_86 rfl rfl ?_
            refine gw_getRs (ci := 4) (Cn := RX5) (T0 := TX5) (N := 15) C (r + 1) 10 kX5_9 fX5 rfl (by decide) rfl rfl dX5_takeGapAway_87 (tq_s hr) (tq_n hr) (tq_R1 hr) ?_
            refine gw_iload C dX5_takeGapAway_90 rfl ?_
            refine gw_iald C i dX5_takeGapAway_92 (tq_s1 hr) (tq_n1 hr) (by omega) (by omega) (by decide) (fun hI_92 => ?_)
            rw [show (K (r + 1) i) = (I (r + 1) i) from by rw [hK, gap_hi _ (Nat.le_refl _)]] at hI_92 ⊢; have ha_92 := hT.2.2.1 i (by omega)
            refine gw_iload_n C 2 dX5_takeGapAway_93 rfl rfl ?_
            refine gw_isub C dX5_takeGapAway_94 ?_
            refine gw_iload C dX5_takeGapAway_95 rfl ?_
            refine gw_isub C dX5_takeGapAway_97 ?_
            refine gw_callSm C (as := [vI (((I (r + 1) i) - (shF I r)) - 0)]) (st := [vI (i : Int), vR (r + 1)]) (c_X3_norm hl0 G (((I (r + 1) i) - (shF I r)) - 0) (by omega)) dX5_takeGapAway_98 kX5_79 qX3_norm hdX3_norm ⟨Nat.le_of_ble_eq_true rfl, Nat.le_of_ble_eq_true rfl⟩ ⟨Nat.le_of_ble_eq_true rfl, Nat.le_of_ble_eq_true rfl⟩ (Nat.le_of_ble_eq_true rfl) rfl (fun z_98 => ?_)
            have hr_98 := normZ_b (((I (r + 1) i) - (shF I r)) - 0)
            refine gw_iast C i dX5_takeGapAway_101 (tq_s1 hr) (tq_n1 hr) (by omega) (by omega) (by decide) (by omega) ?_
            refine gw_iinc C (lo1 := [some (vR r), some (vI (I r 5)), some (vI (shF I r)), some (vI (lfF I r)), some (vI 1), some (vI ((i : Int) + 1)), some (vI 0)]) dX5_takeGapAway_102 rfl (by decide) rfl ?_
            refine gw_goto C (tgt := 43) dX5_takeGapAway_105 (by decide) ?_
            exact gw_weak (lo' := [some (vR r), some (vI (I r 5)), some (vI (shF I r)), some (vI (lfF I r)), some (vI 1), some (vI (((i + 1) : Nat) : Int)), none]) ⟨rfl, rfl, rfl, rfl, rfl, congrArg (fun q => some (vI q)) (by omega), trivial⟩ (ih_43 (i + 1) (up K (r + 1) i (normZ (((I (r + 1) i) - (shF I r)) - 0))) z_98 (by omega) (by rw [gapI_s, ← hK, show moF (rkF (I (r + 2)) i (I r 2).toNat) (lfF I r) = 0 from by unfold moF; (repeat' split) <;> omega]) (by omega))
          · skip
            refine gw_iload C dX5_takeGapAway_72 rfl ?_
            refine gw_goto C (tgt := 78) dX5_takeGapAway_74 (by decide) ?_
            refine gw_istore C (lo1 := [some (vR r), some (vI (I r 5)), some (vI (shF I r)), some (vI (lfF I r)), some (vI 1), some (vI (i : Int)), some (vI 1)]) dX5_takeGapAway_78 (by decide) rfl ?_
            refine gw_aload_n C 0 dX5_takeGapAway_80 rfl rfl ?_
            refine gw_getRs (ci := 4) (Cn := RX5) (T0 := TX5) (N := 15) C (r + 1) 10 kX5_9 fX5 rfl (by decide) rfl rfl dX5_takeGapAway_81 (tq_s hr) (tq_n hr) (tq_R1 hr) ?_
            refine gw_iload C dX5_takeGapAway_84 rfl ?_
            refine gw_aload_n C 0 dX5_takeGapAway_86 rfl rfl ?_
            refine gw_getRs (ci := 4) (Cn := RX5) (T0 := TX5) (N := 15) C (r + 1) 10 kX5_9 fX5 rfl (by decide) rfl rfl dX5_takeGapAway_87 (tq_s hr) (tq_n hr) (tq_R1 hr) ?_
            refine gw_iload C dX5_takeGapAway_90 rfl ?_
            refine gw_iald C i dX5_takeGapAway_92 (tq_s1 hr) (tq_n1 hr) (by omega) (by omega) (by decide) (fun hI_92_2 => ?_)
            rw [show (K (r + 1) i) = (I (r + 1) i) from by rw [hK, gap_hi _ (Nat.le_refl _)]] at hI_92_2 ⊢; have ha_92 := hT.2.2.1 i (by omega)
            refine gw_iload_n C 2 dX5_takeGapAway_93 rfl rfl ?_
            refine gw_isub C dX5_takeGapAway_94 ?_
            refine gw_iload C dX5_takeGapAway_95 rfl ?_
            refine gw_isub C dX5_takeGapAway_97 ?_
            refine gw_callSm C (as := [vI (((I (r + 1) i) - (shF I r)) - 1)]) (st := [vI (i : Int), vR (r + 1)]) (c_X3_norm hl0 G (((I (r + 1) i) - (shF I r)) - 1) (by omega)) dX5_takeGapAway_98 kX5_79 qX3_norm hdX3_norm ⟨Nat.le_of_ble_eq_true rfl, Nat.le_of_ble_eq_true rfl⟩ ⟨Nat.le_of_ble_eq_true rfl, Nat.le_of_ble_eq_true rfl⟩ (Nat.le_of_ble_eq_true rfl) rfl (fun z_98_2 => ?_)
            have hr_98_2 := normZ_b (((I (r + 1) i) - (shF I r)) - 1)
            refine gw_iast C i dX5_takeGapAway_101 (tq_s1 hr) (tq_n1 hr) (by omega) (by omega) (by decide) (by omega) ?_
            refine gw_iinc C (lo1 := [some (vR r), some (vI (I r 5)), some (vI (shF I r)), some (vI (lfF I r)), some (vI 1), some (vI ((i : Int) + 1)), some (vI 1)]) dX5_takeGapAway_102 rfl (by decide) rfl ?_
            refine gw_goto C (tgt := 43) dX5_takeGapAway_105 (by decide) ?_
            exact gw_weak (lo' := [some (vR r), some (vI (I r 5)), some (vI (shF I r)), some (vI (lfF I r)), some (vI 1), some (vI (((i + 1) : Nat) : Int)), none]) ⟨rfl, rfl, rfl, rfl, rfl, congrArg (fun q => some (vI q)) (by omega), trivial⟩ (ih_43 (i + 1) (up K (r + 1) i (normZ (((I (r + 1) i) - (shF I r)) - 1))) z_98_2 (by omega) (by rw [gapI_s, ← hK, show moF (rkF (I (r + 2)) i (I r 2).toNat) (lfF I r) = 1 from by unfold moF; (repeat' split) <;> omega]) (by omega))
    exact gw_weak (lo' := [some (vR r), some (vI (I r 5)), some (vI (shF I r)), some (vI (lfF I r)), some (vI 1), some (vI (0 : Int)), none]) ⟨rfl, rfl, rfl, rfl, rfl, congrArg (fun q => some (vI q)) (by omega), trivial⟩ (loop_43 _ 0 I z_14 (by omega) (by rfl) (Nat.lt_succ_self _))
  · skip
    refine gw_iconst C dX5_takeGapAway_33 ?_
    refine gw_goto C (tgt := 38) dX5_takeGapAway_34 (by decide) ?_
    refine gw_istore C (lo1 := [some (vR r), some (vI (I r 5)), some (vI (shF I r)), some (vI (lfF I r)), some (vI (-1)), none, none]) dX5_takeGapAway_38 (by decide) rfl ?_
    refine gw_iconst C dX5_takeGapAway_40 ?_
    refine gw_istore C (lo1 := [some (vR r), some (vI (I r 5)), some (vI (shF I r)), some (vI (lfF I r)), some (vI (-1)), some (vI 0), none]) dX5_takeGapAway_41 (by decide) rfl ?_
    have loop_43 : ∀ (fuel : Nat) (i : Nat) (K : GI) (z1 : Nat), (i ≤ n) → (K = gapI I r (shF I r) (lfF I r) i) → n - i < fuel → GW G p l e ({ frames := 2, cells := 0, slots := 0, locals := 44 } : Room) s m args below meth c 7 z1 N0 SH RR K J 0 0 (vx_MQ below (GQ G N0 SH RR (memQ (some (vI (I r 5))) (tkI I r) J)) (GX G N0 SH RR gNo) args s 0 0 (ge G)) 43 [some (vR r), some (vI (I r 5)), some (vI (shF I r)), some (vI (lfF I r)), some (vI (-1)), some (vI (i : Int)), none] [] := by
      intro fuel
      induction fuel with
      | zero => intro i K z1 hi hK hf_43; exact absurd hf_43 (Nat.not_lt_zero _)
      | succ fuel ih_43 =>
        intro i K z1 hi hK hf_43
        have kr : K r = I r := by rw [hK, gap_o (by omega)]
        refine gw_iload C dX5_takeGapAway_43 rfl ?_
        refine gw_aload_n C 0 dX5_takeGapAway_45 rfl rfl ?_
        refine gw_getI (ci := 4) (Cn := RX5) (T0 := TX5) (N := 15) C 2 kX5_37 fX5 rfl (by decide) rfl rfl dX5_takeGapAway_46 (tq_s hr) (tq_n hr) (fun hI_46_2 => ?_)
        rw [show (K r 2) = (I r 2) from by rw [kr]] at hI_46_2 ⊢
        refine gw_icmp_ge C (tgt := 108) dX5_takeGapAway_49 (by decide) (by omega) hI_46_2 (fun h_49_2 => ?_) (fun h_49_2 => ?_)
        · skip
          refine gw_aload_n C 0 dX5_takeGapAway_108 rfl rfl ?_
          refine gw_aload_n C 0 dX5_takeGapAway_109 rfl rfl ?_
          refine gw_getI (ci := 4) (Cn := RX5) (T0 := TX5) (N := 15) C 4 kX5_34 fX5 rfl (by decide) rfl rfl dX5_takeGapAway_110 (tq_s hr) (tq_n hr) (fun hI_110_2 => ?_)
          rw [show (K r 4) = (I r 4) from by rw [kr]] at hI_110_2 ⊢
          refine gw_iload_n C 2 dX5_takeGapAway_113 rfl rfl ?_
          refine gw_isub C dX5_takeGapAway_114 ?_
          refine gw_callSm C (as := [vI ((I r 4) - (shF I r))]) (st := [vR r]) (c_X3_norm hl0 G ((I r 4) - (shF I r)) (by omega)) dX5_takeGapAway_115 kX5_79 qX3_norm hdX3_norm ⟨Nat.le_of_ble_eq_true rfl, Nat.le_of_ble_eq_true rfl⟩ ⟨Nat.le_of_ble_eq_true rfl, Nat.le_of_ble_eq_true rfl⟩ (Nat.le_of_ble_eq_true rfl) rfl (fun z_115_2 => ?_)
          have hr_115_2 := normZ_b ((I r 4) - (shF I r))
          refine gw_putI (ci := 4) (Cn := RX5) (T0 := TX5) (N := 15) C (ty := .int) 4 kX5_34 fX5 rfl (by decide) rfl rfl tyX5 tyX5_ok nmX5 rfl (by decide) rfl rfl (by omega) dX5_takeGapAway_118 (tq_s hr) (tq_n hr) ?_
          refine gw_iload_n C 1 dX5_takeGapAway_121 rfl rfl ?_
          exact gw_iret C (Nat.le_of_ble_eq_true rfl) (Nat.le_of_ble_eq_true rfl) dX5_takeGapAway_122 (⟨rfl, (by unfold tkI; rw [hK, hn1, show i = n by omega]), rfl⟩)
        · skip
          refine gw_iload C dX5_takeGapAway_52 rfl ?_
          refine gw_bipush C dX5_takeGapAway_54 rfl ?_
          refine gw_icmp_ge C (tgt := 108) dX5_takeGapAway_56 (by decide) (by omega) ⟨by decide, by decide⟩ (fun h => absurd h (by omega)) (fun _ => ?_)
          refine gw_aload_n C 0 dX5_takeGapAway_59 rfl rfl ?_
          refine gw_iload C dX5_takeGapAway_60 rfl ?_
          refine gw_callVm C (as := [vI (i : Int)]) (st := []) (ci := 4) (T0 := TX5) (N := 15) (c_X5_legsBefore hl0 G K J hr i (by rw [kr]; omega) (by rw [kr]; omega)) dX5_takeGapAway_62 kX5_70 qX5_legsBefore hdX5_legsBefore ⟨Nat.le_of_ble_eq_true rfl, Nat.le_of_ble_eq_true rfl⟩ ⟨Nat.le_of_ble_eq_true rfl, Nat.le_of_ble_eq_true rfl⟩ (Nat.le_of_ble_eq_true rfl) rfl (tq_s hr) (tq_n hr) rfl (fun z_62_2 => ?_)
          rw [show K (r + 2) = I (r + 2) from by rw [hK, gap_o (by omega)], show K r 2 = I r 2 from by rw [kr]]
          have hrk := rkF_b (l := I (r + 2)) (k := i) (I r 2).toNat
          refine gw_iload_n C 3 dX5_takeGapAway_65 rfl rfl ?_
          refine gw_iabs C dX5_takeGapAway_66 kX5_74 (by omega) (by omega) (Nat.le_of_ble_eq_true rfl) (Nat.le_of_ble_eq_true rfl) (Nat.le_of_ble_eq_true rfl) (Nat.le_of_ble_eq_true rfl) ?_
          refine gw_icmp_ge C (tgt := 77) dX5_takeGapAway_69 (by decide) (by omega) (by omega) (fun h_69_2 => ?_) (fun h_69_2 => ?_)
          · skip
            refine gw_iconst C dX5_takeGapAway_77 ?_
            refine gw_istore C (lo1 := [some (vR r), some (vI (I r 5)), some (vI (shF I r)), some (vI (lfF I r)), some (vI (-1)), some (vI (i : Int)), some (vI 0)]) dX5_takeGapAway_78 (by decide) rfl ?_
            refine gw_aload_n C 0 dX5_takeGapAway_80 rfl rfl ?_
            refine gw_getRs (ci := 4) (Cn := RX5) (T0 := TX5) (N := 15) C (r + 1) 10 kX5_9 fX5 rfl (by decide) rfl rfl dX5_takeGapAway_81 (tq_s hr) (tq_n hr) (tq_R1 hr) ?_
            refine gw_iload C dX5_takeGapAway_84 rfl ?_
            refine gw_aload_n C 0 dX5_takeGapAway_86 rfl rfl ?_
            refine gw_getRs (ci := 4) (Cn := RX5) (T0 := TX5) (N := 15) C (r + 1) 10 kX5_9 fX5 rfl (by decide) rfl rfl dX5_takeGapAway_87 (tq_s hr) (tq_n hr) (tq_R1 hr) ?_
            refine gw_iload C dX5_takeGapAway_90 rfl ?_
            refine gw_iald C i dX5_takeGapAway_92 (tq_s1 hr) (tq_n1 hr) (by omega) (by omega) (by decide) (fun hI_92_3 => ?_)
            rw [show (K (r + 1) i) = (I (r + 1) i) from by rw [hK, gap_hi _ (Nat.le_refl _)]] at hI_92_3 ⊢; have ha_92 := hT.2.2.1 i (by omega)
            refine gw_iload_n C 2 dX5_takeGapAway_93 rfl rfl ?_
            refine gw_isub C dX5_takeGapAway_94 ?_
            refine gw_iload C dX5_takeGapAway_95 rfl ?_
            refine gw_isub C dX5_takeGapAway_97 ?_
            refine gw_callSm C (as := [vI (((I (r + 1) i) - (shF I r)) - 0)]) (st := [vI (i : Int), vR (r + 1)]) (c_X3_norm hl0 G (((I (r + 1) i) - (shF I r)) - 0) (by omega)) dX5_takeGapAway_98 kX5_79 qX3_norm hdX3_norm ⟨Nat.le_of_ble_eq_true rfl, Nat.le_of_ble_eq_true rfl⟩ ⟨Nat.le_of_ble_eq_true rfl, Nat.le_of_ble_eq_true rfl⟩ (Nat.le_of_ble_eq_true rfl) rfl (fun z_98_3 => ?_)
            have hr_98_3 := normZ_b (((I (r + 1) i) - (shF I r)) - 0)
            refine gw_iast C i dX5_takeGapAway_101 (tq_s1 hr) (tq_n1 hr) (by omega) (by omega) (by decide) (by omega) ?_
            refine gw_iinc C (lo1 := [some (vR r), some (vI (I r 5)), some (vI (shF I r)), some (vI (lfF I r)), some (vI (-1)), some (vI ((i : Int) + 1)), some (vI 0)]) dX5_takeGapAway_102 rfl (by decide) rfl ?_
            refine gw_goto C (tgt := 43) dX5_takeGapAway_105 (by decide) ?_
            exact gw_weak (lo' := [some (vR r), some (vI (I r 5)), some (vI (shF I r)), some (vI (lfF I r)), some (vI (-1)), some (vI (((i + 1) : Nat) : Int)), none]) ⟨rfl, rfl, rfl, rfl, rfl, congrArg (fun q => some (vI q)) (by omega), trivial⟩ (ih_43 (i + 1) (up K (r + 1) i (normZ (((I (r + 1) i) - (shF I r)) - 0))) z_98_3 (by omega) (by rw [gapI_s, ← hK, show moF (rkF (I (r + 2)) i (I r 2).toNat) (lfF I r) = 0 from by unfold moF; (repeat' split) <;> omega]) (by omega))
          · skip
            refine gw_iload C dX5_takeGapAway_72 rfl ?_
            refine gw_goto C (tgt := 78) dX5_takeGapAway_74 (by decide) ?_
            refine gw_istore C (lo1 := [some (vR r), some (vI (I r 5)), some (vI (shF I r)), some (vI (lfF I r)), some (vI (-1)), some (vI (i : Int)), some (vI (-1))]) dX5_takeGapAway_78 (by decide) rfl ?_
            refine gw_aload_n C 0 dX5_takeGapAway_80 rfl rfl ?_
            refine gw_getRs (ci := 4) (Cn := RX5) (T0 := TX5) (N := 15) C (r + 1) 10 kX5_9 fX5 rfl (by decide) rfl rfl dX5_takeGapAway_81 (tq_s hr) (tq_n hr) (tq_R1 hr) ?_
            refine gw_iload C dX5_takeGapAway_84 rfl ?_
            refine gw_aload_n C 0 dX5_takeGapAway_86 rfl rfl ?_
            refine gw_getRs (ci := 4) (Cn := RX5) (T0 := TX5) (N := 15) C (r + 1) 10 kX5_9 fX5 rfl (by decide) rfl rfl dX5_takeGapAway_87 (tq_s hr) (tq_n hr) (tq_R1 hr) ?_
            refine gw_iload C dX5_takeGapAway_90 rfl ?_
            refine gw_iald C i dX5_takeGapAway_92 (tq_s1 hr) (tq_n1 hr) (by omega) (by omega) (by decide) (fun hI_92_4 => ?_)
            rw [show (K (r + 1) i) = (I (r + 1) i) from by rw [hK, gap_hi _ (Nat.le_refl _)]] at hI_92_4 ⊢; have ha_92 := hT.2.2.1 i (by omega)
            refine gw_iload_n C 2 dX5_takeGapAway_93 rfl rfl ?_
            refine gw_isub C dX5_takeGapAway_94 ?_
            refine gw_iload C dX5_takeGapAway_95 rfl ?_
            refine gw_isub C dX5_takeGapAway_97 ?_
            refine gw_callSm C (as := [vI (((I (r + 1) i) - (shF I r)) - (-1))]) (st := [vI (i : Int), vR (r + 1)]) (c_X3_norm hl0 G (((I (r + 1) i) - (shF I r)) - (-1)) (by omega)) dX5_takeGapAway_98 kX5_79 qX3_norm hdX3_norm ⟨Nat.le_of_ble_eq_true rfl, Nat.le_of_ble_eq_true rfl⟩ ⟨Nat.le_of_ble_eq_true rfl, Nat.le_of_ble_eq_true rfl⟩ (Nat.le_of_ble_eq_true rfl) rfl (fun z_98_4 => ?_)
            have hr_98_4 := normZ_b (((I (r + 1) i) - (shF I r)) - (-1))
            refine gw_iast C i dX5_takeGapAway_101 (tq_s1 hr) (tq_n1 hr) (by omega) (by omega) (by decide) (by omega) ?_
            refine gw_iinc C (lo1 := [some (vR r), some (vI (I r 5)), some (vI (shF I r)), some (vI (lfF I r)), some (vI (-1)), some (vI ((i : Int) + 1)), some (vI (-1))]) dX5_takeGapAway_102 rfl (by decide) rfl ?_
            refine gw_goto C (tgt := 43) dX5_takeGapAway_105 (by decide) ?_
            exact gw_weak (lo' := [some (vR r), some (vI (I r 5)), some (vI (shF I r)), some (vI (lfF I r)), some (vI (-1)), some (vI (((i + 1) : Nat) : Int)), none]) ⟨rfl, rfl, rfl, rfl, rfl, congrArg (fun q => some (vI q)) (by omega), trivial⟩ (ih_43 (i + 1) (up K (r + 1) i (normZ (((I (r + 1) i) - (shF I r)) - (-1)))) z_98_4 (by omega) (by rw [gapI_s, ← hK, show moF (rkF (I (r + 2)) i (I r 2).toNat) (lfF I r) = (-1) from by unfold moF; (repeat' split) <;> omega]) (by omega))
    exact gw_weak (lo' := [some (vR r), some (vI (I r 5)), some (vI (shF I r)), some (vI (lfF I r)), some (vI (-1)), some (vI (0 : Int)), none]) ⟨rfl, rfl, rfl, rfl, rfl, congrArg (fun q => some (vI q)) (by omega), trivial⟩ (loop_43 _ 0 I z_14 (by omega) (by rfl) (Nat.lt_succ_self _))
set_option maxHeartbeats 4000000 in
set_option maxRecDepth 100000 in
theorem c_X5_sumOfLengths {l : Launch} (hl0 : l.stackTraces = false) (G : GG) (I J : GI) {z : Nat} {r : Nat} (hr : travQ r) (hT : tOk I r) : GM l yX5_sumOfLengths (.code yX5_sumOfLengths cX5_sumOfLengths 3 (some .int)) 0 0 0 0 G N0 SH RR [vR r] z I J (memQ (some (vI (smF (I r 2).toNat (I (r + 2))))) I J) gNo := by
  refine gm_of (lo0 := [some (vR r), none, none]) hl0 (by decide) rfl (Nat.le_of_ble_eq_true rfl) ?_
  intro p e s m args below meth c C ht hgi
  have C : gC G p l s m args meth c cX5_sumOfLengths 3 RX5 (some .int) "sumOfLengths" := C
  have h2 := hT.2.1.1
  obtain ⟨n, hnn⟩ : ∃ n : Nat, I r 2 = (n : Int) := ⟨(I r 2).toNat, by omega⟩
  have hn1 : (I r 2).toNat = n := by omega
  refine gw_iconst C dX5_sumOfLengths_0 ?_
  refine gw_istore_n C (lo1 := [some (vR r), some (vI 0), none]) 1 dX5_sumOfLengths_1 rfl (by decide) rfl ?_
  refine gw_iconst C dX5_sumOfLengths_2 ?_
  refine gw_istore_n C (lo1 := [some (vR r), some (vI 0), some (vI 0)]) 2 dX5_sumOfLengths_3 rfl (by decide) rfl ?_
  have loop_4 : ∀ (fuel : Nat) (u : Int) (i : Nat), (i ≤ n) → (u = smF i (I (r + 2))) → n - i < fuel → GW G p l e ({ frames := 0, cells := 0, slots := 0, locals := 0 } : Room) s m args below meth c 3 z N0 SH RR I J 0 0 (vx_MQ below (GQ G N0 SH RR (memQ (some (vI (smF (I r 2).toNat (I (r + 2))))) I J)) (GX G N0 SH RR gNo) args s 0 0 (ge G)) 4 [some (vR r), some (vI u), some (vI (i : Int))] [] := by
    intro fuel
    induction fuel with
    | zero => intro u i hi hu hf_4; exact absurd hf_4 (Nat.not_lt_zero _)
    | succ fuel ih_4 =>
      intro u i hi hu hf_4
      have hsb := smF_b (M := 200000) hT.2.2.2 i (by omega)
      refine gw_iload_n C 2 dX5_sumOfLengths_4 rfl rfl ?_
      refine gw_aload_n C 0 dX5_sumOfLengths_5 rfl rfl ?_
      refine gw_getI (ci := 4) (Cn := RX5) (T0 := TX5) (N := 15) C 2 kX5_37 fX5 rfl (by decide) rfl rfl dX5_sumOfLengths_6 (tq_s hr) (tq_n hr) (fun hI_6 => ?_)
      refine gw_icmp_ge C (tgt := 33) dX5_sumOfLengths_9 (by decide) (by omega) hI_6 (fun h_9 => ?_) (fun h_9 => ?_)
      · skip
        refine gw_iload_n C 1 dX5_sumOfLengths_33 rfl rfl ?_
        exact gw_iret C (Nat.le_of_ble_eq_true rfl) (Nat.le_of_ble_eq_true rfl) dX5_sumOfLengths_34 (⟨congrArg (fun q => some (vI q)) (by rw [hu, hn1, show i = n by omega]), rfl, rfl⟩)
      · skip
        refine gw_iload_n C 2 dX5_sumOfLengths_12 rfl rfl ?_
        refine gw_bipush C dX5_sumOfLengths_13 rfl ?_
        refine gw_icmp_ge C (tgt := 33) dX5_sumOfLengths_15 (by decide) (by omega) ⟨by decide, by decide⟩ (fun h => absurd h (by omega)) (fun _ => ?_)
        refine gw_iload_n C 1 dX5_sumOfLengths_18 rfl rfl ?_
        refine gw_aload_n C 0 dX5_sumOfLengths_19 rfl rfl ?_
        refine gw_getRs (ci := 4) (Cn := RX5) (T0 := TX5) (N := 15) C (r + 2) 11 kX5_15 fX5 rfl (by decide) rfl rfl dX5_sumOfLengths_20 (tq_s hr) (tq_n hr) (tq_R2 hr) ?_
        refine gw_iload_n C 2 dX5_sumOfLengths_23 rfl rfl ?_
        refine gw_iald C i dX5_sumOfLengths_24 (tq_s2 hr) (tq_n2 hr) (by omega) (by omega) (by decide) (fun hI_24 => ?_)
        refine gw_iadd C dX5_sumOfLengths_25 ?_
        refine gw_istore_n C (lo1 := [some (vR r), some (vI (u + (I (r + 2) i))), some (vI (i : Int))]) 1 dX5_sumOfLengths_26 rfl (by decide) rfl ?_
        refine gw_iinc C (lo1 := [some (vR r), some (vI (u + (I (r + 2) i))), some (vI ((i : Int) + 1))]) dX5_sumOfLengths_27 rfl (by decide) rfl ?_
        refine gw_goto C (tgt := 4) dX5_sumOfLengths_30 (by decide) ?_
        exact gw_weak (lo' := [some (vR r), some (vI (u + (I (r + 2) i))), some (vI (((i + 1) : Nat) : Int))]) ⟨rfl, rfl, congrArg (fun q => some (vI q)) (by omega), trivial⟩ (ih_4 (u + (I (r + 2) i)) (i + 1) (by omega) (by rw [smF_s, hu]) (by omega))
  exact gw_weak (lo' := [some (vR r), some (vI 0), some (vI (0 : Int))]) ⟨rfl, rfl, congrArg (fun q => some (vI q)) (by omega), trivial⟩ (loop_4 _ 0 0 (by omega) (by rfl) (Nat.lt_succ_self _))
abbrev gpd (I : GI) (r : Nat) : Prop := I r 1 ≠ -2000000000 ∧ (I r 3 ≠ 5 ∧ I r 3 ≠ 6) ∧ I r 3 ≠ 7
def msd (I : GI) (r : Nat) : Prop := (-10000000 ≤ I r 8 ∧ I r 8 ≤ 10000000) ∧ (-10000000 ≤ I r 9 ∧ I r 9 ≤ 10000000)
theorem sq_nn (x : Int) : 0 ≤ x * x := by
  rcases Int.le_total 0 x with h | h
  · exact Int.mul_nonneg h h
  · rw [← Int.neg_mul_neg]; exact Int.mul_nonneg (by omega) (by omega)
theorem sq2_b {x y : Int} (hx : -10000000 ≤ x ∧ x ≤ 10000000) (hy : -10000000 ≤ y ∧ y ≤ 10000000) : (0 ≤ x * x + y * y ∧ x * x + y * y < 4611686018427387904) ∧ x * x + y * y < 10000000000000000 := by
  have a := mul_b hx hx
  have b := mul_b hy hy
  have c := sq_nn x
  have d := sq_nn y
  omega
set_option maxHeartbeats 4000000 in
set_option maxRecDepth 100000 in
theorem c_X5_numberOfClosing {l : Launch} (hl0 : l.stackTraces = false) (G : GG) (I J : GI) {z : Nat} {r : Nat} (hr : travQ r) (hm : msd I r) (w : Int) (hw : 5 ≤ w ∧ w ≤ 9 ∧ w ≠ 6) : GM l yX5_numberOfClosing (.code yX5_numberOfClosing cX5_numberOfClosing 2 (some .int)) 2 49 0 0 G N0 SH RR [vR r, vI w] z I J (memQ (some (vI (if w = 5 then I r 5 else if w = 7 then I r 8 else if w = 8 then I r 9 else rootZ (I r 8 * I r 8 + I r 9 * I r 9)))) I J) gNo := by
  refine gm_of (lo0 := [some (vR r), some (vI w)]) hl0 (by decide) rfl (Nat.le_of_ble_eq_true rfl) ?_
  intro p e s m args below meth c C ht hgi
  have C : gC G p l s m args meth c cX5_numberOfClosing 2 RX5 (some .int) "numberOfClosing" := C
  have hsq := sq2_b hm.1 hm.2
  refine gw_iload_n C 1 dX5_numberOfClosing_0 rfl rfl ?_
  rcases (show w = 5 ∨ w = 7 ∨ w = 8 ∨ (w < 5 ∨ 8 < w) from by omega) with h_1 | h_1 | h_1 | h_1
  · skip
    refine gw_tableIn C (tgt := 32) (off := 31) dX5_numberOfClosing_1 (by omega) (by omega) (by omega) (by rw [h_1]; rfl) (by decide) ?_
    refine gw_aload_n C 0 dX5_numberOfClosing_32 rfl rfl ?_
    refine gw_getI (ci := 4) (Cn := RX5) (T0 := TX5) (N := 15) C 5 kX5_61 fX5 rfl (by decide) rfl rfl dX5_numberOfClosing_33 (tq_s hr) (tq_n hr) (fun hI_33 => ?_)
    exact gw_iret C (Nat.le_of_ble_eq_true rfl) (Nat.le_of_ble_eq_true rfl) dX5_numberOfClosing_36 (⟨congrArg (fun q => some (vI q)) (by first | (rw [h_1]; rfl) | (repeat (first | rw [if_pos (by omega)] | rw [if_neg (by omega)]))), rfl, rfl⟩)
  · skip
    refine gw_tableIn C (tgt := 37) (off := 36) dX5_numberOfClosing_1 (by omega) (by omega) (by omega) (by rw [h_1]; rfl) (by decide) ?_
    refine gw_aload_n C 0 dX5_numberOfClosing_37 rfl rfl ?_
    refine gw_getI (ci := 4) (Cn := RX5) (T0 := TX5) (N := 15) C 8 kX5_106 fX5 rfl (by decide) rfl rfl dX5_numberOfClosing_38 (tq_s hr) (tq_n hr) (fun hI_38 => ?_)
    exact gw_iret C (Nat.le_of_ble_eq_true rfl) (Nat.le_of_ble_eq_true rfl) dX5_numberOfClosing_41 (⟨congrArg (fun q => some (vI q)) (by first | (rw [h_1]; rfl) | (repeat (first | rw [if_pos (by omega)] | rw [if_neg (by omega)]))), rfl, rfl⟩)
  · skip
    refine gw_tableIn C (tgt := 42) (off := 41) dX5_numberOfClosing_1 (by omega) (by omega) (by omega) (by rw [h_1]; rfl) (by decide) ?_
    refine gw_aload_n C 0 dX5_numberOfClosing_42 rfl rfl ?_
    refine gw_getI (ci := 4) (Cn := RX5) (T0 := TX5) (N := 15) C 9 kX5_115 fX5 rfl (by decide) rfl rfl dX5_numberOfClosing_43 (tq_s hr) (tq_n hr) (fun hI_43 => ?_)
    exact gw_iret C (Nat.le_of_ble_eq_true rfl) (Nat.le_of_ble_eq_true rfl) dX5_numberOfClosing_46 (⟨congrArg (fun q => some (vI q)) (by first | (rw [h_1]; rfl) | (repeat (first | rw [if_pos (by omega)] | rw [if_neg (by omega)]))), rfl, rfl⟩)
  · skip
    refine gw_tableOut C (tgt := 47) dX5_numberOfClosing_1 (by omega) h_1 (by decide) ?_
    refine gw_aload_n C 0 dX5_numberOfClosing_47 rfl rfl ?_
    refine gw_getI (ci := 4) (Cn := RX5) (T0 := TX5) (N := 15) C 8 kX5_106 fX5 rfl (by decide) rfl rfl dX5_numberOfClosing_48 (tq_s hr) (tq_n hr) (fun hI_48 => ?_)
    refine gw_i2l C dX5_numberOfClosing_51 hI_48 ?_
    refine gw_aload_n C 0 dX5_numberOfClosing_52 rfl rfl ?_
    refine gw_getI (ci := 4) (Cn := RX5) (T0 := TX5) (N := 15) C 9 kX5_115 fX5 rfl (by decide) rfl rfl dX5_numberOfClosing_53 (tq_s hr) (tq_n hr) (fun hI_53 => ?_)
    refine gw_i2l C dX5_numberOfClosing_56 hI_53 ?_
    refine gw_callSm C (as := [vL (I r 8), vL (I r 9)]) (st := []) (c_X3_lengthOf hl0 G (I r 8) (I r 9) hsq.1) dX5_numberOfClosing_57 kX5_142 qX3_lengthOf hdX3_lengthOf ⟨Nat.le_of_ble_eq_true rfl, Nat.le_of_ble_eq_true rfl⟩ ⟨Nat.le_of_ble_eq_true rfl, Nat.le_of_ble_eq_true rfl⟩ (Nat.le_of_ble_eq_true rfl) rfl (fun z_57 => ?_)
    exact gw_iret C (Nat.le_of_ble_eq_true rfl) (Nat.le_of_ble_eq_true rfl) dX5_numberOfClosing_60 (⟨congrArg (fun q => some (vI q)) (by first | (rw [h_1]; rfl) | (repeat (first | rw [if_pos (by omega)] | rw [if_neg (by omega)]))), rfl, rfl⟩)
set_option maxHeartbeats 4000000 in
set_option maxRecDepth 100000 in
theorem c_X5_number {l : Launch} (hl0 : l.stackTraces = false) (G : GG) (I J : GI) {z : Nat} {r : Nat} (hr : travQ r) (hT : tOk I r) (hm : gpd I r → msd I r) (w : Int) (hw : 0 ≤ w ∧ w ≤ 9) : GM l yX5_number (.code yX5_number cX5_number 2 (some .int)) 3 70 0 0 G N0 SH RR [vR r, vI w] z I J (memQ (some (vI (if w = 0 then I r 0 else if w = 1 then I r 2 else if w = 2 then I r 1 else if w = 3 then I r 4 else if w = 4 then I r 3 else if w = 6 then smF (I r 2).toNat (I (r + 2)) else if I r 1 ≠ -2000000000 ∧ (I r 3 ≠ 5 ∧ I r 3 ≠ 6) ∧ I r 3 ≠ 7 then (if w = 5 then I r 5 else if w = 7 then I r 8 else if w = 8 then I r 9 else rootZ (I r 8 * I r 8 + I r 9 * I r 9)) else -2000000000))) I J) gNo := by
  refine gm_of (lo0 := [some (vR r), some (vI w)]) hl0 (by decide) rfl (Nat.le_of_ble_eq_true rfl) ?_
  intro p e s m args below meth c C ht hgi
  have C : gC G p l s m args meth c cX5_number 2 RX5 (some .int) "number" := C
  refine gw_iload_n C 1 dX5_number_0 rfl rfl ?_
  rcases (show w = 0 ∨ w = 1 ∨ w = 2 ∨ w = 3 ∨ w = 4 ∨ w = 5 ∨ w = 6 ∨ (w < 0 ∨ 6 < w) from by omega) with h_1 | h_1 | h_1 | h_1 | h_1 | h_1 | h_1 | h_1
  · skip
    refine gw_tableIn C (tgt := 44) (off := 43) dX5_number_1 (by omega) (by omega) (by omega) (by rw [h_1]; rfl) (by decide) ?_
    refine gw_aload_n C 0 dX5_number_44 rfl rfl ?_
    refine gw_getI (ci := 4) (Cn := RX5) (T0 := TX5) (N := 15) C 0 kX5_27 fX5 rfl (by decide) rfl rfl dX5_number_45 (tq_s hr) (tq_n hr) (fun hI_45 => ?_)
    exact gw_iret C (Nat.le_of_ble_eq_true rfl) (Nat.le_of_ble_eq_true rfl) dX5_number_48 (⟨congrArg (fun q => some (vI q)) (by first | (rw [h_1]; rfl) | (rw [if_neg (show ¬ w = 0 by omega), if_neg (show ¬ w = 1 by omega), if_neg (show ¬ w = 2 by omega), if_neg (show ¬ w = 3 by omega), if_neg (show ¬ w = 4 by omega), if_neg (show ¬ w = 6 by omega), if_pos (show I r 1 ≠ -2000000000 ∧ (I r 3 ≠ 5 ∧ I r 3 ≠ 6) ∧ I r 3 ≠ 7 by omega), if_neg (show ¬ w = 5 by omega)]; done) | (repeat (first | rw [if_pos (by omega)] | rw [if_neg (by omega)]))), rfl, rfl⟩)
  · skip
    refine gw_tableIn C (tgt := 49) (off := 48) dX5_number_1 (by omega) (by omega) (by omega) (by rw [h_1]; rfl) (by decide) ?_
    refine gw_aload_n C 0 dX5_number_49 rfl rfl ?_
    refine gw_getI (ci := 4) (Cn := RX5) (T0 := TX5) (N := 15) C 2 kX5_37 fX5 rfl (by decide) rfl rfl dX5_number_50 (tq_s hr) (tq_n hr) (fun hI_50 => ?_)
    exact gw_iret C (Nat.le_of_ble_eq_true rfl) (Nat.le_of_ble_eq_true rfl) dX5_number_53 (⟨congrArg (fun q => some (vI q)) (by first | (rw [h_1]; rfl) | (rw [if_neg (show ¬ w = 0 by omega), if_neg (show ¬ w = 1 by omega), if_neg (show ¬ w = 2 by omega), if_neg (show ¬ w = 3 by omega), if_neg (show ¬ w = 4 by omega), if_neg (show ¬ w = 6 by omega), if_pos (show I r 1 ≠ -2000000000 ∧ (I r 3 ≠ 5 ∧ I r 3 ≠ 6) ∧ I r 3 ≠ 7 by omega), if_neg (show ¬ w = 5 by omega)]; done) | (repeat (first | rw [if_pos (by omega)] | rw [if_neg (by omega)]))), rfl, rfl⟩)
  · skip
    refine gw_tableIn C (tgt := 54) (off := 53) dX5_number_1 (by omega) (by omega) (by omega) (by rw [h_1]; rfl) (by decide) ?_
    refine gw_aload_n C 0 dX5_number_54 rfl rfl ?_
    refine gw_getI (ci := 4) (Cn := RX5) (T0 := TX5) (N := 15) C 1 kX5_31 fX5 rfl (by decide) rfl rfl dX5_number_55 (tq_s hr) (tq_n hr) (fun hI_55 => ?_)
    exact gw_iret C (Nat.le_of_ble_eq_true rfl) (Nat.le_of_ble_eq_true rfl) dX5_number_58 (⟨congrArg (fun q => some (vI q)) (by first | (rw [h_1]; rfl) | (rw [if_neg (show ¬ w = 0 by omega), if_neg (show ¬ w = 1 by omega), if_neg (show ¬ w = 2 by omega), if_neg (show ¬ w = 3 by omega), if_neg (show ¬ w = 4 by omega), if_neg (show ¬ w = 6 by omega), if_pos (show I r 1 ≠ -2000000000 ∧ (I r 3 ≠ 5 ∧ I r 3 ≠ 6) ∧ I r 3 ≠ 7 by omega), if_neg (show ¬ w = 5 by omega)]; done) | (repeat (first | rw [if_pos (by omega)] | rw [if_neg (by omega)]))), rfl, rfl⟩)
  · skip
    refine gw_tableIn C (tgt := 59) (off := 58) dX5_number_1 (by omega) (by omega) (by omega) (by rw [h_1]; rfl) (by decide) ?_
    refine gw_aload_n C 0 dX5_number_59 rfl rfl ?_
    refine gw_getI (ci := 4) (Cn := RX5) (T0 := TX5) (N := 15) C 4 kX5_34 fX5 rfl (by decide) rfl rfl dX5_number_60 (tq_s hr) (tq_n hr) (fun hI_60 => ?_)
    exact gw_iret C (Nat.le_of_ble_eq_true rfl) (Nat.le_of_ble_eq_true rfl) dX5_number_63 (⟨congrArg (fun q => some (vI q)) (by first | (rw [h_1]; rfl) | (rw [if_neg (show ¬ w = 0 by omega), if_neg (show ¬ w = 1 by omega), if_neg (show ¬ w = 2 by omega), if_neg (show ¬ w = 3 by omega), if_neg (show ¬ w = 4 by omega), if_neg (show ¬ w = 6 by omega), if_pos (show I r 1 ≠ -2000000000 ∧ (I r 3 ≠ 5 ∧ I r 3 ≠ 6) ∧ I r 3 ≠ 7 by omega), if_neg (show ¬ w = 5 by omega)]; done) | (repeat (first | rw [if_pos (by omega)] | rw [if_neg (by omega)]))), rfl, rfl⟩)
  · skip
    refine gw_tableIn C (tgt := 64) (off := 63) dX5_number_1 (by omega) (by omega) (by omega) (by rw [h_1]; rfl) (by decide) ?_
    refine gw_aload_n C 0 dX5_number_64 rfl rfl ?_
    refine gw_getI (ci := 4) (Cn := RX5) (T0 := TX5) (N := 15) C 3 kX5_51 fX5 rfl (by decide) rfl rfl dX5_number_65 (tq_s hr) (tq_n hr) (fun hI_65 => ?_)
    exact gw_iret C (Nat.le_of_ble_eq_true rfl) (Nat.le_of_ble_eq_true rfl) dX5_number_68 (⟨congrArg (fun q => some (vI q)) (by first | (rw [h_1]; rfl) | (rw [if_neg (show ¬ w = 0 by omega), if_neg (show ¬ w = 1 by omega), if_neg (show ¬ w = 2 by omega), if_neg (show ¬ w = 3 by omega), if_neg (show ¬ w = 4 by omega), if_neg (show ¬ w = 6 by omega), if_pos (show I r 1 ≠ -2000000000 ∧ (I r 3 ≠ 5 ∧ I r 3 ≠ 6) ∧ I r 3 ≠ 7 by omega), if_neg (show ¬ w = 5 by omega)]; done) | (repeat (first | rw [if_pos (by omega)] | rw [if_neg (by omega)]))), rfl, rfl⟩)
  · skip
    refine gw_tableIn C (tgt := 74) (off := 73) dX5_number_1 (by omega) (by omega) (by omega) (by rw [h_1]; rfl) (by decide) ?_
    refine gw_aload_n C 0 dX5_number_74 rfl rfl ?_
    refine gw_callVb C (as := []) (st := []) (ci := 4) (T0 := TX5) (N := 15) (c_X5_hasGap hl0 G I J hr ) dX5_number_75 kX5_136 qX5_hasGap hdX5_hasGap ⟨Nat.le_of_ble_eq_true rfl, Nat.le_of_ble_eq_true rfl⟩ ⟨Nat.le_of_ble_eq_true rfl, Nat.le_of_ble_eq_true rfl⟩ (Nat.le_of_ble_eq_true rfl) rfl (tq_s hr) (tq_n hr) rfl (fun h_75 z_75 => ?_) (fun h_75 z_75 => ?_)
    · skip
      refine gw_if_eq C (tgt := 89) dX5_number_78 (by decide) ⟨by decide, by decide⟩ (fun h => absurd h (by decide)) (fun _ => ?_)
      refine gw_aload_n C 0 dX5_number_81 rfl rfl ?_
      refine gw_iload_n C 1 dX5_number_82 rfl rfl ?_
      refine gw_callVm C (as := [vI w]) (st := []) (ci := 4) (T0 := TX5) (N := 15) (c_X5_numberOfClosing hl0 G I J hr (hm (by unfold gpd; omega)) w (by omega)) dX5_number_83 kX5_139 qX5_numberOfClosing hdX5_numberOfClosing ⟨Nat.le_of_ble_eq_true rfl, Nat.le_of_ble_eq_true rfl⟩ ⟨Nat.le_of_ble_eq_true rfl, Nat.le_of_ble_eq_true rfl⟩ (Nat.le_of_ble_eq_true rfl) rfl (tq_s hr) (tq_n hr) rfl (fun z_83 => ?_)
      refine gw_goto C (tgt := 91) dX5_number_86 (by decide) ?_
      exact gw_iret C (Nat.le_of_ble_eq_true rfl) (Nat.le_of_ble_eq_true rfl) dX5_number_91 (⟨congrArg (fun q => some (vI q)) (by first | (rw [h_1]; rfl) | (rw [if_neg (show ¬ w = 0 by omega), if_neg (show ¬ w = 1 by omega), if_neg (show ¬ w = 2 by omega), if_neg (show ¬ w = 3 by omega), if_neg (show ¬ w = 4 by omega), if_neg (show ¬ w = 6 by omega), if_pos (show I r 1 ≠ -2000000000 ∧ (I r 3 ≠ 5 ∧ I r 3 ≠ 6) ∧ I r 3 ≠ 7 by omega), if_neg (show ¬ w = 5 by omega)]; done) | (repeat (first | rw [if_pos (by omega)] | rw [if_neg (by omega)]))), rfl, rfl⟩)
    · skip
      refine gw_if_eq C (tgt := 89) dX5_number_78 (by decide) ⟨by decide, by decide⟩ (fun _ => ?_) (fun h => absurd h (by decide))
      refine gw_ldc C (x := (-2000000000)) dX5_number_89 kX5_46 (by decide) ?_
      exact gw_iret C (Nat.le_of_ble_eq_true rfl) (Nat.le_of_ble_eq_true rfl) dX5_number_91 (⟨congrArg (fun q => some (vI q)) (by first | (rw [h_1]; rfl) | (rw [if_neg (show ¬ w = 0 by omega), if_neg (show ¬ w = 1 by omega), if_neg (show ¬ w = 2 by omega), if_neg (show ¬ w = 3 by omega), if_neg (show ¬ w = 4 by omega), if_neg (show ¬ w = 6 by omega), if_pos (show I r 1 ≠ -2000000000 ∧ (I r 3 ≠ 5 ∧ I r 3 ≠ 6) ∧ I r 3 ≠ 7 by omega), if_neg (show ¬ w = 5 by omega)]; done) | (repeat (first | rw [if_pos (by omega)] | rw [if_neg (by omega)]))), rfl, rfl⟩)
  · skip
    refine gw_tableIn C (tgt := 69) (off := 68) dX5_number_1 (by omega) (by omega) (by omega) (by rw [h_1]; rfl) (by decide) ?_
    refine gw_aload_n C 0 dX5_number_69 rfl rfl ?_
    refine gw_callVm C (as := []) (st := []) (ci := 4) (T0 := TX5) (N := 15) (c_X5_sumOfLengths hl0 G I J hr hT) dX5_number_70 kX5_132 qX5_sumOfLengths hdX5_sumOfLengths ⟨Nat.le_of_ble_eq_true rfl, Nat.le_of_ble_eq_true rfl⟩ ⟨Nat.le_of_ble_eq_true rfl, Nat.le_of_ble_eq_true rfl⟩ (Nat.le_of_ble_eq_true rfl) rfl (tq_s hr) (tq_n hr) rfl (fun z_70 => ?_)
    exact gw_iret C (Nat.le_of_ble_eq_true rfl) (Nat.le_of_ble_eq_true rfl) dX5_number_73 (⟨congrArg (fun q => some (vI q)) (by first | (rw [h_1]; rfl) | (rw [if_neg (show ¬ w = 0 by omega), if_neg (show ¬ w = 1 by omega), if_neg (show ¬ w = 2 by omega), if_neg (show ¬ w = 3 by omega), if_neg (show ¬ w = 4 by omega), if_neg (show ¬ w = 6 by omega), if_pos (show I r 1 ≠ -2000000000 ∧ (I r 3 ≠ 5 ∧ I r 3 ≠ 6) ∧ I r 3 ≠ 7 by omega), if_neg (show ¬ w = 5 by omega)]; done) | (repeat (first | rw [if_pos (by omega)] | rw [if_neg (by omega)]))), rfl, rfl⟩)
  · skip
    refine gw_tableOut C (tgt := 74) dX5_number_1 (by omega) h_1 (by decide) ?_
    refine gw_aload_n C 0 dX5_number_74 rfl rfl ?_
    refine gw_callVb C (as := []) (st := []) (ci := 4) (T0 := TX5) (N := 15) (c_X5_hasGap hl0 G I J hr ) dX5_number_75 kX5_136 qX5_hasGap hdX5_hasGap ⟨Nat.le_of_ble_eq_true rfl, Nat.le_of_ble_eq_true rfl⟩ ⟨Nat.le_of_ble_eq_true rfl, Nat.le_of_ble_eq_true rfl⟩ (Nat.le_of_ble_eq_true rfl) rfl (tq_s hr) (tq_n hr) rfl (fun h_75_2 z_75_2 => ?_) (fun h_75_2 z_75_2 => ?_)
    · skip
      refine gw_if_eq C (tgt := 89) dX5_number_78 (by decide) ⟨by decide, by decide⟩ (fun h => absurd h (by decide)) (fun _ => ?_)
      refine gw_aload_n C 0 dX5_number_81 rfl rfl ?_
      refine gw_iload_n C 1 dX5_number_82 rfl rfl ?_
      refine gw_callVm C (as := [vI w]) (st := []) (ci := 4) (T0 := TX5) (N := 15) (c_X5_numberOfClosing hl0 G I J hr (hm (by unfold gpd; omega)) w (by omega)) dX5_number_83 kX5_139 qX5_numberOfClosing hdX5_numberOfClosing ⟨Nat.le_of_ble_eq_true rfl, Nat.le_of_ble_eq_true rfl⟩ ⟨Nat.le_of_ble_eq_true rfl, Nat.le_of_ble_eq_true rfl⟩ (Nat.le_of_ble_eq_true rfl) rfl (tq_s hr) (tq_n hr) rfl (fun z_83_2 => ?_)
      refine gw_goto C (tgt := 91) dX5_number_86 (by decide) ?_
      exact gw_iret C (Nat.le_of_ble_eq_true rfl) (Nat.le_of_ble_eq_true rfl) dX5_number_91 (⟨congrArg (fun q => some (vI q)) (by first | (rw [h_1]; rfl) | (rw [if_neg (show ¬ w = 0 by omega), if_neg (show ¬ w = 1 by omega), if_neg (show ¬ w = 2 by omega), if_neg (show ¬ w = 3 by omega), if_neg (show ¬ w = 4 by omega), if_neg (show ¬ w = 6 by omega), if_pos (show I r 1 ≠ -2000000000 ∧ (I r 3 ≠ 5 ∧ I r 3 ≠ 6) ∧ I r 3 ≠ 7 by omega), if_neg (show ¬ w = 5 by omega)]; done) | (repeat (first | rw [if_pos (by omega)] | rw [if_neg (by omega)]))), rfl, rfl⟩)
    · skip
      refine gw_if_eq C (tgt := 89) dX5_number_78 (by decide) ⟨by decide, by decide⟩ (fun _ => ?_) (fun h => absurd h (by decide))
      refine gw_ldc C (x := (-2000000000)) dX5_number_89 kX5_46 (by decide) ?_
      exact gw_iret C (Nat.le_of_ble_eq_true rfl) (Nat.le_of_ble_eq_true rfl) dX5_number_91 (⟨congrArg (fun q => some (vI q)) (by first | (rw [h_1]; rfl) | (rw [if_neg (show ¬ w = 0 by omega), if_neg (show ¬ w = 1 by omega), if_neg (show ¬ w = 2 by omega), if_neg (show ¬ w = 3 by omega), if_neg (show ¬ w = 4 by omega), if_neg (show ¬ w = 6 by omega), if_pos (show I r 1 ≠ -2000000000 ∧ (I r 3 ≠ 5 ∧ I r 3 ≠ 6) ∧ I r 3 ≠ 7 by omega), if_neg (show ¬ w = 5 by omega)]; done) | (repeat (first | rw [if_pos (by omega)] | rw [if_neg (by omega)]))), rfl, rfl⟩)
set_option maxHeartbeats 4000000 in
set_option maxRecDepth 100000 in
theorem c_X5_numberOfLeg {l : Launch} (hl0 : l.stackTraces = false) (G : GG) (I J : GI) {z : Nat} {r : Nat} (hr : travQ r) (h2 : 0 ≤ I r 2 ∧ I r 2 ≤ 12) (k : Nat) (hk : (k : Int) < I r 2) (w : Int) (hw : 0 ≤ w ∧ w ≤ 4) : GM l yX5_numberOfLeg (.code yX5_numberOfLeg cX5_numberOfLeg 3 (some .int)) 1 21 0 0 G N0 SH RR [vR r, vI (k : Int), vI w] z I J (memQ (some (vI (if w = 0 then I (r + 1) k else if w = 1 then I (r + 2) k else if I r 3 ≠ 5 ∧ I r 3 ≠ 6 then (if w = 2 then I (r + 3) k else if w = 3 then I (r + 4) k else I (r + 5) k) else -2000000000))) I J) gNo := by
  refine gm_of (lo0 := [some (vR r), some (vI (k : Int)), some (vI w)]) hl0 (by decide) rfl (Nat.le_of_ble_eq_true rfl) ?_
  intro p e s m args below meth c C ht hgi
  have C : gC G p l s m args meth c cX5_numberOfLeg 3 RX5 (some .int) "numberOfLeg" := C
  refine gw_aload_n C 0 dX5_numberOfLeg_0 rfl rfl ?_
  refine gw_iload_n C 1 dX5_numberOfLeg_1 rfl rfl ?_
  refine gw_callVb C (as := [vI (k : Int)]) (st := []) (ci := 4) (T0 := TX5) (N := 15) (c_X5_hasLeg hl0 G I J hr (k : Int) (by omega)) dX5_numberOfLeg_2 kX5_82 qX5_hasLeg hdX5_hasLeg ⟨Nat.le_of_ble_eq_true rfl, Nat.le_of_ble_eq_true rfl⟩ ⟨Nat.le_of_ble_eq_true rfl, Nat.le_of_ble_eq_true rfl⟩ (Nat.le_of_ble_eq_true rfl) rfl (tq_s hr) (tq_n hr) rfl (fun h_2 z_2 => ?_) (fun h_2 z_2 => ?_)
  · skip
    refine gw_if_ne C (tgt := 11) dX5_numberOfLeg_5 (by decide) ⟨by decide, by decide⟩ (fun _ => ?_) (fun h => absurd h (by decide))
    refine gw_iload_n C 2 dX5_numberOfLeg_11 rfl rfl ?_
    rcases (show w = 0 ∨ w = 1 ∨ w = 2 ∨ w = 3 ∨ (w < 0 ∨ 3 < w) from by omega) with h_12 | h_12 | h_12 | h_12 | h_12
    · skip
      refine gw_tableIn C (tgt := 44) (off := 32) dX5_numberOfLeg_12 (by omega) (by omega) (by omega) (by rw [h_12]; rfl) (by decide) ?_
      refine gw_aload_n C 0 dX5_numberOfLeg_44 rfl rfl ?_
      refine gw_getRs (ci := 4) (Cn := RX5) (T0 := TX5) (N := 15) C (r + 1) 10 kX5_9 fX5 rfl (by decide) rfl rfl dX5_numberOfLeg_45 (tq_s hr) (tq_n hr) (tq_R1 hr) ?_
      refine gw_iload_n C 1 dX5_numberOfLeg_48 rfl rfl ?_
      refine gw_iald C k dX5_numberOfLeg_49 (tq_s1 hr) (tq_n1 hr) (by omega) (by omega) (by decide) (fun hI_49 => ?_)
      exact gw_iret C (Nat.le_of_ble_eq_true rfl) (Nat.le_of_ble_eq_true rfl) dX5_numberOfLeg_50 (⟨congrArg (fun q => some (vI q)) (by repeat (first | rw [if_pos (by omega)] | rw [if_neg (by omega)])), rfl, rfl⟩)
    · skip
      refine gw_tableIn C (tgt := 51) (off := 39) dX5_numberOfLeg_12 (by omega) (by omega) (by omega) (by rw [h_12]; rfl) (by decide) ?_
      refine gw_aload_n C 0 dX5_numberOfLeg_51 rfl rfl ?_
      refine gw_getRs (ci := 4) (Cn := RX5) (T0 := TX5) (N := 15) C (r + 2) 11 kX5_15 fX5 rfl (by decide) rfl rfl dX5_numberOfLeg_52 (tq_s hr) (tq_n hr) (tq_R2 hr) ?_
      refine gw_iload_n C 1 dX5_numberOfLeg_55 rfl rfl ?_
      refine gw_iald C k dX5_numberOfLeg_56 (tq_s2 hr) (tq_n2 hr) (by omega) (by omega) (by decide) (fun hI_56 => ?_)
      exact gw_iret C (Nat.le_of_ble_eq_true rfl) (Nat.le_of_ble_eq_true rfl) dX5_numberOfLeg_57 (⟨congrArg (fun q => some (vI q)) (by repeat (first | rw [if_pos (by omega)] | rw [if_neg (by omega)])), rfl, rfl⟩)
    · skip
      refine gw_tableIn C (tgt := 58) (off := 46) dX5_numberOfLeg_12 (by omega) (by omega) (by omega) (by rw [h_12]; rfl) (by decide) ?_
      refine gw_aload_n C 0 dX5_numberOfLeg_58 rfl rfl ?_
      refine gw_callVb C (as := []) (st := []) (ci := 4) (T0 := TX5) (N := 15) (c_X5_hasEnd hl0 G I J hr ) dX5_numberOfLeg_59 kX5_58 qX5_hasEnd hdX5_hasEnd ⟨Nat.le_of_ble_eq_true rfl, Nat.le_of_ble_eq_true rfl⟩ ⟨Nat.le_of_ble_eq_true rfl, Nat.le_of_ble_eq_true rfl⟩ (Nat.le_of_ble_eq_true rfl) rfl (tq_s hr) (tq_n hr) rfl (fun h_59 z_59 => ?_) (fun h_59 z_59 => ?_)
      · skip
        refine gw_if_eq C (tgt := 74) dX5_numberOfLeg_62 (by decide) ⟨by decide, by decide⟩ (fun h => absurd h (by decide)) (fun _ => ?_)
        refine gw_aload_n C 0 dX5_numberOfLeg_65 rfl rfl ?_
        refine gw_getRs (ci := 4) (Cn := RX5) (T0 := TX5) (N := 15) C (r + 3) 12 kX5_18 fX5 rfl (by decide) rfl rfl dX5_numberOfLeg_66 (tq_s hr) (tq_n hr) (tq_R3 hr) ?_
        refine gw_iload_n C 1 dX5_numberOfLeg_69 rfl rfl ?_
        refine gw_iald C k dX5_numberOfLeg_70 (tq_s3 hr) (tq_n3 hr) (by omega) (by omega) (by decide) (fun hI_70 => ?_)
        refine gw_goto C (tgt := 76) dX5_numberOfLeg_71 (by decide) ?_
        exact gw_iret C (Nat.le_of_ble_eq_true rfl) (Nat.le_of_ble_eq_true rfl) dX5_numberOfLeg_76 (⟨congrArg (fun q => some (vI q)) (by repeat (first | rw [if_pos (by omega)] | rw [if_neg (by omega)])), rfl, rfl⟩)
      · skip
        refine gw_if_eq C (tgt := 74) dX5_numberOfLeg_62 (by decide) ⟨by decide, by decide⟩ (fun _ => ?_) (fun h => absurd h (by decide))
        refine gw_ldc C (x := (-2000000000)) dX5_numberOfLeg_74 kX5_46 (by decide) ?_
        exact gw_iret C (Nat.le_of_ble_eq_true rfl) (Nat.le_of_ble_eq_true rfl) dX5_numberOfLeg_76 (⟨congrArg (fun q => some (vI q)) (by repeat (first | rw [if_pos (by omega)] | rw [if_neg (by omega)])), rfl, rfl⟩)
    · skip
      refine gw_tableIn C (tgt := 77) (off := 65) dX5_numberOfLeg_12 (by omega) (by omega) (by omega) (by rw [h_12]; rfl) (by decide) ?_
      refine gw_aload_n C 0 dX5_numberOfLeg_77 rfl rfl ?_
      refine gw_callVb C (as := []) (st := []) (ci := 4) (T0 := TX5) (N := 15) (c_X5_hasEnd hl0 G I J hr ) dX5_numberOfLeg_78 kX5_58 qX5_hasEnd hdX5_hasEnd ⟨Nat.le_of_ble_eq_true rfl, Nat.le_of_ble_eq_true rfl⟩ ⟨Nat.le_of_ble_eq_true rfl, Nat.le_of_ble_eq_true rfl⟩ (Nat.le_of_ble_eq_true rfl) rfl (tq_s hr) (tq_n hr) rfl (fun h_78 z_78 => ?_) (fun h_78 z_78 => ?_)
      · skip
        refine gw_if_eq C (tgt := 93) dX5_numberOfLeg_81 (by decide) ⟨by decide, by decide⟩ (fun h => absurd h (by decide)) (fun _ => ?_)
        refine gw_aload_n C 0 dX5_numberOfLeg_84 rfl rfl ?_
        refine gw_getRs (ci := 4) (Cn := RX5) (T0 := TX5) (N := 15) C (r + 4) 13 kX5_21 fX5 rfl (by decide) rfl rfl dX5_numberOfLeg_85 (tq_s hr) (tq_n hr) (tq_R4 hr) ?_
        refine gw_iload_n C 1 dX5_numberOfLeg_88 rfl rfl ?_
        refine gw_iald C k dX5_numberOfLeg_89 (tq_s4 hr) (tq_n4 hr) (by omega) (by omega) (by decide) (fun hI_89 => ?_)
        refine gw_goto C (tgt := 95) dX5_numberOfLeg_90 (by decide) ?_
        exact gw_iret C (Nat.le_of_ble_eq_true rfl) (Nat.le_of_ble_eq_true rfl) dX5_numberOfLeg_95 (⟨congrArg (fun q => some (vI q)) (by repeat (first | rw [if_pos (by omega)] | rw [if_neg (by omega)])), rfl, rfl⟩)
      · skip
        refine gw_if_eq C (tgt := 93) dX5_numberOfLeg_81 (by decide) ⟨by decide, by decide⟩ (fun _ => ?_) (fun h => absurd h (by decide))
        refine gw_ldc C (x := (-2000000000)) dX5_numberOfLeg_93 kX5_46 (by decide) ?_
        exact gw_iret C (Nat.le_of_ble_eq_true rfl) (Nat.le_of_ble_eq_true rfl) dX5_numberOfLeg_95 (⟨congrArg (fun q => some (vI q)) (by repeat (first | rw [if_pos (by omega)] | rw [if_neg (by omega)])), rfl, rfl⟩)
    · skip
      refine gw_tableOut C (tgt := 96) dX5_numberOfLeg_12 (by omega) h_12 (by decide) ?_
      refine gw_aload_n C 0 dX5_numberOfLeg_96 rfl rfl ?_
      refine gw_callVb C (as := []) (st := []) (ci := 4) (T0 := TX5) (N := 15) (c_X5_hasEnd hl0 G I J hr ) dX5_numberOfLeg_97 kX5_58 qX5_hasEnd hdX5_hasEnd ⟨Nat.le_of_ble_eq_true rfl, Nat.le_of_ble_eq_true rfl⟩ ⟨Nat.le_of_ble_eq_true rfl, Nat.le_of_ble_eq_true rfl⟩ (Nat.le_of_ble_eq_true rfl) rfl (tq_s hr) (tq_n hr) rfl (fun h_97 z_97 => ?_) (fun h_97 z_97 => ?_)
      · skip
        refine gw_if_eq C (tgt := 112) dX5_numberOfLeg_100 (by decide) ⟨by decide, by decide⟩ (fun h => absurd h (by decide)) (fun _ => ?_)
        refine gw_aload_n C 0 dX5_numberOfLeg_103 rfl rfl ?_
        refine gw_getRs (ci := 4) (Cn := RX5) (T0 := TX5) (N := 15) C (r + 5) 14 kX5_24 fX5 rfl (by decide) rfl rfl dX5_numberOfLeg_104 (tq_s hr) (tq_n hr) (tq_R5 hr) ?_
        refine gw_iload_n C 1 dX5_numberOfLeg_107 rfl rfl ?_
        refine gw_iald C k dX5_numberOfLeg_108 (tq_s5 hr) (tq_n5 hr) (by omega) (by omega) (by decide) (fun hI_108 => ?_)
        refine gw_goto C (tgt := 114) dX5_numberOfLeg_109 (by decide) ?_
        exact gw_iret C (Nat.le_of_ble_eq_true rfl) (Nat.le_of_ble_eq_true rfl) dX5_numberOfLeg_114 (⟨congrArg (fun q => some (vI q)) (by repeat (first | rw [if_pos (by omega)] | rw [if_neg (by omega)])), rfl, rfl⟩)
      · skip
        refine gw_if_eq C (tgt := 112) dX5_numberOfLeg_100 (by decide) ⟨by decide, by decide⟩ (fun _ => ?_) (fun h => absurd h (by decide))
        refine gw_ldc C (x := (-2000000000)) dX5_numberOfLeg_112 kX5_46 (by decide) ?_
        exact gw_iret C (Nat.le_of_ble_eq_true rfl) (Nat.le_of_ble_eq_true rfl) dX5_numberOfLeg_114 (⟨congrArg (fun q => some (vI q)) (by repeat (first | rw [if_pos (by omega)] | rw [if_neg (by omega)])), rfl, rfl⟩)
  · exact absurd True.intro (by omega)
def endd (I : GI) (r : Nat) : Prop := (-3400000 ≤ I r 6 ∧ I r 6 ≤ 3400000) ∧ (-3400000 ≤ I r 7 ∧ I r 7 ≤ 3400000)
