set_option maxHeartbeats 4000000 in
set_option maxRecDepth 100000 in
theorem c_X3_norm {l : Launch} (hl0 : l.stackTraces = false) (G : GG) {n : Nat} {sh : GSh} {R : GR} {z : Nat} {I J : GI} (x : Int) (hx : inI x) : GM l yX3_norm (.code yX3_norm cX3_norm 2 (some .int)) 0 0 0 0 G n sh R [vI x] z I J (memQ (some (vI (normZ x))) I J) gNo := by
  refine gm_of (lo0 := [some (vI x), none]) hl0 (by decide) rfl (Nat.le_of_ble_eq_true rfl) ?_
  intro p e s m args below meth c C ht hgi
  have C : gC G p l s m args meth c cX3_norm 2 RX3 (some .int) "norm" := C
  have t := tmod_c x (c := 1296000) (by decide)
  refine gw_iload_n C 0 dX3_norm_0 rfl rfl ?_
  refine gw_ldc C (x := 1296000) dX3_norm_1 kX3_9 (by decide) ?_
  refine gw_irem C dX3_norm_3 hx ⟨by decide, by decide⟩ (by decide) ?_
  refine gw_istore_n C (lo1 := [some (vI x), some (vI ((x).tmod 1296000))]) 1 dX3_norm_4 rfl (by decide) rfl ?_
  refine gw_iload_n C 1 dX3_norm_5 rfl rfl ?_
  refine gw_if_ge C (tgt := 16) dX3_norm_6 (by decide) (by omega) (fun h_6 => ?_) (fun h_6 => ?_)
  · skip
    refine gw_iload_n C 1 dX3_norm_16 rfl rfl ?_
    exact gw_iret C (Nat.le_of_ble_eq_true rfl) (Nat.le_of_ble_eq_true rfl) dX3_norm_17 (⟨congrArg (fun q => some (vI q)) (by unfold normZ; omega), rfl, rfl⟩)
  · skip
    refine gw_iload_n C 1 dX3_norm_9 rfl rfl ?_
    refine gw_ldc C (x := 1296000) dX3_norm_10 kX3_9 (by decide) ?_
    refine gw_iadd C dX3_norm_12 ?_
    refine gw_goto C (tgt := 17) dX3_norm_13 (by decide) ?_
    exact gw_iret C (Nat.le_of_ble_eq_true rfl) (Nat.le_of_ble_eq_true rfl) dX3_norm_17 (⟨congrArg (fun q => some (vI q)) (by unfold normZ; omega), rfl, rfl⟩)
set_option maxHeartbeats 4000000 in
set_option maxRecDepth 100000 in
theorem c_X3_centre {l : Launch} (hl0 : l.stackTraces = false) (G : GG) {n : Nat} {sh : GSh} {R : GR} {z : Nat} {I J : GI} (x : Int) (hx : inI (x + 648000)) : GM l yX3_centre (.code yX3_centre cX3_centre 1 (some .int)) 1 21 0 0 G n sh R [vI x] z I J (memQ (some (vI (centZ x))) I J) gNo := by
  refine gm_of (lo0 := [some (vI x)]) hl0 (by decide) rfl (Nat.le_of_ble_eq_true rfl) ?_
  intro p e s m args below meth c C ht hgi
  have C : gC G p l s m args meth c cX3_centre 1 RX3 (some .int) "centre" := C
  have hx1 := hx
  refine gw_iload_n C 0 dX3_centre_0 rfl rfl ?_
  refine gw_ldc C (x := 648000) dX3_centre_1 kX3_10 (by decide) ?_
  refine gw_iadd C dX3_centre_3 ?_
  refine gw_callSm C (as := [vI (x + 648000)]) (st := []) (c_X3_norm hl0 G (x + 648000) hx) dX3_centre_4 kX3_11 qX3_norm hdX3_norm ⟨Nat.le_of_ble_eq_true rfl, Nat.le_of_ble_eq_true rfl⟩ ⟨Nat.le_of_ble_eq_true rfl, Nat.le_of_ble_eq_true rfl⟩ (Nat.le_of_ble_eq_true rfl) rfl (fun z_4 => ?_)
  have hr_4 := normZ_b (x + 648000)
  refine gw_ldc C (x := 648000) dX3_centre_7 kX3_10 (by decide) ?_
  refine gw_isub C dX3_centre_9 ?_
  exact gw_iret C (Nat.le_of_ble_eq_true rfl) (Nat.le_of_ble_eq_true rfl) dX3_centre_10 (⟨congrArg (fun q => some (vI q)) (by rfl), rfl, rfl⟩)
theorem quot_b (x y : Int) (hy : 0 < y) : True := trivial
set_option maxHeartbeats 4000000 in
set_option maxRecDepth 100000 in
theorem c_X3_quotient {l : Launch} (hl0 : l.stackTraces = false) (G : GG) {n : Nat} {sh : GSh} {R : GR} {z : Nat} {I J : GI} (x : Int) (y : Int) (hx : inL x) (hy : inL y) (h0 : y ≠ 0) : GM l yX3_quotient (.code yX3_quotient cX3_quotient 4 (some .int)) 0 0 0 0 G n sh R [vL x, vL y] z I J (memQ (some (vI (x.tdiv y))) I J) gNo := by
  refine gm_of (lo0 := [some (vL x), none, some (vL y), none]) hl0 (by decide) rfl (Nat.le_of_ble_eq_true rfl) ?_
  intro p e s m args below meth c C ht hgi
  have C : gC G p l s m args meth c cX3_quotient 4 RX3 (some .int) "quotient" := C
  refine gw_lload_n C 2 dX3_quotient_0 rfl rfl ?_
  refine gw_lconst C 0 dX3_quotient_1 (by decide) ?_
  refine gw_lcmp C dX3_quotient_2 hy ⟨by decide, by decide⟩ (fun h_2 => ?_) (fun h_2 => ?_) (fun h_2 => ?_)
  · skip
    refine gw_if_ne C (tgt := 10) dX3_quotient_3 (by decide) ⟨by decide, by decide⟩ (fun _ => ?_) (fun h => absurd h (by decide))
    refine gw_lload_n C 0 dX3_quotient_10 rfl rfl ?_
    refine gw_lload_n C 2 dX3_quotient_11 rfl rfl ?_
    refine gw_ldiv C dX3_quotient_12 hx hy (by omega) ?_
    refine gw_l2i C dX3_quotient_13 ?_
    exact gw_iret C (Nat.le_of_ble_eq_true rfl) (Nat.le_of_ble_eq_true rfl) dX3_quotient_14 (⟨congrArg (fun q => some (vI q)) (by rfl), rfl, rfl⟩)
  · exact absurd True.intro (by omega)
  · skip
    refine gw_if_ne C (tgt := 10) dX3_quotient_3 (by decide) ⟨by decide, by decide⟩ (fun _ => ?_) (fun h => absurd h (by decide))
    refine gw_lload_n C 0 dX3_quotient_10 rfl rfl ?_
    refine gw_lload_n C 2 dX3_quotient_11 rfl rfl ?_
    refine gw_ldiv C dX3_quotient_12 hx hy (by omega) ?_
    refine gw_l2i C dX3_quotient_13 ?_
    exact gw_iret C (Nat.le_of_ble_eq_true rfl) (Nat.le_of_ble_eq_true rfl) dX3_quotient_14 (⟨congrArg (fun q => some (vI q)) (by rfl), rfl, rfl⟩)
set_option maxHeartbeats 4000000 in
set_option maxRecDepth 100000 in
theorem c_X3_sineOf {l : Launch} (hl0 : l.stackTraces = false) (G : GG) {n : Nat} {sh : GSh} {R : GR} {z : Nat} {I J : GI} (x : Int) (hx : inI x) : GM l yX3_sineOf (.code yX3_sineOf cX3_sineOf 7 (some .int)) 1 23 0 0 G n sh R [vI x] z I J (memQ (some (vI (sinZ x))) I J) gNo := by
  refine gm_of (lo0 := [some (vI x), none, none, none, none, none, none]) hl0 (by decide) rfl (Nat.le_of_ble_eq_true rfl) ?_
  intro p e s m args below meth c C ht hgi
  have C : gC G p l s m args meth c cX3_sineOf 7 RX3 (some .int) "sineOf" := C
  have hnb := normZ_b x
  have hs0 : normZ x < 648000 → 0 ≤ normZ x * (648000 - normZ x) ∧ normZ x * (648000 - normZ x) ≤ 104976000000 := fun h => half_b ⟨hnb.1, by omega⟩
  have hs1 : 648000 ≤ normZ x → 0 ≤ (normZ x - 648000) * (648000 - (normZ x - 648000)) ∧ (normZ x - 648000) * (648000 - (normZ x - 648000)) ≤ 104976000000 := fun h => half_b ⟨by omega, by omega⟩
  refine gw_iload_n C 0 dX3_sineOf_0 rfl rfl ?_
  refine gw_callSm C (as := [vI x]) (st := []) (c_X3_norm hl0 G x hx) dX3_sineOf_1 kX3_11 qX3_norm hdX3_norm ⟨Nat.le_of_ble_eq_true rfl, Nat.le_of_ble_eq_true rfl⟩ ⟨Nat.le_of_ble_eq_true rfl, Nat.le_of_ble_eq_true rfl⟩ (Nat.le_of_ble_eq_true rfl) rfl (fun z_1 => ?_)
  have hr_1 := normZ_b x
  refine gw_istore_n C (lo1 := [some (vI x), some (vI (normZ x)), none, none, none, none, none]) 1 dX3_sineOf_4 rfl (by decide) rfl ?_
  refine gw_iload_n C 1 dX3_sineOf_5 rfl rfl ?_
  refine gw_ldc C (x := 648000) dX3_sineOf_6 kX3_10 (by decide) ?_
  refine gw_icmp_ge C (tgt := 16) dX3_sineOf_8 (by decide) (by omega) ⟨by decide, by decide⟩ (fun h_8 => ?_) (fun h_8 => ?_)
  · skip
    refine gw_iload_n C 1 dX3_sineOf_16 rfl rfl ?_
    refine gw_ldc C (x := 648000) dX3_sineOf_17 kX3_10 (by decide) ?_
    refine gw_isub C dX3_sineOf_19 ?_
    refine gw_i2l C dX3_sineOf_20 (by omega) ?_
    refine gw_lstore_n C (lo1 := [some (vI x), some (vI (normZ x)), some (vL ((normZ x) - 648000)), none, none, none, none]) 2 dX3_sineOf_21 rfl (by decide) rfl ?_
    refine gw_lload_n C 2 dX3_sineOf_22 rfl rfl ?_
    refine gw_ldc2 C (x := 648000) dX3_sineOf_23 kX3_17 (by decide) ?_
    refine gw_lload_n C 2 dX3_sineOf_26 rfl rfl ?_
    refine gw_lsub C dX3_sineOf_27 ?_
    refine gw_lmul C dX3_sineOf_28 ?_
    refine gw_lstore C (lo1 := [some (vI x), some (vI (normZ x)), some (vL ((normZ x) - 648000)), none, some (vL (((normZ x) - 648000) * (648000 - ((normZ x) - 648000)))), none, none]) dX3_sineOf_29 (by decide) rfl ?_
    refine gw_ldc2 C (x := 40000) dX3_sineOf_31 kX3_19 (by decide) ?_
    refine gw_lload C dX3_sineOf_34 rfl ?_
    refine gw_lmul C dX3_sineOf_36 ?_
    refine gw_ldc2 C (x := 524880000000) dX3_sineOf_37 kX3_21 (by decide) ?_
    refine gw_lload C dX3_sineOf_40 rfl ?_
    refine gw_lsub C dX3_sineOf_42 ?_
    refine gw_callSm C (as := [vL (40000 * (((normZ x) - 648000) * (648000 - ((normZ x) - 648000)))), vL (524880000000 - (((normZ x) - 648000) * (648000 - ((normZ x) - 648000))))]) (st := []) (c_X3_quotient hl0 G (40000 * (((normZ x) - 648000) * (648000 - ((normZ x) - 648000)))) (524880000000 - (((normZ x) - 648000) * (648000 - ((normZ x) - 648000)))) (by omega) (by omega) (by omega)) dX3_sineOf_43 kX3_23 qX3_quotient hdX3_quotient ⟨Nat.le_of_ble_eq_true rfl, Nat.le_of_ble_eq_true rfl⟩ ⟨Nat.le_of_ble_eq_true rfl, Nat.le_of_ble_eq_true rfl⟩ (Nat.le_of_ble_eq_true rfl) rfl (fun z_43 => ?_)
    refine gw_istore C (lo1 := [some (vI x), some (vI (normZ x)), some (vL ((normZ x) - 648000)), none, some (vL (((normZ x) - 648000) * (648000 - ((normZ x) - 648000)))), none, some (vI ((40000 * (((normZ x) - 648000) * (648000 - ((normZ x) - 648000)))).tdiv (524880000000 - (((normZ x) - 648000) * (648000 - ((normZ x) - 648000))))))]) dX3_sineOf_46 (by decide) rfl ?_
    refine gw_iload_n C 1 dX3_sineOf_48 rfl rfl ?_
    refine gw_ldc C (x := 648000) dX3_sineOf_49 kX3_10 (by decide) ?_
    refine gw_icmp_ge C (tgt := 59) dX3_sineOf_51 (by decide) (by omega) ⟨by decide, by decide⟩ (fun h_51 => ?_) (fun h_51 => ?_)
    · skip
      refine gw_iload C dX3_sineOf_59 rfl ?_
      refine gw_ineg C dX3_sineOf_61 ?_
      exact gw_iret C (Nat.le_of_ble_eq_true rfl) (Nat.le_of_ble_eq_true rfl) dX3_sineOf_62 (⟨congrArg (fun q => some (vI q)) (by first | (unfold sinZ; rw [if_pos (by omega)]; rfl) | (unfold sinZ; rw [if_neg (by omega)]; rfl) | (exfalso; omega)), rfl, rfl⟩)
    · skip
      refine gw_iload C dX3_sineOf_54 rfl ?_
      refine gw_goto C (tgt := 62) dX3_sineOf_56 (by decide) ?_
      exact gw_iret C (Nat.le_of_ble_eq_true rfl) (Nat.le_of_ble_eq_true rfl) dX3_sineOf_62 (⟨congrArg (fun q => some (vI q)) (by first | (unfold sinZ; rw [if_pos (by omega)]; rfl) | (unfold sinZ; rw [if_neg (by omega)]; rfl) | (exfalso; omega)), rfl, rfl⟩)
  · skip
    refine gw_iload_n C 1 dX3_sineOf_11 rfl rfl ?_
    refine gw_i2l C dX3_sineOf_12 (by omega) ?_
    refine gw_goto C (tgt := 21) dX3_sineOf_13 (by decide) ?_
    refine gw_lstore_n C (lo1 := [some (vI x), some (vI (normZ x)), some (vL (normZ x)), none, none, none, none]) 2 dX3_sineOf_21 rfl (by decide) rfl ?_
    refine gw_lload_n C 2 dX3_sineOf_22 rfl rfl ?_
    refine gw_ldc2 C (x := 648000) dX3_sineOf_23 kX3_17 (by decide) ?_
    refine gw_lload_n C 2 dX3_sineOf_26 rfl rfl ?_
    refine gw_lsub C dX3_sineOf_27 ?_
    refine gw_lmul C dX3_sineOf_28 ?_
    refine gw_lstore C (lo1 := [some (vI x), some (vI (normZ x)), some (vL (normZ x)), none, some (vL ((normZ x) * (648000 - (normZ x)))), none, none]) dX3_sineOf_29 (by decide) rfl ?_
    refine gw_ldc2 C (x := 40000) dX3_sineOf_31 kX3_19 (by decide) ?_
    refine gw_lload C dX3_sineOf_34 rfl ?_
    refine gw_lmul C dX3_sineOf_36 ?_
    refine gw_ldc2 C (x := 524880000000) dX3_sineOf_37 kX3_21 (by decide) ?_
    refine gw_lload C dX3_sineOf_40 rfl ?_
    refine gw_lsub C dX3_sineOf_42 ?_
    refine gw_callSm C (as := [vL (40000 * ((normZ x) * (648000 - (normZ x)))), vL (524880000000 - ((normZ x) * (648000 - (normZ x))))]) (st := []) (c_X3_quotient hl0 G (40000 * ((normZ x) * (648000 - (normZ x)))) (524880000000 - ((normZ x) * (648000 - (normZ x)))) (by omega) (by omega) (by omega)) dX3_sineOf_43 kX3_23 qX3_quotient hdX3_quotient ⟨Nat.le_of_ble_eq_true rfl, Nat.le_of_ble_eq_true rfl⟩ ⟨Nat.le_of_ble_eq_true rfl, Nat.le_of_ble_eq_true rfl⟩ (Nat.le_of_ble_eq_true rfl) rfl (fun z_43_2 => ?_)
    refine gw_istore C (lo1 := [some (vI x), some (vI (normZ x)), some (vL (normZ x)), none, some (vL ((normZ x) * (648000 - (normZ x)))), none, some (vI ((40000 * ((normZ x) * (648000 - (normZ x)))).tdiv (524880000000 - ((normZ x) * (648000 - (normZ x))))))]) dX3_sineOf_46 (by decide) rfl ?_
    refine gw_iload_n C 1 dX3_sineOf_48 rfl rfl ?_
    refine gw_ldc C (x := 648000) dX3_sineOf_49 kX3_10 (by decide) ?_
    refine gw_icmp_ge C (tgt := 59) dX3_sineOf_51 (by decide) (by omega) ⟨by decide, by decide⟩ (fun h_51_2 => ?_) (fun h_51_2 => ?_)
    · skip
      refine gw_iload C dX3_sineOf_59 rfl ?_
      refine gw_ineg C dX3_sineOf_61 ?_
      exact gw_iret C (Nat.le_of_ble_eq_true rfl) (Nat.le_of_ble_eq_true rfl) dX3_sineOf_62 (⟨congrArg (fun q => some (vI q)) (by first | (unfold sinZ; rw [if_pos (by omega)]; rfl) | (unfold sinZ; rw [if_neg (by omega)]; rfl) | (exfalso; omega)), rfl, rfl⟩)
    · skip
      refine gw_iload C dX3_sineOf_54 rfl ?_
      refine gw_goto C (tgt := 62) dX3_sineOf_56 (by decide) ?_
      exact gw_iret C (Nat.le_of_ble_eq_true rfl) (Nat.le_of_ble_eq_true rfl) dX3_sineOf_62 (⟨congrArg (fun q => some (vI q)) (by first | (unfold sinZ; rw [if_pos (by omega)]; rfl) | (unfold sinZ; rw [if_neg (by omega)]; rfl) | (exfalso; omega)), rfl, rfl⟩)
set_option maxHeartbeats 4000000 in
set_option maxRecDepth 100000 in
theorem c_X3_squareOf {l : Launch} (hl0 : l.stackTraces = false) (G : GG) {n : Nat} {sh : GSh} {R : GR} {z : Nat} {I J : GI} (x : Int) (y : Int)  : GM l yX3_squareOf (.code yX3_squareOf cX3_squareOf 4 (some .long)) 0 0 0 0 G n sh R [vL x, vL y] z I J (memQ (some (vL (x * x + y * y))) I J) gNo := by
  refine gm_of (lo0 := [some (vL x), none, some (vL y), none]) hl0 (by decide) rfl (Nat.le_of_ble_eq_true rfl) ?_
  intro p e s m args below meth c C ht hgi
  have C : gC G p l s m args meth c cX3_squareOf 4 RX3 (some .long) "squareOf" := C
  refine gw_lload_n C 0 dX3_squareOf_0 rfl rfl ?_
  refine gw_lload_n C 0 dX3_squareOf_1 rfl rfl ?_
  refine gw_lmul C dX3_squareOf_2 ?_
  refine gw_lload_n C 2 dX3_squareOf_3 rfl rfl ?_
  refine gw_lload_n C 2 dX3_squareOf_4 rfl rfl ?_
  refine gw_lmul C dX3_squareOf_5 ?_
  refine gw_ladd C dX3_squareOf_6 ?_
  exact gw_lret C (Nat.le_of_ble_eq_true rfl) (Nat.le_of_ble_eq_true rfl) dX3_squareOf_7 (⟨congrArg (fun q => some (vL q)) (by rfl), rfl, rfl⟩)
theorem shl_pw : ∀ j : Nat, j < 31 → Int64.ofInt 1 <<< ((Int32.ofInt (j : Int)).toInt64 &&& 63) = Int64.ofInt ((2 ^ j : Nat) : Int) := by decide
set_option maxHeartbeats 4000000 in
set_option maxRecDepth 100000 in
theorem c_X3_rootOf {l : Launch} (hl0 : l.stackTraces = false) (G : GG) {n : Nat} {sh : GSh} {R : GR} {z : Nat} {I J : GI} (v : Int) (hv : 0 ≤ v ∧ v < 4611686018427387904) : GM l yX3_rootOf (.code yX3_rootOf cX3_rootOf 7 (some .int)) 0 0 0 0 G n sh R [vL v] z I J (memQ (some (vI (rootZ v))) I J) gNo := by
  refine gm_of (lo0 := [some (vL v), none, none, none, none, none, none]) hl0 (by decide) rfl (Nat.le_of_ble_eq_true rfl) ?_
  intro p e s m args below meth c C ht hgi
  have C : gC G p l s m args meth c cX3_rootOf 7 RX3 (some .int) "rootOf" := C
  refine gw_lconst C 0 dX3_rootOf_0 (by decide) ?_
  refine gw_lstore_n C (lo1 := [some (vL v), none, some (vL 0), none, none, none, none]) 2 dX3_rootOf_1 rfl (by decide) rfl ?_
  refine gw_bipush C dX3_rootOf_2 rfl ?_
  refine gw_istore C (lo1 := [some (vL v), none, some (vL 0), none, some (vI 30), none, none]) dX3_rootOf_4 (by decide) rfl ?_
  have loop_6 : ∀ (fuel : Nat) (k : Nat) (r : Int), (k ≤ 31) → (0 ≤ r) → (r + ((2 ^ k : Nat) : Int) ≤ 2147483648) → (r * r ≤ v) → (v < (r + ((2 ^ k : Nat) : Int)) * (r + ((2 ^ k : Nat) : Int))) → k < fuel → GW G p l e ({ frames := 0, cells := 0, slots := 0, locals := 0 } : Room) s m args below meth c 7 z n sh R I J 0 0 (vx_MQ below (GQ G n sh R (memQ (some (vI (rootZ v))) I J)) (GX G n sh R gNo) args s 0 0 (ge G)) 6 [some (vL v), none, some (vL r), none, some (vI ((k : Int) - 1)), none, none] [] := by
    intro fuel
    induction fuel with
    | zero => intro k r hk hr0 hb h1 h2 hf_6; exact absurd hf_6 (Nat.not_lt_zero _)
    | succ fuel ih_6 =>
      intro k r hk hr0 hb h1 h2 hf_6
      refine gw_iload C dX3_rootOf_6 rfl ?_
      refine gw_if_lt C (tgt := 38) dX3_rootOf_8 (by decide) (by omega) (fun h_8 => ?_) (fun h_8 => ?_)
      · skip
        refine gw_lload_n C 2 dX3_rootOf_38 rfl rfl ?_
        refine gw_l2i C dX3_rootOf_39 ?_
        exact gw_iret C (Nat.le_of_ble_eq_true rfl) (Nat.le_of_ble_eq_true rfl) dX3_rootOf_40 (⟨congrArg (fun q => some (vI q)) (by exact rootZ_u hr0 h1 (by have hk0 : k = 0 := (by omega); subst hk0; exact h2)), rfl, rfl⟩)
      · skip
        refine gw_lload_n C 2 dX3_rootOf_11 rfl rfl ?_
        refine gw_lconst C 1 dX3_rootOf_12 (by decide) ?_
        refine gw_iload C dX3_rootOf_13 rfl ?_
        refine gw_lshl1 C ((2 ^ (k - 1) : Nat) : Int) dX3_rootOf_15 (by rw [show ((k : Int) - 1) = ((k - 1 : Nat) : Int) by omega]; exact shl_pw (k - 1) (by omega)) ?_
        have hp : (2 : Nat) ^ k = 2 * 2 ^ (k - 1) := by rw [← Nat.pow_succ']; congr 1; omega
        have hp1 := Nat.two_pow_pos (k - 1)
        generalize hpe : (2 : Nat) ^ (k - 1) = p at hp hp1 ⊢
        have hsq := mul_b (a := r + (p : Int)) (b := r + (p : Int)) (m := 2147483648) (k := 2147483648) (by omega) (by omega)
        refine gw_ladd C dX3_rootOf_16 ?_
        refine gw_lstore C (lo1 := [some (vL v), none, some (vL r), none, some (vI ((k : Int) - 1)), some (vL (r + (p : Int))), none]) dX3_rootOf_17 (by decide) rfl ?_
        refine gw_lload C dX3_rootOf_19 rfl ?_
        refine gw_lload C dX3_rootOf_21 rfl ?_
        refine gw_lmul C dX3_rootOf_23 ?_
        refine gw_lload_n C 0 dX3_rootOf_24 rfl rfl ?_
        refine gw_lcmp C dX3_rootOf_25 (by omega) (by omega) (fun h_25 => ?_) (fun h_25 => ?_) (fun h_25 => ?_)
        · skip
          refine gw_if_gt C (tgt := 32) dX3_rootOf_26 (by decide) ⟨by decide, by decide⟩ (fun h => absurd h (by decide)) (fun _ => ?_)
          refine gw_lload C dX3_rootOf_29 rfl ?_
          refine gw_lstore_n C (lo1 := [some (vL v), none, some (vL (r + (p : Int))), none, some (vI ((k : Int) - 1)), some (vL (r + (p : Int))), none]) 2 dX3_rootOf_31 rfl (by decide) rfl ?_
          refine gw_iinc C (lo1 := [some (vL v), none, some (vL (r + (p : Int))), none, some (vI (((k : Int) - 1) + (-1))), some (vL (r + (p : Int))), none]) dX3_rootOf_32 rfl (by decide) rfl ?_
          refine gw_goto C (tgt := 6) dX3_rootOf_35 (by decide) ?_
          exact gw_weak (lo' := [some (vL v), none, some (vL (r + (p : Int))), none, some (vI ((((k - 1) : Nat) : Int) - 1)), none, none]) ⟨rfl, rfl, congrArg (fun q => some (vI q)) (by omega), trivial⟩ (ih_6 (k - 1) (r + (p : Int)) (by omega) (by omega) (by rw [hpe]; omega) (by first | exact h1 | omega) (by rw [hpe]; first | omega | (have e : r + (p : Int) + (p : Int) = r + ((2 ^ k : Nat) : Int) := (by omega); rw [e]; exact h2)) (by omega))
        · skip
          refine gw_if_gt C (tgt := 32) dX3_rootOf_26 (by decide) ⟨by decide, by decide⟩ (fun h => absurd h (by decide)) (fun _ => ?_)
          refine gw_lload C dX3_rootOf_29 rfl ?_
          refine gw_lstore_n C (lo1 := [some (vL v), none, some (vL (r + (p : Int))), none, some (vI ((k : Int) - 1)), some (vL (r + (p : Int))), none]) 2 dX3_rootOf_31 rfl (by decide) rfl ?_
          refine gw_iinc C (lo1 := [some (vL v), none, some (vL (r + (p : Int))), none, some (vI (((k : Int) - 1) + (-1))), some (vL (r + (p : Int))), none]) dX3_rootOf_32 rfl (by decide) rfl ?_
          refine gw_goto C (tgt := 6) dX3_rootOf_35 (by decide) ?_
          exact gw_weak (lo' := [some (vL v), none, some (vL (r + (p : Int))), none, some (vI ((((k - 1) : Nat) : Int) - 1)), none, none]) ⟨rfl, rfl, congrArg (fun q => some (vI q)) (by omega), trivial⟩ (ih_6 (k - 1) (r + (p : Int)) (by omega) (by omega) (by rw [hpe]; omega) (by first | exact h1 | omega) (by rw [hpe]; first | omega | (have e : r + (p : Int) + (p : Int) = r + ((2 ^ k : Nat) : Int) := (by omega); rw [e]; exact h2)) (by omega))
        · skip
          refine gw_if_gt C (tgt := 32) dX3_rootOf_26 (by decide) ⟨by decide, by decide⟩ (fun _ => ?_) (fun h => absurd h (by decide))
          refine gw_iinc C (lo1 := [some (vL v), none, some (vL r), none, some (vI (((k : Int) - 1) + (-1))), some (vL (r + (p : Int))), none]) dX3_rootOf_32 rfl (by decide) rfl ?_
          refine gw_goto C (tgt := 6) dX3_rootOf_35 (by decide) ?_
          exact gw_weak (lo' := [some (vL v), none, some (vL r), none, some (vI ((((k - 1) : Nat) : Int) - 1)), none, none]) ⟨rfl, rfl, congrArg (fun q => some (vI q)) (by omega), trivial⟩ (ih_6 (k - 1) r (by omega) (by omega) (by rw [hpe]; omega) (by first | exact h1 | omega) (by rw [hpe]; first | omega | (have e : r + (p : Int) + (p : Int) = r + ((2 ^ k : Nat) : Int) := (by omega); rw [e]; exact h2)) (by omega))
  exact gw_weak (lo' := [some (vL v), none, some (vL 0), none, some (vI ((31 : Int) - 1)), none, none]) ⟨rfl, rfl, congrArg (fun q => some (vI q)) (by omega), trivial⟩ (loop_6 _ 31 0 (by decide) (by decide) (by decide) (by omega) (by have h : (0 : Int) + ((2 ^ 31 : Nat) : Int) = 2147483648 := (by decide); rw [h]; omega) (Nat.lt_succ_self _))
set_option maxHeartbeats 4000000 in
set_option maxRecDepth 100000 in
theorem c_X3_lengthOf {l : Launch} (hl0 : l.stackTraces = false) (G : GG) {n : Nat} {sh : GSh} {R : GR} {z : Nat} {I J : GI} (x : Int) (y : Int) (h : 0 ≤ x * x + y * y ∧ x * x + y * y < 4611686018427387904) : GM l yX3_lengthOf (.code yX3_lengthOf cX3_lengthOf 4 (some .int)) 1 26 0 0 G n sh R [vL x, vL y] z I J (memQ (some (vI (rootZ (x * x + y * y)))) I J) gNo := by
  refine gm_of (lo0 := [some (vL x), none, some (vL y), none]) hl0 (by decide) rfl (Nat.le_of_ble_eq_true rfl) ?_
  intro p e s m args below meth c C ht hgi
  have C : gC G p l s m args meth c cX3_lengthOf 4 RX3 (some .int) "lengthOf" := C
  refine gw_lload_n C 0 dX3_lengthOf_0 rfl rfl ?_
  refine gw_lload_n C 2 dX3_lengthOf_1 rfl rfl ?_
  refine gw_callSm C (as := [vL x, vL y]) (st := []) (c_X3_squareOf hl0 G x y ) dX3_lengthOf_2 kX3_27 qX3_squareOf hdX3_squareOf ⟨Nat.le_of_ble_eq_true rfl, Nat.le_of_ble_eq_true rfl⟩ ⟨Nat.le_of_ble_eq_true rfl, Nat.le_of_ble_eq_true rfl⟩ (Nat.le_of_ble_eq_true rfl) rfl (fun z_2 => ?_)
  refine gw_callSm C (as := [vL (x * x + y * y)]) (st := []) (c_X3_rootOf hl0 G (x * x + y * y) h) dX3_lengthOf_5 kX3_31 qX3_rootOf hdX3_rootOf ⟨Nat.le_of_ble_eq_true rfl, Nat.le_of_ble_eq_true rfl⟩ ⟨Nat.le_of_ble_eq_true rfl, Nat.le_of_ble_eq_true rfl⟩ (Nat.le_of_ble_eq_true rfl) rfl (fun z_5 => ?_)
  exact gw_iret C (Nat.le_of_ble_eq_true rfl) (Nat.le_of_ble_eq_true rfl) dX3_lengthOf_8 (⟨congrArg (fun q => some (vI q)) (by rfl), rfl, rfl⟩)
set_option maxHeartbeats 4000000 in
set_option maxRecDepth 100000 in
theorem c_X7_isIn {l : Launch} (hl0 : l.stackTraces = false) (G : GG) {n : Nat} {sh : GSh} {R : GR} {z : Nat} {I J : GI} (x : Int) (a : Int) (b : Int) (hx : inI x) (ha : inI a) (hb : inI b) : GM l yX7_isIn (.code yX7_isIn cX7_isIn 3 (some .boolean)) 0 0 0 0 G n sh R [vI x, vI a, vI b] z I J (boolQ (a ≤ x ∧ x ≤ b) I J) gNo := by
  refine gm_of (lo0 := [some (vI x), some (vI a), some (vI b)]) hl0 (by decide) rfl (Nat.le_of_ble_eq_true rfl) ?_
  intro p e s m args below meth c C ht hgi
  have C : gC G p l s m args meth c cX7_isIn 3 RX7 (some .boolean) "isIn" := C
  refine gw_iload_n C 0 dX7_isIn_0 rfl rfl ?_
  refine gw_iload_n C 1 dX7_isIn_1 rfl rfl ?_
  refine gw_icmp_lt C (tgt := 14) dX7_isIn_2 (by decide) hx ha (fun h_2 => ?_) (fun h_2 => ?_)
  · skip
    refine gw_iconst C dX7_isIn_14 ?_
    exact gw_zret C (Nat.le_of_ble_eq_true rfl) (Nat.le_of_ble_eq_true rfl) dX7_isIn_15 (Or.inl rfl) (⟨Or.inr ⟨(by omega), rfl⟩, rfl, rfl⟩)
  · skip
    refine gw_iload_n C 0 dX7_isIn_5 rfl rfl ?_
    refine gw_iload_n C 2 dX7_isIn_6 rfl rfl ?_
    refine gw_icmp_gt C (tgt := 14) dX7_isIn_7 (by decide) hx hb (fun h_7 => ?_) (fun h_7 => ?_)
    · skip
      refine gw_iconst C dX7_isIn_14 ?_
      exact gw_zret C (Nat.le_of_ble_eq_true rfl) (Nat.le_of_ble_eq_true rfl) dX7_isIn_15 (Or.inl rfl) (⟨Or.inr ⟨(by omega), rfl⟩, rfl, rfl⟩)
    · skip
      refine gw_iconst C dX7_isIn_10 ?_
      refine gw_goto C (tgt := 15) dX7_isIn_11 (by decide) ?_
      exact gw_zret C (Nat.le_of_ble_eq_true rfl) (Nat.le_of_ble_eq_true rfl) dX7_isIn_15 (Or.inr rfl) (⟨Or.inl ⟨(by omega), rfl⟩, rfl, rfl⟩)
set_option maxHeartbeats 4000000 in
set_option maxRecDepth 100000 in
theorem c_X7_isBearing {l : Launch} (hl0 : l.stackTraces = false) (G : GG) {n : Nat} {sh : GSh} {R : GR} {z : Nat} {I J : GI} (x : Int) (hx : inI x) : GM l yX7_isBearing (.code yX7_isBearing cX7_isBearing 1 (some .boolean)) 1 22 0 0 G n sh R [vI x] z I J (boolQ (0 ≤ x ∧ x ≤ 1295999) I J) gNo := by
  refine gm_of (lo0 := [some (vI x)]) hl0 (by decide) rfl (Nat.le_of_ble_eq_true rfl) ?_
  intro p e s m args below meth c C ht hgi
  have C : gC G p l s m args meth c cX7_isBearing 1 RX7 (some .boolean) "isBearing" := C
  refine gw_iload_n C 0 dX7_isBearing_0 rfl rfl ?_
  refine gw_iconst C dX7_isBearing_1 ?_
  refine gw_ldcw C (x := 1295999) dX7_isBearing_2 kX7_313 (by decide) ?_
  refine gw_callSb C (as := [vI x, vI 0, vI 1295999]) (st := []) (c_X7_isIn hl0 G x 0 1295999 hx ⟨by decide, by decide⟩ ⟨by decide, by decide⟩) dX7_isBearing_5 kX7_52 qX7_isIn hdX7_isIn ⟨Nat.le_of_ble_eq_true rfl, Nat.le_of_ble_eq_true rfl⟩ ⟨Nat.le_of_ble_eq_true rfl, Nat.le_of_ble_eq_true rfl⟩ (Nat.le_of_ble_eq_true rfl) rfl (fun h_5 z_5 => ?_) (fun h_5 z_5 => ?_)
  · skip
    exact gw_zret C (Nat.le_of_ble_eq_true rfl) (Nat.le_of_ble_eq_true rfl) dX7_isBearing_8 (Or.inr rfl) (⟨Or.inl ⟨(by omega), rfl⟩, rfl, rfl⟩)
  · skip
    exact gw_zret C (Nat.le_of_ble_eq_true rfl) (Nat.le_of_ble_eq_true rfl) dX7_isBearing_8 (Or.inl rfl) (⟨Or.inr ⟨(by omega), rfl⟩, rfl, rfl⟩)
set_option maxHeartbeats 4000000 in
set_option maxRecDepth 100000 in
theorem c_X7_isSmall {l : Launch} (hl0 : l.stackTraces = false) (G : GG) {n : Nat} {sh : GSh} {R : GR} {z : Nat} {I J : GI} (x : Int) (hx : inI x) : GM l yX7_isSmall (.code yX7_isSmall cX7_isSmall 1 (some .boolean)) 1 22 0 0 G n sh R [vI x] z I J (boolQ (-3600 ≤ x ∧ x ≤ 3600) I J) gNo := by
  refine gm_of (lo0 := [some (vI x)]) hl0 (by decide) rfl (Nat.le_of_ble_eq_true rfl) ?_
  intro p e s m args below meth c C ht hgi
  have C : gC G p l s m args meth c cX7_isSmall 1 RX7 (some .boolean) "isSmall" := C
  refine gw_iload_n C 0 dX7_isSmall_0 rfl rfl ?_
  refine gw_sipush C dX7_isSmall_1 rfl ?_
  refine gw_sipush C dX7_isSmall_4 rfl ?_
  refine gw_callSb C (as := [vI x, vI (-3600), vI 3600]) (st := []) (c_X7_isIn hl0 G x (-3600) 3600 hx ⟨by decide, by decide⟩ ⟨by decide, by decide⟩) dX7_isSmall_7 kX7_52 qX7_isIn hdX7_isIn ⟨Nat.le_of_ble_eq_true rfl, Nat.le_of_ble_eq_true rfl⟩ ⟨Nat.le_of_ble_eq_true rfl, Nat.le_of_ble_eq_true rfl⟩ (Nat.le_of_ble_eq_true rfl) rfl (fun h_7 z_7 => ?_) (fun h_7 z_7 => ?_)
  · skip
    exact gw_zret C (Nat.le_of_ble_eq_true rfl) (Nat.le_of_ble_eq_true rfl) dX7_isSmall_10 (Or.inr rfl) (⟨Or.inl ⟨(by omega), rfl⟩, rfl, rfl⟩)
  · skip
    exact gw_zret C (Nat.le_of_ble_eq_true rfl) (Nat.le_of_ble_eq_true rfl) dX7_isSmall_10 (Or.inl rfl) (⟨Or.inr ⟨(by omega), rfl⟩, rfl, rfl⟩)
def numZ (c : Int) : Int := if c = 108 then 3 else if c = 116 then 2 else if c = 107 ∨ c = 97 then 1 else 0
