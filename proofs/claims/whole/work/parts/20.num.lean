set_option maxHeartbeats 4000000 in
set_option maxRecDepth 100000 in
theorem c_X3_norm {l : Launch} (hl0 : l.stackTraces = false) (G : GG) {n : Nat} {sh : GSh} {R : GR} {z : Nat} {I J : GI} (x : Int) (hx : inI x) : GM l yX3_norm (.code yX3_norm cX3_norm 2 (some .int)) 0 0 0 0 G n sh R [vI x] z I J (memQ (some (vI (normZ x))) I J) gNo := by
  refine gm_of (lo0 := [some (vI x), none]) hl0 (by decide) rfl (Nat.le_of_ble_eq_true rfl) ?_
  intro p e s m args below meth c C ht hgi
  have C : gC G p l s m args meth c cX3_norm 2 RX3 (some .int) "norm" := C
  have t := tmod_c x (c := 1296000) (by decide)
  refine gw_iload_n C 0 dX3_norm_0 rfl rfl ?_
  refine gw_ldc C (x := 1296000) dX3_norm_1 kX3_9 (by decide) ?_
  refine gw_irem C dX3_norm_3 hx ⟨by decide, by decide⟩ (by decide) ?_
  refine gw_istore_n C (lo1 := [some (vI x), some (vI ((x).tmod 1296000))]) 1 dX3_norm_4 rfl (by decide) rfl ?_
  refine gw_iload_n C 1 dX3_norm_5 rfl rfl ?_
  refine gw_if_ge C (tgt := 16) dX3_norm_6 (by decide) (by omega) (fun h_6 => ?_) (fun h_6 => ?_)
  · skip
    refine gw_iload_n C 1 dX3_norm_16 rfl rfl ?_
    exact gw_iret C (Nat.le_of_ble_eq_true rfl) (Nat.le_of_ble_eq_true rfl) dX3_norm_17 (⟨congrArg (fun q => some (vI q)) (by unfold normZ; omega), rfl, rfl⟩)
  · skip
    refine gw_iload_n C 1 dX3_norm_9 rfl rfl ?_
    refine gw_ldc C (x := 1296000) dX3_norm_10 kX3_9 (by decide) ?_
    refine gw_iadd C dX3_norm_12 ?_
    refine gw_goto C (tgt := 17) dX3_norm_13 (by decide) ?_
    exact gw_iret C (Nat.le_of_ble_eq_true rfl) (Nat.le_of_ble_eq_true rfl) dX3_norm_17 (⟨congrArg (fun q => some (vI q)) (by unfold normZ; omega), rfl, rfl⟩)
set_option maxHeartbeats 4000000 in
set_option maxRecDepth 100000 in
theorem c_X3_centre {l : Launch} (hl0 : l.stackTraces = false) (G : GG) {n : Nat} {sh : GSh} {R : GR} {z : Nat} {I J : GI} (x : Int) (hx : inI (x + 648000)) : GM l yX3_centre (.code yX3_centre cX3_centre 1 (some .int)) 1 21 0 0 G n sh R [vI x] z I J (memQ (some (vI (centZ x))) I J) gNo := by
  refine gm_of (lo0 := [some (vI x)]) hl0 (by decide) rfl (Nat.le_of_ble_eq_true rfl) ?_
  intro p e s m args below meth c C ht hgi
  have C : gC G p l s m args meth c cX3_centre 1 RX3 (some .int) "centre" := C
  have hx1 := hx
  refine gw_iload_n C 0 dX3_centre_0 rfl rfl ?_
  refine gw_ldc C (x := 648000) dX3_centre_1 kX3_10 (by decide) ?_
  refine gw_iadd C dX3_centre_3 ?_
  refine gw_callSm C (as := [vI (x + 648000)]) (st := []) (c_X3_norm hl0 G (x + 648000) hx) dX3_centre_4 kX3_11 qX3_norm hdX3_norm ⟨Nat.le_of_ble_eq_true rfl, Nat.le_of_ble_eq_true rfl⟩ ⟨Nat.le_of_ble_eq_true rfl, Nat.le_of_ble_eq_true rfl⟩ (Nat.le_of_ble_eq_true rfl) rfl (fun z_4 => ?_)
  have hr_4 := normZ_b (x + 648000)
  refine gw_ldc C (x := 648000) dX3_centre_7 kX3_10 (by decide) ?_
  refine gw_isub C dX3_centre_9 ?_
  exact gw_iret C (Nat.le_of_ble_eq_true rfl) (Nat.le_of_ble_eq_true rfl) dX3_centre_10 (⟨congrArg (fun q => some (vI q)) (by rfl), rfl, rfl⟩)
theorem quot_b (x y : Int) (hy : 0 < y) : True := trivial
set_option maxHeartbeats 4000000 in
set_option maxRecDepth 100000 in
theorem c_X3_quotient {l : Launch} (hl0 : l.stackTraces = false) (G : GG) {n : Nat} {sh : GSh} {R : GR} {z : Nat} {I J : GI} (x : Int) (y : Int) (hx : inL x) (hy : inL y) (h0 : y ≠ 0) : GM l yX3_quotient (.code yX3_quotient cX3_quotient 4 (some .int)) 0 0 0 0 G n sh R [vL x, vL y] z I J (memQ (some (vI (x.tdiv y))) I J) gNo := by
  refine gm_of (lo0 := [some (vL x), none, some (vL y), none]) hl0 (by decide) rfl (Nat.le_of_ble_eq_true rfl) ?_
  intro p e s m args below meth c C ht hgi
  have C : gC G p l s m args meth c cX3_quotient 4 RX3 (some .int) "quotient" := C
  refine gw_lload_n C 2 dX3_quotient_0 rfl rfl ?_
  refine gw_lconst C 0 dX3_quotient_1 (by decide) ?_
  refine gw_lcmp C dX3_quotient_2 hy ⟨by decide, by decide⟩ (fun h_2 => ?_) (fun h_2 => ?_) (fun h_2 => ?_)
  · skip
    refine gw_if_ne C (tgt := 10) dX3_quotient_3 (by decide) ⟨by decide, by decide⟩ (fun _ => ?_) (fun h => absurd h (by decide))
    refine gw_lload_n C 0 dX3_quotient_10 rfl rfl ?_
    refine gw_lload_n C 2 dX3_quotient_11 rfl rfl ?_
    refine gw_ldiv C dX3_quotient_12 hx hy (by omega) ?_
    refine gw_l2i C dX3_quotient_13 ?_
    exact gw_iret C (Nat.le_of_ble_eq_true rfl) (Nat.le_of_ble_eq_true rfl) dX3_quotient_14 (⟨congrArg (fun q => some (vI q)) (by rfl), rfl, rfl⟩)
  · exact absurd True.intro (by omega)
  · skip
    refine gw_if_ne C (tgt := 10) dX3_quotient_3 (by decide) ⟨by decide, by decide⟩ (fun _ => ?_) (fun h => absurd h (by decide))
    refine gw_lload_n C 0 dX3_quotient_10 rfl rfl ?_
    refine gw_lload_n C 2 dX3_quotient_11 rfl rfl ?_
    refine gw_ldiv C dX3_quotient_12 hx hy (by omega) ?_
    refine gw_l2i C dX3_quotient_13 ?_
    exact gw_iret C (Nat.le_of_ble_eq_true rfl) (Nat.le_of_ble_eq_true rfl) dX3_quotient_14 (⟨congrArg (fun q => some (vI q)) (by rfl), rfl, rfl⟩)
set_option maxHeartbeats 4000000 in
set_option maxRecDepth 100000 in
theorem c_X3_sineOf {l : Launch} (hl0 : l.stackTraces = false) (G : GG) {n : Nat} {sh : GSh} {R : GR} {z : Nat} {I J : GI} (x : Int) (hx : inI x) : GM l yX3_sineOf (.code yX3_sineOf cX3_sineOf 7 (some .int)) 1 23 0 0 G n sh R [vI x] z I J (memQ (some (vI (sinZ x))) I J) gNo := by
  refine gm_of (lo0 := [some (vI x), none, none, none, none, none, none]) hl0 (by decide) rfl (Nat.le_of_ble_eq_true rfl) ?_
  intro p e s m args below meth c C ht hgi
  have C : gC G p l s m args meth c cX3_sineOf 7 RX3 (some .int) "sineOf" := C
  have hnb := normZ_b x
  have hs0 : normZ x < 648000 → 0 ≤ normZ x * (648000 - normZ x) ∧ normZ x * (648000 - normZ x) ≤ 104976000000 := fun h => half_b ⟨hnb.1, by omega⟩
  have hs1 : 648000 ≤ normZ x → 0 ≤ (normZ x - 648000) * (648000 - (normZ x - 648000)) ∧ (normZ x - 648000) * (648000 - (normZ x - 648000)) ≤ 104976000000 := fun h => half_b ⟨by omega, by omega⟩
  refine gw_iload_n C 0 dX3_sineOf_0 rfl rfl ?_
  refine gw_callSm C (as := [vI x]) (st := []) (c_X3_norm hl0 G x hx) dX3_sineOf_1 kX3_11 qX3_norm hdX3_norm ⟨Nat.le_of_ble_eq_true rfl, Nat.le_of_ble_eq_true rfl⟩ ⟨Nat.le_of_ble_eq_true rfl, Nat.le_of_ble_eq_true rfl⟩ (Nat.le_of_ble_eq_true rfl) rfl (fun z_1 => ?_)
  have hr_1 := normZ_b x
  refine gw_istore_n C (lo1 := [some (vI x), some (vI (normZ x)), none, none, none, none, none]) 1 dX3_sineOf_4 rfl (by decide) rfl ?_
  refine gw_iload_n C 1 dX3_sineOf_5 rfl rfl ?_
  refine gw_ldc C (x := 648000) dX3_sineOf_6 kX3_10 (by decide) ?_
  refine gw_icmp_ge C (tgt := 16) dX3_sineOf_8 (by decide) (by omega) ⟨by decide, by decide⟩ (fun h_8 => ?_) (fun h_8 => ?_)
  · skip
    refine gw_iload_n C 1 dX3_sineOf_16 rfl rfl ?_
    refine gw_ldc C (x := 648000) dX3_sineOf_17 kX3_10 (by decide) ?_
    refine gw_isub C dX3_sineOf_19 ?_
    refine gw_i2l C dX3_sineOf_20 (by omega) ?_
    refine gw_lstore_n C (lo1 := [some (vI x), some (vI (normZ x)), some (vL ((normZ x) - 648000)), none, none, none, none]) 2 dX3_sineOf_21 rfl (by decide) rfl ?_
    refine gw_lload_n C 2 dX3_sineOf_22 rfl rfl ?_
    refine gw_ldc2 C (x := 648000) dX3_sineOf_23 kX3_17 (by decide) ?_
    refine gw_lload_n C 2 dX3_sineOf_26 rfl rfl ?_
    refine gw_lsub C dX3_sineOf_27 ?_
    refine gw_lmul C dX3_sineOf_28 ?_
    refine gw_lstore C (lo1 := [some (vI x), some (vI (normZ x)), some (vL ((normZ x) - 648000)), none, some (vL (((normZ x) - 648000) * (648000 - ((normZ x) - 648000)))), none, none]) dX3_sineOf_29 (by decide) rfl ?_
    refine gw_ldc2 C (x := 40000) dX3_sineOf_31 kX3_19 (by decide) ?_
    refine gw_lload C dX3_sineOf_34 rfl ?_
    refine gw_lmul C dX3_sineOf_36 ?_
    refine gw_ldc2 C (x := 524880000000) dX3_sineOf_37 kX3_21 (by decide) ?_
    refine gw_lload C dX3_sineOf_40 rfl ?_
    refine gw_lsub C dX3_sineOf_42 ?_
    refine gw_callSm C (as := [vL (40000 * (((normZ x) - 648000) * (648000 - ((normZ x) - 648000)))), vL (524880000000 - (((normZ x) - 648000) * (648000 - ((normZ x) - 648000))))]) (st := []) (c_X3_quotient hl0 G (40000 * (((normZ x) - 648000) * (648000 - ((normZ x) - 648000)))) (524880000000 - (((normZ x) - 648000) * (648000 - ((normZ x) - 648000)))) (by omega) (by omega) (by omega)) dX3_sineOf_43 kX3_23 qX3_quotient hdX3_quotient ⟨Nat.le_of_ble_eq_true rfl, Nat.le_of_ble_eq_true rfl⟩ ⟨Nat.le_of_ble_eq_true rfl, Nat.le_of_ble_eq_true rfl⟩ (Nat.le_of_ble_eq_true rfl) rfl (fun z_43 => ?_)
    refine gw_istore C (lo1 := [some (vI x), some (vI (normZ x)), some (vL ((normZ x) - 648000)), none, some (vL (((normZ x) - 648000) * (648000 - ((normZ x) - 648000)))), none, some (vI ((40000 * (((normZ x) - 648000) * (648000 - ((normZ x) - 648000)))).tdiv (524880000000 - (((normZ x) - 648000) * (648000 - ((normZ x) - 648000))))))]) dX3_sineOf_46 (by decide) rfl ?_
    refine gw_iload_n C 1 dX3_sineOf_48 rfl rfl ?_
    refine gw_ldc C (x := 648000) dX3_sineOf_49 kX3_10 (by decide) ?_
    refine gw_icmp_ge C (tgt := 59) dX3_sineOf_51 (by decide) (by omega) ⟨by decide, by decide⟩ (fun h_51 => ?_) (fun h_51 => ?_)
    · skip
      refine gw_iload C dX3_sineOf_59 rfl ?_
      refine gw_ineg C dX3_sineOf_61 ?_
      exact gw_iret C (Nat.le_of_ble_eq_true rfl) (Nat.le_of_ble_eq_true rfl) dX3_sineOf_62 (⟨congrArg (fun q => some (vI q)) (by first | (unfold sinZ; rw [if_pos (by omega)]; rfl) | (unfold sinZ; rw [if_neg (by omega)]; rfl) | (exfalso; omega)), rfl, rfl⟩)
    · skip
      refine gw_iload C dX3_sineOf_54 rfl ?_
      refine gw_goto C (tgt := 62) dX3_sineOf_56 (by decide) ?_
      exact gw_iret C (Nat.le_of_ble_eq_true rfl) (Nat.le_of_ble_eq_true rfl) dX3_sineOf_62 (⟨congrArg (fun q => some (vI q)) (by first | (unfold sinZ; rw [if_pos (by omega)]; rfl) | (unfold sinZ; rw [if_neg (by omega)]; rfl) | (exfalso; omega)), rfl, rfl⟩)
  · skip
    refine gw_iload_n C 1 dX3_sineOf_11 rfl rfl ?_
    refine gw_i2l C dX3_sineOf_12 (by omega) ?_
    refine gw_goto C (tgt := 21) dX3_sineOf_13 (by decide) ?_
    refine gw_lstore_n C (lo1 := [some (vI x), some (vI (normZ x)), some (vL (normZ x)), none, none, none, none]) 2 dX3_sineOf_21 rfl (by decide) rfl ?_
    refine gw_lload_n C 2 dX3_sineOf_22 rfl rfl ?_
    refine gw_ldc2 C (x := 648000) dX3_sineOf_23 kX3_17 (by decide) ?_
    refine gw_lload_n C 2 dX3_sineOf_26 rfl rfl ?_
    refine gw_lsub C dX3_sineOf_27 ?_
    refine gw_lmul C dX3_sineOf_28 ?_
    refine gw_lstore C (lo1 := [some (vI x), some (vI (normZ x)), some (vL (normZ x)), none, some (vL ((normZ x) * (648000 - (normZ x)))), none, none]) dX3_sineOf_29 (by decide) rfl ?_
    refine gw_ldc2 C (x := 40000) dX3_sineOf_31 kX3_19 (by decide) ?_
    refine gw_lload C dX3_sineOf_34 rfl ?_
    refine gw_lmul C dX3_sineOf_36 ?_
    refine gw_ldc2 C (x := 524880000000) dX3_sineOf_37 kX3_21 (by decide) ?_
    refine gw_lload C dX3_sineOf_40 rfl ?_
    refine gw_lsub C dX3_sineOf_42 ?_
    refine gw_callSm C (as := [vL (40000 * ((normZ x) * (648000 - (normZ x)))), vL (524880000000 - ((normZ x) * (648000 - (normZ x))))]) (st := []) (c_X3_quotient hl0 G (40000 * ((normZ x) * (648000 - (normZ x)))) (524880000000 - ((normZ x) * (648000 - (normZ x)))) (by omega) (by omega) (by omega)) dX3_sineOf_43 kX3_23 qX3_quotient hdX3_quotient ⟨Nat.le_of_ble_eq_true rfl, Nat.le_of_ble_eq_true rfl⟩ ⟨Nat.le_of_ble_eq_true rfl, Nat.le_of_ble_eq_true rfl⟩ (Nat.le_of_ble_eq_true rfl) rfl (fun z_43_2 => ?_)
    refine gw_istore C (lo1 := [some (vI x), some (vI (normZ x)), some (vL (normZ x)), none, some (vL ((normZ x) * (648000 - (normZ x)))), none, some (vI ((40000 * ((normZ x) * (648000 - (normZ x)))).tdiv (524880000000 - ((normZ x) * (648000 - (normZ x))))))]) dX3_sineOf_46 (by decide) rfl ?_
    refine gw_iload_n C 1 dX3_sineOf_48 rfl rfl ?_
    refine gw_ldc C (x := 648000) dX3_sineOf_49 kX3_10 (by decide) ?_
    refine gw_icmp_ge C (tgt := 59) dX3_sineOf_51 (by decide) (by omega) ⟨by decide, by decide⟩ (fun h_51_2 => ?_) (fun h_51_2 => ?_)
    · skip
      refine gw_iload C dX3_sineOf_59 rfl ?_
      refine gw_ineg C dX3_sineOf_61 ?_
      exact gw_iret C (Nat.le_of_ble_eq_true rfl) (Nat.le_of_ble_eq_true rfl) dX3_sineOf_62 (⟨congrArg (fun q => some (vI q)) (by first | (unfold sinZ; rw [if_pos (by omega)]; rfl) | (unfold sinZ; rw [if_neg (by omega)]; rfl) | (exfalso; omega)), rfl, rfl⟩)
    · skip
      refine gw_iload C dX3_sineOf_54 rfl ?_
      refine gw_goto C (tgt := 62) dX3_sineOf_56 (by decide) ?_
      exact gw_iret C (Nat.le_of_ble_eq_true rfl) (Nat.le_of_ble_eq_true rfl) dX3_sineOf_62 (⟨congrArg (fun q => some (vI q)) (by first | (unfold sinZ; rw [if_pos (by omega)]; rfl) | (unfold sinZ; rw [if_neg (by omega)]; rfl) | (exfalso; omega)), rfl, rfl⟩)
set_option maxHeartbeats 4000000 in
set_option maxRecDepth 100000 in
theorem c_X3_squareOf {l : Launch} (hl0 : l.stackTraces = false) (G : GG) {n : Nat} {sh : GSh} {R : GR} {z : Nat} {I J : GI} (x : Int) (y : Int)  : GM l yX3_squareOf (.code yX3_squareOf cX3_squareOf 4 (some .long)) 0 0 0 0 G n sh R [vL x, vL y] z I J (memQ (some (vL (x * x + y * y))) I J) gNo := by
  refine gm_of (lo0 := [some (vL x), none, some (vL y), none]) hl0 (by decide) rfl (Nat.le_of_ble_eq_true rfl) ?_
  intro p e s m args below meth c C ht hgi
  have C : gC G p l s m args meth c cX3_squareOf 4 RX3 (some .long) "squareOf" := C
  refine gw_lload_n C 0 dX3_squareOf_0 rfl rfl ?_
  refine gw_lload_n C 0 dX3_squareOf_1 rfl rfl ?_
  refine gw_lmul C dX3_squareOf_2 ?_
  refine gw_lload_n C 2 dX3_squareOf_3 rfl rfl ?_
  refine gw_lload_n C 2 dX3_squareOf_4 rfl rfl ?_
  refine gw_lmul C dX3_squareOf_5 ?_
  refine gw_ladd C dX3_squareOf_6 ?_
  exact gw_lret C (Nat.le_of_ble_eq_true rfl) (Nat.le_of_ble_eq_true rfl) dX3_squareOf_7 (⟨congrArg (fun q => some (vL q)) (by rfl), rfl, rfl⟩)
theorem shl_pw : ∀ j : Nat, j < 31 → Int64.ofInt 1 <<< ((Int32.ofInt (j : Int)).toInt64 &&& 63) = Int64.ofInt ((2 ^ j : Nat) : Int) := by decide
set_option maxHeartbeats 4000000 in
set_option maxRecDepth 100000 in
theorem c_X3_rootOf {l : Launch} (hl0 : l.stackTraces = false) (G : GG) {n : Nat} {sh : GSh} {R : GR} {z : Nat} {I J : GI} (v : Int) (hv : 0 ≤ v ∧ v < 4611686018427387904) : GM l yX3_rootOf (.code yX3_rootOf cX3_rootOf 7 (some .int)) 0 0 0 0 G n sh R [vL v] z I J (memQ (some (vI (rootZ v))) I J) gNo := by
  refine gm_of (lo0 := [some (vL v), none, none, none, none, none, none]) hl0 (by decide) rfl (Nat.le_of_ble_eq_true rfl) ?_
  intro p e s m args below meth c C ht hgi
  have C : gC G p l s m args meth c cX3_rootOf 7 RX3 (some .int) "rootOf" := C
  refine gw_lconst C 0 dX3_rootOf_0 (by decide) ?_
  refine gw_lstore_n C (lo1 := [some (vL v), none, some (vL 0), none, none, none, none]) 2 dX3_rootOf_1 rfl (by decide) rfl ?_
  refine gw_bipush C dX3_rootOf_2 rfl ?_
  refine gw_istore C (lo1 := [some (vL v), none, some (vL 0), none, some (vI 30), none, none]) dX3_rootOf_4 (by decide) rfl ?_
  have loop_6 : ∀ (fuel : Nat) (k : Nat) (r : Int), (k ≤ 31) → (0 ≤ r) → (r + ((2 ^ k : Nat) : Int) ≤ 2147483648) → (r * r ≤ v) → (v < (r + ((2 ^ k : Nat) : Int)) * (r + ((2 ^ k : Nat) : Int))) → k < fuel → GW G p l e ({ frames := 0, cells := 0, slots := 0, locals := 0 } : Room) s m args below meth c 7 z n sh R I J 0 0 (vx_MQ below (GQ G n sh R (memQ (some (vI (rootZ v))) I J)) (GX G n sh R gNo) args s 0 0 (ge G)) 6 [some (vL v), none, some (vL r), none, some (vI ((k : Int) - 1)), none, none] [] := by
    intro fuel
    induction fuel with
    | zero => intro k r hk hr0 hb h1 h2 hf_6; exact absurd hf_6 (Nat.not_lt_zero _)
    | succ fuel ih_6 =>
      intro k r hk hr0 hb h1 h2 hf_6
      refine gw_iload C dX3_rootOf_6 rfl ?_
      refine gw_if_lt C (tgt := 38) dX3_rootOf_8 (by decide) (by omega) (fun h_8 => ?_) (fun h_8 => ?_)
      · skip
        refine gw_lload_n C 2 dX3_rootOf_38 rfl rfl ?_
        refine gw_l2i C dX3_rootOf_39 ?_
        exact gw_iret C (Nat.le_of_ble_eq_true rfl) (Nat.le_of_ble_eq_true rfl) dX3_rootOf_40 (⟨congrArg (fun q => some (vI q)) (by exact rootZ_u hr0 h1 (by have hk0 : k = 0 := (by omega); subst hk0; exact h2)), rfl, rfl⟩)
      · skip
        refine gw_lload_n C 2 dX3_rootOf_11 rfl rfl ?_
        refine gw_lconst C 1 dX3_rootOf_12 (by decide) ?_
        refine gw_iload C dX3_rootOf_13 rfl ?_
        refine gw_lshl1 C ((2 ^ (k - 1) : Nat) : Int) dX3_rootOf_15 (by rw [show ((k : Int) - 1) = ((k - 1 : Nat) : Int) by omega]; exact shl_pw (k - 1) (by omega)) ?_
        have hp : (2 : Nat) ^ k = 2 * 2 ^ (k - 1) := by rw [← Nat.pow_succ']; congr 1; omega
        have hp1 := Nat.two_pow_pos (k - 1)
        generalize hpe : (2 : Nat) ^ (k - 1) = p at hp hp1 ⊢
        have hsq := mul_b (a := r + (p : Int)) (b := r + (p : Int)) (m := 2147483648) (k := 2147483648) (by omega) (by omega)
        refine gw_ladd C dX3_rootOf_16 ?_
        refine gw_lstore C (lo1 := [some (vL v), none, some (vL r), none, some (vI ((k : Int) - 1)), some (vL (r + (p : Int))), none]) dX3_rootOf_17 (by decide) rfl ?_
        refine gw_lload C dX3_rootOf_19 rfl ?_
        refine gw_lload C dX3_rootOf_21 rfl ?_
        refine gw_lmul C dX3_rootOf_23 ?_
        refine gw_lload_n C 0 dX3_rootOf_24 rfl rfl ?_
        refine gw_lcmp C dX3_rootOf_25 (by omega) (by omega) (fun h_25 => ?_) (fun h_25 => ?_) (fun h_25 => ?_)
        · skip
          refine gw_if_gt C (tgt := 32) dX3_rootOf_26 (by decide) ⟨by decide, by decide⟩ (fun h => absurd h (by decide)) (fun _ => ?_)
          refine gw_lload C dX3_rootOf_29 rfl ?_
          refine gw_lstore_n C (lo1 := [some (vL v), none, some (vL (r + (p : Int))), none, some (vI ((k : Int) - 1)), some (vL (r + (p : Int))), none]) 2 dX3_rootOf_31 rfl (by decide) rfl ?_
          refine gw_iinc C (lo1 := [some (vL v), none, some (vL (r + (p : Int))), none, some (vI (((k : Int) - 1) + (-1))), some (vL (r + (p : Int))), none]) dX3_rootOf_32 rfl (by decide) rfl ?_
          refine gw_goto C (tgt := 6) dX3_rootOf_35 (by decide) ?_
          exact gw_weak (lo' := [some (vL v), none, some (vL (r + (p : Int))), none, some (vI ((((k - 1) : Nat) : Int) - 1)), none, none]) ⟨rfl, rfl, congrArg (fun q => some (vI q)) (by omega), trivial⟩ (ih_6 (k - 1) (r + (p : Int)) (by omega) (by omega) (by rw [hpe]; omega) (by first | exact h1 | omega) (by rw [hpe]; first | omega | (have e : r + (p : Int) + (p : Int) = r + ((2 ^ k : Nat) : Int) := (by omega); rw [e]; exact h2)) (by omega))
        · skip
          refine gw_if_gt C (tgt := 32) dX3_rootOf_26 (by decide) ⟨by decide, by decide⟩ (fun h => absurd h (by decide)) (fun _ => ?_)
          refine gw_lload C dX3_rootOf_29 rfl ?_
          refine gw_lstore_n C (lo1 := [some (vL v), none, some (vL (r + (p : Int))), none, some (vI ((k : Int) - 1)), some (vL (r + (p : Int))), none]) 2 dX3_rootOf_31 rfl (by decide) rfl ?_
          refine gw_iinc C (lo1 := [some (vL v), none, some (vL (r + (p : Int))), none, some (vI (((k : Int) - 1) + (-1))), some (vL (r + (p : Int))), none]) dX3_rootOf_32 rfl (by decide) rfl ?_
          refine gw_goto C (tgt := 6) dX3_rootOf_35 (by decide) ?_
          exact gw_weak (lo' := [some (vL v), none, some (vL (r + (p : Int))), none, some (vI ((((k - 1) : Nat) : Int) - 1)), none, none]) ⟨rfl, rfl, congrArg (fun q => some (vI q)) (by omega), trivial⟩ (ih_6 (k - 1) (r + (p : Int)) (by omega) (by omega) (by rw [hpe]; omega) (by first | exact h1 | omega) (by rw [hpe]; first | omega | (have e : r + (p : Int) + (p : Int) = r + ((2 ^ k : Nat) : Int) := (by omega); rw [e]; exact h2)) (by omega))
        · skip
          refine gw_if_gt C (tgt := 32) dX3_rootOf_26 (by decide) ⟨by decide, by decide⟩ (fun _ => ?_) (fun h => absurd h (by decide))
          refine gw_iinc C (lo1 := [some (vL v), none, some (vL r), none, some (vI (((k : Int) - 1) + (-1))), some (vL (r + (p : Int))), none]) dX3_rootOf_32 rfl (by decide) rfl ?_
          refine gw_goto C (tgt := 6) dX3_rootOf_35 (by decide) ?_
          exact gw_weak (lo' := [some (vL v), none, some (vL r), none, some (vI ((((k - 1) : Nat) : Int) - 1)), none, none]) ⟨rfl, rfl, congrArg (fun q => some (vI q)) (by omega), trivial⟩ (ih_6 (k - 1) r (by omega) (by omega) (by rw [hpe]; omega) (by first | exact h1 | omega) (by rw [hpe]; first | omega | (have e : r + (p : Int) + (p : Int) = r + ((2 ^ k : Nat) : Int) := (by omega); rw [e]; exact h2)) (by omega))
  exact gw_weak (lo' := [some (vL v), none, some (vL 0), none, some (vI ((31 : Int) - 1)), none, none]) ⟨rfl, rfl, congrArg (fun q => some (vI q)) (by omega), trivial⟩ (loop_6 _ 31 0 (by decide) (by decide) (by decide) (by omega) (by have h : (0 : Int) + ((2 ^ 31 : Nat) : Int) = 2147483648 := (by decide); rw [h]; omega) (Nat.lt_succ_self _))
set_option maxHeartbeats 4000000 in
set_option maxRecDepth 100000 in
theorem c_X3_lengthOf {l : Launch} (hl0 : l.stackTraces = false) (G : GG) {n : Nat} {sh : GSh} {R : GR} {z : Nat} {I J : GI} (x : Int) (y : Int) (h : 0 ≤ x * x + y * y ∧ x * x + y * y < 4611686018427387904) : GM l yX3_lengthOf (.code yX3_lengthOf cX3_lengthOf 4 (some .int)) 1 26 0 0 G n sh R [vL x, vL y] z I J (memQ (some (vI (rootZ (x * x + y * y)))) I J) gNo := by
  refine gm_of (lo0 := [some (vL x), none, some (vL y), none]) hl0 (by decide) rfl (Nat.le_of_ble_eq_true rfl) ?_
  intro p e s m args below meth c C ht hgi
  have C : gC G p l s m args meth c cX3_lengthOf 4 RX3 (some .int) "lengthOf" := C
  refine gw_lload_n C 0 dX3_lengthOf_0 rfl rfl ?_
  refine gw_lload_n C 2 dX3_lengthOf_1 rfl rfl ?_
  refine gw_callSm C (as := [vL x, vL y]) (st := []) (c_X3_squareOf hl0 G x y ) dX3_lengthOf_2 kX3_27 qX3_squareOf hdX3_squareOf ⟨Nat.le_of_ble_eq_true rfl, Nat.le_of_ble_eq_true rfl⟩ ⟨Nat.le_of_ble_eq_true rfl, Nat.le_of_ble_eq_true rfl⟩ (Nat.le_of_ble_eq_true rfl) rfl (fun z_2 => ?_)
  refine gw_callSm C (as := [vL (x * x + y * y)]) (st := []) (c_X3_rootOf hl0 G (x * x + y * y) h) dX3_lengthOf_5 kX3_31 qX3_rootOf hdX3_rootOf ⟨Nat.le_of_ble_eq_true rfl, Nat.le_of_ble_eq_true rfl⟩ ⟨Nat.le_of_ble_eq_true rfl, Nat.le_of_ble_eq_true rfl⟩ (Nat.le_of_ble_eq_true rfl) rfl (fun z_5 => ?_)
  exact gw_iret C (Nat.le_of_ble_eq_true rfl) (Nat.le_of_ble_eq_true rfl) dX3_lengthOf_8 (⟨congrArg (fun q => some (vI q)) (by rfl), rfl, rfl⟩)
set_option maxHeartbeats 4000000 in
set_option maxRecDepth 100000 in
theorem c_X7_isIn {l : Launch} (hl0 : l.stackTraces = false) (G : GG) {n : Nat} {sh : GSh} {R : GR} {z : Nat} {I J : GI} (x : Int) (a : Int) (b : Int) (hx : inI x) (ha : inI a) (hb : inI b) : GM l yX7_isIn (.code yX7_isIn cX7_isIn 3 (some .boolean)) 0 0 0 0 G n sh R [vI x, vI a, vI b] z I J (boolQ (a ≤ x ∧ x ≤ b) I J) gNo := by
  refine gm_of (lo0 := [some (vI x), some (vI a), some (vI b)]) hl0 (by decide) rfl (Nat.le_of_ble_eq_true rfl) ?_
  intro p e s m args below meth c C ht hgi
  have C : gC G p l s m args meth c cX7_isIn 3 RX7 (some .boolean) "isIn" := C
  refine gw_iload_n C 0 dX7_isIn_0 rfl rfl ?_
  refine gw_iload_n C 1 dX7_isIn_1 rfl rfl ?_
  refine gw_icmp_lt C (tgt := 14) dX7_isIn_2 (by decide) hx ha (fun h_2 => ?_) (fun h_2 => ?_)
  · skip
    refine gw_iconst C dX7_isIn_14 ?_
    exact gw_zret C (Nat.le_of_ble_eq_true rfl) (Nat.le_of_ble_eq_true rfl) dX7_isIn_15 (Or.inl rfl) (⟨Or.inr ⟨(by omega), rfl⟩, rfl, rfl⟩)
  · skip
    refine gw_iload_n C 0 dX7_isIn_5 rfl rfl ?_
    refine gw_iload_n C 2 dX7_isIn_6 rfl rfl ?_
    refine gw_icmp_gt C (tgt := 14) dX7_isIn_7 (by decide) hx hb (fun h_7 => ?_) (fun h_7 => ?_)
    · skip
      refine gw_iconst C dX7_isIn_14 ?_
      exact gw_zret C (Nat.le_of_ble_eq_true rfl) (Nat.le_of_ble_eq_true rfl) dX7_isIn_15 (Or.inl rfl) (⟨Or.inr ⟨(by omega), rfl⟩, rfl, rfl⟩)
    · skip
      refine gw_iconst C dX7_isIn_10 ?_
      refine gw_goto C (tgt := 15) dX7_isIn_11 (by decide) ?_
      exact gw_zret C (Nat.le_of_ble_eq_true rfl) (Nat.le_of_ble_eq_true rfl) dX7_isIn_15 (Or.inr rfl) (⟨Or.inl ⟨(by omega), rfl⟩, rfl, rfl⟩)
set_option maxHeartbeats 4000000 in
set_option maxRecDepth 100000 in
theorem c_X7_isBearing {l : Launch} (hl0 : l.stackTraces = false) (G : GG) {n : Nat} {sh : GSh} {R : GR} {z : Nat} {I J : GI} (x : Int) (hx : inI x) : GM l yX7_isBearing (.code yX7_isBearing cX7_isBearing 1 (some .boolean)) 1 22 0 0 G n sh R [vI x] z I J (boolQ (0 ≤ x ∧ x ≤ 1295999) I J) gNo := by
  refine gm_of (lo0 := [some (vI x)]) hl0 (by decide) rfl (Nat.le_of_ble_eq_true rfl) ?_
  intro p e s m args below meth c C ht hgi
  have C : gC G p l s m args meth c cX7_isBearing 1 RX7 (some .boolean) "isBearing" := C
  refine gw_iload_n C 0 dX7_isBearing_0 rfl rfl ?_
  refine gw_iconst C dX7_isBearing_1 ?_
  refine gw_ldcw C (x := 1295999) dX7_isBearing_2 kX7_313 (by decide) ?_
  refine gw_callSb C (as := [vI x, vI 0, vI 1295999]) (st := []) (c_X7_isIn hl0 G x 0 1295999 hx ⟨by decide, by decide⟩ ⟨by decide, by decide⟩) dX7_isBearing_5 kX7_52 qX7_isIn hdX7_isIn ⟨Nat.le_of_ble_eq_true rfl, Nat.le_of_ble_eq_true rfl⟩ ⟨Nat.le_of_ble_eq_true rfl, Nat.le_of_ble_eq_true rfl⟩ (Nat.le_of_ble_eq_true rfl) rfl (fun h_5 z_5 => ?_) (fun h_5 z_5 => ?_)
  · skip
    exact gw_zret C (Nat.le_of_ble_eq_true rfl) (Nat.le_of_ble_eq_true rfl) dX7_isBearing_8 (Or.inr rfl) (⟨Or.inl ⟨(by omega), rfl⟩, rfl, rfl⟩)
  · skip
    exact gw_zret C (Nat.le_of_ble_eq_true rfl) (Nat.le_of_ble_eq_true rfl) dX7_isBearing_8 (Or.inl rfl) (⟨Or.inr ⟨(by omega), rfl⟩, rfl, rfl⟩)
set_option maxHeartbeats 4000000 in
set_option maxRecDepth 100000 in
theorem c_X7_isSmall {l : Launch} (hl0 : l.stackTraces = false) (G : GG) {n : Nat} {sh : GSh} {R : GR} {z : Nat} {I J : GI} (x : Int) (hx : inI x) : GM l yX7_isSmall (.code yX7_isSmall cX7_isSmall 1 (some .boolean)) 1 22 0 0 G n sh R [vI x] z I J (boolQ (-3600 ≤ x ∧ x ≤ 3600) I J) gNo := by
  refine gm_of (lo0 := [some (vI x)]) hl0 (by decide) rfl (Nat.le_of_ble_eq_true rfl) ?_
  intro p e s m args below meth c C ht hgi
  have C : gC G p l s m args meth c cX7_isSmall 1 RX7 (some .boolean) "isSmall" := C
  refine gw_iload_n C 0 dX7_isSmall_0 rfl rfl ?_
  refine gw_sipush C dX7_isSmall_1 rfl ?_
  refine gw_sipush C dX7_isSmall_4 rfl ?_
  refine gw_callSb C (as := [vI x, vI (-3600), vI 3600]) (st := []) (c_X7_isIn hl0 G x (-3600) 3600 hx ⟨by decide, by decide⟩ ⟨by decide, by decide⟩) dX7_isSmall_7 kX7_52 qX7_isIn hdX7_isIn ⟨Nat.le_of_ble_eq_true rfl, Nat.le_of_ble_eq_true rfl⟩ ⟨Nat.le_of_ble_eq_true rfl, Nat.le_of_ble_eq_true rfl⟩ (Nat.le_of_ble_eq_true rfl) rfl (fun h_7 z_7 => ?_) (fun h_7 z_7 => ?_)
  · skip
    exact gw_zret C (Nat.le_of_ble_eq_true rfl) (Nat.le_of_ble_eq_true rfl) dX7_isSmall_10 (Or.inr rfl) (⟨Or.inl ⟨(by omega), rfl⟩, rfl, rfl⟩)
  · skip
    exact gw_zret C (Nat.le_of_ble_eq_true rfl) (Nat.le_of_ble_eq_true rfl) dX7_isSmall_10 (Or.inl rfl) (⟨Or.inr ⟨(by omega), rfl⟩, rfl, rfl⟩)
def numZ (c : Int) : Int := if c = 108 then 3 else if c = 116 then 2 else if c = 107 ∨ c = 97 then 1 else 0
set_option maxHeartbeats 4000000 in
set_option maxRecDepth 100000 in
theorem c_X4_numbersOf {l : Launch} (hl0 : l.stackTraces = false) (G : GG) {n : Nat} {sh : GSh} {R : GR} {z : Nat} {I J : GI} (x : Int) (hx : inI x) : GM l yX4_numbersOf (.code yX4_numbersOf cX4_numbersOf 1 (some .int)) 0 0 0 0 G n sh R [vI x] z I J (memQ (some (vI (numZ x))) I J) gNo := by
  refine gm_of (lo0 := [some (vI x)]) hl0 (by decide) rfl (Nat.le_of_ble_eq_true rfl) ?_
  intro p e s m args below meth c C ht hgi
  have C : gC G p l s m args meth c cX4_numbersOf 1 RX4 (some .int) "numbersOf" := C
  refine gw_iload_n C 0 dX4_numbersOf_0 rfl rfl ?_
  refine gw_bipush C dX4_numbersOf_1 rfl ?_
  refine gw_icmp_ne C (tgt := 8) dX4_numbersOf_3 (by decide) hx ⟨by decide, by decide⟩ (fun h_3 => ?_) (fun h_3 => ?_)
  · skip
    refine gw_iload_n C 0 dX4_numbersOf_8 rfl rfl ?_
    refine gw_bipush C dX4_numbersOf_9 rfl ?_
    refine gw_icmp_ne C (tgt := 16) dX4_numbersOf_11 (by decide) hx ⟨by decide, by decide⟩ (fun h_11 => ?_) (fun h_11 => ?_)
    · skip
      refine gw_iload_n C 0 dX4_numbersOf_16 rfl rfl ?_
      refine gw_bipush C dX4_numbersOf_17 rfl ?_
      refine gw_icmp_eq C (tgt := 28) dX4_numbersOf_19 (by decide) hx ⟨by decide, by decide⟩ (fun h_19 => ?_) (fun h_19 => ?_)
      · skip
        refine gw_iconst C dX4_numbersOf_28 ?_
        refine gw_goto C (tgt := 33) dX4_numbersOf_29 (by decide) ?_
        exact gw_iret C (Nat.le_of_ble_eq_true rfl) (Nat.le_of_ble_eq_true rfl) dX4_numbersOf_33 (⟨congrArg (fun q => some (vI q)) (by unfold numZ; split <;> (try split) <;> (try split) <;> omega), rfl, rfl⟩)
      · skip
        refine gw_iload_n C 0 dX4_numbersOf_22 rfl rfl ?_
        refine gw_bipush C dX4_numbersOf_23 rfl ?_
        refine gw_icmp_ne C (tgt := 32) dX4_numbersOf_25 (by decide) hx ⟨by decide, by decide⟩ (fun h_25 => ?_) (fun h_25 => ?_)
        · skip
          refine gw_iconst C dX4_numbersOf_32 ?_
          exact gw_iret C (Nat.le_of_ble_eq_true rfl) (Nat.le_of_ble_eq_true rfl) dX4_numbersOf_33 (⟨congrArg (fun q => some (vI q)) (by unfold numZ; split <;> (try split) <;> (try split) <;> omega), rfl, rfl⟩)
        · skip
          refine gw_iconst C dX4_numbersOf_28 ?_
          refine gw_goto C (tgt := 33) dX4_numbersOf_29 (by decide) ?_
          exact gw_iret C (Nat.le_of_ble_eq_true rfl) (Nat.le_of_ble_eq_true rfl) dX4_numbersOf_33 (⟨congrArg (fun q => some (vI q)) (by unfold numZ; split <;> (try split) <;> (try split) <;> omega), rfl, rfl⟩)
    · skip
      refine gw_iconst C dX4_numbersOf_14 ?_
      exact gw_iret C (Nat.le_of_ble_eq_true rfl) (Nat.le_of_ble_eq_true rfl) dX4_numbersOf_15 (⟨congrArg (fun q => some (vI q)) (by unfold numZ; split <;> (try split) <;> (try split) <;> omega), rfl, rfl⟩)
  · skip
    refine gw_iconst C dX4_numbersOf_6 ?_
    exact gw_iret C (Nat.le_of_ble_eq_true rfl) (Nat.le_of_ble_eq_true rfl) dX4_numbersOf_7 (⟨congrArg (fun q => some (vI q)) (by unfold numZ; split <;> (try split) <;> (try split) <;> omega), rfl, rfl⟩)
set_option maxHeartbeats 4000000 in
set_option maxRecDepth 100000 in
theorem c_X4_isDigit {l : Launch} (hl0 : l.stackTraces = false) (G : GG) {n : Nat} {sh : GSh} {R : GR} {z : Nat} {I J : GI} (x : Int) (hx : inI x) : GM l yX4_isDigit (.code yX4_isDigit cX4_isDigit 1 (some .boolean)) 0 0 0 0 G n sh R [vI x] z I J (boolQ (48 ≤ x ∧ x ≤ 57) I J) gNo := by
  refine gm_of (lo0 := [some (vI x)]) hl0 (by decide) rfl (Nat.le_of_ble_eq_true rfl) ?_
  intro p e s m args below meth c C ht hgi
  have C : gC G p l s m args meth c cX4_isDigit 1 RX4 (some .boolean) "isDigit" := C
  refine gw_iload_n C 0 dX4_isDigit_0 rfl rfl ?_
  refine gw_bipush C dX4_isDigit_1 rfl ?_
  refine gw_icmp_lt C (tgt := 16) dX4_isDigit_3 (by decide) hx ⟨by decide, by decide⟩ (fun h_3 => ?_) (fun h_3 => ?_)
  · skip
    refine gw_iconst C dX4_isDigit_16 ?_
    exact gw_zret C (Nat.le_of_ble_eq_true rfl) (Nat.le_of_ble_eq_true rfl) dX4_isDigit_17 (Or.inl rfl) (⟨Or.inr ⟨(by omega), rfl⟩, rfl, rfl⟩)
  · skip
    refine gw_iload_n C 0 dX4_isDigit_6 rfl rfl ?_
    refine gw_bipush C dX4_isDigit_7 rfl ?_
    refine gw_icmp_gt C (tgt := 16) dX4_isDigit_9 (by decide) hx ⟨by decide, by decide⟩ (fun h_9 => ?_) (fun h_9 => ?_)
    · skip
      refine gw_iconst C dX4_isDigit_16 ?_
      exact gw_zret C (Nat.le_of_ble_eq_true rfl) (Nat.le_of_ble_eq_true rfl) dX4_isDigit_17 (Or.inl rfl) (⟨Or.inr ⟨(by omega), rfl⟩, rfl, rfl⟩)
    · skip
      refine gw_iconst C dX4_isDigit_12 ?_
      refine gw_goto C (tgt := 17) dX4_isDigit_13 (by decide) ?_
      exact gw_zret C (Nat.le_of_ble_eq_true rfl) (Nat.le_of_ble_eq_true rfl) dX4_isDigit_17 (Or.inr rfl) (⟨Or.inl ⟨(by omega), rfl⟩, rfl, rfl⟩)
set_option maxHeartbeats 4000000 in
set_option maxRecDepth 100000 in
theorem c_X8_in {l : Launch} (hl0 : l.stackTraces = false) (G : GG) {n : Nat} {sh : GSh} {R : GR} {z : Nat} {I J : GI} (x : Int) (a : Int) (b : Int) (hx : inL x) (ha : inL a) (hb : inL b) : GM l yX8_in (.code yX8_in cX8_in 6 (some .boolean)) 0 0 0 0 G n sh R [vL x, vL a, vL b] z I J (boolQ (a ≤ x ∧ x ≤ b) I J) gNo := by
  refine gm_of (lo0 := [some (vL x), none, some (vL a), none, some (vL b), none]) hl0 (by decide) rfl (Nat.le_of_ble_eq_true rfl) ?_
  intro p e s m args below meth c C ht hgi
  have C : gC G p l s m args meth c cX8_in 6 RX8 (some .boolean) "in" := C
  refine gw_lload_n C 0 dX8_in_0 rfl rfl ?_
  refine gw_lload_n C 2 dX8_in_1 rfl rfl ?_
  refine gw_lcmp C dX8_in_2 hx ha (fun h_2 => ?_) (fun h_2 => ?_) (fun h_2 => ?_)
  · skip
    refine gw_if_lt C (tgt := 17) dX8_in_3 (by decide) ⟨by decide, by decide⟩ (fun _ => ?_) (fun h => absurd h (by decide))
    refine gw_iconst C dX8_in_17 ?_
    exact gw_zret C (Nat.le_of_ble_eq_true rfl) (Nat.le_of_ble_eq_true rfl) dX8_in_18 (Or.inl rfl) (⟨Or.inr ⟨(by omega), rfl⟩, rfl, rfl⟩)
  · skip
    refine gw_if_lt C (tgt := 17) dX8_in_3 (by decide) ⟨by decide, by decide⟩ (fun h => absurd h (by decide)) (fun _ => ?_)
    refine gw_lload_n C 0 dX8_in_6 rfl rfl ?_
    refine gw_lload C dX8_in_7 rfl ?_
    refine gw_lcmp C dX8_in_9 hx hb (fun h_9 => ?_) (fun h_9 => ?_) (fun h_9 => ?_)
    · skip
      refine gw_if_gt C (tgt := 17) dX8_in_10 (by decide) ⟨by decide, by decide⟩ (fun h => absurd h (by decide)) (fun _ => ?_)
      refine gw_iconst C dX8_in_13 ?_
      refine gw_goto C (tgt := 18) dX8_in_14 (by decide) ?_
      exact gw_zret C (Nat.le_of_ble_eq_true rfl) (Nat.le_of_ble_eq_true rfl) dX8_in_18 (Or.inr rfl) (⟨Or.inl ⟨(by omega), rfl⟩, rfl, rfl⟩)
    · skip
      refine gw_if_gt C (tgt := 17) dX8_in_10 (by decide) ⟨by decide, by decide⟩ (fun h => absurd h (by decide)) (fun _ => ?_)
      refine gw_iconst C dX8_in_13 ?_
      refine gw_goto C (tgt := 18) dX8_in_14 (by decide) ?_
      exact gw_zret C (Nat.le_of_ble_eq_true rfl) (Nat.le_of_ble_eq_true rfl) dX8_in_18 (Or.inr rfl) (⟨Or.inl ⟨(by omega), rfl⟩, rfl, rfl⟩)
    · skip
      refine gw_if_gt C (tgt := 17) dX8_in_10 (by decide) ⟨by decide, by decide⟩ (fun _ => ?_) (fun h => absurd h (by decide))
      refine gw_iconst C dX8_in_17 ?_
      exact gw_zret C (Nat.le_of_ble_eq_true rfl) (Nat.le_of_ble_eq_true rfl) dX8_in_18 (Or.inl rfl) (⟨Or.inr ⟨(by omega), rfl⟩, rfl, rfl⟩)
  · skip
    refine gw_if_lt C (tgt := 17) dX8_in_3 (by decide) ⟨by decide, by decide⟩ (fun h => absurd h (by decide)) (fun _ => ?_)
    refine gw_lload_n C 0 dX8_in_6 rfl rfl ?_
    refine gw_lload C dX8_in_7 rfl ?_
    refine gw_lcmp C dX8_in_9 hx hb (fun h_9_2 => ?_) (fun h_9_2 => ?_) (fun h_9_2 => ?_)
    · skip
      refine gw_if_gt C (tgt := 17) dX8_in_10 (by decide) ⟨by decide, by decide⟩ (fun h => absurd h (by decide)) (fun _ => ?_)
      refine gw_iconst C dX8_in_13 ?_
      refine gw_goto C (tgt := 18) dX8_in_14 (by decide) ?_
      exact gw_zret C (Nat.le_of_ble_eq_true rfl) (Nat.le_of_ble_eq_true rfl) dX8_in_18 (Or.inr rfl) (⟨Or.inl ⟨(by omega), rfl⟩, rfl, rfl⟩)
    · skip
      refine gw_if_gt C (tgt := 17) dX8_in_10 (by decide) ⟨by decide, by decide⟩ (fun h => absurd h (by decide)) (fun _ => ?_)
      refine gw_iconst C dX8_in_13 ?_
      refine gw_goto C (tgt := 18) dX8_in_14 (by decide) ?_
      exact gw_zret C (Nat.le_of_ble_eq_true rfl) (Nat.le_of_ble_eq_true rfl) dX8_in_18 (Or.inr rfl) (⟨Or.inl ⟨(by omega), rfl⟩, rfl, rfl⟩)
    · skip
      refine gw_if_gt C (tgt := 17) dX8_in_10 (by decide) ⟨by decide, by decide⟩ (fun _ => ?_) (fun h => absurd h (by decide))
      refine gw_iconst C dX8_in_17 ?_
      exact gw_zret C (Nat.le_of_ble_eq_true rfl) (Nat.le_of_ble_eq_true rfl) dX8_in_18 (Or.inl rfl) (⟨Or.inr ⟨(by omega), rfl⟩, rfl, rfl⟩)
set_option maxHeartbeats 4000000 in
set_option maxRecDepth 100000 in
theorem c_X8_normed {l : Launch} (hl0 : l.stackTraces = false) (G : GG) {n : Nat} {sh : GSh} {R : GR} {z : Nat} {I J : GI} (x : Int) (hx : inL x) : GM l yX8_normed (.code yX8_normed cX8_normed 4 (some .int)) 0 0 0 0 G n sh R [vL x] z I J (memQ (some (vI (normZ x))) I J) gNo := by
  refine gm_of (lo0 := [some (vL x), none, none, none]) hl0 (by decide) rfl (Nat.le_of_ble_eq_true rfl) ?_
  intro p e s m args below meth c C ht hgi
  have C : gC G p l s m args meth c cX8_normed 4 RX8 (some .int) "normed" := C
  have t := tmod_c x (c := 1296000) (by decide)
  refine gw_lload_n C 0 dX8_normed_0 rfl rfl ?_
  refine gw_ldc2 C (x := 1296000) dX8_normed_1 kX8_37 (by decide) ?_
  refine gw_lrem C dX8_normed_4 hx ⟨by decide, by decide⟩ (by decide) ?_
  refine gw_lstore_n C (lo1 := [some (vL x), none, some (vL ((x).tmod 1296000)), none]) 2 dX8_normed_5 rfl (by decide) rfl ?_
  refine gw_lload_n C 2 dX8_normed_6 rfl rfl ?_
  refine gw_lconst C 0 dX8_normed_7 (by decide) ?_
  refine gw_lcmp C dX8_normed_8 (by omega) ⟨by decide, by decide⟩ (fun h_8 => ?_) (fun h_8 => ?_) (fun h_8 => ?_)
  · skip
    refine gw_if_ge C (tgt := 20) dX8_normed_9 (by decide) ⟨by decide, by decide⟩ (fun h => absurd h (by decide)) (fun _ => ?_)
    refine gw_lload_n C 2 dX8_normed_12 rfl rfl ?_
    refine gw_ldc2 C (x := 1296000) dX8_normed_13 kX8_37 (by decide) ?_
    refine gw_ladd C dX8_normed_16 ?_
    refine gw_goto C (tgt := 21) dX8_normed_17 (by decide) ?_
    refine gw_l2i C dX8_normed_21 ?_
    exact gw_iret C (Nat.le_of_ble_eq_true rfl) (Nat.le_of_ble_eq_true rfl) dX8_normed_22 (⟨congrArg (fun q => some (vI q)) (by unfold normZ; omega), rfl, rfl⟩)
  · skip
    refine gw_if_ge C (tgt := 20) dX8_normed_9 (by decide) ⟨by decide, by decide⟩ (fun _ => ?_) (fun h => absurd h (by decide))
    refine gw_lload_n C 2 dX8_normed_20 rfl rfl ?_
    refine gw_l2i C dX8_normed_21 ?_
    exact gw_iret C (Nat.le_of_ble_eq_true rfl) (Nat.le_of_ble_eq_true rfl) dX8_normed_22 (⟨congrArg (fun q => some (vI q)) (by unfold normZ; omega), rfl, rfl⟩)
  · skip
    refine gw_if_ge C (tgt := 20) dX8_normed_9 (by decide) ⟨by decide, by decide⟩ (fun _ => ?_) (fun h => absurd h (by decide))
    refine gw_lload_n C 2 dX8_normed_20 rfl rfl ?_
    refine gw_l2i C dX8_normed_21 ?_
    exact gw_iret C (Nat.le_of_ble_eq_true rfl) (Nat.le_of_ble_eq_true rfl) dX8_normed_22 (⟨congrArg (fun q => some (vI q)) (by unfold normZ; omega), rfl, rfl⟩)
set_option maxHeartbeats 4000000 in
set_option maxRecDepth 100000 in
theorem c_X8_centred {l : Launch} (hl0 : l.stackTraces = false) (G : GG) {n : Nat} {sh : GSh} {R : GR} {z : Nat} {I J : GI} (x : Int) (hx : inL x) : GM l yX8_centred (.code yX8_centred cX8_centred 3 (some .int)) 1 23 0 0 G n sh R [vL x] z I J (memQ (some (vI (centZ x))) I J) gNo := by
  refine gm_of (lo0 := [some (vL x), none, none]) hl0 (by decide) rfl (Nat.le_of_ble_eq_true rfl) ?_
  intro p e s m args below meth c C ht hgi
  have C : gC G p l s m args meth c cX8_centred 3 RX8 (some .int) "centred" := C
  refine gw_lload_n C 0 dX8_centred_0 rfl rfl ?_
  refine gw_callSm C (as := [vL x]) (st := []) (c_X8_normed hl0 G x hx) dX8_centred_1 kX8_39 qX8_normed hdX8_normed ⟨Nat.le_of_ble_eq_true rfl, Nat.le_of_ble_eq_true rfl⟩ ⟨Nat.le_of_ble_eq_true rfl, Nat.le_of_ble_eq_true rfl⟩ (Nat.le_of_ble_eq_true rfl) rfl (fun z_1 => ?_)
  have hr_1 := normZ_b x
  refine gw_istore_n C (lo1 := [some (vL x), none, some (vI (normZ x))]) 2 dX8_centred_4 rfl (by decide) rfl ?_
  refine gw_iload_n C 2 dX8_centred_5 rfl rfl ?_
  refine gw_ldc C (x := 648000) dX8_centred_6 kX8_43 (by decide) ?_
  refine gw_icmp_ge C (tgt := 15) dX8_centred_8 (by decide) (by omega) ⟨by decide, by decide⟩ (fun h_8 => ?_) (fun h_8 => ?_)
  · skip
    refine gw_iload_n C 2 dX8_centred_15 rfl rfl ?_
    refine gw_ldc C (x := 1296000) dX8_centred_16 kX8_44 (by decide) ?_
    refine gw_isub C dX8_centred_18 ?_
    exact gw_iret C (Nat.le_of_ble_eq_true rfl) (Nat.le_of_ble_eq_true rfl) dX8_centred_19 (⟨congrArg (fun q => some (vI q)) (by unfold centZ normZ at *; omega), rfl, rfl⟩)
  · skip
    refine gw_iload_n C 2 dX8_centred_11 rfl rfl ?_
    refine gw_goto C (tgt := 19) dX8_centred_12 (by decide) ?_
    exact gw_iret C (Nat.le_of_ble_eq_true rfl) (Nat.le_of_ble_eq_true rfl) dX8_centred_19 (⟨congrArg (fun q => some (vI q)) (by unfold centZ normZ at *; omega), rfl, rfl⟩)
set_option maxHeartbeats 4000000 in
set_option maxRecDepth 100000 in
theorem c_X8_sineOf {l : Launch} (hl0 : l.stackTraces = false) (G : GG) {n : Nat} {sh : GSh} {R : GR} {z : Nat} {I J : GI} (x : Int) (hx : inL x) : GM l yX8_sineOf (.code yX8_sineOf cX8_sineOf 9 (some .int)) 1 23 0 0 G n sh R [vL x] z I J (memQ (some (vI (sinZ x))) I J) gNo := by
  refine gm_of (lo0 := [some (vL x), none, none, none, none, none, none, none, none]) hl0 (by decide) rfl (Nat.le_of_ble_eq_true rfl) ?_
  intro p e s m args below meth c C ht hgi
  have C : gC G p l s m args meth c cX8_sineOf 9 RX8 (some .int) "sineOf" := C
  have hnb := normZ_b x
  have hs0 : normZ x < 648000 → 0 ≤ normZ x * (648000 - normZ x) ∧ normZ x * (648000 - normZ x) ≤ 104976000000 := fun h => half_b ⟨hnb.1, by omega⟩
  have hs1 : 648000 ≤ normZ x → 0 ≤ (normZ x - 648000) * (648000 - (normZ x - 648000)) ∧ (normZ x - 648000) * (648000 - (normZ x - 648000)) ≤ 104976000000 := fun h => half_b ⟨by omega, by omega⟩
  refine gw_lload_n C 0 dX8_sineOf_0 rfl rfl ?_
  refine gw_callSm C (as := [vL x]) (st := []) (c_X8_normed hl0 G x hx) dX8_sineOf_1 kX8_39 qX8_normed hdX8_normed ⟨Nat.le_of_ble_eq_true rfl, Nat.le_of_ble_eq_true rfl⟩ ⟨Nat.le_of_ble_eq_true rfl, Nat.le_of_ble_eq_true rfl⟩ (Nat.le_of_ble_eq_true rfl) rfl (fun z_1 => ?_)
  have hr_1 := normZ_b x
  refine gw_i2l C dX8_sineOf_4 (by omega) ?_
  refine gw_lstore_n C (lo1 := [some (vL x), none, some (vL (normZ x)), none, none, none, none, none, none]) 2 dX8_sineOf_5 rfl (by decide) rfl ?_
  refine gw_lload_n C 2 dX8_sineOf_6 rfl rfl ?_
  refine gw_ldc2 C (x := 648000) dX8_sineOf_7 kX8_45 (by decide) ?_
  refine gw_lcmp C dX8_sineOf_10 (by omega) ⟨by decide, by decide⟩ (fun h_10 => ?_) (fun h_10 => ?_) (fun h_10 => ?_)
  · skip
    refine gw_if_ge C (tgt := 18) dX8_sineOf_11 (by decide) ⟨by decide, by decide⟩ (fun h => absurd h (by decide)) (fun _ => ?_)
    refine gw_lload_n C 2 dX8_sineOf_14 rfl rfl ?_
    refine gw_goto C (tgt := 23) dX8_sineOf_15 (by decide) ?_
    refine gw_lstore C (lo1 := [some (vL x), none, some (vL (normZ x)), none, some (vL (normZ x)), none, none, none, none]) dX8_sineOf_23 (by decide) rfl ?_
    refine gw_lload C dX8_sineOf_25 rfl ?_
    refine gw_ldc2 C (x := 648000) dX8_sineOf_27 kX8_45 (by decide) ?_
    refine gw_lload C dX8_sineOf_30 rfl ?_
    refine gw_lsub C dX8_sineOf_32 ?_
    refine gw_lmul C dX8_sineOf_33 ?_
    refine gw_lstore C (lo1 := [some (vL x), none, some (vL (normZ x)), none, some (vL (normZ x)), none, some (vL ((normZ x) * (648000 - (normZ x)))), none, none]) dX8_sineOf_34 (by decide) rfl ?_
    refine gw_ldc2 C (x := 40000) dX8_sineOf_36 kX8_47 (by decide) ?_
    refine gw_lload C dX8_sineOf_39 rfl ?_
    refine gw_lmul C dX8_sineOf_41 ?_
    refine gw_ldc2 C (x := 524880000000) dX8_sineOf_42 kX8_49 (by decide) ?_
    refine gw_lload C dX8_sineOf_45 rfl ?_
    refine gw_lsub C dX8_sineOf_47 ?_
    refine gw_ldiv C dX8_sineOf_48 (by omega) (by omega) (by omega) ?_
    refine gw_l2i C dX8_sineOf_49 ?_
    refine gw_istore C (lo1 := [some (vL x), none, some (vL (normZ x)), none, some (vL (normZ x)), none, some (vL ((normZ x) * (648000 - (normZ x)))), none, some (vI (((40000 * ((normZ x) * (648000 - (normZ x))))).tdiv (524880000000 - ((normZ x) * (648000 - (normZ x))))))]) dX8_sineOf_50 (by decide) rfl ?_
    refine gw_lload_n C 2 dX8_sineOf_52 rfl rfl ?_
    refine gw_ldc2 C (x := 648000) dX8_sineOf_53 kX8_45 (by decide) ?_
    refine gw_lcmp C dX8_sineOf_56 (by omega) ⟨by decide, by decide⟩ (fun h_56 => ?_) (fun h_56 => ?_) (fun h_56 => ?_)
    · skip
      refine gw_if_ge C (tgt := 65) dX8_sineOf_57 (by decide) ⟨by decide, by decide⟩ (fun h => absurd h (by decide)) (fun _ => ?_)
      refine gw_iload C dX8_sineOf_60 rfl ?_
      refine gw_goto C (tgt := 68) dX8_sineOf_62 (by decide) ?_
      exact gw_iret C (Nat.le_of_ble_eq_true rfl) (Nat.le_of_ble_eq_true rfl) dX8_sineOf_68 (⟨congrArg (fun q => some (vI q)) (by first | (unfold sinZ; rw [if_pos (by omega)]; rfl) | (unfold sinZ; rw [if_neg (by omega)]; rfl) | (exfalso; omega)), rfl, rfl⟩)
    · skip
      refine gw_if_ge C (tgt := 65) dX8_sineOf_57 (by decide) ⟨by decide, by decide⟩ (fun _ => ?_) (fun h => absurd h (by decide))
      refine gw_iload C dX8_sineOf_65 rfl ?_
      refine gw_ineg C dX8_sineOf_67 ?_
      exact gw_iret C (Nat.le_of_ble_eq_true rfl) (Nat.le_of_ble_eq_true rfl) dX8_sineOf_68 (⟨congrArg (fun q => some (vI q)) (by first | (unfold sinZ; rw [if_pos (by omega)]; rfl) | (unfold sinZ; rw [if_neg (by omega)]; rfl) | (exfalso; omega)), rfl, rfl⟩)
    · skip
      refine gw_if_ge C (tgt := 65) dX8_sineOf_57 (by decide) ⟨by decide, by decide⟩ (fun _ => ?_) (fun h => absurd h (by decide))
      refine gw_iload C dX8_sineOf_65 rfl ?_
      refine gw_ineg C dX8_sineOf_67 ?_
      exact gw_iret C (Nat.le_of_ble_eq_true rfl) (Nat.le_of_ble_eq_true rfl) dX8_sineOf_68 (⟨congrArg (fun q => some (vI q)) (by first | (unfold sinZ; rw [if_pos (by omega)]; rfl) | (unfold sinZ; rw [if_neg (by omega)]; rfl) | (exfalso; omega)), rfl, rfl⟩)
  · skip
    refine gw_if_ge C (tgt := 18) dX8_sineOf_11 (by decide) ⟨by decide, by decide⟩ (fun _ => ?_) (fun h => absurd h (by decide))
    refine gw_lload_n C 2 dX8_sineOf_18 rfl rfl ?_
    refine gw_ldc2 C (x := 648000) dX8_sineOf_19 kX8_45 (by decide) ?_
    refine gw_lsub C dX8_sineOf_22 ?_
    refine gw_lstore C (lo1 := [some (vL x), none, some (vL (normZ x)), none, some (vL ((normZ x) - 648000)), none, none, none, none]) dX8_sineOf_23 (by decide) rfl ?_
    refine gw_lload C dX8_sineOf_25 rfl ?_
    refine gw_ldc2 C (x := 648000) dX8_sineOf_27 kX8_45 (by decide) ?_
    refine gw_lload C dX8_sineOf_30 rfl ?_
    refine gw_lsub C dX8_sineOf_32 ?_
    refine gw_lmul C dX8_sineOf_33 ?_
    refine gw_lstore C (lo1 := [some (vL x), none, some (vL (normZ x)), none, some (vL ((normZ x) - 648000)), none, some (vL (((normZ x) - 648000) * (648000 - ((normZ x) - 648000)))), none, none]) dX8_sineOf_34 (by decide) rfl ?_
    refine gw_ldc2 C (x := 40000) dX8_sineOf_36 kX8_47 (by decide) ?_
    refine gw_lload C dX8_sineOf_39 rfl ?_
    refine gw_lmul C dX8_sineOf_41 ?_
    refine gw_ldc2 C (x := 524880000000) dX8_sineOf_42 kX8_49 (by decide) ?_
    refine gw_lload C dX8_sineOf_45 rfl ?_
    refine gw_lsub C dX8_sineOf_47 ?_
    refine gw_ldiv C dX8_sineOf_48 (by omega) (by omega) (by omega) ?_
    refine gw_l2i C dX8_sineOf_49 ?_
    refine gw_istore C (lo1 := [some (vL x), none, some (vL (normZ x)), none, some (vL ((normZ x) - 648000)), none, some (vL (((normZ x) - 648000) * (648000 - ((normZ x) - 648000)))), none, some (vI (((40000 * (((normZ x) - 648000) * (648000 - ((normZ x) - 648000))))).tdiv (524880000000 - (((normZ x) - 648000) * (648000 - ((normZ x) - 648000))))))]) dX8_sineOf_50 (by decide) rfl ?_
    refine gw_lload_n C 2 dX8_sineOf_52 rfl rfl ?_
    refine gw_ldc2 C (x := 648000) dX8_sineOf_53 kX8_45 (by decide) ?_
    refine gw_lcmp C dX8_sineOf_56 (by omega) ⟨by decide, by decide⟩ (fun h_56_2 => ?_) (fun h_56_2 => ?_) (fun h_56_2 => ?_)
    · skip
      refine gw_if_ge C (tgt := 65) dX8_sineOf_57 (by decide) ⟨by decide, by decide⟩ (fun h => absurd h (by decide)) (fun _ => ?_)
      refine gw_iload C dX8_sineOf_60 rfl ?_
      refine gw_goto C (tgt := 68) dX8_sineOf_62 (by decide) ?_
      exact gw_iret C (Nat.le_of_ble_eq_true rfl) (Nat.le_of_ble_eq_true rfl) dX8_sineOf_68 (⟨congrArg (fun q => some (vI q)) (by first | (unfold sinZ; rw [if_pos (by omega)]; rfl) | (unfold sinZ; rw [if_neg (by omega)]; rfl) | (exfalso; omega)), rfl, rfl⟩)
    · skip
      refine gw_if_ge C (tgt := 65) dX8_sineOf_57 (by decide) ⟨by decide, by decide⟩ (fun _ => ?_) (fun h => absurd h (by decide))
      refine gw_iload C dX8_sineOf_65 rfl ?_
      refine gw_ineg C dX8_sineOf_67 ?_
      exact gw_iret C (Nat.le_of_ble_eq_true rfl) (Nat.le_of_ble_eq_true rfl) dX8_sineOf_68 (⟨congrArg (fun q => some (vI q)) (by first | (unfold sinZ; rw [if_pos (by omega)]; rfl) | (unfold sinZ; rw [if_neg (by omega)]; rfl) | (exfalso; omega)), rfl, rfl⟩)
    · skip
      refine gw_if_ge C (tgt := 65) dX8_sineOf_57 (by decide) ⟨by decide, by decide⟩ (fun _ => ?_) (fun h => absurd h (by decide))
      refine gw_iload C dX8_sineOf_65 rfl ?_
      refine gw_ineg C dX8_sineOf_67 ?_
      exact gw_iret C (Nat.le_of_ble_eq_true rfl) (Nat.le_of_ble_eq_true rfl) dX8_sineOf_68 (⟨congrArg (fun q => some (vI q)) (by first | (unfold sinZ; rw [if_pos (by omega)]; rfl) | (unfold sinZ; rw [if_neg (by omega)]; rfl) | (exfalso; omega)), rfl, rfl⟩)
  · skip
    refine gw_if_ge C (tgt := 18) dX8_sineOf_11 (by decide) ⟨by decide, by decide⟩ (fun _ => ?_) (fun h => absurd h (by decide))
    refine gw_lload_n C 2 dX8_sineOf_18 rfl rfl ?_
    refine gw_ldc2 C (x := 648000) dX8_sineOf_19 kX8_45 (by decide) ?_
    refine gw_lsub C dX8_sineOf_22 ?_
    refine gw_lstore C (lo1 := [some (vL x), none, some (vL (normZ x)), none, some (vL ((normZ x) - 648000)), none, none, none, none]) dX8_sineOf_23 (by decide) rfl ?_
    refine gw_lload C dX8_sineOf_25 rfl ?_
    refine gw_ldc2 C (x := 648000) dX8_sineOf_27 kX8_45 (by decide) ?_
    refine gw_lload C dX8_sineOf_30 rfl ?_
    refine gw_lsub C dX8_sineOf_32 ?_
    refine gw_lmul C dX8_sineOf_33 ?_
    refine gw_lstore C (lo1 := [some (vL x), none, some (vL (normZ x)), none, some (vL ((normZ x) - 648000)), none, some (vL (((normZ x) - 648000) * (648000 - ((normZ x) - 648000)))), none, none]) dX8_sineOf_34 (by decide) rfl ?_
    refine gw_ldc2 C (x := 40000) dX8_sineOf_36 kX8_47 (by decide) ?_
    refine gw_lload C dX8_sineOf_39 rfl ?_
    refine gw_lmul C dX8_sineOf_41 ?_
    refine gw_ldc2 C (x := 524880000000) dX8_sineOf_42 kX8_49 (by decide) ?_
    refine gw_lload C dX8_sineOf_45 rfl ?_
    refine gw_lsub C dX8_sineOf_47 ?_
    refine gw_ldiv C dX8_sineOf_48 (by omega) (by omega) (by omega) ?_
    refine gw_l2i C dX8_sineOf_49 ?_
    refine gw_istore C (lo1 := [some (vL x), none, some (vL (normZ x)), none, some (vL ((normZ x) - 648000)), none, some (vL (((normZ x) - 648000) * (648000 - ((normZ x) - 648000)))), none, some (vI (((40000 * (((normZ x) - 648000) * (648000 - ((normZ x) - 648000))))).tdiv (524880000000 - (((normZ x) - 648000) * (648000 - ((normZ x) - 648000))))))]) dX8_sineOf_50 (by decide) rfl ?_
    refine gw_lload_n C 2 dX8_sineOf_52 rfl rfl ?_
    refine gw_ldc2 C (x := 648000) dX8_sineOf_53 kX8_45 (by decide) ?_
    refine gw_lcmp C dX8_sineOf_56 (by omega) ⟨by decide, by decide⟩ (fun h_56_3 => ?_) (fun h_56_3 => ?_) (fun h_56_3 => ?_)
    · skip
      refine gw_if_ge C (tgt := 65) dX8_sineOf_57 (by decide) ⟨by decide, by decide⟩ (fun h => absurd h (by decide)) (fun _ => ?_)
      refine gw_iload C dX8_sineOf_60 rfl ?_
      refine gw_goto C (tgt := 68) dX8_sineOf_62 (by decide) ?_
      exact gw_iret C (Nat.le_of_ble_eq_true rfl) (Nat.le_of_ble_eq_true rfl) dX8_sineOf_68 (⟨congrArg (fun q => some (vI q)) (by first | (unfold sinZ; rw [if_pos (by omega)]; rfl) | (unfold sinZ; rw [if_neg (by omega)]; rfl) | (exfalso; omega)), rfl, rfl⟩)
    · skip
      refine gw_if_ge C (tgt := 65) dX8_sineOf_57 (by decide) ⟨by decide, by decide⟩ (fun _ => ?_) (fun h => absurd h (by decide))
      refine gw_iload C dX8_sineOf_65 rfl ?_
      refine gw_ineg C dX8_sineOf_67 ?_
      exact gw_iret C (Nat.le_of_ble_eq_true rfl) (Nat.le_of_ble_eq_true rfl) dX8_sineOf_68 (⟨congrArg (fun q => some (vI q)) (by first | (unfold sinZ; rw [if_pos (by omega)]; rfl) | (unfold sinZ; rw [if_neg (by omega)]; rfl) | (exfalso; omega)), rfl, rfl⟩)
    · skip
      refine gw_if_ge C (tgt := 65) dX8_sineOf_57 (by decide) ⟨by decide, by decide⟩ (fun _ => ?_) (fun h => absurd h (by decide))
      refine gw_iload C dX8_sineOf_65 rfl ?_
      refine gw_ineg C dX8_sineOf_67 ?_
      exact gw_iret C (Nat.le_of_ble_eq_true rfl) (Nat.le_of_ble_eq_true rfl) dX8_sineOf_68 (⟨congrArg (fun q => some (vI q)) (by first | (unfold sinZ; rw [if_pos (by omega)]; rfl) | (unfold sinZ; rw [if_neg (by omega)]; rfl) | (exfalso; omega)), rfl, rfl⟩)
set_option maxHeartbeats 4000000 in
set_option maxRecDepth 100000 in
theorem c_X8_cosineOf {l : Launch} (hl0 : l.stackTraces = false) (G : GG) {n : Nat} {sh : GSh} {R : GR} {z : Nat} {I J : GI} (x : Int) (hx : -2000000000 ≤ x ∧ x ≤ 2000000000) : GM l yX8_cosineOf (.code yX8_cosineOf cX8_cosineOf 2 (some .int)) 2 51 0 0 G n sh R [vL x] z I J (memQ (some (vI (sinZ (x + 324000)))) I J) gNo := by
  refine gm_of (lo0 := [some (vL x), none]) hl0 (by decide) rfl (Nat.le_of_ble_eq_true rfl) ?_
  intro p e s m args below meth c C ht hgi
  have C : gC G p l s m args meth c cX8_cosineOf 2 RX8 (some .int) "cosineOf" := C
  refine gw_lload_n C 0 dX8_cosineOf_0 rfl rfl ?_
  refine gw_ldc2 C (x := 324000) dX8_cosineOf_1 kX8_51 (by decide) ?_
  refine gw_ladd C dX8_cosineOf_4 ?_
  refine gw_callSm C (as := [vL (x + 324000)]) (st := []) (c_X8_sineOf hl0 G (x + 324000) (by omega)) dX8_cosineOf_5 kX8_53 qX8_sineOf hdX8_sineOf ⟨Nat.le_of_ble_eq_true rfl, Nat.le_of_ble_eq_true rfl⟩ ⟨Nat.le_of_ble_eq_true rfl, Nat.le_of_ble_eq_true rfl⟩ (Nat.le_of_ble_eq_true rfl) rfl (fun z_5 => ?_)
  have hr_5 := sinZ_b (x + 324000)
  exact gw_iret C (Nat.le_of_ble_eq_true rfl) (Nat.le_of_ble_eq_true rfl) dX8_cosineOf_8 (⟨congrArg (fun q => some (vI q)) (by rfl), rfl, rfl⟩)
set_option maxHeartbeats 4000000 in
set_option maxRecDepth 100000 in
theorem c_X8_size {l : Launch} (hl0 : l.stackTraces = false) (G : GG) {n : Nat} {sh : GSh} {R : GR} {z : Nat} {I J : GI} (x : Int) (hx : -2147483648 < x ∧ x ≤ 2147483647) : GM l yX8_size (.code yX8_size cX8_size 1 (some .int)) 0 0 0 0 G n sh R [vI x] z I J (memQ (some (vI (x.natAbs : Int))) I J) gNo := by
  refine gm_of (lo0 := [some (vI x)]) hl0 (by decide) rfl (Nat.le_of_ble_eq_true rfl) ?_
  intro p e s m args below meth c C ht hgi
  have C : gC G p l s m args meth c cX8_size 1 RX8 (some .int) "size" := C
  refine gw_iload_n C 0 dX8_size_0 rfl rfl ?_
  refine gw_if_ge C (tgt := 9) dX8_size_1 (by decide) (by omega) (fun h_1 => ?_) (fun h_1 => ?_)
  · skip
    refine gw_iload_n C 0 dX8_size_9 rfl rfl ?_
    exact gw_iret C (Nat.le_of_ble_eq_true rfl) (Nat.le_of_ble_eq_true rfl) dX8_size_10 (⟨congrArg (fun q => some (vI q)) (by omega), rfl, rfl⟩)
  · skip
    refine gw_iload_n C 0 dX8_size_4 rfl rfl ?_
    refine gw_ineg C dX8_size_5 ?_
    refine gw_goto C (tgt := 10) dX8_size_6 (by decide) ?_
    exact gw_iret C (Nat.le_of_ble_eq_true rfl) (Nat.le_of_ble_eq_true rfl) dX8_size_10 (⟨congrArg (fun q => some (vI q)) (by omega), rfl, rfl⟩)
set_option maxHeartbeats 4000000 in
set_option maxRecDepth 100000 in
theorem c_X8_root {l : Launch} (hl0 : l.stackTraces = false) (G : GG) {n : Nat} {sh : GSh} {R : GR} {z : Nat} {I J : GI} (v : Int) (hv : 0 ≤ v ∧ v < 10000000000000000) : GM l yX8_root (.code yX8_root cX8_root 8 (some .int)) 0 0 0 0 G n sh R [vL v] z I J (memQ (some (vI (rootZ v))) I J) gNo := by
  refine gm_of (lo0 := [some (vL v), none, none, none, none, none, none, none]) hl0 (by decide) rfl (Nat.le_of_ble_eq_true rfl) ?_
  intro p e s m args below meth c C ht hgi
  have C : gC G p l s m args meth c cX8_root 8 RX8 (some .int) "root" := C
  refine gw_lconst C 0 dX8_root_0 (by decide) ?_
  refine gw_lstore_n C (lo1 := [some (vL v), none, some (vL 0), none, none, none, none, none]) 2 dX8_root_1 rfl (by decide) rfl ?_
  refine gw_ldc2 C (x := 100000000) dX8_root_2 kX8_56 (by decide) ?_
  refine gw_lstore C (lo1 := [some (vL v), none, some (vL 0), none, some (vL 100000000), none, none, none]) dX8_root_5 (by decide) rfl ?_
  have loop_7 : ∀ (fuel : Nat) (lo : Int) (hi : Int), (0 ≤ lo) → (lo ≤ hi) → (hi ≤ 100000000) → (lo * lo ≤ v) → (v < (hi + 1) * (hi + 1)) → (hi - lo).toNat < fuel → GW G p l e ({ frames := 0, cells := 0, slots := 0, locals := 0 } : Room) s m args below meth c 8 z n sh R I J 0 0 (vx_MQ below (GQ G n sh R (memQ (some (vI (rootZ v))) I J)) (GX G n sh R gNo) args s 0 0 (ge G)) 7 [some (vL v), none, some (vL lo), none, some (vL hi), none, none, none] [] := by
    intro fuel
    induction fuel with
    | zero => intro lo hi h0 hlh hh h1 h2 hf_7; exact absurd hf_7 (Nat.not_lt_zero _)
    | succ fuel ih_7 =>
      intro lo hi h0 hlh hh h1 h2 hf_7
      refine gw_lload_n C 2 dX8_root_7 rfl rfl ?_
      refine gw_lload C dX8_root_8 rfl ?_
      refine gw_lcmp C dX8_root_10 (by omega) (by omega) (fun h_10 => ?_) (fun h_10 => ?_) (fun h_10 => ?_)
      · skip
        refine gw_if_ge C (tgt := 67) dX8_root_11 (by decide) ⟨by decide, by decide⟩ (fun h => absurd h (by decide)) (fun _ => ?_)
        refine gw_lload_n C 2 dX8_root_14 rfl rfl ?_
        refine gw_lload C dX8_root_15 rfl ?_
        refine gw_ladd C dX8_root_17 ?_
        refine gw_lconst C 1 dX8_root_18 (by decide) ?_
        refine gw_ladd C dX8_root_19 ?_
        refine gw_ldc2 C (x := 2) dX8_root_20 kX8_58 (by decide) ?_
        refine gw_ldiv C dX8_root_23 (by omega) ⟨by decide, by decide⟩ (by decide) ?_
        refine gw_lstore C (lo1 := [some (vL v), none, some (vL lo), none, some (vL hi), none, some (vL ((((lo + hi) + 1)).tdiv 2)), none]) dX8_root_24 (by decide) rfl ?_
        have t := tdiv_c (lo + hi + 1) (c := 2) (by decide)
        generalize hmd : (lo + hi + 1).tdiv 2 = md at t ⊢
        have hsq := mul_b (a := md) (b := md) (m := 100000001) (k := 100000001) (by omega) (by omega)
        refine gw_lload C dX8_root_26 rfl ?_
        refine gw_lload C dX8_root_28 rfl ?_
        refine gw_lmul C dX8_root_30 ?_
        refine gw_lload_n C 0 dX8_root_31 rfl rfl ?_
        refine gw_lcmp C dX8_root_32 (by omega) (by omega) (fun h_32 => ?_) (fun h_32 => ?_) (fun h_32 => ?_)
        · skip
          refine gw_if_gt C (tgt := 41) dX8_root_33 (by decide) ⟨by decide, by decide⟩ (fun h => absurd h (by decide)) (fun _ => ?_)
          refine gw_lload C dX8_root_36 rfl ?_
          refine gw_goto C (tgt := 42) dX8_root_38 (by decide) ?_
          refine gw_lstore_n C (lo1 := [some (vL v), none, some (vL md), none, some (vL hi), none, some (vL md), none]) 2 dX8_root_42 rfl (by decide) rfl ?_
          refine gw_lload C dX8_root_43 rfl ?_
          refine gw_lload C dX8_root_45 rfl ?_
          refine gw_lmul C dX8_root_47 ?_
          refine gw_lload_n C 0 dX8_root_48 rfl rfl ?_
          refine gw_lcmp C dX8_root_49 (by omega) (by omega) (fun h_49 => ?_) (fun h_49 => ?_) (fun h_49 => ?_)
          · skip
            refine gw_if_gt C (tgt := 58) dX8_root_50 (by decide) ⟨by decide, by decide⟩ (fun h => absurd h (by decide)) (fun _ => ?_)
            refine gw_lload C dX8_root_53 rfl ?_
            refine gw_goto C (tgt := 62) dX8_root_55 (by decide) ?_
            refine gw_lstore C (lo1 := [some (vL v), none, some (vL md), none, some (vL hi), none, some (vL md), none]) dX8_root_62 (by decide) rfl ?_
            refine gw_goto C (tgt := 7) dX8_root_64 (by decide) ?_
            exact gw_weak (lo' := [some (vL v), none, some (vL md), none, some (vL hi), none, none, none]) ⟨rfl, rfl, rfl, trivial⟩ (ih_7 md hi (by omega) (by omega) (by omega) (by first | exact h1 | omega) (by first | exact h2 | (rw [Int.sub_add_cancel]; omega) | omega) (by omega))
          · skip
            refine gw_if_gt C (tgt := 58) dX8_root_50 (by decide) ⟨by decide, by decide⟩ (fun h => absurd h (by decide)) (fun _ => ?_)
            refine gw_lload C dX8_root_53 rfl ?_
            refine gw_goto C (tgt := 62) dX8_root_55 (by decide) ?_
            refine gw_lstore C (lo1 := [some (vL v), none, some (vL md), none, some (vL hi), none, some (vL md), none]) dX8_root_62 (by decide) rfl ?_
            refine gw_goto C (tgt := 7) dX8_root_64 (by decide) ?_
            exact gw_weak (lo' := [some (vL v), none, some (vL md), none, some (vL hi), none, none, none]) ⟨rfl, rfl, rfl, trivial⟩ (ih_7 md hi (by omega) (by omega) (by omega) (by first | exact h1 | omega) (by first | exact h2 | (rw [Int.sub_add_cancel]; omega) | omega) (by omega))
          · skip
            refine gw_if_gt C (tgt := 58) dX8_root_50 (by decide) ⟨by decide, by decide⟩ (fun _ => ?_) (fun h => absurd h (by decide))
            refine gw_lload C dX8_root_58 rfl ?_
            refine gw_lconst C 1 dX8_root_60 (by decide) ?_
            refine gw_lsub C dX8_root_61 ?_
            refine gw_lstore C (lo1 := [some (vL v), none, some (vL md), none, some (vL (md - 1)), none, some (vL md), none]) dX8_root_62 (by decide) rfl ?_
            refine gw_goto C (tgt := 7) dX8_root_64 (by decide) ?_
            exact gw_weak (lo' := [some (vL v), none, some (vL md), none, some (vL (md - 1)), none, none, none]) ⟨rfl, rfl, rfl, trivial⟩ (ih_7 md (md - 1) (by omega) (by omega) (by omega) (by first | exact h1 | omega) (by first | exact h2 | (rw [Int.sub_add_cancel]; omega) | omega) (by omega))
        · skip
          refine gw_if_gt C (tgt := 41) dX8_root_33 (by decide) ⟨by decide, by decide⟩ (fun h => absurd h (by decide)) (fun _ => ?_)
          refine gw_lload C dX8_root_36 rfl ?_
          refine gw_goto C (tgt := 42) dX8_root_38 (by decide) ?_
          refine gw_lstore_n C (lo1 := [some (vL v), none, some (vL md), none, some (vL hi), none, some (vL md), none]) 2 dX8_root_42 rfl (by decide) rfl ?_
          refine gw_lload C dX8_root_43 rfl ?_
          refine gw_lload C dX8_root_45 rfl ?_
          refine gw_lmul C dX8_root_47 ?_
          refine gw_lload_n C 0 dX8_root_48 rfl rfl ?_
          refine gw_lcmp C dX8_root_49 (by omega) (by omega) (fun h_49_2 => ?_) (fun h_49_2 => ?_) (fun h_49_2 => ?_)
          · skip
            refine gw_if_gt C (tgt := 58) dX8_root_50 (by decide) ⟨by decide, by decide⟩ (fun h => absurd h (by decide)) (fun _ => ?_)
            refine gw_lload C dX8_root_53 rfl ?_
            refine gw_goto C (tgt := 62) dX8_root_55 (by decide) ?_
            refine gw_lstore C (lo1 := [some (vL v), none, some (vL md), none, some (vL hi), none, some (vL md), none]) dX8_root_62 (by decide) rfl ?_
            refine gw_goto C (tgt := 7) dX8_root_64 (by decide) ?_
            exact gw_weak (lo' := [some (vL v), none, some (vL md), none, some (vL hi), none, none, none]) ⟨rfl, rfl, rfl, trivial⟩ (ih_7 md hi (by omega) (by omega) (by omega) (by first | exact h1 | omega) (by first | exact h2 | (rw [Int.sub_add_cancel]; omega) | omega) (by omega))
          · skip
            refine gw_if_gt C (tgt := 58) dX8_root_50 (by decide) ⟨by decide, by decide⟩ (fun h => absurd h (by decide)) (fun _ => ?_)
            refine gw_lload C dX8_root_53 rfl ?_
            refine gw_goto C (tgt := 62) dX8_root_55 (by decide) ?_
            refine gw_lstore C (lo1 := [some (vL v), none, some (vL md), none, some (vL hi), none, some (vL md), none]) dX8_root_62 (by decide) rfl ?_
            refine gw_goto C (tgt := 7) dX8_root_64 (by decide) ?_
            exact gw_weak (lo' := [some (vL v), none, some (vL md), none, some (vL hi), none, none, none]) ⟨rfl, rfl, rfl, trivial⟩ (ih_7 md hi (by omega) (by omega) (by omega) (by first | exact h1 | omega) (by first | exact h2 | (rw [Int.sub_add_cancel]; omega) | omega) (by omega))
          · skip
            refine gw_if_gt C (tgt := 58) dX8_root_50 (by decide) ⟨by decide, by decide⟩ (fun _ => ?_) (fun h => absurd h (by decide))
            refine gw_lload C dX8_root_58 rfl ?_
            refine gw_lconst C 1 dX8_root_60 (by decide) ?_
            refine gw_lsub C dX8_root_61 ?_
            refine gw_lstore C (lo1 := [some (vL v), none, some (vL md), none, some (vL (md - 1)), none, some (vL md), none]) dX8_root_62 (by decide) rfl ?_
            refine gw_goto C (tgt := 7) dX8_root_64 (by decide) ?_
            exact gw_weak (lo' := [some (vL v), none, some (vL md), none, some (vL (md - 1)), none, none, none]) ⟨rfl, rfl, rfl, trivial⟩ (ih_7 md (md - 1) (by omega) (by omega) (by omega) (by first | exact h1 | omega) (by first | exact h2 | (rw [Int.sub_add_cancel]; omega) | omega) (by omega))
        · skip
          refine gw_if_gt C (tgt := 41) dX8_root_33 (by decide) ⟨by decide, by decide⟩ (fun _ => ?_) (fun h => absurd h (by decide))
          refine gw_lload_n C 2 dX8_root_41 rfl rfl ?_
          refine gw_lstore_n C (lo1 := [some (vL v), none, some (vL lo), none, some (vL hi), none, some (vL md), none]) 2 dX8_root_42 rfl (by decide) rfl ?_
          refine gw_lload C dX8_root_43 rfl ?_
          refine gw_lload C dX8_root_45 rfl ?_
          refine gw_lmul C dX8_root_47 ?_
          refine gw_lload_n C 0 dX8_root_48 rfl rfl ?_
          refine gw_lcmp C dX8_root_49 (by omega) (by omega) (fun h_49_3 => ?_) (fun h_49_3 => ?_) (fun h_49_3 => ?_)
          · skip
            refine gw_if_gt C (tgt := 58) dX8_root_50 (by decide) ⟨by decide, by decide⟩ (fun h => absurd h (by decide)) (fun _ => ?_)
            refine gw_lload C dX8_root_53 rfl ?_
            refine gw_goto C (tgt := 62) dX8_root_55 (by decide) ?_
            refine gw_lstore C (lo1 := [some (vL v), none, some (vL lo), none, some (vL hi), none, some (vL md), none]) dX8_root_62 (by decide) rfl ?_
            refine gw_goto C (tgt := 7) dX8_root_64 (by decide) ?_
            exact gw_weak (lo' := [some (vL v), none, some (vL lo), none, some (vL hi), none, none, none]) ⟨rfl, rfl, rfl, trivial⟩ (ih_7 lo hi (by omega) (by omega) (by omega) (by first | exact h1 | omega) (by first | exact h2 | (rw [Int.sub_add_cancel]; omega) | omega) (by omega))
          · skip
            refine gw_if_gt C (tgt := 58) dX8_root_50 (by decide) ⟨by decide, by decide⟩ (fun h => absurd h (by decide)) (fun _ => ?_)
            refine gw_lload C dX8_root_53 rfl ?_
            refine gw_goto C (tgt := 62) dX8_root_55 (by decide) ?_
            refine gw_lstore C (lo1 := [some (vL v), none, some (vL lo), none, some (vL hi), none, some (vL md), none]) dX8_root_62 (by decide) rfl ?_
            refine gw_goto C (tgt := 7) dX8_root_64 (by decide) ?_
            exact gw_weak (lo' := [some (vL v), none, some (vL lo), none, some (vL hi), none, none, none]) ⟨rfl, rfl, rfl, trivial⟩ (ih_7 lo hi (by omega) (by omega) (by omega) (by first | exact h1 | omega) (by first | exact h2 | (rw [Int.sub_add_cancel]; omega) | omega) (by omega))
          · skip
            refine gw_if_gt C (tgt := 58) dX8_root_50 (by decide) ⟨by decide, by decide⟩ (fun _ => ?_) (fun h => absurd h (by decide))
            refine gw_lload C dX8_root_58 rfl ?_
            refine gw_lconst C 1 dX8_root_60 (by decide) ?_
            refine gw_lsub C dX8_root_61 ?_
            refine gw_lstore C (lo1 := [some (vL v), none, some (vL lo), none, some (vL (md - 1)), none, some (vL md), none]) dX8_root_62 (by decide) rfl ?_
            refine gw_goto C (tgt := 7) dX8_root_64 (by decide) ?_
            exact gw_weak (lo' := [some (vL v), none, some (vL lo), none, some (vL (md - 1)), none, none, none]) ⟨rfl, rfl, rfl, trivial⟩ (ih_7 lo (md - 1) (by omega) (by omega) (by omega) (by first | exact h1 | omega) (by first | exact h2 | (rw [Int.sub_add_cancel]; omega) | omega) (by omega))
      · skip
        refine gw_if_ge C (tgt := 67) dX8_root_11 (by decide) ⟨by decide, by decide⟩ (fun _ => ?_) (fun h => absurd h (by decide))
        refine gw_lload_n C 2 dX8_root_67 rfl rfl ?_
        refine gw_l2i C dX8_root_68 ?_
        exact gw_iret C (Nat.le_of_ble_eq_true rfl) (Nat.le_of_ble_eq_true rfl) dX8_root_69 (⟨congrArg (fun q => some (vI q)) (by exact rootZ_u h0 h1 (by have e : lo = hi := (by omega); rw [e]; exact h2)), rfl, rfl⟩)
      · skip
        refine gw_if_ge C (tgt := 67) dX8_root_11 (by decide) ⟨by decide, by decide⟩ (fun _ => ?_) (fun h => absurd h (by decide))
        refine gw_lload_n C 2 dX8_root_67 rfl rfl ?_
        refine gw_l2i C dX8_root_68 ?_
        exact gw_iret C (Nat.le_of_ble_eq_true rfl) (Nat.le_of_ble_eq_true rfl) dX8_root_69 (⟨congrArg (fun q => some (vI q)) (by exact rootZ_u h0 h1 (by have e : lo = hi := (by omega); rw [e]; exact h2)), rfl, rfl⟩)
  exact gw_weak (lo' := [some (vL v), none, some (vL 0), none, some (vL 100000000), none, none, none]) ⟨rfl, rfl, rfl, trivial⟩ (loop_7 _ 0 100000000 (by decide) (by decide) (by decide) (by omega) (by omega) (Nat.lt_succ_self _))
set_option maxHeartbeats 4000000 in
set_option maxRecDepth 100000 in
theorem c_X8_far {l : Launch} (hl0 : l.stackTraces = false) (G : GG) {n : Nat} {sh : GSh} {R : GR} {z : Nat} {I J : GI} (x : Int) (y : Int) (h : 0 ≤ x * x + y * y ∧ x * x + y * y < 10000000000000000) : GM l yX8_far (.code yX8_far cX8_far 4 (some .int)) 1 27 0 0 G n sh R [vL x, vL y] z I J (memQ (some (vI (rootZ (x * x + y * y)))) I J) gNo := by
  refine gm_of (lo0 := [some (vL x), none, some (vL y), none]) hl0 (by decide) rfl (Nat.le_of_ble_eq_true rfl) ?_
  intro p e s m args below meth c C ht hgi
  have C : gC G p l s m args meth c cX8_far 4 RX8 (some .int) "far" := C
  refine gw_lload_n C 0 dX8_far_0 rfl rfl ?_
  refine gw_lload_n C 0 dX8_far_1 rfl rfl ?_
  refine gw_lmul C dX8_far_2 ?_
  refine gw_lload_n C 2 dX8_far_3 rfl rfl ?_
  refine gw_lload_n C 2 dX8_far_4 rfl rfl ?_
  refine gw_lmul C dX8_far_5 ?_
  refine gw_ladd C dX8_far_6 ?_
  refine gw_callSm C (as := [vL ((x * x) + (y * y))]) (st := []) (c_X8_root hl0 G ((x * x) + (y * y)) h) dX8_far_7 kX8_173 qX8_root hdX8_root ⟨Nat.le_of_ble_eq_true rfl, Nat.le_of_ble_eq_true rfl⟩ ⟨Nat.le_of_ble_eq_true rfl, Nat.le_of_ble_eq_true rfl⟩ (Nat.le_of_ble_eq_true rfl) rfl (fun z_7 => ?_)
  exact gw_iret C (Nat.le_of_ble_eq_true rfl) (Nat.le_of_ble_eq_true rfl) dX8_far_10 (⟨congrArg (fun q => some (vI q)) (by rfl), rfl, rfl⟩)
set_option maxHeartbeats 4000000 in
set_option maxRecDepth 100000 in
theorem c_X8_isFar {l : Launch} (hl0 : l.stackTraces = false) (G : GG) {n : Nat} {sh : GSh} {R : GR} {z : Nat} {I J : GI} (x : Int) (hx : inI x) : GM l yX8_isFar (.code yX8_isFar cX8_isFar 1 (some .boolean)) 1 25 0 0 G n sh R [vI x] z I J (boolQ (-1000000 ≤ x ∧ x ≤ 1000000) I J) gNo := by
  refine gm_of (lo0 := [some (vI x)]) hl0 (by decide) rfl (Nat.le_of_ble_eq_true rfl) ?_
  intro p e s m args below meth c C ht hgi
  have C : gC G p l s m args meth c cX8_isFar 1 RX8 (some .boolean) "isFar" := C
  refine gw_iload_n C 0 dX8_isFar_0 rfl rfl ?_
  refine gw_i2l C dX8_isFar_1 hx ?_
  refine gw_ldc2 C (x := (-1000000)) dX8_isFar_2 kX8_89 (by decide) ?_
  refine gw_ldc2 C (x := 1000000) dX8_isFar_5 kX8_91 (by decide) ?_
  refine gw_callSb C (as := [vL x, vL (-1000000), vL 1000000]) (st := []) (c_X8_in hl0 G x (-1000000) 1000000 (by omega) ⟨by decide, by decide⟩ ⟨by decide, by decide⟩) dX8_isFar_8 kX8_62 qX8_in hdX8_in ⟨Nat.le_of_ble_eq_true rfl, Nat.le_of_ble_eq_true rfl⟩ ⟨Nat.le_of_ble_eq_true rfl, Nat.le_of_ble_eq_true rfl⟩ (Nat.le_of_ble_eq_true rfl) rfl (fun h_8 z_8 => ?_) (fun h_8 z_8 => ?_)
  · skip
    exact gw_zret C (Nat.le_of_ble_eq_true rfl) (Nat.le_of_ble_eq_true rfl) dX8_isFar_11 (Or.inr rfl) (⟨Or.inl ⟨(by omega), rfl⟩, rfl, rfl⟩)
  · skip
    exact gw_zret C (Nat.le_of_ble_eq_true rfl) (Nat.le_of_ble_eq_true rfl) dX8_isFar_11 (Or.inl rfl) (⟨Or.inr ⟨(by omega), rfl⟩, rfl, rfl⟩)
set_option maxHeartbeats 4000000 in
set_option maxRecDepth 100000 in
theorem c_X8_isAngle {l : Launch} (hl0 : l.stackTraces = false) (G : GG) {n : Nat} {sh : GSh} {R : GR} {z : Nat} {I J : GI} (x : Int) (hx : inI x) : GM l yX8_isAngle (.code yX8_isAngle cX8_isAngle 1 (some .boolean)) 1 25 0 0 G n sh R [vI x] z I J (boolQ (0 ≤ x ∧ x ≤ 1295999) I J) gNo := by
  refine gm_of (lo0 := [some (vI x)]) hl0 (by decide) rfl (Nat.le_of_ble_eq_true rfl) ?_
  intro p e s m args below meth c C ht hgi
  have C : gC G p l s m args meth c cX8_isAngle 1 RX8 (some .boolean) "isAngle" := C
  refine gw_iload_n C 0 dX8_isAngle_0 rfl rfl ?_
  refine gw_i2l C dX8_isAngle_1 hx ?_
  refine gw_lconst C 0 dX8_isAngle_2 (by decide) ?_
  refine gw_ldc2 C (x := 1295999) dX8_isAngle_3 kX8_117 (by decide) ?_
  refine gw_callSb C (as := [vL x, vL 0, vL 1295999]) (st := []) (c_X8_in hl0 G x 0 1295999 (by omega) ⟨by decide, by decide⟩ ⟨by decide, by decide⟩) dX8_isAngle_6 kX8_62 qX8_in hdX8_in ⟨Nat.le_of_ble_eq_true rfl, Nat.le_of_ble_eq_true rfl⟩ ⟨Nat.le_of_ble_eq_true rfl, Nat.le_of_ble_eq_true rfl⟩ (Nat.le_of_ble_eq_true rfl) rfl (fun h_6 z_6 => ?_) (fun h_6 z_6 => ?_)
  · skip
    exact gw_zret C (Nat.le_of_ble_eq_true rfl) (Nat.le_of_ble_eq_true rfl) dX8_isAngle_9 (Or.inr rfl) (⟨Or.inl ⟨(by omega), rfl⟩, rfl, rfl⟩)
  · skip
    exact gw_zret C (Nat.le_of_ble_eq_true rfl) (Nat.le_of_ble_eq_true rfl) dX8_isAngle_9 (Or.inl rfl) (⟨Or.inr ⟨(by omega), rfl⟩, rfl, rfl⟩)
set_option maxHeartbeats 4000000 in
set_option maxRecDepth 100000 in
theorem c_X8_isSmall {l : Launch} (hl0 : l.stackTraces = false) (G : GG) {n : Nat} {sh : GSh} {R : GR} {z : Nat} {I J : GI} (x : Int) (hx : inI x) : GM l yX8_isSmall (.code yX8_isSmall cX8_isSmall 1 (some .boolean)) 1 25 0 0 G n sh R [vI x] z I J (boolQ (-3600 ≤ x ∧ x ≤ 3600) I J) gNo := by
  refine gm_of (lo0 := [some (vI x)]) hl0 (by decide) rfl (Nat.le_of_ble_eq_true rfl) ?_
  intro p e s m args below meth c C ht hgi
  have C : gC G p l s m args meth c cX8_isSmall 1 RX8 (some .boolean) "isSmall" := C
  refine gw_iload_n C 0 dX8_isSmall_0 rfl rfl ?_
  refine gw_i2l C dX8_isSmall_1 hx ?_
  refine gw_ldc2 C (x := (-3600)) dX8_isSmall_2 kX8_119 (by decide) ?_
  refine gw_ldc2 C (x := 3600) dX8_isSmall_5 kX8_121 (by decide) ?_
  refine gw_callSb C (as := [vL x, vL (-3600), vL 3600]) (st := []) (c_X8_in hl0 G x (-3600) 3600 (by omega) ⟨by decide, by decide⟩ ⟨by decide, by decide⟩) dX8_isSmall_8 kX8_62 qX8_in hdX8_in ⟨Nat.le_of_ble_eq_true rfl, Nat.le_of_ble_eq_true rfl⟩ ⟨Nat.le_of_ble_eq_true rfl, Nat.le_of_ble_eq_true rfl⟩ (Nat.le_of_ble_eq_true rfl) rfl (fun h_8 z_8 => ?_) (fun h_8 z_8 => ?_)
  · skip
    exact gw_zret C (Nat.le_of_ble_eq_true rfl) (Nat.le_of_ble_eq_true rfl) dX8_isSmall_11 (Or.inr rfl) (⟨Or.inl ⟨(by omega), rfl⟩, rfl, rfl⟩)
  · skip
    exact gw_zret C (Nat.le_of_ble_eq_true rfl) (Nat.le_of_ble_eq_true rfl) dX8_isSmall_11 (Or.inl rfl) (⟨Or.inr ⟨(by omega), rfl⟩, rfl, rfl⟩)
set_option maxHeartbeats 4000000 in
set_option maxRecDepth 100000 in
theorem c_X8_numbers {l : Launch} (hl0 : l.stackTraces = false) (G : GG) {n : Nat} {sh : GSh} {R : GR} {z : Nat} {I J : GI} (x : Int) (hx : inI x) : GM l yX8_numbers (.code yX8_numbers cX8_numbers 1 (some .int)) 0 0 0 0 G n sh R [vI x] z I J (memQ (some (vI (numZ x))) I J) gNo := by
  refine gm_of (lo0 := [some (vI x)]) hl0 (by decide) rfl (Nat.le_of_ble_eq_true rfl) ?_
  intro p e s m args below meth c C ht hgi
  have C : gC G p l s m args meth c cX8_numbers 1 RX8 (some .int) "numbers" := C
  refine gw_iload_n C 0 dX8_numbers_0 rfl rfl ?_
  refine gw_bipush C dX8_numbers_1 rfl ?_
  refine gw_icmp_ne C (tgt := 10) dX8_numbers_3 (by decide) hx ⟨by decide, by decide⟩ (fun h_3 => ?_) (fun h_3 => ?_)
  · skip
    refine gw_iload_n C 0 dX8_numbers_10 rfl rfl ?_
    refine gw_bipush C dX8_numbers_11 rfl ?_
    refine gw_icmp_ne C (tgt := 20) dX8_numbers_13 (by decide) hx ⟨by decide, by decide⟩ (fun h_13 => ?_) (fun h_13 => ?_)
    · skip
      refine gw_iload_n C 0 dX8_numbers_20 rfl rfl ?_
      refine gw_bipush C dX8_numbers_21 rfl ?_
      refine gw_icmp_eq C (tgt := 32) dX8_numbers_23 (by decide) hx ⟨by decide, by decide⟩ (fun h_23 => ?_) (fun h_23 => ?_)
      · skip
        refine gw_iconst C dX8_numbers_32 ?_
        refine gw_goto C (tgt := 37) dX8_numbers_33 (by decide) ?_
        exact gw_iret C (Nat.le_of_ble_eq_true rfl) (Nat.le_of_ble_eq_true rfl) dX8_numbers_37 (⟨congrArg (fun q => some (vI q)) (by unfold numZ; split <;> (try split) <;> (try split) <;> omega), rfl, rfl⟩)
      · skip
        refine gw_iload_n C 0 dX8_numbers_26 rfl rfl ?_
        refine gw_bipush C dX8_numbers_27 rfl ?_
        refine gw_icmp_ne C (tgt := 36) dX8_numbers_29 (by decide) hx ⟨by decide, by decide⟩ (fun h_29 => ?_) (fun h_29 => ?_)
        · skip
          refine gw_iconst C dX8_numbers_36 ?_
          exact gw_iret C (Nat.le_of_ble_eq_true rfl) (Nat.le_of_ble_eq_true rfl) dX8_numbers_37 (⟨congrArg (fun q => some (vI q)) (by unfold numZ; split <;> (try split) <;> (try split) <;> omega), rfl, rfl⟩)
        · skip
          refine gw_iconst C dX8_numbers_32 ?_
          refine gw_goto C (tgt := 37) dX8_numbers_33 (by decide) ?_
          exact gw_iret C (Nat.le_of_ble_eq_true rfl) (Nat.le_of_ble_eq_true rfl) dX8_numbers_37 (⟨congrArg (fun q => some (vI q)) (by unfold numZ; split <;> (try split) <;> (try split) <;> omega), rfl, rfl⟩)
    · skip
      refine gw_iconst C dX8_numbers_16 ?_
      refine gw_goto C (tgt := 37) dX8_numbers_17 (by decide) ?_
      exact gw_iret C (Nat.le_of_ble_eq_true rfl) (Nat.le_of_ble_eq_true rfl) dX8_numbers_37 (⟨congrArg (fun q => some (vI q)) (by unfold numZ; split <;> (try split) <;> (try split) <;> omega), rfl, rfl⟩)
  · skip
    refine gw_iconst C dX8_numbers_6 ?_
    refine gw_goto C (tgt := 37) dX8_numbers_7 (by decide) ?_
    exact gw_iret C (Nat.le_of_ble_eq_true rfl) (Nat.le_of_ble_eq_true rfl) dX8_numbers_37 (⟨congrArg (fun q => some (vI q)) (by unfold numZ; split <;> (try split) <;> (try split) <;> omega), rfl, rfl⟩)
