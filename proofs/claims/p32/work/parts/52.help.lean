set_option maxHeartbeats 4000000 in
set_option maxRecDepth 100000 in
theorem c_X7_refusalOfTurn_r {l : Launch} (hl0 : l.stackTraces = false) (G : GG) (I J : GI) {z : Nat} {r : Nat} (hr : wireQ r) (x : Int) (hx : inI x) : GM l yX7_refusalOfTurn (.code yX7_refusalOfTurn cX7_refusalOfTurn 2 (some .int)) 1 22 0 0 G N0 SH RR [vR r, vI x] z I J (memQ (some (vI (if ¬ (0 ≤ x ∧ x ≤ 999) then 2 else if 9 ≤ I r 2 then 3 else 0))) I J) gNo := by
  refine gm_of (lo0 := [some (vR r), some (vI x)]) hl0 (by decide) rfl (Nat.le_of_ble_eq_true rfl) ?_
  intro p e s m args below meth c C ht hgi
  have C : gC G p l s m args meth c cX7_refusalOfTurn 2 RX7 (some .int) "refusalOfTurn" := C
  refine gw_aload_n C 0 dX7_refusalOfTurn_0 rfl rfl ?_
  refine gw_ifnonnull C (tgt := 6) dX7_refusalOfTurn_1 (by decide) ?_
  refine gw_iload_n C 1 dX7_refusalOfTurn_6 rfl rfl ?_
  refine gw_iconst C dX7_refusalOfTurn_7 ?_
  refine gw_sipush C dX7_refusalOfTurn_8 rfl ?_
  refine gw_callSb C (as := [vI x, vI 0, vI 999]) (st := []) (c_X7_isIn hl0 G x 0 999 hx ⟨by decide, by decide⟩ ⟨by decide, by decide⟩) dX7_refusalOfTurn_11 kX7_52 qX7_isIn hdX7_isIn ⟨Nat.le_of_ble_eq_true rfl, Nat.le_of_ble_eq_true rfl⟩ ⟨Nat.le_of_ble_eq_true rfl, Nat.le_of_ble_eq_true rfl⟩ (Nat.le_of_ble_eq_true rfl) rfl (fun h_11 z_11 => ?_) (fun h_11 z_11 => ?_)
  · skip
    refine gw_if_ne C (tgt := 19) dX7_refusalOfTurn_14 (by decide) ⟨by decide, by decide⟩ (fun _ => ?_) (fun h => absurd h (by decide))
    refine gw_aload_n C 0 dX7_refusalOfTurn_19 rfl rfl ?_
    refine gw_getI (ci := 5) (Cn := RX6) (T0 := TX6) (N := 7) C 2 kX7_298 fX6 rfl (by decide) rfl rfl dX7_refusalOfTurn_20 (wq_s hr) (wq_n hr) (fun hI_20 => ?_)
    refine gw_bipush C dX7_refusalOfTurn_23 rfl ?_
    refine gw_icmp_lt C (tgt := 32) dX7_refusalOfTurn_25 (by decide) hI_20 ⟨by decide, by decide⟩ (fun h_25 => ?_) (fun h_25 => ?_)
    · skip
      refine gw_iconst C dX7_refusalOfTurn_32 ?_
      exact gw_iret C (Nat.le_of_ble_eq_true rfl) (Nat.le_of_ble_eq_true rfl) dX7_refusalOfTurn_33 (⟨congrArg (fun q => some (vI q)) (by (repeat (first | rw [if_pos (by omega)] | rw [if_neg (by omega)]))), rfl, rfl⟩)
    · skip
      refine gw_iconst C dX7_refusalOfTurn_28 ?_
      refine gw_goto C (tgt := 33) dX7_refusalOfTurn_29 (by decide) ?_
      exact gw_iret C (Nat.le_of_ble_eq_true rfl) (Nat.le_of_ble_eq_true rfl) dX7_refusalOfTurn_33 (⟨congrArg (fun q => some (vI q)) (by (repeat (first | rw [if_pos (by omega)] | rw [if_neg (by omega)]))), rfl, rfl⟩)
  · skip
    refine gw_if_ne C (tgt := 19) dX7_refusalOfTurn_14 (by decide) ⟨by decide, by decide⟩ (fun h => absurd h (by decide)) (fun _ => ?_)
    refine gw_iconst C dX7_refusalOfTurn_17 ?_
    exact gw_iret C (Nat.le_of_ble_eq_true rfl) (Nat.le_of_ble_eq_true rfl) dX7_refusalOfTurn_18 (⟨congrArg (fun q => some (vI q)) (by (repeat (first | rw [if_pos (by omega)] | rw [if_neg (by omega)]))), rfl, rfl⟩)
set_option maxHeartbeats 4000000 in
set_option maxRecDepth 100000 in
theorem c_X7_refusalOfTurn_n {l : Launch} (hl0 : l.stackTraces = false) (G : GG) (I J : GI) {z : Nat} (x : Int) (hx : inI x) : GM l yX7_refusalOfTurn (.code yX7_refusalOfTurn cX7_refusalOfTurn 2 (some .int)) 1 22 0 0 G N0 SH RR [vN, vI x] z I J (memQ (some (vI 1)) I J) gNo := by
  refine gm_of (lo0 := [some (vN), some (vI x)]) hl0 (by decide) rfl (Nat.le_of_ble_eq_true rfl) ?_
  intro p e s m args below meth c C ht hgi
  have C : gC G p l s m args meth c cX7_refusalOfTurn 2 RX7 (some .int) "refusalOfTurn" := C
  refine gw_aloadN_n C 0 dX7_refusalOfTurn_0 rfl rfl ?_
  refine gw_ifnonnullN C dX7_refusalOfTurn_1 ?_
  refine gw_iconst C dX7_refusalOfTurn_4 ?_
  exact gw_iret C (Nat.le_of_ble_eq_true rfl) (Nat.le_of_ble_eq_true rfl) dX7_refusalOfTurn_5 (⟨congrArg (fun q => some (vI q)) (by rfl), rfl, rfl⟩)
set_option maxHeartbeats 4000000 in
set_option maxRecDepth 100000 in
theorem c_X7_refusalOfLeg {l : Launch} (hl0 : l.stackTraces = false) (G : GG) (I J : GI) {z : Nat} {r : Nat} (hr : travQ r) (x y : Int) (hx : inI x) (hy : inI y) : GM l yX7_refusalOfLeg (.code yX7_refusalOfLeg cX7_refusalOfLeg 3 (some .int)) 2 42 0 0 G N0 SH RR [vR r, vI x, vI y] z I J (memQ (some (vI (if ¬ ((0 ≤ x ∧ x ≤ 1295999) ∧ 1 ≤ y ∧ y ≤ 200000) then 2 else if I r 1 ≠ -2000000000 ∨ 12 ≤ I r 2 then 3 else 0))) I J) gNo := by
  refine gm_of (lo0 := [some (vR r), some (vI x), some (vI y)]) hl0 (by decide) rfl (Nat.le_of_ble_eq_true rfl) ?_
  intro p e s m args below meth c C ht hgi
  have C : gC G p l s m args meth c cX7_refusalOfLeg 3 RX7 (some .int) "refusalOfLeg" := C
  refine gw_iload_n C 1 dX7_refusalOfLeg_0 rfl rfl ?_
  refine gw_callSb C (as := [vI x]) (st := []) (c_X7_isBearing hl0 G x hx) dX7_refusalOfLeg_1 kX7_100 qX7_isBearing hdX7_isBearing ⟨Nat.le_of_ble_eq_true rfl, Nat.le_of_ble_eq_true rfl⟩ ⟨Nat.le_of_ble_eq_true rfl, Nat.le_of_ble_eq_true rfl⟩ (Nat.le_of_ble_eq_true rfl) rfl (fun h_1 z_1 => ?_) (fun h_1 z_1 => ?_)
  · skip
    refine gw_if_eq C (tgt := 18) dX7_refusalOfLeg_4 (by decide) ⟨by decide, by decide⟩ (fun h => absurd h (by decide)) (fun _ => ?_)
    refine gw_iload_n C 2 dX7_refusalOfLeg_7 rfl rfl ?_
    refine gw_iconst C dX7_refusalOfLeg_8 ?_
    refine gw_ldcw C (x := 200000) dX7_refusalOfLeg_9 kX7_301 (by decide) ?_
    refine gw_callSb C (as := [vI y, vI 1, vI 200000]) (st := []) (c_X7_isIn hl0 G y 1 200000 hy ⟨by decide, by decide⟩ ⟨by decide, by decide⟩) dX7_refusalOfLeg_12 kX7_52 qX7_isIn hdX7_isIn ⟨Nat.le_of_ble_eq_true rfl, Nat.le_of_ble_eq_true rfl⟩ ⟨Nat.le_of_ble_eq_true rfl, Nat.le_of_ble_eq_true rfl⟩ (Nat.le_of_ble_eq_true rfl) rfl (fun h_12 z_12 => ?_) (fun h_12 z_12 => ?_)
    · skip
      refine gw_if_ne C (tgt := 20) dX7_refusalOfLeg_15 (by decide) ⟨by decide, by decide⟩ (fun _ => ?_) (fun h => absurd h (by decide))
      refine gw_aload_n C 0 dX7_refusalOfLeg_20 rfl rfl ?_
      refine gw_callVb C (as := []) (st := []) (ci := 4) (T0 := TX5) (N := 15) (c_X5_isClosed hl0 G I J hr ) dX7_refusalOfLeg_21 kX7_294 qX5_isClosed hdX5_isClosed ⟨Nat.le_of_ble_eq_true rfl, Nat.le_of_ble_eq_true rfl⟩ ⟨Nat.le_of_ble_eq_true rfl, Nat.le_of_ble_eq_true rfl⟩ (Nat.le_of_ble_eq_true rfl) rfl (tq_s hr) (tq_n hr) rfl (fun h_21 z_21 => ?_) (fun h_21 z_21 => ?_)
      · skip
        refine gw_if_ne C (tgt := 36) dX7_refusalOfLeg_24 (by decide) ⟨by decide, by decide⟩ (fun _ => ?_) (fun h => absurd h (by decide))
        refine gw_iconst C dX7_refusalOfLeg_36 ?_
        refine gw_goto C (tgt := 41) dX7_refusalOfLeg_37 (by decide) ?_
        exact gw_iret C (Nat.le_of_ble_eq_true rfl) (Nat.le_of_ble_eq_true rfl) dX7_refusalOfLeg_41 (⟨congrArg (fun q => some (vI q)) (by (repeat (first | rw [if_pos (by omega)] | rw [if_neg (by omega)]))), rfl, rfl⟩)
      · skip
        refine gw_if_ne C (tgt := 36) dX7_refusalOfLeg_24 (by decide) ⟨by decide, by decide⟩ (fun h => absurd h (by decide)) (fun _ => ?_)
        refine gw_aload_n C 0 dX7_refusalOfLeg_27 rfl rfl ?_
        refine gw_getI (ci := 4) (Cn := RX5) (T0 := TX5) (N := 15) C 2 kX7_154 fX5 rfl (by decide) rfl rfl dX7_refusalOfLeg_28 (tq_s hr) (tq_n hr) (fun hI_28 => ?_)
        refine gw_bipush C dX7_refusalOfLeg_31 rfl ?_
        refine gw_icmp_lt C (tgt := 40) dX7_refusalOfLeg_33 (by decide) hI_28 ⟨by decide, by decide⟩ (fun h_33 => ?_) (fun h_33 => ?_)
        · skip
          refine gw_iconst C dX7_refusalOfLeg_40 ?_
          exact gw_iret C (Nat.le_of_ble_eq_true rfl) (Nat.le_of_ble_eq_true rfl) dX7_refusalOfLeg_41 (⟨congrArg (fun q => some (vI q)) (by (repeat (first | rw [if_pos (by omega)] | rw [if_neg (by omega)]))), rfl, rfl⟩)
        · skip
          refine gw_iconst C dX7_refusalOfLeg_36 ?_
          refine gw_goto C (tgt := 41) dX7_refusalOfLeg_37 (by decide) ?_
          exact gw_iret C (Nat.le_of_ble_eq_true rfl) (Nat.le_of_ble_eq_true rfl) dX7_refusalOfLeg_41 (⟨congrArg (fun q => some (vI q)) (by (repeat (first | rw [if_pos (by omega)] | rw [if_neg (by omega)]))), rfl, rfl⟩)
    · skip
      refine gw_if_ne C (tgt := 20) dX7_refusalOfLeg_15 (by decide) ⟨by decide, by decide⟩ (fun h => absurd h (by decide)) (fun _ => ?_)
      refine gw_iconst C dX7_refusalOfLeg_18 ?_
      exact gw_iret C (Nat.le_of_ble_eq_true rfl) (Nat.le_of_ble_eq_true rfl) dX7_refusalOfLeg_19 (⟨congrArg (fun q => some (vI q)) (by (repeat (first | rw [if_pos (by omega)] | rw [if_neg (by omega)]))), rfl, rfl⟩)
  · skip
    refine gw_if_eq C (tgt := 18) dX7_refusalOfLeg_4 (by decide) ⟨by decide, by decide⟩ (fun _ => ?_) (fun h => absurd h (by decide))
    refine gw_iconst C dX7_refusalOfLeg_18 ?_
    exact gw_iret C (Nat.le_of_ble_eq_true rfl) (Nat.le_of_ble_eq_true rfl) dX7_refusalOfLeg_19 (⟨congrArg (fun q => some (vI q)) (by (repeat (first | rw [if_pos (by omega)] | rw [if_neg (by omega)]))), rfl, rfl⟩)
theorem rfZ_t {S : Nat → Int} {l a b c : Int} (e : l = 116) : rfZ S l a b c = rfT S a b := by unfold rfZ; rw [if_pos e]
theorem rfZ_l {S : Nat → Int} {l a b c : Int} (e : l = 108) : rfZ S l a b c = rfL S a b c := by unfold rfZ; rw [if_neg (by omega), if_pos e]
theorem rfZ_k {S : Nat → Int} {l a b c : Int} (e : l = 107) : rfZ S l a b c = rfK S a := by unfold rfZ; rw [if_neg (by omega), if_neg (by omega), if_pos e]
theorem rfZ_a {S : Nat → Int} {l a b c : Int} (e : l ≠ 116 ∧ l ≠ 108 ∧ l ≠ 107) : rfZ S l a b c = rfA S a := by unfold rfZ; rw [if_neg e.1, if_neg e.2.1, if_neg e.2.2]
theorem rf_t1 {S : Nat → Int} {a b x : Int} (h : ¬ (0 ≤ a ∧ a < S 3)) (e : x = 1) : x = rfT S a b := by unfold rfT; rw [if_pos h]; exact e
theorem rf_t {I : GI} {S : Nat → Int} {a b : Int} (hR : Rel 1 I S) (ho : Oks S) (h : 0 ≤ a ∧ a < S 3) : (if ¬ (0 ≤ b ∧ b ≤ 999) then 2 else if 9 ≤ I (1 + 5 + 2 * a.toNat) 2 then 3 else (0 : Int)) = rfT S a b := by
  have hi : (a.toNat : Int) < S 3 := by omega
  have hw := (rel_w hR hi).1.2.2
  have hb := (ho.2.2.1 a.toNat hi).1.2.2
  unfold wP at hw
  unfold rfT
  rw [if_neg (show ¬ ¬ (0 ≤ a ∧ a < S 3) by omega), hw]
  by_cases h1 : 0 ≤ b ∧ b ≤ 999
  · rw [if_neg (show ¬ ¬ (0 ≤ b ∧ b ≤ 999) by omega), if_neg (show ¬ ¬ (0 ≤ b ∧ b ≤ 999) by omega)]
    by_cases h2 : S (8 + 12 * a.toNat) = 9
    · rw [if_pos (by omega), if_pos h2]
    · rw [if_neg (by omega), if_neg h2]
  · rw [if_pos h1, if_pos h1]
theorem cl_iff {I : GI} {S : Nat → Int} {t : Nat} (hR : Rel 1 I S) (ho : Oks S) (ht9 : (t : Int) < S 5) : I (tP 1 t) 1 ≠ -2000000000 ↔ 0 ≤ S (104 + 28 * t) := by
  have h := (rel_tr hR ht9).2.1
  constructor
  · intro hn
    exact Int.not_lt.mp (fun hh => hn (h.2 hh).1)
  · intro hn
    have := (h.1 hn).1
    omega
theorem rf_l {I : GI} {S : Nat → Int} {a b c : Int} (hR : Rel 1 I S) (ho : Oks S) (h : 0 ≤ a ∧ a < S 5) : (if ¬ ((0 ≤ b ∧ b ≤ 1295999) ∧ 1 ≤ c ∧ c ≤ 200000) then 2 else if I (1 + 21 + 6 * a.toNat) 1 ≠ -2000000000 ∨ 12 ≤ I (1 + 21 + 6 * a.toNat) 2 then 3 else (0 : Int)) = rfL S a b c := by
  have hi : (a.toNat : Int) < S 5 := by omega
  have hw := (rel_tr hR hi).1.2
  have hb := (ho.2.2.2.2 a.toNat hi).1.2.1
  have hc := cl_iff hR ho hi
  unfold tP at hw hc
  unfold rfL
  rw [if_neg (show ¬ ¬ (0 ≤ a ∧ a < S 5) by omega), hw]
  by_cases h1 : (0 ≤ b ∧ b ≤ 1295999) ∧ 1 ≤ c ∧ c ≤ 200000
  · rw [if_neg (show ¬ ¬ ((0 ≤ b ∧ b ≤ 1295999) ∧ 1 ≤ c ∧ c ≤ 200000) by omega), if_neg (show ¬ ¬ ((0 ≤ b ∧ b ≤ 1295999) ∧ 1 ≤ c ∧ c ≤ 200000) by omega)]
    by_cases h2 : 0 ≤ S (104 + 28 * a.toNat) ∨ S (103 + 28 * a.toNat) = 12
    · rw [if_pos (show I (1 + 21 + 6 * a.toNat) 1 ≠ -2000000000 ∨ 12 ≤ S (103 + 28 * a.toNat) from h2.elim (fun q => Or.inl (hc.mpr q)) (fun q => Or.inr (by omega))), if_pos h2]
    · rw [if_neg (show ¬ (I (1 + 21 + 6 * a.toNat) 1 ≠ -2000000000 ∨ 12 ≤ S (103 + 28 * a.toNat)) from fun q => q.elim (fun q => h2 (Or.inl (hc.mp q))) (fun q => by omega)), if_neg h2]
  · rw [if_pos h1, if_pos h1]
theorem rf_1 {S : Nat → Int} {l a b c : Int} (hl : l ≠ 116) (h : ¬ (0 ≤ a ∧ a < S 5)) : 1 = rfZ S l a b c := by
  unfold rfZ rfL rfK rfA
  rw [if_neg hl, if_pos h, if_pos h, if_pos h, ite_self, ite_self]
set_option maxHeartbeats 4000000 in
set_option maxRecDepth 100000 in
theorem c_X7_refusalOf {l : Launch} (hl0 : l.stackTraces = false) (G : GG) (I J : GI) {z : Nat} {S : Nat → Int} (hR : Rel 1 I S) (ho : Oks S) (hj : Jdg 1 I S) (x b d q : Int) (hx : inI x) (hb : inI b) (hd : inI d) (hq : inI q) : GM l yX7_refusalOf (.code yX7_refusalOf cX7_refusalOf 6 (some .int)) 3 64 0 0 G N0 SH RR [vR 0, vI x, vI b, vI d, vI q] z I J (memQ (some (vI (rfZ S x b d q))) I J) gNo := by
  refine gm_of (lo0 := [some (vR 0), some (vI x), some (vI b), some (vI d), some (vI q), none]) hl0 (by decide) rfl (Nat.le_of_ble_eq_true rfl) ?_
  intro p e s m args below meth c C ht hgi
  have C : gC G p l s m args meth c cX7_refusalOf 6 RX7 (some .int) "refusalOf" := C
  have hcnt := hR.2.1
  have hobd := ho.2.1
  refine gw_iload_n C 1 dX7_refusalOf_0 rfl rfl ?_
  refine gw_bipush C dX7_refusalOf_1 rfl ?_
  refine gw_icmp_ne C (tgt := 19) dX7_refusalOf_3 (by decide) hx ⟨by decide, by decide⟩ (fun h_3 => ?_) (fun h_3 => ?_)
  · skip
    refine gw_aload_n C 0 dX7_refusalOf_19 rfl rfl ?_
    refine gw_getRs (ci := 6) (Cn := RX7) (T0 := TX7) (N := 3) C 1 0 kX7_10 fX7 rfl (by decide) rfl rfl dX7_refusalOf_20 xs_0 xn_0 xr_0_0 ?_
    refine gw_iload_n C 2 dX7_refusalOf_23 rfl rfl ?_
    refine gw_callV C (as := [vI b]) (st := []) (ci := 2) (T0 := TX2) (N := 7) (c_X2_traverseAt hl0 G I J mineQ_live (by have := ho.2.1; have := hR.2.1; omega) b hb) dX7_refusalOf_24 kX7_141 qX2_traverseAt hdX2_traverseAt ⟨Nat.le_of_ble_eq_true rfl, Nat.le_of_ble_eq_true rfl⟩ ⟨Nat.le_of_ble_eq_true rfl, Nat.le_of_ble_eq_true rfl⟩ (Nat.le_of_ble_eq_true rfl) rfl (mq_s mineQ_live) (mq_n mineQ_live) rfl (fun _ _ _ _ h => h.elim) ?_
    intro v_24 zq_24 I_24 J_24 hq_24_2
    obtain ⟨⟨hq_24_2, rfl⟩ | ⟨hq_24_2, rfl⟩, eI_24, eJ_24⟩ := hq_24_2
    all_goals rw [eI_24, eJ_24]
    · skip
      show GW G p l e ({ frames := 3, cells := 0, slots := 0, locals := 64 } : Room) s m args below meth c 6 zq_24 N0 SH RR I J 0 0 (vx_MQ below (GQ G N0 SH RR (memQ (some (vI (rfZ S x b d q))) I J)) (GX G N0 SH RR gNo) args s 0 0 (ge G)) 27 [some (vR 0), some (vI x), some (vI b), some (vI d), some (vI q), none] [vR (1 + 21 + 6 * (b).toNat)]
      refine gw_astore C (lo1 := [some (vR 0), some (vI x), some (vI b), some (vI d), some (vI q), some (vR (1 + 21 + 6 * (b).toNat))]) dX7_refusalOf_27 (by decide) rfl ?_
      refine gw_aload C dX7_refusalOf_29 rfl ?_
      refine gw_ifnonnull C (tgt := 36) dX7_refusalOf_31 (by decide) ?_
      refine gw_iload_n C 1 dX7_refusalOf_36 rfl rfl ?_
      refine gw_bipush C dX7_refusalOf_37 rfl ?_
      refine gw_icmp_ne C (tgt := 51) dX7_refusalOf_39 (by decide) hx ⟨by decide, by decide⟩ (fun h_39 => ?_) (fun h_39 => ?_)
      · skip
        refine gw_iload_n C 1 dX7_refusalOf_51 rfl rfl ?_
        refine gw_bipush C dX7_refusalOf_52 rfl ?_
        refine gw_icmp_ne C (tgt := 71) dX7_refusalOf_54 (by decide) hx ⟨by decide, by decide⟩ (fun h_54 => ?_) (fun h_54 => ?_)
        · skip
          have hcl := cl_iff hR ho (t := b.toNat) (by have := hR.2.1; omega)
          unfold tP at hcl
          refine gw_aload C dX7_refusalOf_71 rfl ?_
          refine gw_callVb C (as := []) (st := []) (ci := 4) (T0 := TX5) (N := 15) (c_X5_isClosed hl0 G I J (mq_tq mineQ_live (b).toNat (by omega))) dX7_refusalOf_73 kX7_294 qX5_isClosed hdX5_isClosed ⟨Nat.le_of_ble_eq_true rfl, Nat.le_of_ble_eq_true rfl⟩ ⟨Nat.le_of_ble_eq_true rfl, Nat.le_of_ble_eq_true rfl⟩ (Nat.le_of_ble_eq_true rfl) rfl (tq_s (mq_tq mineQ_live (b).toNat (by omega))) (tq_n (mq_tq mineQ_live (b).toNat (by omega))) rfl (fun h_73 z_73 => ?_) (fun h_73 z_73 => ?_)
          · skip
            have hcl1 := hcl.mp h_73
            refine gw_if_eq C (tgt := 91) dX7_refusalOf_76 (by decide) ⟨by decide, by decide⟩ (fun h => absurd h (by decide)) (fun _ => ?_)
            refine gw_aload C dX7_refusalOf_79 rfl ?_
            refine gw_getI (ci := 4) (Cn := RX5) (T0 := TX5) (N := 15) C 3 kX7_163 fX5 rfl (by decide) rfl rfl dX7_refusalOf_81 (tq_s (mq_tq mineQ_live (b).toNat (by omega))) (tq_n (mq_tq mineQ_live (b).toNat (by omega))) (fun hI_81 => ?_)
            rw [show (I (1 + 21 + 6 * (b).toNat) 3) = (sTT S ((b).toNat)) from (hj.2.2 ((b).toNat) (by have := hR.2.1; omega)).1] at hI_81 ⊢
            refine gw_if_ne C (tgt := 91) dX7_refusalOf_84 (by decide) hI_81 (fun h_84 => ?_) (fun h_84 => ?_)
            · skip
              refine gw_iconst C dX7_refusalOf_91 ?_
              exact gw_iret C (Nat.le_of_ble_eq_true rfl) (Nat.le_of_ble_eq_true rfl) dX7_refusalOf_92 (⟨congrArg (fun q => some (vI q)) (by rw [rfZ_a (by omega)]; unfold rfA; rw [if_neg (show ¬ ¬ (0 ≤ b ∧ b < S 5) by omega)]; first | rw [if_pos (by omega)] | rw [if_neg (by omega)]), rfl, rfl⟩)
            · skip
              refine gw_iconst C dX7_refusalOf_87 ?_
              refine gw_goto C (tgt := 92) dX7_refusalOf_88 (by decide) ?_
              exact gw_iret C (Nat.le_of_ble_eq_true rfl) (Nat.le_of_ble_eq_true rfl) dX7_refusalOf_92 (⟨congrArg (fun q => some (vI q)) (by rw [rfZ_a (by omega)]; unfold rfA; rw [if_neg (show ¬ ¬ (0 ≤ b ∧ b < S 5) by omega)]; first | rw [if_pos (by omega)] | rw [if_neg (by omega)]), rfl, rfl⟩)
          · skip
            have hcl1 : S (104 + 28 * b.toNat) < 0 := Int.not_le.mp (fun q => h_73 (hcl.mpr q))
            refine gw_if_eq C (tgt := 91) dX7_refusalOf_76 (by decide) ⟨by decide, by decide⟩ (fun _ => ?_) (fun h => absurd h (by decide))
            refine gw_iconst C dX7_refusalOf_91 ?_
            exact gw_iret C (Nat.le_of_ble_eq_true rfl) (Nat.le_of_ble_eq_true rfl) dX7_refusalOf_92 (⟨congrArg (fun q => some (vI q)) (by rw [rfZ_a (by omega)]; unfold rfA; rw [if_neg (show ¬ ¬ (0 ≤ b ∧ b < S 5) by omega)]; first | rw [if_pos (by omega)] | rw [if_neg (by omega)]), rfl, rfl⟩)
        · skip
          refine gw_aload C dX7_refusalOf_57 rfl ?_
          refine gw_getI (ci := 4) (Cn := RX5) (T0 := TX5) (N := 15) C 2 kX7_154 fX5 rfl (by decide) rfl rfl dX7_refusalOf_59 (tq_s (mq_tq mineQ_live (b).toNat (by omega))) (tq_n (mq_tq mineQ_live (b).toNat (by omega))) (fun hI_59 => ?_)
          rw [show (I (1 + 21 + 6 * (b).toNat) 2) = (S (103 + 28 * ((b).toNat))) from (rel_tr hR (t := ((b).toNat)) (by have := hR.2.1; omega)).1.2] at hI_59 ⊢
          refine gw_if_ne C (tgt := 69) dX7_refusalOf_62 (by decide) hI_59 (fun h_62 => ?_) (fun h_62 => ?_)
          · skip
            refine gw_iconst C dX7_refusalOf_69 ?_
            exact gw_iret C (Nat.le_of_ble_eq_true rfl) (Nat.le_of_ble_eq_true rfl) dX7_refusalOf_70 (⟨congrArg (fun q => some (vI q)) (by rw [rfZ_k (by omega)]; unfold rfK; rw [if_neg (show ¬ ¬ (0 ≤ b ∧ b < S 5) by omega)]; first | rw [if_pos (by omega)] | rw [if_neg (by omega)]), rfl, rfl⟩)
          · skip
            refine gw_iconst C dX7_refusalOf_65 ?_
            refine gw_goto C (tgt := 70) dX7_refusalOf_66 (by decide) ?_
            exact gw_iret C (Nat.le_of_ble_eq_true rfl) (Nat.le_of_ble_eq_true rfl) dX7_refusalOf_70 (⟨congrArg (fun q => some (vI q)) (by rw [rfZ_k (by omega)]; unfold rfK; rw [if_neg (show ¬ ¬ (0 ≤ b ∧ b < S 5) by omega)]; first | rw [if_pos (by omega)] | rw [if_neg (by omega)]), rfl, rfl⟩)
      · skip
        refine gw_aload C dX7_refusalOf_42 rfl ?_
        refine gw_iload_n C 3 dX7_refusalOf_44 rfl rfl ?_
        refine gw_iload C dX7_refusalOf_45 rfl ?_
        refine gw_callSm C (as := [vR (1 + 21 + 6 * (b).toNat), vI d, vI q]) (st := []) (c_X7_refusalOfLeg hl0 G I J (mq_tq mineQ_live (b).toNat (by omega)) d q hd hq) dX7_refusalOf_47 kX7_291 qX7_refusalOfLeg hdX7_refusalOfLeg ⟨Nat.le_of_ble_eq_true rfl, Nat.le_of_ble_eq_true rfl⟩ ⟨Nat.le_of_ble_eq_true rfl, Nat.le_of_ble_eq_true rfl⟩ (Nat.le_of_ble_eq_true rfl) rfl (fun z_47 => ?_)
        exact gw_iret C (Nat.le_of_ble_eq_true rfl) (Nat.le_of_ble_eq_true rfl) dX7_refusalOf_50 (⟨congrArg (fun q => some (vI q)) (by rw [rfZ_l (by omega)]; exact rf_l hR ho (by omega)), rfl, rfl⟩)
    · skip
      show GW G p l e ({ frames := 3, cells := 0, slots := 0, locals := 64 } : Room) s m args below meth c 6 zq_24 N0 SH RR I J 0 0 (vx_MQ below (GQ G N0 SH RR (memQ (some (vI (rfZ S x b d q))) I J)) (GX G N0 SH RR gNo) args s 0 0 (ge G)) 27 [some (vR 0), some (vI x), some (vI b), some (vI d), some (vI q), none] [vN]
      refine gw_astoreN C (lo1 := [some (vR 0), some (vI x), some (vI b), some (vI d), some (vI q), some (vN)]) dX7_refusalOf_27 (by decide) rfl ?_
      refine gw_aloadN C dX7_refusalOf_29 rfl ?_
      refine gw_ifnonnullN C dX7_refusalOf_31 ?_
      refine gw_iconst C dX7_refusalOf_34 ?_
      exact gw_iret C (Nat.le_of_ble_eq_true rfl) (Nat.le_of_ble_eq_true rfl) dX7_refusalOf_35 (⟨congrArg (fun q => some (vI q)) (rf_1 (by omega) (by have := hR.2.1; omega)), rfl, rfl⟩)
  · skip
    refine gw_aload_n C 0 dX7_refusalOf_6 rfl rfl ?_
    refine gw_getRs (ci := 6) (Cn := RX7) (T0 := TX7) (N := 3) C 1 0 kX7_10 fX7 rfl (by decide) rfl rfl dX7_refusalOf_7 xs_0 xn_0 xr_0_0 ?_
    refine gw_iload_n C 2 dX7_refusalOf_10 rfl rfl ?_
    refine gw_callV C (as := [vI b]) (st := []) (ci := 2) (T0 := TX2) (N := 7) (c_X2_wireAt hl0 G I J mineQ_live (by have := ho.2.1; have := hR.2.1; omega) b hb) dX7_refusalOf_11 kX7_82 qX2_wireAt hdX2_wireAt ⟨Nat.le_of_ble_eq_true rfl, Nat.le_of_ble_eq_true rfl⟩ ⟨Nat.le_of_ble_eq_true rfl, Nat.le_of_ble_eq_true rfl⟩ (Nat.le_of_ble_eq_true rfl) rfl (mq_s mineQ_live) (mq_n mineQ_live) rfl (fun _ _ _ _ h => h.elim) ?_
    intro v_11 zq_11 I_11 J_11 hq_11_2
    obtain ⟨⟨hq_11_2, rfl⟩ | ⟨hq_11_2, rfl⟩, eI_11, eJ_11⟩ := hq_11_2
    all_goals rw [eI_11, eJ_11]
    · skip
      show GW G p l e ({ frames := 3, cells := 0, slots := 0, locals := 64 } : Room) s m args below meth c 6 zq_11 N0 SH RR I J 0 0 (vx_MQ below (GQ G N0 SH RR (memQ (some (vI (rfZ S x b d q))) I J)) (GX G N0 SH RR gNo) args s 0 0 (ge G)) 14 [some (vR 0), some (vI x), some (vI b), some (vI d), some (vI q), none] [vR (1 + 5 + 2 * (b).toNat)]
      refine gw_iload_n C 3 dX7_refusalOf_14 rfl rfl ?_
      refine gw_callSm C (as := [vR (1 + 5 + 2 * (b).toNat), vI d]) (st := []) (c_X7_refusalOfTurn_r hl0 G I J (mq_wq mineQ_live (b).toNat (by omega)) d hd) dX7_refusalOf_15 kX7_287 qX7_refusalOfTurn hdX7_refusalOfTurn ⟨Nat.le_of_ble_eq_true rfl, Nat.le_of_ble_eq_true rfl⟩ ⟨Nat.le_of_ble_eq_true rfl, Nat.le_of_ble_eq_true rfl⟩ (Nat.le_of_ble_eq_true rfl) rfl (fun z_15 => ?_)
      exact gw_iret C (Nat.le_of_ble_eq_true rfl) (Nat.le_of_ble_eq_true rfl) dX7_refusalOf_18 (⟨congrArg (fun q => some (vI q)) (by rw [rfZ_t (by omega)]; exact rf_t hR ho (by omega)), rfl, rfl⟩)
    · skip
      show GW G p l e ({ frames := 3, cells := 0, slots := 0, locals := 64 } : Room) s m args below meth c 6 zq_11 N0 SH RR I J 0 0 (vx_MQ below (GQ G N0 SH RR (memQ (some (vI (rfZ S x b d q))) I J)) (GX G N0 SH RR gNo) args s 0 0 (ge G)) 14 [some (vR 0), some (vI x), some (vI b), some (vI d), some (vI q), none] [vN]
      refine gw_iload_n C 3 dX7_refusalOf_14 rfl rfl ?_
      refine gw_callSm C (as := [vN, vI d]) (st := []) (c_X7_refusalOfTurn_n hl0 G I J d hd) dX7_refusalOf_15 kX7_287 qX7_refusalOfTurn hdX7_refusalOfTurn ⟨Nat.le_of_ble_eq_true rfl, Nat.le_of_ble_eq_true rfl⟩ ⟨Nat.le_of_ble_eq_true rfl, Nat.le_of_ble_eq_true rfl⟩ (Nat.le_of_ble_eq_true rfl) rfl (fun z_15_2 => ?_)
      exact gw_iret C (Nat.le_of_ble_eq_true rfl) (Nat.le_of_ble_eq_true rfl) dX7_refusalOf_18 (⟨congrArg (fun q => some (vI q)) (by rw [rfZ_t (by omega)]; exact rf_t1 (by omega) rfl), rfl, rfl⟩)
theorem rf_wt {S : Nat → Int} {a b : Int} (h : rfT S a b = 0) : (0 ≤ a ∧ a < S 3) ∧ (0 ≤ b ∧ b ≤ 999) ∧ S (8 + 12 * a.toNat) ≠ 9 := by
  unfold rfT at h
  split at h
  · omega
  · split at h
    · omega
    · split at h <;> omega
theorem rf_wl {S : Nat → Int} {a b c : Int} (h : rfL S a b c = 0) : (0 ≤ a ∧ a < S 5) ∧ ((0 ≤ b ∧ b ≤ 1295999) ∧ 1 ≤ c ∧ c ≤ 200000) ∧ S (104 + 28 * a.toNat) < 0 ∧ S (103 + 28 * a.toNat) ≠ 12 := by
  unfold rfL at h
  split at h
  · omega
  · split at h
    · omega
    · split at h <;> omega
theorem rf_wk {S : Nat → Int} {a : Int} (h : rfK S a = 0) : (0 ≤ a ∧ a < S 5) ∧ S (103 + 28 * a.toNat) ≠ 0 := by
  unfold rfK at h
  split at h
  · omega
  · split at h <;> omega
theorem rf_wa {S : Nat → Int} {a : Int} (h : rfA S a = 0) : (0 ≤ a ∧ a < S 5) ∧ 0 ≤ S (104 + 28 * a.toNat) ∧ sTT S a.toNat = 0 := by
  unfold rfA at h
  split at h
  · omega
  · split at h <;> omega
theorem rf_5 {S : Nat → Int} {l a b c : Int} (h : rfZ S l a b c = 0) (e : l ≠ 116) : 0 ≤ a ∧ a < S 5 := by
  by_cases e1 : l = 108
  · rw [rfZ_l e1] at h; exact (rf_wl h).1
  · by_cases e2 : l = 107
    · rw [rfZ_k e2] at h; exact (rf_wk h).1
    · rw [rfZ_a ⟨e, e1, e2⟩] at h; exact (rf_wa h).1
theorem co_t {I J : GI} {S : Nat → Int} {l a b c : Int} (hR : Rel 1 I S) (ho : Oks S) (hw : Raw 1 I) (h0 : rfZ S l a b c = 0) (e : l = 116) {x y : Int} {z : Nat} (hx : x = S (8 + 12 * a.toNat)) (hy : y = S (8 + 12 * a.toNat)) : coQ I J S l a b c (some (vI (x + 1))) z (up (up I (1 + 5 + 2 * a.toNat + 1) x.toNat b) (1 + 5 + 2 * a.toNat) 2 (y + 1)) J := by
  subst hx hy
  rw [rfZ_t e] at h0
  have h := rf_wt h0
  have hi : (a.toNat : Int) < S 3 := by omega
  have hb := (ho.2.2.1 a.toNat hi).1.2.2
  have h6 : a.toNat < 6 := by have := ho.2.1.1; omega
  obtain ⟨n, hn⟩ : ∃ n : Nat, S (8 + 12 * a.toNat) = (n : Int) := ⟨(S (8 + 12 * a.toNat)).toNat, by omega⟩
  unfold coQ coR coS
  rw [if_pos e, if_pos e]
  refine ⟨rfl, ⟨fun q f hq => by rw [up_nn (by omega), up_nn (by omega)], ?_, ?_, ?_⟩, rfl⟩
  · rw [show (S (8 + 12 * a.toNat)).toNat = n by omega]
    exact rel_swing hR ho hi hn (by omega) rfl
  · rw [show (S (8 + 12 * a.toNat)).toNat = n by omega]
    exact oks_swing ho hi hn (by omega) h.2.1
  · exact raw_swing hw h6 (by omega) h.2.1 (by omega)
theorem co_l {I J : GI} {S : Nat → Int} {l a b c : Int} (hR : Rel 1 I S) (ho : Oks S) (hw : Raw 1 I) (h0 : rfZ S l a b c = 0) (e : l = 108) {x y v : Int} {z : Nat} (hx : x = S (103 + 28 * a.toNat)) (hy : y = S (103 + 28 * a.toNat)) (hv : v = S (103 + 28 * a.toNat)) : coQ I J S l a b c (some (vI v)) z (up (up (up I (1 + 21 + 6 * a.toNat + 1) x.toNat b) (1 + 21 + 6 * a.toNat + 2) x.toNat c) (1 + 21 + 6 * a.toNat) 2 (y + 1)) J := by
  subst hx hy hv
  rw [rfZ_l e] at h0
  have h := rf_wl h0
  have hi : (a.toNat : Int) < S 5 := by omega
  have hb := (ho.2.2.2.2 a.toNat hi).1.2.1
  have h6 : a.toNat < 4 := by have := ho.2.1; omega
  obtain ⟨n, hn⟩ : ∃ n : Nat, S (103 + 28 * a.toNat) = (n : Int) := ⟨(S (103 + 28 * a.toNat)).toNat, by omega⟩
  unfold coQ coR coS
  rw [if_neg (by omega), if_pos e, if_neg (by omega), if_pos e]
  refine ⟨rfl, ⟨fun q f hq => by rw [up_nn (by omega), up_nn (by omega), up_nn (by omega)], ?_, ?_, ?_⟩, rfl⟩
  · rw [show (S (103 + 28 * a.toNat)).toNat = n by omega]
    exact rel_add hR ho hi hn (by omega) rfl
  · rw [show (S (103 + 28 * a.toNat)).toNat = n by omega]
    exact oks_add ho hi hn (by omega) h.2.2.1 h.2.1.1 h.2.1.2
  · exact raw_add hw h6 (by omega) h.2.1.1 h.2.1.2 (by omega)
theorem co_k {I J : GI} {S : Nat → Int} {l a b c : Int} (hR : Rel 1 I S) (ho : Oks S) (hw : Raw 1 I) (h0 : rfZ S l a b c = 0) (e : l = 107) {x : Int} {z : Nat} (hx : x = S (103 + 28 * a.toNat) - 1) : coQ I J S l a b c (some (vI x)) z (up (up (up I (1 + 21 + 6 * a.toNat) 2 x) (1 + 21 + 6 * a.toNat) 1 (-2000000000)) (1 + 21 + 6 * a.toNat) 4 (-2000000000)) J := by
  rw [rfZ_k e] at h0
  have h := rf_wk h0
  have hi : (a.toNat : Int) < S 5 := by omega
  have hb := (ho.2.2.2.2 a.toNat hi).1.2.1
  have h6 : a.toNat < 4 := by have := ho.2.1; omega
  unfold coQ coR coS
  rw [if_neg (by omega), if_neg (by omega), if_pos e, if_neg (by omega), if_neg (by omega), if_pos e]
  refine ⟨by rw [hx], ⟨fun q f hq => by rw [up_nn (by omega), up_nn (by omega), up_nn (by omega)], ?_, ?_, ?_⟩, rfl⟩
  · exact rel_drop hR ho hi hx
  · exact oks_drop ho hi (by omega)
  · exact raw_drop hw h6 (by omega)
theorem co_a {I J : GI} {S : Nat → Int} {l a b c : Int} (hR : Rel 1 I S) (ho : Oks S) (hj : Jdg 1 I S) (hw : Raw 1 I) (h0 : rfZ S l a b c = 0) (e : l ≠ 116 ∧ l ≠ 108 ∧ l ≠ 107) {z : Nat} : coQ I J S l a b c (some (vI (I (1 + 21 + 6 * a.toNat) 5))) z (tkI I (1 + 21 + 6 * a.toNat)) J := by
  rw [rfZ_a e] at h0
  have h := rf_wa h0
  have hi : (a.toNat : Int) < S 5 := by omega
  have h6 : a.toNat < 4 := by have := ho.2.1; omega
  have hg := ((hj.2.2 a.toNat hi).2.2 ⟨h.2.1, Or.inl h.2.2⟩).1
  unfold coQ coR coS
  rw [if_neg e.1, if_neg e.2.1, if_neg e.2.2, if_neg e.1, if_neg e.2.1, if_neg e.2.2]
  refine ⟨by unfold tP at hg; rw [hg], ⟨fun q f hq => tk_fr (by omega) (by omega), rel_adj hR ho hi h.2.1 hg, oks_adj ho hi, raw_adj hw h6⟩, rfl⟩
theorem co_ok {I : GI} {S : Nat → Int} {l a b c : Int} (hR : Rel 1 I S) (ho : Oks S) (hj : Jdg 1 I S) (h0 : rfZ S l a b c = 0) : (l = 116 → (0 ≤ a ∧ a < S 3) ∧ 0 ≤ I (1 + 5 + 2 * a.toNat) 2 ∧ I (1 + 5 + 2 * a.toNat) 2 < 9) ∧ (l = 108 → 0 ≤ I (1 + 21 + 6 * a.toNat) 2 ∧ I (1 + 21 + 6 * a.toNat) 2 < 12) ∧ (l = 107 → 0 < I (1 + 21 + 6 * a.toNat) 2 ∧ I (1 + 21 + 6 * a.toNat) 2 ≤ 12) ∧ ((l ≠ 116 ∧ l ≠ 108 ∧ l ≠ 107) → (-648000 ≤ I (1 + 21 + 6 * a.toNat) 5 ∧ I (1 + 21 + 6 * a.toNat) 5 < 648000) ∧ 0 ≤ I (1 + 21 + 6 * a.toNat) 4 ∧ I (1 + 21 + 6 * a.toNat) 4 ≤ 1295999) := by
  refine ⟨fun e => ?_, fun e => ?_, fun e => ?_, fun e => ?_⟩
  · rw [rfZ_t e] at h0
    have h := rf_wt h0
    have hi : (a.toNat : Int) < S 3 := by omega
    have hb := (ho.2.2.1 a.toNat hi).1.2.2
    have hq := (rel_w hR hi).1.2.2
    unfold wP at hq
    rw [hq]
    omega
  · rw [rfZ_l e] at h0
    have h := rf_wl h0
    have hi : (a.toNat : Int) < S 5 := by omega
    have hb := (ho.2.2.2.2 a.toNat hi).1.2.1
    have hq := (rel_tr hR hi).1.2
    unfold tP at hq
    rw [hq]
    omega
  · rw [rfZ_k e] at h0
    have h := rf_wk h0
    have hi : (a.toNat : Int) < S 5 := by omega
    have hb := (ho.2.2.2.2 a.toNat hi).1.2.1
    have hq := (rel_tr hR hi).1.2
    unfold tP at hq
    rw [hq]
    omega
  · rw [rfZ_a e] at h0
    have h := rf_wa h0
    have hi : (a.toNat : Int) < S 5 := by omega
    have hg := ((hj.2.2 a.toNat hi).2.2 ⟨h.2.1, Or.inl h.2.2⟩).1
    have hq := ((rel_tr hR hi).2.1.1 h.2.1).2
    have hc := ((ho.2.2.2.2 a.toNat hi).2.1 h.2.1).1
    unfold tP at hq hg
    rw [hq, hg]
    exact ⟨centZ_b _, hc⟩
set_option maxHeartbeats 4000000 in
set_option maxRecDepth 100000 in
theorem c_X7_carryOut {l : Launch} (hl0 : l.stackTraces = false) (G : GG) (I J : GI) {z : Nat} {S : Nat → Int} (hR : Rel 1 I S) (ho : Oks S) (hj : Jdg 1 I S) (hw : Raw 1 I) (x b d q : Int) (hx : inI x) (hb : inI b) (hd : inI d) (hq : inI q) (h0 : rfZ S x b d q = 0) : GM l yX7_carryOut (.code yX7_carryOut cX7_carryOut 6 (some .int)) 3 70 0 0 G N0 SH RR [vR 0, vI x, vI b, vI d, vI q] z I J (coQ I J S x b d q) gNo := by
  refine gm_of (lo0 := [some (vR 0), some (vI x), some (vI b), some (vI d), some (vI q), none]) hl0 (by decide) rfl (Nat.le_of_ble_eq_true rfl) ?_
  intro p e s m args below meth c C ht hgi
  have C : gC G p l s m args meth c cX7_carryOut 6 RX7 (some .int) "carryOut" := C
  have hcnt := hR.2.1
  have hobd := ho.2.1
  have hok := co_ok hR ho hj h0
  refine gw_iload_n C 1 dX7_carryOut_0 rfl rfl ?_
  refine gw_bipush C dX7_carryOut_1 rfl ?_
  refine gw_icmp_ne C (tgt := 33) dX7_carryOut_3 (by decide) hx ⟨by decide, by decide⟩ (fun h_3 => ?_) (fun h_3 => ?_)
  · skip
    refine gw_aload_n C 0 dX7_carryOut_33 rfl rfl ?_
    refine gw_getRs (ci := 6) (Cn := RX7) (T0 := TX7) (N := 3) C 1 0 kX7_10 fX7 rfl (by decide) rfl rfl dX7_carryOut_34 xs_0 xn_0 xr_0_0 ?_
    refine gw_iload_n C 2 dX7_carryOut_37 rfl rfl ?_
    refine gw_callV C (as := [vI b]) (st := []) (ci := 2) (T0 := TX2) (N := 7) (c_X2_traverseAt hl0 G I J mineQ_live (by have := ho.2.1; have := hR.2.1; omega) b hb) dX7_carryOut_38 kX7_141 qX2_traverseAt hdX2_traverseAt ⟨Nat.le_of_ble_eq_true rfl, Nat.le_of_ble_eq_true rfl⟩ ⟨Nat.le_of_ble_eq_true rfl, Nat.le_of_ble_eq_true rfl⟩ (Nat.le_of_ble_eq_true rfl) rfl (mq_s mineQ_live) (mq_n mineQ_live) rfl (fun _ _ _ _ h => h.elim) ?_
    intro v_38 zq_38 I_38 J_38 hq_38_2
    obtain ⟨⟨hq_38_2, rfl⟩ | ⟨hq_38_2, rfl⟩, eI_38, eJ_38⟩ := hq_38_2
    all_goals rw [eI_38, eJ_38]
    · skip
      show GW G p l e ({ frames := 3, cells := 0, slots := 0, locals := 70 } : Room) s m args below meth c 6 zq_38 N0 SH RR I J 0 0 (vx_MQ below (GQ G N0 SH RR (coQ I J S x b d q)) (GX G N0 SH RR gNo) args s 0 0 (ge G)) 41 [some (vR 0), some (vI x), some (vI b), some (vI d), some (vI q), none] [vR (1 + 21 + 6 * (b).toNat)]
      refine gw_astore C (lo1 := [some (vR 0), some (vI x), some (vI b), some (vI d), some (vI q), some (vR (1 + 21 + 6 * (b).toNat))]) dX7_carryOut_41 (by decide) rfl ?_
      refine gw_aload C dX7_carryOut_43 rfl ?_
      refine gw_ifnonnull C (tgt := 51) dX7_carryOut_45 (by decide) ?_
      refine gw_iload_n C 1 dX7_carryOut_51 rfl rfl ?_
      refine gw_bipush C dX7_carryOut_52 rfl ?_
      refine gw_icmp_ne C (tgt := 66) dX7_carryOut_54 (by decide) hx ⟨by decide, by decide⟩ (fun h_54 => ?_) (fun h_54 => ?_)
      · skip
        refine gw_iload_n C 1 dX7_carryOut_66 rfl rfl ?_
        refine gw_bipush C dX7_carryOut_67 rfl ?_
        refine gw_icmp_ne C (tgt := 80) dX7_carryOut_69 (by decide) hx ⟨by decide, by decide⟩ (fun h_69 => ?_) (fun h_69 => ?_)
        · skip
          refine gw_aload C dX7_carryOut_80 rfl ?_
          refine gw_callVm C (as := []) (st := []) (ci := 4) (T0 := TX5) (N := 15) (c_X5_takeGapAway hl0 G I J (mq_tq mineQ_live (b).toNat (by omega))   (hw.2 b.toNat (by have := hR.2.1; have := ho.2.1; omega)) (hok.2.2.2 (by omega)).1 (hok.2.2.2 (by omega)).2) dX7_carryOut_82 kX7_310 qX5_takeGapAway hdX5_takeGapAway ⟨Nat.le_of_ble_eq_true rfl, Nat.le_of_ble_eq_true rfl⟩ ⟨Nat.le_of_ble_eq_true rfl, Nat.le_of_ble_eq_true rfl⟩ (Nat.le_of_ble_eq_true rfl) rfl (tq_s (mq_tq mineQ_live (b).toNat (by omega))) (tq_n (mq_tq mineQ_live (b).toNat (by omega))) rfl (fun z_82 => ?_)
          exact gw_iret C (Nat.le_of_ble_eq_true rfl) (Nat.le_of_ble_eq_true rfl) dX7_carryOut_85 (co_a hR ho hj hw h0 (by omega))
        · skip
          refine gw_aload C dX7_carryOut_72 rfl ?_
          refine gw_callVm C (as := []) (st := []) (ci := 4) (T0 := TX5) (N := 15) (c_X5_shorten hl0 G I J (mq_tq mineQ_live (b).toNat (by omega))   (hok.2.2.1 (by omega))) dX7_carryOut_74 kX7_307 qX5_shorten hdX5_shorten ⟨Nat.le_of_ble_eq_true rfl, Nat.le_of_ble_eq_true rfl⟩ ⟨Nat.le_of_ble_eq_true rfl, Nat.le_of_ble_eq_true rfl⟩ (Nat.le_of_ble_eq_true rfl) rfl (tq_s (mq_tq mineQ_live (b).toNat (by omega))) (tq_n (mq_tq mineQ_live (b).toNat (by omega))) rfl (fun z_74 => ?_)
          refine gw_goto C (tgt := 85) dX7_carryOut_77 (by decide) ?_
          exact gw_iret C (Nat.le_of_ble_eq_true rfl) (Nat.le_of_ble_eq_true rfl) dX7_carryOut_85 (co_k hR ho hw h0 (by omega) (by have hq9 := (rel_tr hR (t := b.toNat) (by have := hR.2.1; omega)).1.2; unfold tP at hq9; rw [hq9]))
      · skip
        refine gw_aload C dX7_carryOut_57 rfl ?_
        refine gw_iload_n C 3 dX7_carryOut_59 rfl rfl ?_
        refine gw_iload C dX7_carryOut_60 rfl ?_
        refine gw_callVm C (as := [vI d, vI q]) (st := []) (ci := 4) (T0 := TX5) (N := 15) (c_X5_append hl0 G I J (mq_tq mineQ_live (b).toNat (by omega)) d q hd hq (hok.2.1 (by omega))) dX7_carryOut_62 kX7_305 qX5_append hdX5_append ⟨Nat.le_of_ble_eq_true rfl, Nat.le_of_ble_eq_true rfl⟩ ⟨Nat.le_of_ble_eq_true rfl, Nat.le_of_ble_eq_true rfl⟩ (Nat.le_of_ble_eq_true rfl) rfl (tq_s (mq_tq mineQ_live (b).toNat (by omega))) (tq_n (mq_tq mineQ_live (b).toNat (by omega))) rfl (fun z_62 => ?_)
        exact gw_iret C (Nat.le_of_ble_eq_true rfl) (Nat.le_of_ble_eq_true rfl) dX7_carryOut_65 (co_l hR ho hw h0 (by omega) (by have hq9 := (rel_tr hR (t := b.toNat) (by have := hR.2.1; omega)).1.2; unfold tP at hq9; exact hq9) (by have hq9 := (rel_tr hR (t := b.toNat) (by have := hR.2.1; omega)).1.2; unfold tP at hq9; exact hq9) (by have hq9 := (rel_tr hR (t := b.toNat) (by have := hR.2.1; omega)).1.2; unfold tP at hq9; exact hq9))
    · exact absurd True.intro (by have := rf_5 h0 (by omega); have := hR.2.1; omega)
  · skip
    refine gw_aload_n C 0 dX7_carryOut_6 rfl rfl ?_
    refine gw_getRs (ci := 6) (Cn := RX7) (T0 := TX7) (N := 3) C 1 0 kX7_10 fX7 rfl (by decide) rfl rfl dX7_carryOut_7 xs_0 xn_0 xr_0_0 ?_
    refine gw_iload_n C 2 dX7_carryOut_10 rfl rfl ?_
    refine gw_callV C (as := [vI b]) (st := []) (ci := 2) (T0 := TX2) (N := 7) (c_X2_wireAt hl0 G I J mineQ_live (by have := ho.2.1; have := hR.2.1; omega) b hb) dX7_carryOut_11 kX7_82 qX2_wireAt hdX2_wireAt ⟨Nat.le_of_ble_eq_true rfl, Nat.le_of_ble_eq_true rfl⟩ ⟨Nat.le_of_ble_eq_true rfl, Nat.le_of_ble_eq_true rfl⟩ (Nat.le_of_ble_eq_true rfl) rfl (mq_s mineQ_live) (mq_n mineQ_live) rfl (fun _ _ _ _ h => h.elim) ?_
    intro v_11 zq_11 I_11 J_11 hq_11_2
    obtain ⟨⟨hq_11_2, rfl⟩ | ⟨hq_11_2, rfl⟩, eI_11, eJ_11⟩ := hq_11_2
    all_goals rw [eI_11, eJ_11]
    · skip
      show GW G p l e ({ frames := 3, cells := 0, slots := 0, locals := 70 } : Room) s m args below meth c 6 zq_11 N0 SH RR I J 0 0 (vx_MQ below (GQ G N0 SH RR (coQ I J S x b d q)) (GX G N0 SH RR gNo) args s 0 0 (ge G)) 14 [some (vR 0), some (vI x), some (vI b), some (vI d), some (vI q), none] [vR (1 + 5 + 2 * (b).toNat)]
      refine gw_astore C (lo1 := [some (vR 0), some (vI x), some (vI b), some (vI d), some (vI q), some (vR (1 + 5 + 2 * (b).toNat))]) dX7_carryOut_14 (by decide) rfl ?_
      refine gw_aload C dX7_carryOut_16 rfl ?_
      refine gw_ifnonnull C (tgt := 26) dX7_carryOut_18 (by decide) ?_
      refine gw_aload C dX7_carryOut_26 rfl ?_
      refine gw_iload_n C 3 dX7_carryOut_28 rfl rfl ?_
      refine gw_callVm C (as := [vI d]) (st := []) (ci := 5) (T0 := TX6) (N := 7) (c_X6_addTurn hl0 G I J (mq_wq mineQ_live (b).toNat (by omega)) d hd (hok.1 (by omega)).2) dX7_carryOut_29 kX7_302 qX6_addTurn hdX6_addTurn ⟨Nat.le_of_ble_eq_true rfl, Nat.le_of_ble_eq_true rfl⟩ ⟨Nat.le_of_ble_eq_true rfl, Nat.le_of_ble_eq_true rfl⟩ (Nat.le_of_ble_eq_true rfl) rfl (wq_s (mq_wq mineQ_live (b).toNat (by omega))) (wq_n (mq_wq mineQ_live (b).toNat (by omega))) rfl (fun z_29 => ?_)
      exact gw_iret C (Nat.le_of_ble_eq_true rfl) (Nat.le_of_ble_eq_true rfl) dX7_carryOut_32 (co_t hR ho hw h0 (by omega) (by have hq9 := (rel_w hR (i := b.toNat) (by have := hR.2.1; omega)).1.2.2; unfold wP at hq9; exact hq9) (by have hq9 := (rel_w hR (i := b.toNat) (by have := hR.2.1; omega)).1.2.2; unfold wP at hq9; exact hq9))
    · exact absurd True.intro (by have := (hok.1 (by omega)).1; have := hR.2.1; omega)
