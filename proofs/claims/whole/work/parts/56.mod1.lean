set_option maxHeartbeats 4000000 in
set_option maxRecDepth 100000 in
theorem c_X8_isWire {l : Launch} (hl0 : l.stackTraces = false) (G : GG) (I J : GI) {z : Nat} (ho : Oks (I 232)) (w : Int) (hw : inI w) : GM l yX8_isWire (.code yX8_isWire cX8_isWire 2 (some .boolean)) 0 0 0 0 G N0 SH RR [vR 231, vI w] z I J (boolQ (0 ≤ w ∧ w < I 232 3) I J) gNo := by
  refine gm_of (lo0 := [some (vR 231), some (vI w)]) hl0 (by decide) rfl (Nat.le_of_ble_eq_true rfl) ?_
  intro p e s m args below meth c C ht hgi
  have C : gC G p l s m args meth c cX8_isWire 2 RX8 (some .boolean) "isWire" := C
  have h3 := ho.2.1
  have h0 := ho.1
  refine gw_iload_n C 1 dX8_isWire_0 rfl rfl ?_
  refine gw_if_lt C (tgt := 18) dX8_isWire_1 (by decide) (by first | omega | exact hgi _ _) (fun h_1 => ?_) (fun h_1 => ?_)
  · skip
    refine gw_iconst C dX8_isWire_18 ?_
    exact gw_zret C (Nat.le_of_ble_eq_true rfl) (Nat.le_of_ble_eq_true rfl) dX8_isWire_19 (Or.inl rfl) (⟨Or.inr ⟨(by omega), rfl⟩, rfl, rfl⟩)
  · skip
    refine gw_iload_n C 1 dX8_isWire_4 rfl rfl ?_
    refine gw_aload_n C 0 dX8_isWire_5 rfl rfl ?_
    refine gw_getRs (ci := 7) (Cn := RX8) (T0 := TX8) (N := 10) C 232 0 kX8_7 fX8 rfl (by decide) rfl rfl dX8_isWire_6 xs_231 xn_231 xr_231_0 ?_
    refine gw_iconst C dX8_isWire_9 ?_
    refine gw_iald C 3 dX8_isWire_10 xs_232 xn_232 (by omega) (by omega) (by decide) (fun hI_10 => ?_)
    refine gw_icmp_ge C (tgt := 18) dX8_isWire_11 (by decide) (by first | omega | exact hgi _ _) hI_10 (fun h_11 => ?_) (fun h_11 => ?_)
    · skip
      refine gw_iconst C dX8_isWire_18 ?_
      exact gw_zret C (Nat.le_of_ble_eq_true rfl) (Nat.le_of_ble_eq_true rfl) dX8_isWire_19 (Or.inl rfl) (⟨Or.inr ⟨(by omega), rfl⟩, rfl, rfl⟩)
    · skip
      refine gw_iconst C dX8_isWire_14 ?_
      refine gw_goto C (tgt := 19) dX8_isWire_15 (by decide) ?_
      exact gw_zret C (Nat.le_of_ble_eq_true rfl) (Nat.le_of_ble_eq_true rfl) dX8_isWire_19 (Or.inr rfl) (⟨Or.inl ⟨(by omega), rfl⟩, rfl, rfl⟩)
set_option maxHeartbeats 4000000 in
set_option maxRecDepth 100000 in
theorem c_X8_isJoin {l : Launch} (hl0 : l.stackTraces = false) (G : GG) (I J : GI) {z : Nat} (ho : Oks (I 232)) (w : Int) (hw : inI w) : GM l yX8_isJoin (.code yX8_isJoin cX8_isJoin 2 (some .boolean)) 0 0 0 0 G N0 SH RR [vR 231, vI w] z I J (boolQ (0 ≤ w ∧ w < I 232 4) I J) gNo := by
  refine gm_of (lo0 := [some (vR 231), some (vI w)]) hl0 (by decide) rfl (Nat.le_of_ble_eq_true rfl) ?_
  intro p e s m args below meth c C ht hgi
  have C : gC G p l s m args meth c cX8_isJoin 2 RX8 (some .boolean) "isJoin" := C
  have h3 := ho.2.1
  have h0 := ho.1
  refine gw_iload_n C 1 dX8_isJoin_0 rfl rfl ?_
  refine gw_if_lt C (tgt := 18) dX8_isJoin_1 (by decide) (by first | omega | exact hgi _ _) (fun h_1 => ?_) (fun h_1 => ?_)
  · skip
    refine gw_iconst C dX8_isJoin_18 ?_
    exact gw_zret C (Nat.le_of_ble_eq_true rfl) (Nat.le_of_ble_eq_true rfl) dX8_isJoin_19 (Or.inl rfl) (⟨Or.inr ⟨(by omega), rfl⟩, rfl, rfl⟩)
  · skip
    refine gw_iload_n C 1 dX8_isJoin_4 rfl rfl ?_
    refine gw_aload_n C 0 dX8_isJoin_5 rfl rfl ?_
    refine gw_getRs (ci := 7) (Cn := RX8) (T0 := TX8) (N := 10) C 232 0 kX8_7 fX8 rfl (by decide) rfl rfl dX8_isJoin_6 xs_231 xn_231 xr_231_0 ?_
    refine gw_iconst C dX8_isJoin_9 ?_
    refine gw_iald C 4 dX8_isJoin_10 xs_232 xn_232 (by omega) (by omega) (by decide) (fun hI_10 => ?_)
    refine gw_icmp_ge C (tgt := 18) dX8_isJoin_11 (by decide) (by first | omega | exact hgi _ _) hI_10 (fun h_11 => ?_) (fun h_11 => ?_)
    · skip
      refine gw_iconst C dX8_isJoin_18 ?_
      exact gw_zret C (Nat.le_of_ble_eq_true rfl) (Nat.le_of_ble_eq_true rfl) dX8_isJoin_19 (Or.inl rfl) (⟨Or.inr ⟨(by omega), rfl⟩, rfl, rfl⟩)
    · skip
      refine gw_iconst C dX8_isJoin_14 ?_
      refine gw_goto C (tgt := 19) dX8_isJoin_15 (by decide) ?_
      exact gw_zret C (Nat.le_of_ble_eq_true rfl) (Nat.le_of_ble_eq_true rfl) dX8_isJoin_19 (Or.inr rfl) (⟨Or.inl ⟨(by omega), rfl⟩, rfl, rfl⟩)
set_option maxHeartbeats 4000000 in
set_option maxRecDepth 100000 in
theorem c_X8_isTraverse {l : Launch} (hl0 : l.stackTraces = false) (G : GG) (I J : GI) {z : Nat} (ho : Oks (I 232)) (w : Int) (hw : inI w) : GM l yX8_isTraverse (.code yX8_isTraverse cX8_isTraverse 2 (some .boolean)) 0 0 0 0 G N0 SH RR [vR 231, vI w] z I J (boolQ (0 ≤ w ∧ w < I 232 5) I J) gNo := by
  refine gm_of (lo0 := [some (vR 231), some (vI w)]) hl0 (by decide) rfl (Nat.le_of_ble_eq_true rfl) ?_
  intro p e s m args below meth c C ht hgi
  have C : gC G p l s m args meth c cX8_isTraverse 2 RX8 (some .boolean) "isTraverse" := C
  have h3 := ho.2.1
  have h0 := ho.1
  refine gw_iload_n C 1 dX8_isTraverse_0 rfl rfl ?_
  refine gw_if_lt C (tgt := 18) dX8_isTraverse_1 (by decide) (by first | omega | exact hgi _ _) (fun h_1 => ?_) (fun h_1 => ?_)
  · skip
    refine gw_iconst C dX8_isTraverse_18 ?_
    exact gw_zret C (Nat.le_of_ble_eq_true rfl) (Nat.le_of_ble_eq_true rfl) dX8_isTraverse_19 (Or.inl rfl) (⟨Or.inr ⟨(by omega), rfl⟩, rfl, rfl⟩)
  · skip
    refine gw_iload_n C 1 dX8_isTraverse_4 rfl rfl ?_
    refine gw_aload_n C 0 dX8_isTraverse_5 rfl rfl ?_
    refine gw_getRs (ci := 7) (Cn := RX8) (T0 := TX8) (N := 10) C 232 0 kX8_7 fX8 rfl (by decide) rfl rfl dX8_isTraverse_6 xs_231 xn_231 xr_231_0 ?_
    refine gw_iconst C dX8_isTraverse_9 ?_
    refine gw_iald C 5 dX8_isTraverse_10 xs_232 xn_232 (by omega) (by omega) (by decide) (fun hI_10 => ?_)
    refine gw_icmp_ge C (tgt := 18) dX8_isTraverse_11 (by decide) (by first | omega | exact hgi _ _) hI_10 (fun h_11 => ?_) (fun h_11 => ?_)
    · skip
      refine gw_iconst C dX8_isTraverse_18 ?_
      exact gw_zret C (Nat.le_of_ble_eq_true rfl) (Nat.le_of_ble_eq_true rfl) dX8_isTraverse_19 (Or.inl rfl) (⟨Or.inr ⟨(by omega), rfl⟩, rfl, rfl⟩)
    · skip
      refine gw_iconst C dX8_isTraverse_14 ?_
      refine gw_goto C (tgt := 19) dX8_isTraverse_15 (by decide) ?_
      exact gw_zret C (Nat.le_of_ble_eq_true rfl) (Nat.le_of_ble_eq_true rfl) dX8_isTraverse_19 (Or.inr rfl) (⟨Or.inl ⟨(by omega), rfl⟩, rfl, rfl⟩)
set_option maxHeartbeats 4000000 in
set_option maxRecDepth 100000 in
theorem c_X8_ofWire {l : Launch} (hl0 : l.stackTraces = false) (G : GG) (I J : GI) {z : Nat} (ho : Oks (I 232)) (w a : Int) (hq : (0 ≤ w ∧ w ≤ 5) ∧ 0 ≤ a ∧ a ≤ 11) : GM l yX8_ofWire (.code yX8_ofWire cX8_ofWire 3 (some .int)) 0 0 0 0 G N0 SH RR [vR 231, vI w, vI a] z I J (memQ (some (vI (I 232 (6 + 12 * w.toNat + a.toNat)))) I J) gNo := by
  refine gm_of (lo0 := [some (vR 231), some (vI w), some (vI a)]) hl0 (by decide) rfl (Nat.le_of_ble_eq_true rfl) ?_
  intro p e s m args below meth c C ht hgi
  have C : gC G p l s m args meth c cX8_ofWire 3 RX8 (some .int) "ofWire" := C
  have h3 := ho.2.1
  have h0 := ho.1
  refine gw_aload_n C 0 dX8_ofWire_0 rfl rfl ?_
  refine gw_getRs (ci := 7) (Cn := RX8) (T0 := TX8) (N := 10) C 232 0 kX8_7 fX8 rfl (by decide) rfl rfl dX8_ofWire_1 xs_231 xn_231 xr_231_0 ?_
  refine gw_bipush C dX8_ofWire_4 rfl ?_
  refine gw_bipush C dX8_ofWire_6 rfl ?_
  refine gw_iload_n C 1 dX8_ofWire_8 rfl rfl ?_
  refine gw_imul C dX8_ofWire_9 ?_
  refine gw_iadd C dX8_ofWire_10 ?_
  refine gw_iload_n C 2 dX8_ofWire_11 rfl rfl ?_
  refine gw_iadd C dX8_ofWire_12 ?_
  refine gw_iald C (6 + 12 * w.toNat + a.toNat) dX8_ofWire_13 xs_232 xn_232 (by omega) (by omega) (by decide) (fun hI_13 => ?_)
  exact gw_iret C (Nat.le_of_ble_eq_true rfl) (Nat.le_of_ble_eq_true rfl) dX8_ofWire_14 (⟨congrArg (fun q => some (vI q)) (by rfl), rfl, rfl⟩)
set_option maxHeartbeats 4000000 in
set_option maxRecDepth 100000 in
theorem c_X8_ofJoin {l : Launch} (hl0 : l.stackTraces = false) (G : GG) (I J : GI) {z : Nat} (ho : Oks (I 232)) (w a : Int) (hq : (0 ≤ w ∧ w ≤ 3) ∧ 0 ≤ a ∧ a ≤ 5) : GM l yX8_ofJoin (.code yX8_ofJoin cX8_ofJoin 3 (some .int)) 0 0 0 0 G N0 SH RR [vR 231, vI w, vI a] z I J (memQ (some (vI (I 232 (78 + 6 * w.toNat + a.toNat)))) I J) gNo := by
  refine gm_of (lo0 := [some (vR 231), some (vI w), some (vI a)]) hl0 (by decide) rfl (Nat.le_of_ble_eq_true rfl) ?_
  intro p e s m args below meth c C ht hgi
  have C : gC G p l s m args meth c cX8_ofJoin 3 RX8 (some .int) "ofJoin" := C
  have h3 := ho.2.1
  have h0 := ho.1
  refine gw_aload_n C 0 dX8_ofJoin_0 rfl rfl ?_
  refine gw_getRs (ci := 7) (Cn := RX8) (T0 := TX8) (N := 10) C 232 0 kX8_7 fX8 rfl (by decide) rfl rfl dX8_ofJoin_1 xs_231 xn_231 xr_231_0 ?_
  refine gw_bipush C dX8_ofJoin_4 rfl ?_
  refine gw_bipush C dX8_ofJoin_6 rfl ?_
  refine gw_iload_n C 1 dX8_ofJoin_8 rfl rfl ?_
  refine gw_imul C dX8_ofJoin_9 ?_
  refine gw_iadd C dX8_ofJoin_10 ?_
  refine gw_iload_n C 2 dX8_ofJoin_11 rfl rfl ?_
  refine gw_iadd C dX8_ofJoin_12 ?_
  refine gw_iald C (78 + 6 * w.toNat + a.toNat) dX8_ofJoin_13 xs_232 xn_232 (by omega) (by omega) (by decide) (fun hI_13 => ?_)
  exact gw_iret C (Nat.le_of_ble_eq_true rfl) (Nat.le_of_ble_eq_true rfl) dX8_ofJoin_14 (⟨congrArg (fun q => some (vI q)) (by rfl), rfl, rfl⟩)
set_option maxHeartbeats 4000000 in
set_option maxRecDepth 100000 in
theorem c_X8_of {l : Launch} (hl0 : l.stackTraces = false) (G : GG) (I J : GI) {z : Nat} (ho : Oks (I 232)) (w a : Int) (hq : (0 ≤ w ∧ w ≤ 3) ∧ 0 ≤ a ∧ a ≤ 27) : GM l yX8_of (.code yX8_of cX8_of 3 (some .int)) 0 0 0 0 G N0 SH RR [vR 231, vI w, vI a] z I J (memQ (some (vI (I 232 (102 + 28 * w.toNat + a.toNat)))) I J) gNo := by
  refine gm_of (lo0 := [some (vR 231), some (vI w), some (vI a)]) hl0 (by decide) rfl (Nat.le_of_ble_eq_true rfl) ?_
  intro p e s m args below meth c C ht hgi
  have C : gC G p l s m args meth c cX8_of 3 RX8 (some .int) "of" := C
  have h3 := ho.2.1
  have h0 := ho.1
  refine gw_aload_n C 0 dX8_of_0 rfl rfl ?_
  refine gw_getRs (ci := 7) (Cn := RX8) (T0 := TX8) (N := 10) C 232 0 kX8_7 fX8 rfl (by decide) rfl rfl dX8_of_1 xs_231 xn_231 xr_231_0 ?_
  refine gw_bipush C dX8_of_4 rfl ?_
  refine gw_bipush C dX8_of_6 rfl ?_
  refine gw_iload_n C 1 dX8_of_8 rfl rfl ?_
  refine gw_imul C dX8_of_9 ?_
  refine gw_iadd C dX8_of_10 ?_
  refine gw_iload_n C 2 dX8_of_11 rfl rfl ?_
  refine gw_iadd C dX8_of_12 ?_
  refine gw_iald C (102 + 28 * w.toNat + a.toNat) dX8_of_13 xs_232 xn_232 (by omega) (by omega) (by decide) (fun hI_13 => ?_)
  exact gw_iret C (Nat.le_of_ble_eq_true rfl) (Nat.le_of_ble_eq_true rfl) dX8_of_14 (⟨congrArg (fun q => some (vI q)) (by rfl), rfl, rfl⟩)
set_option maxHeartbeats 4000000 in
set_option maxRecDepth 100000 in
theorem c_X8_legs {l : Launch} (hl0 : l.stackTraces = false) (G : GG) (I J : GI) {z : Nat} (ho : Oks (I 232)) (w : Int) (hq : 0 ≤ w ∧ w ≤ 3) : GM l yX8_legs (.code yX8_legs cX8_legs 2 (some .int)) 1 22 0 0 G N0 SH RR [vR 231, vI w] z I J (memQ (some (vI (I 232 (103 + 28 * w.toNat)))) I J) gNo := by
  refine gm_of (lo0 := [some (vR 231), some (vI w)]) hl0 (by decide) rfl (Nat.le_of_ble_eq_true rfl) ?_
  intro p e s m args below meth c C ht hgi
  have C : gC G p l s m args meth c cX8_legs 2 RX8 (some .int) "legs" := C
  have h3 := ho.2.1
  have h0 := ho.1
  refine gw_aload_n C 0 dX8_legs_0 rfl rfl ?_
  refine gw_iload_n C 1 dX8_legs_1 rfl rfl ?_
  refine gw_iconst C dX8_legs_2 ?_
  refine gw_callVm C (as := [vI w, vI 1]) (st := []) (ci := 7) (T0 := TX8) (N := 10) (c_X8_of hl0 G I J ho w 1 (by omega)) dX8_legs_3 kX8_33 qX8_of hdX8_of ⟨Nat.le_of_ble_eq_true rfl, Nat.le_of_ble_eq_true rfl⟩ ⟨Nat.le_of_ble_eq_true rfl, Nat.le_of_ble_eq_true rfl⟩ (Nat.le_of_ble_eq_true rfl) rfl xs_231 xn_231 rfl (fun z_3 => ?_)
  rw [show (1 : Int).toNat = 1 from rfl]
  rw [show I 232 (102 + 28 * ((w).toNat) + 1) = (I 232 (103 + 28 * ((w).toNat))) from by first | rfl | (congr 1 <;> omega) | (congr 1; congr 1 <;> omega)]
  exact gw_iret C (Nat.le_of_ble_eq_true rfl) (Nat.le_of_ble_eq_true rfl) dX8_legs_6 (⟨congrArg (fun q => some (vI q)) (by rfl), rfl, rfl⟩)
set_option maxHeartbeats 4000000 in
set_option maxRecDepth 100000 in
theorem c_X8_isClosed {l : Launch} (hl0 : l.stackTraces = false) (G : GG) (I J : GI) {z : Nat} (ho : Oks (I 232)) (w : Int) (hq : 0 ≤ w ∧ w ≤ 3) : GM l yX8_isClosed (.code yX8_isClosed cX8_isClosed 2 (some .boolean)) 1 22 0 0 G N0 SH RR [vR 231, vI w] z I J (boolQ (0 ≤ I 232 (104 + 28 * w.toNat)) I J) gNo := by
  refine gm_of (lo0 := [some (vR 231), some (vI w)]) hl0 (by decide) rfl (Nat.le_of_ble_eq_true rfl) ?_
  intro p e s m args below meth c C ht hgi
  have C : gC G p l s m args meth c cX8_isClosed 2 RX8 (some .boolean) "isClosed" := C
  have h3 := ho.2.1
  have h0 := ho.1
  refine gw_aload_n C 0 dX8_isClosed_0 rfl rfl ?_
  refine gw_iload_n C 1 dX8_isClosed_1 rfl rfl ?_
  refine gw_iconst C dX8_isClosed_2 ?_
  refine gw_callVm C (as := [vI w, vI 2]) (st := []) (ci := 7) (T0 := TX8) (N := 10) (c_X8_of hl0 G I J ho w 2 (by omega)) dX8_isClosed_3 kX8_33 qX8_of hdX8_of ⟨Nat.le_of_ble_eq_true rfl, Nat.le_of_ble_eq_true rfl⟩ ⟨Nat.le_of_ble_eq_true rfl, Nat.le_of_ble_eq_true rfl⟩ (Nat.le_of_ble_eq_true rfl) rfl xs_231 xn_231 rfl (fun z_3 => ?_)
  rw [show (2 : Int).toNat = 2 from rfl]
  rw [show I 232 (102 + 28 * ((w).toNat) + 2) = (I 232 (104 + 28 * ((w).toNat))) from by first | rfl | (congr 1 <;> omega) | (congr 1; congr 1 <;> omega)]
  refine gw_if_lt C (tgt := 13) dX8_isClosed_6 (by decide) (by first | omega | exact hgi _ _) (fun h_6 => ?_) (fun h_6 => ?_)
  · skip
    refine gw_iconst C dX8_isClosed_13 ?_
    exact gw_zret C (Nat.le_of_ble_eq_true rfl) (Nat.le_of_ble_eq_true rfl) dX8_isClosed_14 (Or.inl rfl) (⟨Or.inr ⟨(by omega), rfl⟩, rfl, rfl⟩)
  · skip
    refine gw_iconst C dX8_isClosed_9 ?_
    refine gw_goto C (tgt := 14) dX8_isClosed_10 (by decide) ?_
    exact gw_zret C (Nat.le_of_ble_eq_true rfl) (Nat.le_of_ble_eq_true rfl) dX8_isClosed_14 (Or.inr rfl) (⟨Or.inl ⟨(by omega), rfl⟩, rfl, rfl⟩)
set_option maxHeartbeats 4000000 in
set_option maxRecDepth 100000 in
theorem c_X8_angle {l : Launch} (hl0 : l.stackTraces = false) (G : GG) (I J : GI) {z : Nat} (ho : Oks (I 232)) (w a : Int) (hq : (0 ≤ w ∧ w ≤ 3) ∧ 0 ≤ a ∧ a ≤ 11) : GM l yX8_angle (.code yX8_angle cX8_angle 3 (some .int)) 1 22 0 0 G N0 SH RR [vR 231, vI w, vI a] z I J (memQ (some (vI (I 232 (106 + 28 * w.toNat + 2 * a.toNat)))) I J) gNo := by
  refine gm_of (lo0 := [some (vR 231), some (vI w), some (vI a)]) hl0 (by decide) rfl (Nat.le_of_ble_eq_true rfl) ?_
  intro p e s m args below meth c C ht hgi
  have C : gC G p l s m args meth c cX8_angle 3 RX8 (some .int) "angle" := C
  have h3 := ho.2.1
  have h0 := ho.1
  refine gw_aload_n C 0 dX8_angle_0 rfl rfl ?_
  refine gw_iload_n C 1 dX8_angle_1 rfl rfl ?_
  refine gw_iconst C dX8_angle_2 ?_
  refine gw_iconst C dX8_angle_3 ?_
  refine gw_iload_n C 2 dX8_angle_4 rfl rfl ?_
  refine gw_imul C dX8_angle_5 ?_
  refine gw_iadd C dX8_angle_6 ?_
  refine gw_callVm C (as := [vI w, vI (4 + (2 * a))]) (st := []) (ci := 7) (T0 := TX8) (N := 10) (c_X8_of hl0 G I J ho w (4 + (2 * a)) (by omega)) dX8_angle_7 kX8_33 qX8_of hdX8_of ⟨Nat.le_of_ble_eq_true rfl, Nat.le_of_ble_eq_true rfl⟩ ⟨Nat.le_of_ble_eq_true rfl, Nat.le_of_ble_eq_true rfl⟩ (Nat.le_of_ble_eq_true rfl) rfl xs_231 xn_231 rfl (fun z_7 => ?_)
  exact gw_iret C (Nat.le_of_ble_eq_true rfl) (Nat.le_of_ble_eq_true rfl) dX8_angle_10 (⟨congrArg (fun q => some (vI q)) (by congr 1; omega), rfl, rfl⟩)
set_option maxHeartbeats 4000000 in
set_option maxRecDepth 100000 in
theorem c_X8_length {l : Launch} (hl0 : l.stackTraces = false) (G : GG) (I J : GI) {z : Nat} (ho : Oks (I 232)) (w a : Int) (hq : (0 ≤ w ∧ w ≤ 3) ∧ 0 ≤ a ∧ a ≤ 11) : GM l yX8_length (.code yX8_length cX8_length 3 (some .int)) 1 22 0 0 G N0 SH RR [vR 231, vI w, vI a] z I J (memQ (some (vI (I 232 (107 + 28 * w.toNat + 2 * a.toNat)))) I J) gNo := by
  refine gm_of (lo0 := [some (vR 231), some (vI w), some (vI a)]) hl0 (by decide) rfl (Nat.le_of_ble_eq_true rfl) ?_
  intro p e s m args below meth c C ht hgi
  have C : gC G p l s m args meth c cX8_length 3 RX8 (some .int) "length" := C
  have h3 := ho.2.1
  have h0 := ho.1
  refine gw_aload_n C 0 dX8_length_0 rfl rfl ?_
  refine gw_iload_n C 1 dX8_length_1 rfl rfl ?_
  refine gw_iconst C dX8_length_2 ?_
  refine gw_iconst C dX8_length_3 ?_
  refine gw_iload_n C 2 dX8_length_4 rfl rfl ?_
  refine gw_imul C dX8_length_5 ?_
  refine gw_iadd C dX8_length_6 ?_
  refine gw_callVm C (as := [vI w, vI (5 + (2 * a))]) (st := []) (ci := 7) (T0 := TX8) (N := 10) (c_X8_of hl0 G I J ho w (5 + (2 * a)) (by omega)) dX8_length_7 kX8_33 qX8_of hdX8_of ⟨Nat.le_of_ble_eq_true rfl, Nat.le_of_ble_eq_true rfl⟩ ⟨Nat.le_of_ble_eq_true rfl, Nat.le_of_ble_eq_true rfl⟩ (Nat.le_of_ble_eq_true rfl) rfl xs_231 xn_231 rfl (fun z_7 => ?_)
  exact gw_iret C (Nat.le_of_ble_eq_true rfl) (Nat.le_of_ble_eq_true rfl) dX8_length_10 (⟨congrArg (fun q => some (vI q)) (by congr 1; omega), rfl, rfl⟩)
theorem okW {S : Nat → Int} (ho : Oks S) {i : Nat} (h : (i : Int) < S 3) : (0 ≤ S (8 + 12 * i) ∧ S (8 + 12 * i) ≤ 9) ∧ ∀ k : Nat, (k : Int) < S (8 + 12 * i) → 0 ≤ S (9 + 12 * i + k) ∧ S (9 + 12 * i + k) ≤ 999 := ⟨(ho.2.2.1 i h).1.2.2, (ho.2.2.1 i h).2⟩
def rsF (n : Nat) (t : Nat → Int) : Nat → Int
  | 0 => 0
  | k + 1 => rsF n t k + t k * (if k = 0 ∨ k + 1 = n then 1 else 2)
theorem rsF_s {n k : Nat} {t : Nat → Int} : rsF n t (k + 1) = rsF n t k + t k * (if k = 0 ∨ k + 1 = n then 1 else 2) := rfl
theorem rsF_1 {n k : Nat} {t : Nat → Int} (h : k = 0 ∨ k + 1 = n) : rsF n t (k + 1) = rsF n t k + t k * 1 := by rw [rsF_s, if_pos h]
theorem rsF_2 {n k : Nat} {t : Nat → Int} (h : ¬ (k = 0 ∨ k + 1 = n)) : rsF n t (k + 1) = rsF n t k + t k * 2 := by rw [rsF_s, if_neg h]
theorem rsF_b {n m : Nat} {t : Nat → Int} (ht : ∀ k, k < m → 0 ≤ t k ∧ t k ≤ 999) : ∀ k : Nat, k ≤ m → 0 ≤ rsF n t k ∧ rsF n t k ≤ 1998 * (k : Int) := by
  intro k
  induction k with
  | zero => intro _; rw [rsF]; omega
  | succ k ih =>
    intro hk
    have a := ih (by omega)
    have b := ht k (by omega)
    by_cases h : k = 0 ∨ k + 1 = n
    · rw [rsF_1 h]; omega
    · rw [rsF_2 h]; omega
theorem rsF_m {n : Nat} {t : Nat → Int} : ∀ k : Nat, k + 1 < n → rsF n t (k + 1) = 2 * smF (k + 1) t - t 0 := by
  intro k
  induction k with
  | zero => intro h; rw [rsF_1 (Or.inl rfl), rsF, smF_s, smF]; omega
  | succ k ih =>
    intro h
    rw [rsF_2 (by omega), ih (by omega), smF_s (n := k + 1)]; omega
theorem rsF_n {n : Nat} {t : Nat → Int} (h : 3 ≤ n) : rsF n t n = t 0 + t (n - 1) + 2 * (smF (n - 1) t - t 0) := by
  have a := rsF_m (n := n) (t := t) (n - 2) (by omega)
  have b := rsF_1 (n := n) (k := n - 1) (t := t) (by omega)
  rw [show n - 1 + 1 = n by omega] at b
  rw [show n - 2 + 1 = n - 1 by omega] at a
  rw [b, a]
  omega
set_option maxHeartbeats 4000000 in
set_option maxRecDepth 100000 in
theorem c_X8_driftOf {l : Launch} (hl0 : l.stackTraces = false) (G : GG) (I J : GI) {z : Nat} (ho : Oks (I 232)) (w : Int) (hq : 0 ≤ w ∧ w < I 232 3) : GM l yX8_driftOf (.code yX8_driftOf cX8_driftOf 5 (some .int)) 1 22 0 0 G N0 SH RR [vR 231, vI w] z I J (memQ (some (vI (sD (I 232) w.toNat))) I J) gNo := by
  refine gm_of (lo0 := [some (vR 231), some (vI w), none, none, none]) hl0 (by decide) rfl (Nat.le_of_ble_eq_true rfl) ?_
  intro p e s m args below meth c C ht hgi
  have C : gC G p l s m args meth c cX8_driftOf 5 RX8 (some .int) "driftOf" := C
  have h3 := ho.2.1
  have h0 := ho.1
  obtain ⟨n, hnn⟩ : ∃ n : Nat, I 232 (8 + 12 * w.toNat) = (n : Int) := ⟨(I 232 (8 + 12 * w.toNat)).toNat, by have := (okW ho (i := w.toNat) (by omega)).1; omega⟩
  have hob := okW ho (i := w.toNat) (by omega)
  have hn1 : (I 232 (8 + 12 * w.toNat)).toNat = n := by omega
  have htu : ∀ k, k < n → 0 ≤ sTu (I 232) w.toNat k ∧ sTu (I 232) w.toNat k ≤ 999 := fun k hk => hob.2 k (by omega)
  refine gw_iconst C dX8_driftOf_0 ?_
  refine gw_istore_n C (lo1 := [some (vR 231), some (vI w), some (vI 0), none, none]) 2 dX8_driftOf_1 rfl (by decide) rfl ?_
  refine gw_iconst C dX8_driftOf_2 ?_
  refine gw_istore_n C (lo1 := [some (vR 231), some (vI w), some (vI 0), some (vI 2), none]) 3 dX8_driftOf_3 rfl (by decide) rfl ?_
  have loop_4 : ∀ (fuel : Nat) (g : Int) (k : Nat) (z1 : Nat), (2 ≤ k ∧ (k ≤ n ∨ k = 2)) → (g = drF k (sTu (I 232) w.toNat)) → (0 ≤ g ∧ g ≤ 999) → n + 3 - k < fuel → GW G p l e ({ frames := 1, cells := 0, slots := 0, locals := 22 } : Room) s m args below meth c 5 z1 N0 SH RR I J 0 0 (vx_MQ below (GQ G N0 SH RR (memQ (some (vI (sD (I 232) w.toNat))) I J)) (GX G N0 SH RR gNo) args s 0 0 (ge G)) 4 [some (vR 231), some (vI w), some (vI g), some (vI (k : Int)), none] [] := by
    intro fuel
    induction fuel with
    | zero => intro g k z1 hk hg hgb hf_4; exact absurd hf_4 (Nat.not_lt_zero _)
    | succ fuel ih_4 =>
      intro g k z1 hk hg hgb hf_4
      refine gw_iload_n C 3 dX8_driftOf_4 rfl rfl ?_
      refine gw_aload_n C 0 dX8_driftOf_5 rfl rfl ?_
      refine gw_iload_n C 1 dX8_driftOf_6 rfl rfl ?_
      refine gw_iconst C dX8_driftOf_7 ?_
      refine gw_callVm C (as := [vI w, vI 2]) (st := [vI (k : Int)]) (ci := 7) (T0 := TX8) (N := 10) (c_X8_ofWire hl0 G I J ho w 2 (by omega)) dX8_driftOf_8 kX8_81 qX8_ofWire hdX8_ofWire ⟨Nat.le_of_ble_eq_true rfl, Nat.le_of_ble_eq_true rfl⟩ ⟨Nat.le_of_ble_eq_true rfl, Nat.le_of_ble_eq_true rfl⟩ (Nat.le_of_ble_eq_true rfl) rfl xs_231 xn_231 rfl (fun z_8 => ?_)
      rw [show (2 : Int).toNat = 2 from rfl]
      rw [show I 232 (6 + 12 * ((w).toNat) + 2) = (I 232 (8 + 12 * ((w).toNat))) from by first | rfl | (congr 1 <;> omega) | (congr 1; congr 1 <;> omega)]
      refine gw_icmp_ge C (tgt := 55) dX8_driftOf_11 (by decide) (by first | omega | exact hgi _ _) (by first | omega | exact hgi _ _) (fun h_11 => ?_) (fun h_11 => ?_)
      · skip
        refine gw_iload_n C 2 dX8_driftOf_55 rfl rfl ?_
        exact gw_iret C (Nat.le_of_ble_eq_true rfl) (Nat.le_of_ble_eq_true rfl) dX8_driftOf_56 (⟨congrArg (fun q => some (vI q)) (by unfold sD; rw [hn1, hg]; rcases (show k = n ∨ (n ≤ 2 ∧ k = 2) by omega) with e | e; rw [e]; rw [drF_lo (by omega), drF_lo (by omega)]), rfl, rfl⟩)
      · skip
        refine gw_aload_n C 0 dX8_driftOf_14 rfl rfl ?_
        refine gw_iload_n C 1 dX8_driftOf_15 rfl rfl ?_
        refine gw_iconst C dX8_driftOf_16 ?_
        refine gw_iload_n C 3 dX8_driftOf_17 rfl rfl ?_
        refine gw_iadd C dX8_driftOf_18 ?_
        refine gw_callVm C (as := [vI w, vI (3 + (k : Int))]) (st := []) (ci := 7) (T0 := TX8) (N := 10) (c_X8_ofWire hl0 G I J ho w (3 + (k : Int)) (by omega)) dX8_driftOf_19 kX8_81 qX8_ofWire hdX8_ofWire ⟨Nat.le_of_ble_eq_true rfl, Nat.le_of_ble_eq_true rfl⟩ ⟨Nat.le_of_ble_eq_true rfl, Nat.le_of_ble_eq_true rfl⟩ (Nat.le_of_ble_eq_true rfl) rfl xs_231 xn_231 rfl (fun z_19 => ?_)
        rw [show (3 + (k : Int)).toNat = (3 + k) from by omega]
        rw [show I 232 (6 + 12 * ((w).toNat) + (3 + k)) = (I 232 (9 + 12 * ((w).toNat) + k)) from by first | rfl | (congr 1 <;> omega) | (congr 1; congr 1 <;> omega)]
        rw [show (I 232 (9 + 12 * ((w).toNat) + k)) = sTu (I 232) w.toNat k from rfl]
        have hx1 := htu k (by omega)
        refine gw_aload_n C 0 dX8_driftOf_22 rfl rfl ?_
        refine gw_iload_n C 1 dX8_driftOf_23 rfl rfl ?_
        refine gw_iconst C dX8_driftOf_24 ?_
        refine gw_iload_n C 3 dX8_driftOf_25 rfl rfl ?_
        refine gw_iadd C dX8_driftOf_26 ?_
        refine gw_callVm C (as := [vI w, vI (1 + (k : Int))]) (st := [vI (sTu (I 232) w.toNat k)]) (ci := 7) (T0 := TX8) (N := 10) (c_X8_ofWire hl0 G I J ho w (1 + (k : Int)) (by omega)) dX8_driftOf_27 kX8_81 qX8_ofWire hdX8_ofWire ⟨Nat.le_of_ble_eq_true rfl, Nat.le_of_ble_eq_true rfl⟩ ⟨Nat.le_of_ble_eq_true rfl, Nat.le_of_ble_eq_true rfl⟩ (Nat.le_of_ble_eq_true rfl) rfl xs_231 xn_231 rfl (fun z_27 => ?_)
        rw [show (1 + (k : Int)).toNat = (1 + k) from by omega]
        rw [show I 232 (6 + 12 * ((w).toNat) + (1 + k)) = (I 232 (9 + 12 * ((w).toNat) + (k - 2))) from by first | rfl | (congr 1 <;> omega) | (congr 1; congr 1 <;> omega)]
        rw [show (I 232 (9 + 12 * ((w).toNat) + (k - 2))) = sTu (I 232) w.toNat (k - 2) from rfl]
        have hx2 := htu (k - 2) (by omega)
        have e1 := drF_s (n := k) (t := sTu (I 232) w.toNat) hk.1
        refine gw_isub C dX8_driftOf_30 ?_
        refine gw_callSm C (as := [vI ((sTu (I 232) w.toNat k) - (sTu (I 232) w.toNat (k - 2)))]) (st := []) (c_X8_size hl0 G ((sTu (I 232) w.toNat k) - (sTu (I 232) w.toNat (k - 2))) (by omega)) dX8_driftOf_31 kX8_99 qX8_size hdX8_size ⟨Nat.le_of_ble_eq_true rfl, Nat.le_of_ble_eq_true rfl⟩ ⟨Nat.le_of_ble_eq_true rfl, Nat.le_of_ble_eq_true rfl⟩ (Nat.le_of_ble_eq_true rfl) rfl (fun z_31 => ?_)
        refine gw_istore C (lo1 := [some (vR 231), some (vI w), some (vI g), some (vI (k : Int)), some (vI (((sTu (I 232) w.toNat k) - (sTu (I 232) w.toNat (k - 2))).natAbs : Int))]) dX8_driftOf_34 (by decide) rfl ?_
        refine gw_iload C dX8_driftOf_36 rfl ?_
        refine gw_iload_n C 2 dX8_driftOf_38 rfl rfl ?_
        refine gw_icmp_le C (tgt := 47) dX8_driftOf_39 (by decide) (by first | omega | exact hgi _ _) (by first | omega | exact hgi _ _) (fun h_39 => ?_) (fun h_39 => ?_)
        · skip
          refine gw_iload_n C 2 dX8_driftOf_47 rfl rfl ?_
          refine gw_istore_n C (lo1 := [some (vR 231), some (vI w), some (vI g), some (vI (k : Int)), some (vI (((sTu (I 232) w.toNat k) - (sTu (I 232) w.toNat (k - 2))).natAbs : Int))]) 2 dX8_driftOf_48 rfl (by decide) rfl ?_
          refine gw_iinc C (lo1 := [some (vR 231), some (vI w), some (vI g), some (vI ((k : Int) + 1)), some (vI (((sTu (I 232) w.toNat k) - (sTu (I 232) w.toNat (k - 2))).natAbs : Int))]) dX8_driftOf_49 rfl (by decide) rfl ?_
          refine gw_goto C (tgt := 4) dX8_driftOf_52 (by decide) ?_
          exact gw_weak (lo' := [some (vR 231), some (vI w), some (vI g), some (vI (((k + 1) : Nat) : Int)), none]) ⟨rfl, rfl, rfl, congrArg (fun q => some (vI q)) (by omega), trivial⟩ (ih_4 g (k + 1) z_31 (by omega) (by rw [e1, ← hg]; first | rw [if_pos (by omega)] | rw [if_neg (by omega)]) (by omega) (by omega))
        · skip
          refine gw_iload C dX8_driftOf_42 rfl ?_
          refine gw_goto C (tgt := 48) dX8_driftOf_44 (by decide) ?_
          refine gw_istore_n C (lo1 := [some (vR 231), some (vI w), some (vI (((sTu (I 232) w.toNat k) - (sTu (I 232) w.toNat (k - 2))).natAbs : Int)), some (vI (k : Int)), some (vI (((sTu (I 232) w.toNat k) - (sTu (I 232) w.toNat (k - 2))).natAbs : Int))]) 2 dX8_driftOf_48 rfl (by decide) rfl ?_
          refine gw_iinc C (lo1 := [some (vR 231), some (vI w), some (vI (((sTu (I 232) w.toNat k) - (sTu (I 232) w.toNat (k - 2))).natAbs : Int)), some (vI ((k : Int) + 1)), some (vI (((sTu (I 232) w.toNat k) - (sTu (I 232) w.toNat (k - 2))).natAbs : Int))]) dX8_driftOf_49 rfl (by decide) rfl ?_
          refine gw_goto C (tgt := 4) dX8_driftOf_52 (by decide) ?_
          exact gw_weak (lo' := [some (vR 231), some (vI w), some (vI (((sTu (I 232) w.toNat k) - (sTu (I 232) w.toNat (k - 2))).natAbs : Int)), some (vI (((k + 1) : Nat) : Int)), none]) ⟨rfl, rfl, rfl, congrArg (fun q => some (vI q)) (by omega), trivial⟩ (ih_4 (((sTu (I 232) w.toNat k) - (sTu (I 232) w.toNat (k - 2))).natAbs : Int) (k + 1) z_31 (by omega) (by rw [e1, ← hg]; first | rw [if_pos (by omega)] | rw [if_neg (by omega)]) (by omega) (by omega))
  exact gw_weak (lo' := [some (vR 231), some (vI w), some (vI 0), some (vI (2 : Int)), none]) ⟨rfl, rfl, rfl, congrArg (fun q => some (vI q)) (by omega), trivial⟩ (loop_4 _ 0 2 z (by omega) (by rw [drF_lo (by omega)]) (by omega) (Nat.lt_succ_self _))
set_option maxHeartbeats 4000000 in
set_option maxRecDepth 100000 in
theorem c_X8_troubleOfWire {l : Launch} (hl0 : l.stackTraces = false) (G : GG) (I J : GI) {z : Nat} (ho : Oks (I 232)) (w : Int) (hq : 0 ≤ w ∧ w < I 232 3) : GM l yX8_troubleOfWire (.code yX8_troubleOfWire cX8_troubleOfWire 2 (some .int)) 2 46 0 0 G N0 SH RR [vR 231, vI w] z I J (memQ (some (vI (sT (I 232) w.toNat))) I J) gNo := by
  refine gm_of (lo0 := [some (vR 231), some (vI w)]) hl0 (by decide) rfl (Nat.le_of_ble_eq_true rfl) ?_
  intro p e s m args below meth c C ht hgi
  have C : gC G p l s m args meth c cX8_troubleOfWire 2 RX8 (some .int) "troubleOfWire" := C
  have h3 := ho.2.1
  have h0 := ho.1
  obtain ⟨n, hnn⟩ : ∃ n : Nat, I 232 (8 + 12 * w.toNat) = (n : Int) := ⟨(I 232 (8 + 12 * w.toNat)).toNat, by have := (okW ho (i := w.toNat) (by omega)).1; omega⟩
  have hob := okW ho (i := w.toNat) (by omega)
  have hn1 : (I 232 (8 + 12 * w.toNat)).toNat = n := by omega
  have htu : ∀ k, k < n → 0 ≤ sTu (I 232) w.toNat k ∧ sTu (I 232) w.toNat k ≤ 999 := fun k hk => hob.2 k (by omega)
  refine gw_aload_n C 0 dX8_troubleOfWire_0 rfl rfl ?_
  refine gw_iload_n C 1 dX8_troubleOfWire_1 rfl rfl ?_
  refine gw_iconst C dX8_troubleOfWire_2 ?_
  refine gw_callVm C (as := [vI w, vI 2]) (st := []) (ci := 7) (T0 := TX8) (N := 10) (c_X8_ofWire hl0 G I J ho w 2 (by omega)) dX8_troubleOfWire_3 kX8_81 qX8_ofWire hdX8_ofWire ⟨Nat.le_of_ble_eq_true rfl, Nat.le_of_ble_eq_true rfl⟩ ⟨Nat.le_of_ble_eq_true rfl, Nat.le_of_ble_eq_true rfl⟩ (Nat.le_of_ble_eq_true rfl) rfl xs_231 xn_231 rfl (fun z_3 => ?_)
  rw [show (2 : Int).toNat = 2 from rfl]
  rw [show I 232 (6 + 12 * ((w).toNat) + 2) = (I 232 (8 + 12 * ((w).toNat))) from by first | rfl | (congr 1 <;> omega) | (congr 1; congr 1 <;> omega)]
  refine gw_iconst C dX8_troubleOfWire_6 ?_
  refine gw_icmp_ge C (tgt := 14) dX8_troubleOfWire_7 (by decide) (by first | omega | exact hgi _ _) ⟨by decide, by decide⟩ (fun h_7 => ?_) (fun h_7 => ?_)
  · skip
    refine gw_aload_n C 0 dX8_troubleOfWire_14 rfl rfl ?_
    refine gw_iload_n C 1 dX8_troubleOfWire_15 rfl rfl ?_
    refine gw_callVm C (as := [vI w]) (st := []) (ci := 7) (T0 := TX8) (N := 10) (c_X8_driftOf hl0 G I J ho w (by omega)) dX8_troubleOfWire_16 kX8_102 qX8_driftOf hdX8_driftOf ⟨Nat.le_of_ble_eq_true rfl, Nat.le_of_ble_eq_true rfl⟩ ⟨Nat.le_of_ble_eq_true rfl, Nat.le_of_ble_eq_true rfl⟩ (Nat.le_of_ble_eq_true rfl) rfl xs_231 xn_231 rfl (fun z_16 => ?_)
    have hr_16 := sD_b ho (i := ((w).toNat)) (by omega)
    refine gw_aload_n C 0 dX8_troubleOfWire_19 rfl rfl ?_
    refine gw_getRs (ci := 7) (Cn := RX8) (T0 := TX8) (N := 10) C 232 0 kX8_7 fX8 rfl (by decide) rfl rfl dX8_troubleOfWire_20 xs_231 xn_231 xr_231_0 ?_
    refine gw_iconst C dX8_troubleOfWire_23 ?_
    refine gw_iald C 0 dX8_troubleOfWire_24 xs_232 xn_232 (by omega) (by omega) (by decide) (fun hI_24 => ?_)
    refine gw_icmp_le C (tgt := 32) dX8_troubleOfWire_25 (by decide) (by first | omega | exact hgi _ _) hI_24 (fun h_25 => ?_) (fun h_25 => ?_)
    · skip
      refine gw_iconst C dX8_troubleOfWire_32 ?_
      exact gw_iret C (Nat.le_of_ble_eq_true rfl) (Nat.le_of_ble_eq_true rfl) dX8_troubleOfWire_33 (⟨congrArg (fun q => some (vI q)) (by unfold sT wtF; rw [hn1, show drF n (sTu (I 232) w.toNat) = sD (I 232) w.toNat from by unfold sD; rw [hn1]]; first | rw [if_pos (by omega)] | (rw [if_neg (by omega)]; first | rw [if_pos (by omega)] | rw [if_neg (by omega)])), rfl, rfl⟩)
    · skip
      refine gw_iconst C dX8_troubleOfWire_28 ?_
      refine gw_goto C (tgt := 33) dX8_troubleOfWire_29 (by decide) ?_
      exact gw_iret C (Nat.le_of_ble_eq_true rfl) (Nat.le_of_ble_eq_true rfl) dX8_troubleOfWire_33 (⟨congrArg (fun q => some (vI q)) (by unfold sT wtF; rw [hn1, show drF n (sTu (I 232) w.toNat) = sD (I 232) w.toNat from by unfold sD; rw [hn1]]; first | rw [if_pos (by omega)] | (rw [if_neg (by omega)]; first | rw [if_pos (by omega)] | rw [if_neg (by omega)])), rfl, rfl⟩)
  · skip
    refine gw_iconst C dX8_troubleOfWire_10 ?_
    refine gw_goto C (tgt := 33) dX8_troubleOfWire_11 (by decide) ?_
    exact gw_iret C (Nat.le_of_ble_eq_true rfl) (Nat.le_of_ble_eq_true rfl) dX8_troubleOfWire_33 (⟨congrArg (fun q => some (vI q)) (by unfold sT wtF; rw [hn1, show drF n (sTu (I 232) w.toNat) = sD (I 232) w.toNat from by unfold sD; rw [hn1]]; first | rw [if_pos (by omega)] | (rw [if_neg (by omega)]; first | rw [if_pos (by omega)] | rw [if_neg (by omega)])), rfl, rfl⟩)
set_option maxHeartbeats 4000000 in
set_option maxRecDepth 100000 in
theorem c_X8_restOf {l : Launch} (hl0 : l.stackTraces = false) (G : GG) (I J : GI) {z : Nat} (ho : Oks (I 232)) (w : Int) (hq : 0 ≤ w ∧ w < I 232 3) : GM l yX8_restOf (.code yX8_restOf cX8_restOf 5 (some .int)) 1 22 0 0 G N0 SH RR [vR 231, vI w] z I J (memQ (some (vI (sR (I 232) w.toNat))) I J) gNo := by
  refine gm_of (lo0 := [some (vR 231), some (vI w), none, none, none]) hl0 (by decide) rfl (Nat.le_of_ble_eq_true rfl) ?_
  intro p e s m args below meth c C ht hgi
  have C : gC G p l s m args meth c cX8_restOf 5 RX8 (some .int) "restOf" := C
  have h3 := ho.2.1
  have h0 := ho.1
  obtain ⟨n, hnn⟩ : ∃ n : Nat, I 232 (8 + 12 * w.toNat) = (n : Int) := ⟨(I 232 (8 + 12 * w.toNat)).toNat, by have := (okW ho (i := w.toNat) (by omega)).1; omega⟩
  have hob := okW ho (i := w.toNat) (by omega)
  have hn1 : (I 232 (8 + 12 * w.toNat)).toNat = n := by omega
  have htu : ∀ k, k < n → 0 ≤ sTu (I 232) w.toNat k ∧ sTu (I 232) w.toNat k ≤ 999 := fun k hk => hob.2 k (by omega)
  refine gw_aload_n C 0 dX8_restOf_0 rfl rfl ?_
  refine gw_iload_n C 1 dX8_restOf_1 rfl rfl ?_
  refine gw_iconst C dX8_restOf_2 ?_
  refine gw_callVm C (as := [vI w, vI 2]) (st := []) (ci := 7) (T0 := TX8) (N := 10) (c_X8_ofWire hl0 G I J ho w 2 (by omega)) dX8_restOf_3 kX8_81 qX8_ofWire hdX8_ofWire ⟨Nat.le_of_ble_eq_true rfl, Nat.le_of_ble_eq_true rfl⟩ ⟨Nat.le_of_ble_eq_true rfl, Nat.le_of_ble_eq_true rfl⟩ (Nat.le_of_ble_eq_true rfl) rfl xs_231 xn_231 rfl (fun z_3 => ?_)
  rw [show (2 : Int).toNat = 2 from rfl]
  rw [show I 232 (6 + 12 * ((w).toNat) + 2) = (I 232 (8 + 12 * ((w).toNat))) from by first | rfl | (congr 1 <;> omega) | (congr 1; congr 1 <;> omega)]
  refine gw_istore_n C (lo1 := [some (vR 231), some (vI w), some (vI (I 232 (8 + 12 * ((w).toNat)))), none, none]) 2 dX8_restOf_6 rfl (by decide) rfl ?_
  refine gw_iconst C dX8_restOf_7 ?_
  refine gw_istore_n C (lo1 := [some (vR 231), some (vI w), some (vI (I 232 (8 + 12 * ((w).toNat)))), some (vI 0), none]) 3 dX8_restOf_8 rfl (by decide) rfl ?_
  refine gw_iconst C dX8_restOf_9 ?_
  refine gw_istore C (lo1 := [some (vR 231), some (vI w), some (vI (I 232 (8 + 12 * ((w).toNat)))), some (vI 0), some (vI 0)]) dX8_restOf_10 (by decide) rfl ?_
  have loop_12 : ∀ (fuel : Nat) (u : Int) (k : Nat) (z1 : Nat), (k ≤ n) → (u = rsF n (sTu (I 232) w.toNat) k) → n - k < fuel → GW G p l e ({ frames := 1, cells := 0, slots := 0, locals := 22 } : Room) s m args below meth c 5 z1 N0 SH RR I J 0 0 (vx_MQ below (GQ G N0 SH RR (memQ (some (vI (sR (I 232) w.toNat))) I J)) (GX G N0 SH RR gNo) args s 0 0 (ge G)) 12 [some (vR 231), some (vI w), some (vI (I 232 (8 + 12 * ((w).toNat)))), some (vI u), some (vI (k : Int))] [] := by
    intro fuel
    induction fuel with
    | zero => intro u k z1 hk hu hf_12; exact absurd hf_12 (Nat.not_lt_zero _)
    | succ fuel ih_12 =>
      intro u k z1 hk hu hf_12
      have hub := rsF_b (n := n) htu k hk
      rw [← hu] at hub
      refine gw_iload C dX8_restOf_12 rfl ?_
      refine gw_iload_n C 2 dX8_restOf_14 rfl rfl ?_
      refine gw_icmp_ge C (tgt := 55) dX8_restOf_15 (by decide) (by first | omega | exact hgi _ _) (by first | omega | exact hgi _ _) (fun h_15 => ?_) (fun h_15 => ?_)
      · skip
        refine gw_iload_n C 2 dX8_restOf_55 rfl rfl ?_
        refine gw_iconst C dX8_restOf_56 ?_
        refine gw_icmp_ge C (tgt := 65) dX8_restOf_57 (by decide) (by first | omega | exact hgi _ _) ⟨by decide, by decide⟩ (fun h_57 => ?_) (fun h_57 => ?_)
        · skip
          refine gw_iload_n C 3 dX8_restOf_65 rfl rfl ?_
          refine gw_iconst C dX8_restOf_66 ?_
          refine gw_iload_n C 2 dX8_restOf_67 rfl rfl ?_
          refine gw_iconst C dX8_restOf_68 ?_
          refine gw_isub C dX8_restOf_69 ?_
          refine gw_imul C dX8_restOf_70 ?_
          refine gw_idiv C dX8_restOf_71 (by first | omega | exact hgi _ _) (by first | omega | exact hgi _ _) (by omega) ?_
          exact gw_iret C (Nat.le_of_ble_eq_true rfl) (Nat.le_of_ble_eq_true rfl) dX8_restOf_72 (⟨congrArg (fun q => some (vI q)) (by unfold sR restF; rw [hn1]; first | rw [if_pos (by omega)] | (rw [if_neg (by omega), ← rsF_n (by omega), hu, hnn, show k = n by omega])), rfl, rfl⟩)
        · skip
          refine gw_ldc C (x := (-2000000000)) dX8_restOf_60 kX8_105 (by decide) ?_
          refine gw_goto C (tgt := 72) dX8_restOf_62 (by decide) ?_
          exact gw_iret C (Nat.le_of_ble_eq_true rfl) (Nat.le_of_ble_eq_true rfl) dX8_restOf_72 (⟨congrArg (fun q => some (vI q)) (by unfold sR restF; rw [hn1]; first | rw [if_pos (by omega)] | (rw [if_neg (by omega), ← rsF_n (by omega), hu, hnn, show k = n by omega])), rfl, rfl⟩)
      · skip
        refine gw_iload_n C 3 dX8_restOf_18 rfl rfl ?_
        refine gw_aload_n C 0 dX8_restOf_19 rfl rfl ?_
        refine gw_iload_n C 1 dX8_restOf_20 rfl rfl ?_
        refine gw_iconst C dX8_restOf_21 ?_
        refine gw_iload C dX8_restOf_22 rfl ?_
        refine gw_iadd C dX8_restOf_24 ?_
        refine gw_callVm C (as := [vI w, vI (3 + (k : Int))]) (st := [vI u]) (ci := 7) (T0 := TX8) (N := 10) (c_X8_ofWire hl0 G I J ho w (3 + (k : Int)) (by omega)) dX8_restOf_25 kX8_81 qX8_ofWire hdX8_ofWire ⟨Nat.le_of_ble_eq_true rfl, Nat.le_of_ble_eq_true rfl⟩ ⟨Nat.le_of_ble_eq_true rfl, Nat.le_of_ble_eq_true rfl⟩ (Nat.le_of_ble_eq_true rfl) rfl xs_231 xn_231 rfl (fun z_25 => ?_)
        rw [show (3 + (k : Int)).toNat = (3 + k) from by omega]
        rw [show I 232 (6 + 12 * ((w).toNat) + (3 + k)) = (I 232 (9 + 12 * ((w).toNat) + k)) from by first | rfl | (congr 1 <;> omega) | (congr 1; congr 1 <;> omega)]
        rw [show (I 232 (9 + 12 * ((w).toNat) + k)) = sTu (I 232) w.toNat k from rfl]
        have hx1 := htu k (by omega)
        refine gw_iload C dX8_restOf_28 rfl ?_
        refine gw_if_eq C (tgt := 41) dX8_restOf_30 (by decide) (by first | omega | exact hgi _ _) (fun h_30 => ?_) (fun h_30 => ?_)
        · skip
          refine gw_iconst C dX8_restOf_41 ?_
          refine gw_goto C (tgt := 46) dX8_restOf_42 (by decide) ?_
          refine gw_imul C dX8_restOf_46 ?_
          refine gw_iadd C dX8_restOf_47 ?_
          refine gw_istore_n C (lo1 := [some (vR 231), some (vI w), some (vI (I 232 (8 + 12 * ((w).toNat)))), some (vI (u + ((sTu (I 232) w.toNat k) * 1))), some (vI (k : Int))]) 3 dX8_restOf_48 rfl (by decide) rfl ?_
          refine gw_iinc C (lo1 := [some (vR 231), some (vI w), some (vI (I 232 (8 + 12 * ((w).toNat)))), some (vI (u + ((sTu (I 232) w.toNat k) * 1))), some (vI ((k : Int) + 1))]) dX8_restOf_49 rfl (by decide) rfl ?_
          refine gw_goto C (tgt := 12) dX8_restOf_52 (by decide) ?_
          exact gw_weak (lo' := [some (vR 231), some (vI w), some (vI (I 232 (8 + 12 * ((w).toNat)))), some (vI (u + ((sTu (I 232) w.toNat k) * 1))), some (vI (((k + 1) : Nat) : Int))]) ⟨rfl, rfl, rfl, rfl, congrArg (fun q => some (vI q)) (by omega), trivial⟩ (ih_12 (u + ((sTu (I 232) w.toNat k) * 1)) (k + 1) z_25 (by omega) (by first | rw [rsF_1 (by omega), ← hu] | rw [rsF_2 (by omega), ← hu]) (by omega))
        · skip
          refine gw_iload C dX8_restOf_33 rfl ?_
          refine gw_iload_n C 2 dX8_restOf_35 rfl rfl ?_
          refine gw_iconst C dX8_restOf_36 ?_
          refine gw_isub C dX8_restOf_37 ?_
          refine gw_icmp_ne C (tgt := 45) dX8_restOf_38 (by decide) (by first | omega | exact hgi _ _) (by first | omega | exact hgi _ _) (fun h_38 => ?_) (fun h_38 => ?_)
          · skip
            refine gw_iconst C dX8_restOf_45 ?_
            refine gw_imul C dX8_restOf_46 ?_
            refine gw_iadd C dX8_restOf_47 ?_
            refine gw_istore_n C (lo1 := [some (vR 231), some (vI w), some (vI (I 232 (8 + 12 * ((w).toNat)))), some (vI (u + ((sTu (I 232) w.toNat k) * 2))), some (vI (k : Int))]) 3 dX8_restOf_48 rfl (by decide) rfl ?_
            refine gw_iinc C (lo1 := [some (vR 231), some (vI w), some (vI (I 232 (8 + 12 * ((w).toNat)))), some (vI (u + ((sTu (I 232) w.toNat k) * 2))), some (vI ((k : Int) + 1))]) dX8_restOf_49 rfl (by decide) rfl ?_
            refine gw_goto C (tgt := 12) dX8_restOf_52 (by decide) ?_
            exact gw_weak (lo' := [some (vR 231), some (vI w), some (vI (I 232 (8 + 12 * ((w).toNat)))), some (vI (u + ((sTu (I 232) w.toNat k) * 2))), some (vI (((k + 1) : Nat) : Int))]) ⟨rfl, rfl, rfl, rfl, congrArg (fun q => some (vI q)) (by omega), trivial⟩ (ih_12 (u + ((sTu (I 232) w.toNat k) * 2)) (k + 1) z_25 (by omega) (by first | rw [rsF_1 (by omega), ← hu] | rw [rsF_2 (by omega), ← hu]) (by omega))
          · skip
            refine gw_iconst C dX8_restOf_41 ?_
            refine gw_goto C (tgt := 46) dX8_restOf_42 (by decide) ?_
            refine gw_imul C dX8_restOf_46 ?_
            refine gw_iadd C dX8_restOf_47 ?_
            refine gw_istore_n C (lo1 := [some (vR 231), some (vI w), some (vI (I 232 (8 + 12 * ((w).toNat)))), some (vI (u + ((sTu (I 232) w.toNat k) * 1))), some (vI (k : Int))]) 3 dX8_restOf_48 rfl (by decide) rfl ?_
            refine gw_iinc C (lo1 := [some (vR 231), some (vI w), some (vI (I 232 (8 + 12 * ((w).toNat)))), some (vI (u + ((sTu (I 232) w.toNat k) * 1))), some (vI ((k : Int) + 1))]) dX8_restOf_49 rfl (by decide) rfl ?_
            refine gw_goto C (tgt := 12) dX8_restOf_52 (by decide) ?_
            exact gw_weak (lo' := [some (vR 231), some (vI w), some (vI (I 232 (8 + 12 * ((w).toNat)))), some (vI (u + ((sTu (I 232) w.toNat k) * 1))), some (vI (((k + 1) : Nat) : Int))]) ⟨rfl, rfl, rfl, rfl, congrArg (fun q => some (vI q)) (by omega), trivial⟩ (ih_12 (u + ((sTu (I 232) w.toNat k) * 1)) (k + 1) z_25 (by omega) (by first | rw [rsF_1 (by omega), ← hu] | rw [rsF_2 (by omega), ← hu]) (by omega))
  exact gw_weak (lo' := [some (vR 231), some (vI w), some (vI (I 232 (8 + 12 * ((w).toNat)))), some (vI 0), some (vI (0 : Int))]) ⟨rfl, rfl, rfl, rfl, congrArg (fun q => some (vI q)) (by omega), trivial⟩ (loop_12 _ 0 0 z_3 (by omega) (by rfl) (Nat.lt_succ_self _))
theorem wof_v {S : Nat → Int} {w : Nat} {a : Int} (h : 0 ≤ a ∧ a ≤ 2) : S (6 + 12 * w + a.toNat) = rWire S w a := by
  rcases (show a = 0 ∨ a = 1 ∨ a = 2 by omega) with e | e | e <;> (unfold rWire; (repeat (first | rw [if_pos (by omega)] | rw [if_neg (by omega)])); first | done | (congr 1; omega))
theorem jof_v {S : Nat → Int} {w : Nat} {a : Int} (h : 0 ≤ a ∧ a ≤ 5) : S (78 + 6 * w + a.toNat) = rJoinOf S w a := by
  rcases (show a = 0 ∨ a = 1 ∨ a = 2 ∨ a = 3 ∨ a = 4 ∨ a = 5 by omega) with e | e | e | e | e | e <;> (unfold rJoinOf; (repeat (first | rw [if_pos (by omega)] | rw [if_neg (by omega)])); first | done | (congr 1; omega))
set_option maxHeartbeats 4000000 in
set_option maxRecDepth 100000 in
theorem c_X8_wireOf {l : Launch} (hl0 : l.stackTraces = false) (G : GG) (I J : GI) {z : Nat} (ho : Oks (I 232)) (w a : Int) (hq : 0 ≤ w ∧ w < I 232 3) (ha : 0 ≤ a ∧ a ≤ 5) : GM l yX8_wireOf (.code yX8_wireOf cX8_wireOf 3 (some .int)) 3 67 0 0 G N0 SH RR [vR 231, vI w, vI a] z I J (memQ (some (vI (rWire (I 232) w.toNat a))) I J) gNo := by
  refine gm_of (lo0 := [some (vR 231), some (vI w), some (vI a)]) hl0 (by decide) rfl (Nat.le_of_ble_eq_true rfl) ?_
  intro p e s m args below meth c C ht hgi
  have C : gC G p l s m args meth c cX8_wireOf 3 RX8 (some .int) "wireOf" := C
  have h3 := ho.2.1
  have h0 := ho.1
  refine gw_iload_n C 2 dX8_wireOf_0 rfl rfl ?_
  refine gw_iconst C dX8_wireOf_1 ?_
  refine gw_icmp_ge C (tgt := 14) dX8_wireOf_2 (by decide) (by first | omega | exact hgi _ _) ⟨by decide, by decide⟩ (fun h_2 => ?_) (fun h_2 => ?_)
  · skip
    refine gw_iload_n C 2 dX8_wireOf_14 rfl rfl ?_
    refine gw_iconst C dX8_wireOf_15 ?_
    refine gw_icmp_ne C (tgt := 27) dX8_wireOf_16 (by decide) (by first | omega | exact hgi _ _) ⟨by decide, by decide⟩ (fun h_16 => ?_) (fun h_16 => ?_)
    · skip
      refine gw_iload_n C 2 dX8_wireOf_27 rfl rfl ?_
      refine gw_iconst C dX8_wireOf_28 ?_
      refine gw_icmp_ne C (tgt := 40) dX8_wireOf_29 (by decide) (by first | omega | exact hgi _ _) ⟨by decide, by decide⟩ (fun h_29 => ?_) (fun h_29 => ?_)
      · skip
        refine gw_aload_n C 0 dX8_wireOf_40 rfl rfl ?_
        refine gw_iload_n C 1 dX8_wireOf_41 rfl rfl ?_
        refine gw_callVm C (as := [vI w]) (st := []) (ci := 7) (T0 := TX8) (N := 10) (c_X8_driftOf hl0 G I J ho w (by omega)) dX8_wireOf_42 kX8_102 qX8_driftOf hdX8_driftOf ⟨Nat.le_of_ble_eq_true rfl, Nat.le_of_ble_eq_true rfl⟩ ⟨Nat.le_of_ble_eq_true rfl, Nat.le_of_ble_eq_true rfl⟩ (Nat.le_of_ble_eq_true rfl) rfl xs_231 xn_231 rfl (fun z_42 => ?_)
        have hr_42 := sD_b ho (i := ((w).toNat)) (by omega)
        exact gw_iret C (Nat.le_of_ble_eq_true rfl) (Nat.le_of_ble_eq_true rfl) dX8_wireOf_45 (⟨congrArg (fun q => some (vI q)) (by first | exact wof_v (by omega) | (unfold rWire; (repeat (first | rw [if_pos (by omega)] | rw [if_neg (by omega)])))), rfl, rfl⟩)
      · skip
        refine gw_aload_n C 0 dX8_wireOf_32 rfl rfl ?_
        refine gw_iload_n C 1 dX8_wireOf_33 rfl rfl ?_
        refine gw_callVm C (as := [vI w]) (st := []) (ci := 7) (T0 := TX8) (N := 10) (c_X8_troubleOfWire hl0 G I J ho w (by omega)) dX8_wireOf_34 kX8_109 qX8_troubleOfWire hdX8_troubleOfWire ⟨Nat.le_of_ble_eq_true rfl, Nat.le_of_ble_eq_true rfl⟩ ⟨Nat.le_of_ble_eq_true rfl, Nat.le_of_ble_eq_true rfl⟩ (Nat.le_of_ble_eq_true rfl) rfl xs_231 xn_231 rfl (fun z_34 => ?_)
        have hr_34 := sT_v (I 232) ((w).toNat)
        refine gw_goto C (tgt := 45) dX8_wireOf_37 (by decide) ?_
        exact gw_iret C (Nat.le_of_ble_eq_true rfl) (Nat.le_of_ble_eq_true rfl) dX8_wireOf_45 (⟨congrArg (fun q => some (vI q)) (by first | exact wof_v (by omega) | (unfold rWire; (repeat (first | rw [if_pos (by omega)] | rw [if_neg (by omega)])))), rfl, rfl⟩)
    · skip
      refine gw_aload_n C 0 dX8_wireOf_19 rfl rfl ?_
      refine gw_iload_n C 1 dX8_wireOf_20 rfl rfl ?_
      refine gw_callVm C (as := [vI w]) (st := []) (ci := 7) (T0 := TX8) (N := 10) (c_X8_restOf hl0 G I J ho w (by omega)) dX8_wireOf_21 kX8_106 qX8_restOf hdX8_restOf ⟨Nat.le_of_ble_eq_true rfl, Nat.le_of_ble_eq_true rfl⟩ ⟨Nat.le_of_ble_eq_true rfl, Nat.le_of_ble_eq_true rfl⟩ (Nat.le_of_ble_eq_true rfl) rfl xs_231 xn_231 rfl (fun z_21 => ?_)
      refine gw_goto C (tgt := 45) dX8_wireOf_24 (by decide) ?_
      exact gw_iret C (Nat.le_of_ble_eq_true rfl) (Nat.le_of_ble_eq_true rfl) dX8_wireOf_45 (⟨congrArg (fun q => some (vI q)) (by first | exact wof_v (by omega) | (unfold rWire; (repeat (first | rw [if_pos (by omega)] | rw [if_neg (by omega)])))), rfl, rfl⟩)
  · skip
    refine gw_aload_n C 0 dX8_wireOf_5 rfl rfl ?_
    refine gw_iload_n C 1 dX8_wireOf_6 rfl rfl ?_
    refine gw_iload_n C 2 dX8_wireOf_7 rfl rfl ?_
    refine gw_callVm C (as := [vI w, vI a]) (st := []) (ci := 7) (T0 := TX8) (N := 10) (c_X8_ofWire hl0 G I J ho w a (by omega)) dX8_wireOf_8 kX8_81 qX8_ofWire hdX8_ofWire ⟨Nat.le_of_ble_eq_true rfl, Nat.le_of_ble_eq_true rfl⟩ ⟨Nat.le_of_ble_eq_true rfl, Nat.le_of_ble_eq_true rfl⟩ (Nat.le_of_ble_eq_true rfl) rfl xs_231 xn_231 rfl (fun z_8 => ?_)
    refine gw_goto C (tgt := 45) dX8_wireOf_11 (by decide) ?_
    exact gw_iret C (Nat.le_of_ble_eq_true rfl) (Nat.le_of_ble_eq_true rfl) dX8_wireOf_45 (⟨congrArg (fun q => some (vI q)) (by first | exact wof_v (by omega) | (unfold rWire; (repeat (first | rw [if_pos (by omega)] | rw [if_neg (by omega)])))), rfl, rfl⟩)
set_option maxHeartbeats 4000000 in
set_option maxRecDepth 100000 in
theorem c_X8_wiresOf {l : Launch} (hl0 : l.stackTraces = false) (G : GG) (I J : GI) {z : Nat} (ho : Oks (I 232)) (w : Int) (hq : 0 ≤ w ∧ w < I 232 4) : GM l yX8_wiresOf (.code yX8_wiresOf cX8_wiresOf 3 (some .int)) 3 67 0 0 G N0 SH RR [vR 231, vI w] z I J (memQ (some (vI (sC (I 232) w.toNat))) I J) gNo := by
  refine gm_of (lo0 := [some (vR 231), some (vI w), none]) hl0 (by decide) rfl (Nat.le_of_ble_eq_true rfl) ?_
  intro p e s m args below meth c C ht hgi
  have C : gC G p l s m args meth c cX8_wiresOf 3 RX8 (some .int) "wiresOf" := C
  have h3 := ho.2.1
  have h0 := ho.1
  have hnb := near_b ho (j := w.toNat) (by omega)
  have hoj := ho.2.2.2.1 w.toNat (by omega)
  refine gw_aload_n C 0 dX8_wiresOf_0 rfl rfl ?_
  refine gw_aload_n C 0 dX8_wiresOf_1 rfl rfl ?_
  refine gw_iload_n C 1 dX8_wiresOf_2 rfl rfl ?_
  refine gw_iconst C dX8_wiresOf_3 ?_
  refine gw_callVm C (as := [vI w, vI 0]) (st := [vR 231]) (ci := 7) (T0 := TX8) (N := 10) (c_X8_ofJoin hl0 G I J ho w 0 (by omega)) dX8_wiresOf_4 kX8_138 qX8_ofJoin hdX8_ofJoin ⟨Nat.le_of_ble_eq_true rfl, Nat.le_of_ble_eq_true rfl⟩ ⟨Nat.le_of_ble_eq_true rfl, Nat.le_of_ble_eq_true rfl⟩ (Nat.le_of_ble_eq_true rfl) rfl xs_231 xn_231 rfl (fun z_4 => ?_)
  rw [show (0 : Int).toNat = 0 from rfl]
  rw [show I 232 (78 + 6 * ((w).toNat) + 0) = (I 232 (78 + 6 * ((w).toNat))) from by first | rfl | (congr 1 <;> omega) | (congr 1; congr 1 <;> omega)]
  refine gw_callVm C (as := [vI (I 232 (78 + 6 * ((w).toNat)))]) (st := []) (ci := 7) (T0 := TX8) (N := 10) (c_X8_troubleOfWire hl0 G I J ho (I 232 (78 + 6 * ((w).toNat))) (by omega)) dX8_wiresOf_7 kX8_109 qX8_troubleOfWire hdX8_troubleOfWire ⟨Nat.le_of_ble_eq_true rfl, Nat.le_of_ble_eq_true rfl⟩ ⟨Nat.le_of_ble_eq_true rfl, Nat.le_of_ble_eq_true rfl⟩ (Nat.le_of_ble_eq_true rfl) rfl xs_231 xn_231 rfl (fun z_7 => ?_)
  rw [show (I 232 (78 + 6 * ((w).toNat))).toNat = (sNear (I 232) ((w).toNat)) from rfl]
  have hr_7 := sT_v (I 232) (sNear (I 232) ((w).toNat))
  refine gw_istore_n C (lo1 := [some (vR 231), some (vI w), some (vI (sT (I 232) (sNear (I 232) ((w).toNat))))]) 2 dX8_wiresOf_10 rfl (by decide) rfl ?_
  refine gw_iload_n C 2 dX8_wiresOf_11 rfl rfl ?_
  refine gw_if_le C (tgt := 19) dX8_wiresOf_12 (by decide) (by first | omega | exact hgi _ _) (fun h_12 => ?_) (fun h_12 => ?_)
  · skip
    refine gw_aload_n C 0 dX8_wiresOf_19 rfl rfl ?_
    refine gw_aload_n C 0 dX8_wiresOf_20 rfl rfl ?_
    refine gw_iload_n C 1 dX8_wiresOf_21 rfl rfl ?_
    refine gw_iconst C dX8_wiresOf_22 ?_
    refine gw_callVm C (as := [vI w, vI 1]) (st := [vR 231]) (ci := 7) (T0 := TX8) (N := 10) (c_X8_ofJoin hl0 G I J ho w 1 (by omega)) dX8_wiresOf_23 kX8_138 qX8_ofJoin hdX8_ofJoin ⟨Nat.le_of_ble_eq_true rfl, Nat.le_of_ble_eq_true rfl⟩ ⟨Nat.le_of_ble_eq_true rfl, Nat.le_of_ble_eq_true rfl⟩ (Nat.le_of_ble_eq_true rfl) rfl xs_231 xn_231 rfl (fun z_23 => ?_)
    rw [show (1 : Int).toNat = 1 from rfl]
    rw [show I 232 (78 + 6 * ((w).toNat) + 1) = (I 232 (79 + 6 * ((w).toNat))) from by first | rfl | (congr 1 <;> omega) | (congr 1; congr 1 <;> omega)]
    refine gw_callVm C (as := [vI (I 232 (79 + 6 * ((w).toNat)))]) (st := []) (ci := 7) (T0 := TX8) (N := 10) (c_X8_troubleOfWire hl0 G I J ho (I 232 (79 + 6 * ((w).toNat))) (by omega)) dX8_wiresOf_26 kX8_109 qX8_troubleOfWire hdX8_troubleOfWire ⟨Nat.le_of_ble_eq_true rfl, Nat.le_of_ble_eq_true rfl⟩ ⟨Nat.le_of_ble_eq_true rfl, Nat.le_of_ble_eq_true rfl⟩ (Nat.le_of_ble_eq_true rfl) rfl xs_231 xn_231 rfl (fun z_26 => ?_)
    rw [show (I 232 (79 + 6 * ((w).toNat))).toNat = (sFar (I 232) ((w).toNat)) from rfl]
    have hr_26 := sT_v (I 232) (sFar (I 232) ((w).toNat))
    exact gw_iret C (Nat.le_of_ble_eq_true rfl) (Nat.le_of_ble_eq_true rfl) dX8_wiresOf_29 (⟨congrArg (fun q => some (vI q)) (by unfold sC; first | rw [if_pos (by omega)] | rw [if_neg (by omega)]), rfl, rfl⟩)
  · skip
    refine gw_iload_n C 2 dX8_wiresOf_15 rfl rfl ?_
    refine gw_goto C (tgt := 29) dX8_wiresOf_16 (by decide) ?_
    exact gw_iret C (Nat.le_of_ble_eq_true rfl) (Nat.le_of_ble_eq_true rfl) dX8_wiresOf_29 (⟨congrArg (fun q => some (vI q)) (by unfold sC; first | rw [if_pos (by omega)] | rw [if_neg (by omega)]), rfl, rfl⟩)
set_option maxHeartbeats 4000000 in
set_option maxRecDepth 100000 in
theorem c_X8_troubleOfJoin {l : Launch} (hl0 : l.stackTraces = false) (G : GG) (I J : GI) {z : Nat} (ho : Oks (I 232)) (w : Int) (hq : 0 ≤ w ∧ w < I 232 4) : GM l yX8_troubleOfJoin (.code yX8_troubleOfJoin cX8_troubleOfJoin 2 (some .int)) 4 89 0 0 G N0 SH RR [vR 231, vI w] z I J (memQ (some (vI (sJ (I 232) w.toNat))) I J) gNo := by
  refine gm_of (lo0 := [some (vR 231), some (vI w)]) hl0 (by decide) rfl (Nat.le_of_ble_eq_true rfl) ?_
  intro p e s m args below meth c C ht hgi
  have C : gC G p l s m args meth c cX8_troubleOfJoin 2 RX8 (some .int) "troubleOfJoin" := C
  have h3 := ho.2.1
  have h0 := ho.1
  have hnb := near_b ho (j := w.toNat) (by omega)
  have hoj := ho.2.2.2.1 w.toNat (by omega)
  refine gw_aload_n C 0 dX8_troubleOfJoin_0 rfl rfl ?_
  refine gw_iload_n C 1 dX8_troubleOfJoin_1 rfl rfl ?_
  refine gw_callVm C (as := [vI w]) (st := []) (ci := 7) (T0 := TX8) (N := 10) (c_X8_wiresOf hl0 G I J ho w (by omega)) dX8_troubleOfJoin_2 kX8_141 qX8_wiresOf hdX8_wiresOf ⟨Nat.le_of_ble_eq_true rfl, Nat.le_of_ble_eq_true rfl⟩ ⟨Nat.le_of_ble_eq_true rfl, Nat.le_of_ble_eq_true rfl⟩ (Nat.le_of_ble_eq_true rfl) rfl xs_231 xn_231 rfl (fun z_2 => ?_)
  have hr_2 := sC_v (I 232) ((w).toNat)
  refine gw_if_le C (tgt := 12) dX8_troubleOfJoin_5 (by decide) (by first | omega | exact hgi _ _) (fun h_5 => ?_) (fun h_5 => ?_)
  · skip
    refine gw_aload_n C 0 dX8_troubleOfJoin_12 rfl rfl ?_
    refine gw_iload_n C 1 dX8_troubleOfJoin_13 rfl rfl ?_
    refine gw_iconst C dX8_troubleOfJoin_14 ?_
    refine gw_callVm C (as := [vI w, vI 4]) (st := []) (ci := 7) (T0 := TX8) (N := 10) (c_X8_ofJoin hl0 G I J ho w 4 (by omega)) dX8_troubleOfJoin_15 kX8_138 qX8_ofJoin hdX8_ofJoin ⟨Nat.le_of_ble_eq_true rfl, Nat.le_of_ble_eq_true rfl⟩ ⟨Nat.le_of_ble_eq_true rfl, Nat.le_of_ble_eq_true rfl⟩ (Nat.le_of_ble_eq_true rfl) rfl xs_231 xn_231 rfl (fun z_15 => ?_)
    rw [show (4 : Int).toNat = 4 from rfl]
    rw [show I 232 (78 + 6 * ((w).toNat) + 4) = (I 232 (82 + 6 * ((w).toNat))) from by first | rfl | (congr 1 <;> omega) | (congr 1; congr 1 <;> omega)]
    refine gw_iconst C dX8_troubleOfJoin_18 ?_
    refine gw_aload_n C 0 dX8_troubleOfJoin_19 rfl rfl ?_
    refine gw_iload_n C 1 dX8_troubleOfJoin_20 rfl rfl ?_
    refine gw_iconst C dX8_troubleOfJoin_21 ?_
    refine gw_callVm C (as := [vI w, vI 3]) (st := [vI 3, vI (I 232 (82 + 6 * ((w).toNat)))]) (ci := 7) (T0 := TX8) (N := 10) (c_X8_ofJoin hl0 G I J ho w 3 (by omega)) dX8_troubleOfJoin_22 kX8_138 qX8_ofJoin hdX8_ofJoin ⟨Nat.le_of_ble_eq_true rfl, Nat.le_of_ble_eq_true rfl⟩ ⟨Nat.le_of_ble_eq_true rfl, Nat.le_of_ble_eq_true rfl⟩ (Nat.le_of_ble_eq_true rfl) rfl xs_231 xn_231 rfl (fun z_22 => ?_)
    rw [show (3 : Int).toNat = 3 from rfl]
    rw [show I 232 (78 + 6 * ((w).toNat) + 3) = (I 232 (81 + 6 * ((w).toNat))) from by first | rfl | (congr 1 <;> omega) | (congr 1; congr 1 <;> omega)]
    refine gw_imul C dX8_troubleOfJoin_25 ?_
    refine gw_icmp_le C (tgt := 33) dX8_troubleOfJoin_26 (by decide) (by first | omega | exact hgi _ _) (by first | omega | exact hgi _ _) (fun h_26 => ?_) (fun h_26 => ?_)
    · skip
      refine gw_iconst C dX8_troubleOfJoin_33 ?_
      exact gw_iret C (Nat.le_of_ble_eq_true rfl) (Nat.le_of_ble_eq_true rfl) dX8_troubleOfJoin_34 (⟨congrArg (fun q => some (vI q)) (by unfold sJ; first | rw [if_pos (by omega)] | (rw [if_neg (by omega)]; first | rw [if_pos (by omega)] | rw [if_neg (by omega)])), rfl, rfl⟩)
    · skip
      refine gw_iconst C dX8_troubleOfJoin_29 ?_
      refine gw_goto C (tgt := 34) dX8_troubleOfJoin_30 (by decide) ?_
      exact gw_iret C (Nat.le_of_ble_eq_true rfl) (Nat.le_of_ble_eq_true rfl) dX8_troubleOfJoin_34 (⟨congrArg (fun q => some (vI q)) (by unfold sJ; first | rw [if_pos (by omega)] | (rw [if_neg (by omega)]; first | rw [if_pos (by omega)] | rw [if_neg (by omega)])), rfl, rfl⟩)
  · skip
    refine gw_iconst C dX8_troubleOfJoin_8 ?_
    refine gw_goto C (tgt := 34) dX8_troubleOfJoin_9 (by decide) ?_
    exact gw_iret C (Nat.le_of_ble_eq_true rfl) (Nat.le_of_ble_eq_true rfl) dX8_troubleOfJoin_34 (⟨congrArg (fun q => some (vI q)) (by unfold sJ; first | rw [if_pos (by omega)] | (rw [if_neg (by omega)]; first | rw [if_pos (by omega)] | rw [if_neg (by omega)])), rfl, rfl⟩)
theorem sR_b {S : Nat → Int} {i : Nat} (ho : Oks S) (hi : (i : Int) < S 3) (h9 : sT S i = 0) : 0 ≤ sR S i ∧ sR S i ≤ 999 := by
  have h3 := sT_n h9
  have w := ho.2.2.1 i hi
  unfold sR
  have hl := smF_lo (t := sTu S i) (m := (S (8 + 12 * i)).toNat) (fun k hk => w.2 k (by omega)) ((S (8 + 12 * i)).toNat - 2) (by omega)
  have a0 : 0 ≤ sTu S i 0 ∧ sTu S i 0 ≤ 999 := by have := w.2 0 (by omega); exact this
  have a1 : 0 ≤ sTu S i ((S (8 + 12 * i)).toNat - 1) ∧ sTu S i ((S (8 + 12 * i)).toNat - 1) ≤ 999 := w.2 _ (by omega)
  rw [show (S (8 + 12 * i)).toNat - 2 + 1 = (S (8 + 12 * i)).toNat - 1 by omega] at hl
  unfold restF
  rw [if_neg (by omega)]
  have hb : (0 : Int) ≤ sTu S i 0 + sTu S i ((S (8 + 12 * i)).toNat - 1) + 2 * (smF ((S (8 + 12 * i)).toNat - 1) (sTu S i) - sTu S i 0) := by omega
  have hc : sTu S i 0 + sTu S i ((S (8 + 12 * i)).toNat - 1) + 2 * (smF ((S (8 + 12 * i)).toNat - 1) (sTu S i) - sTu S i 0) < (2 * (((S (8 + 12 * i)).toNat : Int) - 1)) * 1000 := by omega
  rw [Int.tdiv_eq_ediv_of_nonneg hb]
  refine ⟨Int.ediv_nonneg hb (by omega), ?_⟩
  have := Int.ediv_lt_of_lt_mul (a := sTu S i 0 + sTu S i ((S (8 + 12 * i)).toNat - 1) + 2 * (smF ((S (8 + 12 * i)).toNat - 1) (sTu S i) - sTu S i 0)) (b := 1000) (c := 2 * (((S (8 + 12 * i)).toNat : Int) - 1)) (by omega) (by omega)
  omega
set_option maxHeartbeats 4000000 in
set_option maxRecDepth 100000 in
theorem c_X8_startOf {l : Launch} (hl0 : l.stackTraces = false) (G : GG) (I J : GI) {z : Nat} (ho : Oks (I 232)) (w : Int) (hq : 0 ≤ w ∧ w < I 232 4) (hj0 : sJ (I 232) w.toNat = 0) : GM l yX8_startOf (.code yX8_startOf cX8_startOf 4 (some .int)) 2 46 0 0 G N0 SH RR [vR 231, vI w] z I J (memQ (some (vI (sS0 (I 232) w.toNat))) I J) gNo := by
  refine gm_of (lo0 := [some (vR 231), some (vI w), none, none]) hl0 (by decide) rfl (Nat.le_of_ble_eq_true rfl) ?_
  intro p e s m args below meth c C ht hgi
  have C : gC G p l s m args meth c cX8_startOf 4 RX8 (some .int) "startOf" := C
  have h3 := ho.2.1
  have h0 := ho.1
  have hnb := near_b ho (j := w.toNat) (by omega)
  have hoj := ho.2.2.2.1 w.toNat (by omega)
  refine gw_aload_n C 0 dX8_startOf_0 rfl rfl ?_
  refine gw_iload_n C 1 dX8_startOf_1 rfl rfl ?_
  refine gw_iconst C dX8_startOf_2 ?_
  refine gw_callVm C (as := [vI w, vI 3]) (st := []) (ci := 7) (T0 := TX8) (N := 10) (c_X8_ofJoin hl0 G I J ho w 3 (by omega)) dX8_startOf_3 kX8_138 qX8_ofJoin hdX8_ofJoin ⟨Nat.le_of_ble_eq_true rfl, Nat.le_of_ble_eq_true rfl⟩ ⟨Nat.le_of_ble_eq_true rfl, Nat.le_of_ble_eq_true rfl⟩ (Nat.le_of_ble_eq_true rfl) rfl xs_231 xn_231 rfl (fun z_3 => ?_)
  rw [show (3 : Int).toNat = 3 from rfl]
  rw [show I 232 (78 + 6 * ((w).toNat) + 3) = (I 232 (81 + 6 * ((w).toNat))) from by first | rfl | (congr 1 <;> omega) | (congr 1; congr 1 <;> omega)]
  refine gw_istore_n C (lo1 := [some (vR 231), some (vI w), some (vI (I 232 (81 + 6 * ((w).toNat)))), none]) 2 dX8_startOf_6 rfl (by decide) rfl ?_
  refine gw_aload_n C 0 dX8_startOf_7 rfl rfl ?_
  refine gw_aload_n C 0 dX8_startOf_8 rfl rfl ?_
  refine gw_iload_n C 1 dX8_startOf_9 rfl rfl ?_
  refine gw_iconst C dX8_startOf_10 ?_
  refine gw_callVm C (as := [vI w, vI 1]) (st := [vR 231]) (ci := 7) (T0 := TX8) (N := 10) (c_X8_ofJoin hl0 G I J ho w 1 (by omega)) dX8_startOf_11 kX8_138 qX8_ofJoin hdX8_ofJoin ⟨Nat.le_of_ble_eq_true rfl, Nat.le_of_ble_eq_true rfl⟩ ⟨Nat.le_of_ble_eq_true rfl, Nat.le_of_ble_eq_true rfl⟩ (Nat.le_of_ble_eq_true rfl) rfl xs_231 xn_231 rfl (fun z_11 => ?_)
  rw [show (1 : Int).toNat = 1 from rfl]
  rw [show I 232 (78 + 6 * ((w).toNat) + 1) = (I 232 (79 + 6 * ((w).toNat))) from by first | rfl | (congr 1 <;> omega) | (congr 1; congr 1 <;> omega)]
  refine gw_callVm C (as := [vI (I 232 (79 + 6 * ((w).toNat)))]) (st := []) (ci := 7) (T0 := TX8) (N := 10) (c_X8_restOf hl0 G I J ho (I 232 (79 + 6 * ((w).toNat))) (by omega)) dX8_startOf_14 kX8_106 qX8_restOf hdX8_restOf ⟨Nat.le_of_ble_eq_true rfl, Nat.le_of_ble_eq_true rfl⟩ ⟨Nat.le_of_ble_eq_true rfl, Nat.le_of_ble_eq_true rfl⟩ (Nat.le_of_ble_eq_true rfl) rfl xs_231 xn_231 rfl (fun z_14 => ?_)
  rw [show (I 232 (79 + 6 * ((w).toNat))).toNat = (sFar (I 232) ((w).toNat)) from rfl]
  refine gw_aload_n C 0 dX8_startOf_17 rfl rfl ?_
  refine gw_aload_n C 0 dX8_startOf_18 rfl rfl ?_
  refine gw_iload_n C 1 dX8_startOf_19 rfl rfl ?_
  refine gw_iconst C dX8_startOf_20 ?_
  refine gw_callVm C (as := [vI w, vI 0]) (st := [vR 231, vI (sR (I 232) (sFar (I 232) ((w).toNat)))]) (ci := 7) (T0 := TX8) (N := 10) (c_X8_ofJoin hl0 G I J ho w 0 (by omega)) dX8_startOf_21 kX8_138 qX8_ofJoin hdX8_ofJoin ⟨Nat.le_of_ble_eq_true rfl, Nat.le_of_ble_eq_true rfl⟩ ⟨Nat.le_of_ble_eq_true rfl, Nat.le_of_ble_eq_true rfl⟩ (Nat.le_of_ble_eq_true rfl) rfl xs_231 xn_231 rfl (fun z_21 => ?_)
  rw [show (0 : Int).toNat = 0 from rfl]
  rw [show I 232 (78 + 6 * ((w).toNat) + 0) = (I 232 (78 + 6 * ((w).toNat))) from by first | rfl | (congr 1 <;> omega) | (congr 1; congr 1 <;> omega)]
  refine gw_callVm C (as := [vI (I 232 (78 + 6 * ((w).toNat)))]) (st := [vI (sR (I 232) (sFar (I 232) ((w).toNat)))]) (ci := 7) (T0 := TX8) (N := 10) (c_X8_restOf hl0 G I J ho (I 232 (78 + 6 * ((w).toNat))) (by omega)) dX8_startOf_24 kX8_106 qX8_restOf hdX8_restOf ⟨Nat.le_of_ble_eq_true rfl, Nat.le_of_ble_eq_true rfl⟩ ⟨Nat.le_of_ble_eq_true rfl, Nat.le_of_ble_eq_true rfl⟩ (Nat.le_of_ble_eq_true rfl) rfl xs_231 xn_231 rfl (fun z_24 => ?_)
  rw [show (I 232 (78 + 6 * ((w).toNat))).toNat = (sNear (I 232) ((w).toNat)) from rfl]
  have hcz := sJ_c hj0
  have hg9 := ga_b (g := I 232 (83 + 6 * w.toNat)) (a := I 232 (82 + 6 * w.toNat)) (c := I 232 (81 + 6 * w.toNat)) hoj.2.2.2 hoj.2.2.1 hoj.2.1.1
  have hs9 := sSw_b ho (j := w.toNat) (by omega) hcz
  unfold sSw at hs9
  have r1 := sR_b ho hnb.1.2 (sC_0 hcz).1
  have r2 := sR_b ho hnb.2.2 (sC_0 hcz).2
  refine gw_isub C dX8_startOf_27 ?_
  refine gw_istore_n C (lo1 := [some (vR 231), some (vI w), some (vI (I 232 (81 + 6 * ((w).toNat)))), some (vI ((sR (I 232) (sFar (I 232) ((w).toNat))) - (sR (I 232) (sNear (I 232) ((w).toNat)))))]) 3 dX8_startOf_28 rfl (by decide) rfl ?_
  refine gw_aload_n C 0 dX8_startOf_29 rfl rfl ?_
  refine gw_iload_n C 1 dX8_startOf_30 rfl rfl ?_
  refine gw_iconst C dX8_startOf_31 ?_
  refine gw_callVm C (as := [vI w, vI 2]) (st := []) (ci := 7) (T0 := TX8) (N := 10) (c_X8_ofJoin hl0 G I J ho w 2 (by omega)) dX8_startOf_32 kX8_138 qX8_ofJoin hdX8_ofJoin ⟨Nat.le_of_ble_eq_true rfl, Nat.le_of_ble_eq_true rfl⟩ ⟨Nat.le_of_ble_eq_true rfl, Nat.le_of_ble_eq_true rfl⟩ (Nat.le_of_ble_eq_true rfl) rfl xs_231 xn_231 rfl (fun z_32 => ?_)
  rw [show (2 : Int).toNat = 2 from rfl]
  rw [show I 232 (78 + 6 * ((w).toNat) + 2) = (I 232 (80 + 6 * ((w).toNat))) from by first | rfl | (congr 1 <;> omega) | (congr 1; congr 1 <;> omega)]
  refine gw_i2l C dX8_startOf_35 (by first | omega | exact hgi _ _) ?_
  refine gw_aload_n C 0 dX8_startOf_36 rfl rfl ?_
  refine gw_iload_n C 1 dX8_startOf_37 rfl rfl ?_
  refine gw_iconst C dX8_startOf_38 ?_
  refine gw_callVm C (as := [vI w, vI 5]) (st := [vL (I 232 (80 + 6 * ((w).toNat)))]) (ci := 7) (T0 := TX8) (N := 10) (c_X8_ofJoin hl0 G I J ho w 5 (by omega)) dX8_startOf_39 kX8_138 qX8_ofJoin hdX8_ofJoin ⟨Nat.le_of_ble_eq_true rfl, Nat.le_of_ble_eq_true rfl⟩ ⟨Nat.le_of_ble_eq_true rfl, Nat.le_of_ble_eq_true rfl⟩ (Nat.le_of_ble_eq_true rfl) rfl xs_231 xn_231 rfl (fun z_39 => ?_)
  rw [show (5 : Int).toNat = 5 from rfl]
  rw [show I 232 (78 + 6 * ((w).toNat) + 5) = (I 232 (83 + 6 * ((w).toNat))) from by first | rfl | (congr 1 <;> omega) | (congr 1; congr 1 <;> omega)]
  refine gw_aload_n C 0 dX8_startOf_42 rfl rfl ?_
  refine gw_iload_n C 1 dX8_startOf_43 rfl rfl ?_
  refine gw_iconst C dX8_startOf_44 ?_
  refine gw_callVm C (as := [vI w, vI 4]) (st := [vI (I 232 (83 + 6 * ((w).toNat))), vL (I 232 (80 + 6 * ((w).toNat)))]) (ci := 7) (T0 := TX8) (N := 10) (c_X8_ofJoin hl0 G I J ho w 4 (by omega)) dX8_startOf_45 kX8_138 qX8_ofJoin hdX8_ofJoin ⟨Nat.le_of_ble_eq_true rfl, Nat.le_of_ble_eq_true rfl⟩ ⟨Nat.le_of_ble_eq_true rfl, Nat.le_of_ble_eq_true rfl⟩ (Nat.le_of_ble_eq_true rfl) rfl xs_231 xn_231 rfl (fun z_45 => ?_)
  rw [show (4 : Int).toNat = 4 from rfl]
  rw [show I 232 (78 + 6 * ((w).toNat) + 4) = (I 232 (82 + 6 * ((w).toNat))) from by first | rfl | (congr 1 <;> omega) | (congr 1; congr 1 <;> omega)]
  refine gw_imul C dX8_startOf_48 ?_
  refine gw_iload_n C 2 dX8_startOf_49 rfl rfl ?_
  refine gw_idiv C dX8_startOf_50 (by first | omega | exact hgi _ _) (by first | omega | exact hgi _ _) (by omega) ?_
  refine gw_i2l C dX8_startOf_51 (by first | omega | exact hgi _ _) ?_
  refine gw_ladd C dX8_startOf_52 ?_
  refine gw_iload_n C 3 dX8_startOf_53 rfl rfl ?_
  refine gw_sipush C dX8_startOf_54 rfl ?_
  refine gw_imul C dX8_startOf_57 ?_
  refine gw_iload_n C 2 dX8_startOf_58 rfl rfl ?_
  refine gw_idiv C dX8_startOf_59 (by first | omega | exact hgi _ _) (by first | omega | exact hgi _ _) (by omega) ?_
  refine gw_i2l C dX8_startOf_60 (by first | omega | exact hgi _ _) ?_
  refine gw_ladd C dX8_startOf_61 ?_
  refine gw_callSm C (as := [vL (((I 232 (80 + 6 * ((w).toNat))) + (((I 232 (83 + 6 * ((w).toNat))) * (I 232 (82 + 6 * ((w).toNat))))).tdiv (I 232 (81 + 6 * ((w).toNat)))) + ((((sR (I 232) (sFar (I 232) ((w).toNat))) - (sR (I 232) (sNear (I 232) ((w).toNat)))) * 20626)).tdiv (I 232 (81 + 6 * ((w).toNat))))]) (st := []) (c_X8_normed hl0 G (((I 232 (80 + 6 * ((w).toNat))) + (((I 232 (83 + 6 * ((w).toNat))) * (I 232 (82 + 6 * ((w).toNat))))).tdiv (I 232 (81 + 6 * ((w).toNat)))) + ((((sR (I 232) (sFar (I 232) ((w).toNat))) - (sR (I 232) (sNear (I 232) ((w).toNat)))) * 20626)).tdiv (I 232 (81 + 6 * ((w).toNat)))) (by omega)) dX8_startOf_62 kX8_39 qX8_normed hdX8_normed ⟨Nat.le_of_ble_eq_true rfl, Nat.le_of_ble_eq_true rfl⟩ ⟨Nat.le_of_ble_eq_true rfl, Nat.le_of_ble_eq_true rfl⟩ (Nat.le_of_ble_eq_true rfl) rfl (fun z_62 => ?_)
  have hr_62 := normZ_b (((I 232 (80 + 6 * ((w).toNat))) + (((I 232 (83 + 6 * ((w).toNat))) * (I 232 (82 + 6 * ((w).toNat))))).tdiv (I 232 (81 + 6 * ((w).toNat)))) + ((((sR (I 232) (sFar (I 232) ((w).toNat))) - (sR (I 232) (sNear (I 232) ((w).toNat)))) * 20626)).tdiv (I 232 (81 + 6 * ((w).toNat))))
  exact gw_iret C (Nat.le_of_ble_eq_true rfl) (Nat.le_of_ble_eq_true rfl) dX8_startOf_65 (⟨congrArg (fun q => some (vI q)) (by rfl), rfl, rfl⟩)
set_option maxHeartbeats 4000000 in
set_option maxRecDepth 100000 in
theorem c_X8_joinTold {l : Launch} (hl0 : l.stackTraces = false) (G : GG) (I J : GI) {z : Nat} (ho : Oks (I 232)) (w a : Int) (hq : 0 ≤ w ∧ w < I 232 4) (ha : 0 ≤ a ∧ a ≤ 7) : GM l yX8_joinTold (.code yX8_joinTold cX8_joinTold 4 (some .int)) 5 110 0 0 G N0 SH RR [vR 231, vI w, vI a] z I J (memQ (some (vI (rJoinOf (I 232) w.toNat a))) I J) gNo := by
  refine gm_of (lo0 := [some (vR 231), some (vI w), some (vI a), none]) hl0 (by decide) rfl (Nat.le_of_ble_eq_true rfl) ?_
  intro p e s m args below meth c C ht hgi
  have C : gC G p l s m args meth c cX8_joinTold 4 RX8 (some .int) "joinTold" := C
  have h3 := ho.2.1
  have h0 := ho.1
  refine gw_aload_n C 0 dX8_joinTold_0 rfl rfl ?_
  refine gw_iload_n C 1 dX8_joinTold_1 rfl rfl ?_
  refine gw_callVm C (as := [vI w]) (st := []) (ci := 7) (T0 := TX8) (N := 10) (c_X8_troubleOfJoin hl0 G I J ho w (by omega)) dX8_joinTold_2 kX8_144 qX8_troubleOfJoin hdX8_troubleOfJoin ⟨Nat.le_of_ble_eq_true rfl, Nat.le_of_ble_eq_true rfl⟩ ⟨Nat.le_of_ble_eq_true rfl, Nat.le_of_ble_eq_true rfl⟩ (Nat.le_of_ble_eq_true rfl) rfl xs_231 xn_231 rfl (fun z_2 => ?_)
  have hr_2 := sJ_v (I 232) ((w).toNat)
  refine gw_istore_n C (lo1 := [some (vR 231), some (vI w), some (vI a), some (vI (sJ (I 232) ((w).toNat)))]) 3 dX8_joinTold_5 rfl (by decide) rfl ?_
  refine gw_iload_n C 2 dX8_joinTold_6 rfl rfl ?_
  refine gw_bipush C dX8_joinTold_7 rfl ?_
  refine gw_icmp_ge C (tgt := 21) dX8_joinTold_9 (by decide) (by first | omega | exact hgi _ _) ⟨by decide, by decide⟩ (fun h_9 => ?_) (fun h_9 => ?_)
  · skip
    refine gw_iload_n C 2 dX8_joinTold_21 rfl rfl ?_
    refine gw_bipush C dX8_joinTold_22 rfl ?_
    refine gw_icmp_ne C (tgt := 31) dX8_joinTold_24 (by decide) (by first | omega | exact hgi _ _) ⟨by decide, by decide⟩ (fun h_24 => ?_) (fun h_24 => ?_)
    · skip
      refine gw_iload_n C 3 dX8_joinTold_31 rfl rfl ?_
      refine gw_if_le C (tgt := 40) dX8_joinTold_32 (by decide) (by first | omega | exact hgi _ _) (fun h_32 => ?_) (fun h_32 => ?_)
      · skip
        refine gw_aload_n C 0 dX8_joinTold_40 rfl rfl ?_
        refine gw_iload_n C 1 dX8_joinTold_41 rfl rfl ?_
        refine gw_callVm C (as := [vI w]) (st := []) (ci := 7) (T0 := TX8) (N := 10) (c_X8_startOf hl0 G I J ho w (by omega) (by omega)) dX8_joinTold_42 kX8_147 qX8_startOf hdX8_startOf ⟨Nat.le_of_ble_eq_true rfl, Nat.le_of_ble_eq_true rfl⟩ ⟨Nat.le_of_ble_eq_true rfl, Nat.le_of_ble_eq_true rfl⟩ (Nat.le_of_ble_eq_true rfl) rfl xs_231 xn_231 rfl (fun z_42 => ?_)
        have hr_42 := sS0_b (I 232) ((w).toNat)
        exact gw_iret C (Nat.le_of_ble_eq_true rfl) (Nat.le_of_ble_eq_true rfl) dX8_joinTold_45 (⟨congrArg (fun q => some (vI q)) (by first | exact jof_v (by omega) | (unfold rJoinOf; (repeat (first | rw [if_pos (by omega)] | rw [if_neg (by omega)])))), rfl, rfl⟩)
      · skip
        refine gw_ldc C (x := (-2000000000)) dX8_joinTold_35 kX8_105 (by decide) ?_
        refine gw_goto C (tgt := 45) dX8_joinTold_37 (by decide) ?_
        exact gw_iret C (Nat.le_of_ble_eq_true rfl) (Nat.le_of_ble_eq_true rfl) dX8_joinTold_45 (⟨congrArg (fun q => some (vI q)) (by first | exact jof_v (by omega) | (unfold rJoinOf; (repeat (first | rw [if_pos (by omega)] | rw [if_neg (by omega)])))), rfl, rfl⟩)
    · skip
      refine gw_iload_n C 3 dX8_joinTold_27 rfl rfl ?_
      refine gw_goto C (tgt := 45) dX8_joinTold_28 (by decide) ?_
      exact gw_iret C (Nat.le_of_ble_eq_true rfl) (Nat.le_of_ble_eq_true rfl) dX8_joinTold_45 (⟨congrArg (fun q => some (vI q)) (by first | exact jof_v (by omega) | (unfold rJoinOf; (repeat (first | rw [if_pos (by omega)] | rw [if_neg (by omega)])))), rfl, rfl⟩)
  · skip
    refine gw_aload_n C 0 dX8_joinTold_12 rfl rfl ?_
    refine gw_iload_n C 1 dX8_joinTold_13 rfl rfl ?_
    refine gw_iload_n C 2 dX8_joinTold_14 rfl rfl ?_
    refine gw_callVm C (as := [vI w, vI a]) (st := []) (ci := 7) (T0 := TX8) (N := 10) (c_X8_ofJoin hl0 G I J ho w a (by omega)) dX8_joinTold_15 kX8_138 qX8_ofJoin hdX8_ofJoin ⟨Nat.le_of_ble_eq_true rfl, Nat.le_of_ble_eq_true rfl⟩ ⟨Nat.le_of_ble_eq_true rfl, Nat.le_of_ble_eq_true rfl⟩ (Nat.le_of_ble_eq_true rfl) rfl xs_231 xn_231 rfl (fun z_15 => ?_)
    refine gw_goto C (tgt := 45) dX8_joinTold_18 (by decide) ?_
    exact gw_iret C (Nat.le_of_ble_eq_true rfl) (Nat.le_of_ble_eq_true rfl) dX8_joinTold_45 (⟨congrArg (fun q => some (vI q)) (by first | exact jof_v (by omega) | (unfold rJoinOf; (repeat (first | rw [if_pos (by omega)] | rw [if_neg (by omega)])))), rfl, rfl⟩)
