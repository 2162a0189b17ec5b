theorem upS_ne {sh : GSh} {k : Nat} {x : Nat ⊕ (Nat × Nat)} {a : Nat} (h : a ≠ k) : upS sh k x a = sh a := by
  unfold upS
  rw [if_neg h]
theorem upS_eq {sh : GSh} {k : Nat} {x : Nat ⊕ (Nat × Nat)} : upS sh k x k = x := by
  unfold upS
  rw [if_pos rfl]
set_option maxHeartbeats 4000000 in
set_option maxRecDepth 100000 in
theorem c_X6_init {l : Launch} (hl0 : l.stackTraces = false) (G : GG) {z n : Nat} {sh : GSh} {R : GR} {I J : GI} {r : Nat} (hzn : z = n) (hfr : gFr n R I J) (hs : sh r = .inl 5) (hr : r < n)  : GMa l yX6_init (.code yX6_init cX6_init 1 none) 1 21 1 9 G [vR r] z n sh R I J (fun z1 n1 sh1 R1 I1 J1 => z1 = z + 1 ∧ n1 = n + 1 ∧ sh1 = upS sh n (.inr (0, 9)) ∧ R1 = upR R r 6 (some n) ∧ I1 = I ∧ J1 = J) := by
  refine gma_of (lo0 := [some (vR r)]) hl0 (by decide) rfl (Nat.le_of_ble_eq_true rfl) ?_
  intro p e s m args below meth c C hgi
  have C : gC G p l s m args meth c cX6_init 1 RX6 none "<init>" := C
  refine gw_aload_n C 0 dX6_init_0 rfl rfl ?_
  refine gw_objInit C dX6_init_1 kX6_3 (Nat.le_of_ble_eq_true rfl) (Nat.le_of_ble_eq_true rfl) ?_
  refine gw_aload_n C 0 dX6_init_4 rfl rfl ?_
  refine gw_bipush C dX6_init_5 rfl ?_
  refine gw_newarr C (len := 9) (t := 0) (ty := .int) rfl a_int rfl rfl (fun _ => rfl) dX6_init_7 (by decide) (by decide) (by omega) hfr (Nat.le_of_ble_eq_true rfl) (Nat.le_of_ble_eq_true rfl) ?_
  have fr_5 : gFr (n + 1) R I J := hfr.mono (by omega)
  refine gw_putFR (ci := 5) (Cn := RX6) (T0 := TX6) (N := 7) C (ty := tyX6 6) 6 kX6_9 fX6 rfl (by decide) rfl rfl tyX6 tyX6_ok nmX6 rfl C.2.2.2.2.2.2 rfl (by decide) rfl rfl dX6_init_9 (by rw [upS_ne (by omega)]; exact hs) (by omega) ?_
  have fr_7 : gFr (n + 1) (upR R r 6 (some n)) I J := fr_5.upR (by omega)
  exact gw_vretA C (Nat.le_of_ble_eq_true rfl) (Nat.le_of_ble_eq_true rfl) dX6_init_12 (⟨rfl, rfl, rfl, rfl, rfl, rfl⟩)
set_option maxHeartbeats 4000000 in
set_option maxRecDepth 100000 in
theorem c_X1_init {l : Launch} (hl0 : l.stackTraces = false) (G : GG) {z n : Nat} {sh : GSh} {R : GR} {I J : GI} {r : Nat} (hzn : z = n) (hfr : gFr n R I J) (hs : sh r = .inl 1) (hr : r < n)  : GMa l yX1_init (.code yX1_init cX1_init 1 none) 1 21 0 0 G [vR r] z n sh R I J (fun z1 n1 sh1 R1 I1 J1 => z1 = z + 0 ∧ n1 = n + 0 ∧ sh1 = sh ∧ R1 = R ∧ I1 = I ∧ J1 = J) := by
  refine gma_of (lo0 := [some (vR r)]) hl0 (by decide) rfl (Nat.le_of_ble_eq_true rfl) ?_
  intro p e s m args below meth c C hgi
  have C : gC G p l s m args meth c cX1_init 1 RX1 none "<init>" := C
  refine gw_aload_n C 0 dX1_init_0 rfl rfl ?_
  refine gw_objInit C dX1_init_1 kX1_3 (Nat.le_of_ble_eq_true rfl) (Nat.le_of_ble_eq_true rfl) ?_
  exact gw_vretA C (Nat.le_of_ble_eq_true rfl) (Nat.le_of_ble_eq_true rfl) dX1_init_4 (⟨rfl, rfl, rfl, rfl, rfl, rfl⟩)
def travS (sh : GSh) (n : Nat) : GSh := (upS (upS (upS (upS (upS sh n (.inr (0, 12))) (n + 1) (.inr (0, 12))) (n + 2) (.inr (0, 12))) (n + 3) (.inr (0, 12))) (n + 4) (.inr (0, 12)))
def travR (R : GR) (r n : Nat) : GR := (upR (upR (upR (upR (upR R r 10 (some n)) r 11 (some (n + 1))) r 12 (some (n + 2))) r 13 (some (n + 3))) r 14 (some (n + 4)))
theorem travS_lt {sh : GSh} {n q : Nat} (h : q < n) : travS sh n q = sh q := by
  unfold travS
  rw [upS_ne (by omega), upS_ne (by omega), upS_ne (by omega), upS_ne (by omega), upS_ne (by omega)]
theorem travR_ne {R : GR} {r n a : Nat} (h : a ≠ r) : travR R r n a = R a := by
  unfold travR
  rw [upR_ne h, upR_ne h, upR_ne h, upR_ne h, upR_ne h]
theorem c_fr_X5_init {n r : Nat} {R : GR} {I J : GI} (h : gFr n R I J) (hr : r < n) : gFr (n + 5) (travR R r n) I J := fun k hk j => by
  obtain ⟨a, b, c⟩ := h k (by omega) j
  exact ⟨by rw [travR_ne (by omega)]; exact a, b, c⟩
set_option maxHeartbeats 4000000 in
set_option maxRecDepth 100000 in
theorem c_X5_init {l : Launch} (hl0 : l.stackTraces = false) (G : GG) {z n : Nat} {sh : GSh} {R : GR} {I J : GI} {r : Nat} (hzn : z = n) (hfr : gFr n R I J) (hs : sh r = .inl 4) (hr : r < n)  : GMa l yX5_init (.code yX5_init cX5_init 1 none) 1 21 5 60 G [vR r] z n sh R I J (fun z1 n1 sh1 R1 I1 J1 => z1 = z + 5 ∧ n1 = n + 5 ∧ sh1 = travS sh n ∧ R1 = travR R r n ∧ I1 = I ∧ J1 = J) := by
  refine gma_of (lo0 := [some (vR r)]) hl0 (by decide) rfl (Nat.le_of_ble_eq_true rfl) ?_
  intro p e s m args below meth c C hgi
  have C : gC G p l s m args meth c cX5_init 1 RX5 none "<init>" := C
  refine gw_aload_n C 0 dX5_init_0 rfl rfl ?_
  refine gw_objInit C dX5_init_1 kX5_3 (Nat.le_of_ble_eq_true rfl) (Nat.le_of_ble_eq_true rfl) ?_
  refine gw_aload_n C 0 dX5_init_4 rfl rfl ?_
  refine gw_bipush C dX5_init_5 rfl ?_
  refine gw_newarr C (len := 12) (t := 0) (ty := .int) rfl a_int rfl rfl (fun _ => rfl) dX5_init_7 (by decide) (by decide) (by omega) hfr (Nat.le_of_ble_eq_true rfl) (Nat.le_of_ble_eq_true rfl) ?_
  have fr_5 : gFr (n + 1) R I J := hfr.mono (by omega)
  refine gw_putFR (ci := 4) (Cn := RX5) (T0 := TX5) (N := 15) C (ty := tyX5 10) 10 kX5_9 fX5 rfl (by decide) rfl rfl tyX5 tyX5_ok nmX5 rfl C.2.2.2.2.2.2 rfl (by decide) rfl rfl dX5_init_9 (by rw [upS_ne (by omega)]; exact hs) (by omega) ?_
  have fr_7 : gFr (n + 1) (upR R r 10 (some n)) I J := fr_5.upR (by omega)
  refine gw_aload_n C 0 dX5_init_12 rfl rfl ?_
  refine gw_bipush C dX5_init_13 rfl ?_
  refine gw_newarr C (len := 12) (t := 0) (ty := .int) rfl a_int rfl rfl (fun _ => rfl) dX5_init_15 (by decide) (by decide) (by omega) fr_7 (Nat.le_of_ble_eq_true rfl) (Nat.le_of_ble_eq_true rfl) ?_
  have fr_11 : gFr (n + 2) (upR R r 10 (some n)) I J := fr_7.mono (by omega)
  refine gw_putFR (ci := 4) (Cn := RX5) (T0 := TX5) (N := 15) C (ty := tyX5 11) 11 kX5_15 fX5 rfl (by decide) rfl rfl tyX5 tyX5_ok nmX5 rfl C.2.2.2.2.2.2 rfl (by decide) rfl rfl dX5_init_17 (by rw [upS_ne (by omega), upS_ne (by omega)]; exact hs) (by omega) ?_
  have fr_13 : gFr (n + 2) (upR (upR R r 10 (some n)) r 11 (some (n + 1))) I J := fr_11.upR (by omega)
  refine gw_aload_n C 0 dX5_init_20 rfl rfl ?_
  refine gw_bipush C dX5_init_21 rfl ?_
  refine gw_newarr C (len := 12) (t := 0) (ty := .int) rfl a_int rfl rfl (fun _ => rfl) dX5_init_23 (by decide) (by decide) (by omega) fr_13 (Nat.le_of_ble_eq_true rfl) (Nat.le_of_ble_eq_true rfl) ?_
  have fr_17 : gFr (n + 3) (upR (upR R r 10 (some n)) r 11 (some (n + 1))) I J := fr_13.mono (by omega)
  refine gw_putFR (ci := 4) (Cn := RX5) (T0 := TX5) (N := 15) C (ty := tyX5 12) 12 kX5_18 fX5 rfl (by decide) rfl rfl tyX5 tyX5_ok nmX5 rfl C.2.2.2.2.2.2 rfl (by decide) rfl rfl dX5_init_25 (by rw [upS_ne (by omega), upS_ne (by omega), upS_ne (by omega)]; exact hs) (by omega) ?_
  have fr_19 : gFr (n + 3) (upR (upR (upR R r 10 (some n)) r 11 (some (n + 1))) r 12 (some (n + 2))) I J := fr_17.upR (by omega)
  refine gw_aload_n C 0 dX5_init_28 rfl rfl ?_
  refine gw_bipush C dX5_init_29 rfl ?_
  refine gw_newarr C (len := 12) (t := 0) (ty := .int) rfl a_int rfl rfl (fun _ => rfl) dX5_init_31 (by decide) (by decide) (by omega) fr_19 (Nat.le_of_ble_eq_true rfl) (Nat.le_of_ble_eq_true rfl) ?_
  have fr_23 : gFr (n + 4) (upR (upR (upR R r 10 (some n)) r 11 (some (n + 1))) r 12 (some (n + 2))) I J := fr_19.mono (by omega)
  refine gw_putFR (ci := 4) (Cn := RX5) (T0 := TX5) (N := 15) C (ty := tyX5 13) 13 kX5_21 fX5 rfl (by decide) rfl rfl tyX5 tyX5_ok nmX5 rfl C.2.2.2.2.2.2 rfl (by decide) rfl rfl dX5_init_33 (by rw [upS_ne (by omega), upS_ne (by omega), upS_ne (by omega), upS_ne (by omega)]; exact hs) (by omega) ?_
  have fr_25 : gFr (n + 4) (upR (upR (upR (upR R r 10 (some n)) r 11 (some (n + 1))) r 12 (some (n + 2))) r 13 (some (n + 3))) I J := fr_23.upR (by omega)
  refine gw_aload_n C 0 dX5_init_36 rfl rfl ?_
  refine gw_bipush C dX5_init_37 rfl ?_
  refine gw_newarr C (len := 12) (t := 0) (ty := .int) rfl a_int rfl rfl (fun _ => rfl) dX5_init_39 (by decide) (by decide) (by omega) fr_25 (Nat.le_of_ble_eq_true rfl) (Nat.le_of_ble_eq_true rfl) ?_
  have fr_29 : gFr (n + 5) (upR (upR (upR (upR R r 10 (some n)) r 11 (some (n + 1))) r 12 (some (n + 2))) r 13 (some (n + 3))) I J := fr_25.mono (by omega)
  refine gw_putFR (ci := 4) (Cn := RX5) (T0 := TX5) (N := 15) C (ty := tyX5 14) 14 kX5_24 fX5 rfl (by decide) rfl rfl tyX5 tyX5_ok nmX5 rfl C.2.2.2.2.2.2 rfl (by decide) rfl rfl dX5_init_41 (by rw [upS_ne (by omega), upS_ne (by omega), upS_ne (by omega), upS_ne (by omega), upS_ne (by omega)]; exact hs) (by omega) ?_
  have fr_31 : gFr (n + 5) (upR (upR (upR (upR (upR R r 10 (some n)) r 11 (some (n + 1))) r 12 (some (n + 2))) r 13 (some (n + 3))) r 14 (some (n + 4))) I J := fr_29.upR (by omega)
  exact gw_vretA C (Nat.le_of_ble_eq_true rfl) (Nat.le_of_ble_eq_true rfl) dX5_init_44 (⟨rfl, rfl, rfl, rfl, rfl, rfl⟩)
def mineS (sh : GSh) (n : Nat) : GSh := (travS (upS (travS (upS (travS (upS (travS (upS (upS (upS (upS (upS (upS (upS (upS (upS (upS (upS (upS (upS (upS (upS (upS (upS (upS (upS (upS (upS sh n (.inr (0, 3))) (n + 1) (.inr (3, 6))) (n + 2) (.inr (4, 4))) (n + 3) (.inr (5, 4))) (n + 4) (.inl 5)) (n + 5) (.inr (0, 9))) (n + 6) (.inl 5)) (n + 7) (.inr (0, 9))) (n + 8) (.inl 5)) (n + 9) (.inr (0, 9))) (n + 10) (.inl 5)) (n + 11) (.inr (0, 9))) (n + 12) (.inl 5)) (n + 13) (.inr (0, 9))) (n + 14) (.inl 5)) (n + 15) (.inr (0, 9))) (n + 16) (.inl 1)) (n + 17) (.inl 1)) (n + 18) (.inl 1)) (n + 19) (.inl 1)) (n + 20) (.inl 4)) (n + 21)) (n + 26) (.inl 4)) (n + 27)) (n + 32) (.inl 4)) (n + 33)) (n + 38) (.inl 4)) (n + 39))
def mineR (R : GR) (r n : Nat) : GR := (upR (travR (upR (travR (upR (travR (upR (travR (upR (upR (upR (upR (upR (upR (upR (upR (upR (upR (upR (upR (upR (upR (upR (upR (upR (upR (upR (upR R r 0 (some n)) r 4 (some (n + 1))) r 5 (some (n + 2))) r 6 (some (n + 3))) (n + 4) 6 (some (n + 5))) (n + 1) 0 (some (n + 4))) (n + 6) 6 (some (n + 7))) (n + 1) (0 + 1) (some (n + 6))) (n + 8) 6 (some (n + 9))) (n + 1) ((0 + 1) + 1) (some (n + 8))) (n + 10) 6 (some (n + 11))) (n + 1) (((0 + 1) + 1) + 1) (some (n + 10))) (n + 12) 6 (some (n + 13))) (n + 1) ((((0 + 1) + 1) + 1) + 1) (some (n + 12))) (n + 14) 6 (some (n + 15))) (n + 1) (((((0 + 1) + 1) + 1) + 1) + 1) (some (n + 14))) (n + 2) 0 (some (n + 16))) (n + 2) (0 + 1) (some (n + 17))) (n + 2) ((0 + 1) + 1) (some (n + 18))) (n + 2) (((0 + 1) + 1) + 1) (some (n + 19))) (n + 20) (n + 21)) (n + 3) 0 (some (n + 20))) (n + 26) (n + 27)) (n + 3) (0 + 1) (some (n + 26))) (n + 32) (n + 33)) (n + 3) ((0 + 1) + 1) (some (n + 32))) (n + 38) (n + 39)) (n + 3) (((0 + 1) + 1) + 1) (some (n + 38)))
def mineI (I : GI) (n : Nat) : GI := (up (up (up I n 0 20) n 1 30) n 2 500)
theorem mineS_lt {sh : GSh} {n q : Nat} (h : q < n) : mineS sh n q = sh q := by
  unfold mineS
  rw [travS_lt (by omega), upS_ne (by omega), travS_lt (by omega), upS_ne (by omega), travS_lt (by omega), upS_ne (by omega), travS_lt (by omega), upS_ne (by omega), upS_ne (by omega), upS_ne (by omega), upS_ne (by omega), upS_ne (by omega), upS_ne (by omega), upS_ne (by omega), upS_ne (by omega), upS_ne (by omega), upS_ne (by omega), upS_ne (by omega), upS_ne (by omega), upS_ne (by omega), upS_ne (by omega), upS_ne (by omega), upS_ne (by omega), upS_ne (by omega), upS_ne (by omega), upS_ne (by omega), upS_ne (by omega), upS_ne (by omega)]
theorem mineR_ne {R : GR} {r n a : Nat} (h : a ≠ r) (h2 : a < n ∨ n + 44 ≤ a) : mineR R r n a = R a := by
  unfold mineR
  rw [upR_ne (by omega), travR_ne (by omega), upR_ne (by omega), travR_ne (by omega), upR_ne (by omega), travR_ne (by omega), upR_ne (by omega), travR_ne (by omega), upR_ne (by omega), upR_ne (by omega), upR_ne (by omega), upR_ne (by omega), upR_ne (by omega), upR_ne (by omega), upR_ne (by omega), upR_ne (by omega), upR_ne (by omega), upR_ne (by omega), upR_ne (by omega), upR_ne (by omega), upR_ne (by omega), upR_ne (by omega), upR_ne (by omega), upR_ne (by omega), upR_ne (by omega), upR_ne (by omega), upR_ne (by omega), upR_ne (by omega)]
theorem mineI_ne {I : GI} {n a : Nat} (h : a ≠ n) : mineI I n a = I a := by
  unfold mineI
  rw [up_ne h, up_ne h, up_ne h]
theorem c_fr_X2_init {n r : Nat} {R : GR} {I J : GI} (h : gFr n R I J) (hr : r < n) : gFr (n + 44) (mineR R r n) (mineI I n) J := fun k hk j => by
  obtain ⟨a, b, c⟩ := h k (by omega) j
  exact ⟨by rw [mineR_ne (by omega) (by omega)]; exact a, by rw [mineI_ne (by omega)]; exact b, c⟩
set_option maxHeartbeats 4000000 in
set_option maxRecDepth 100000 in
theorem c_X2_init {l : Launch} (hl0 : l.stackTraces = false) (G : GG) {z n : Nat} {sh : GSh} {R : GR} {I J : GI} {r : Nat} (hzn : z = n) (hfr : gFr n R I J) (hs : sh r = .inl 2) (hr : r < n)  : GMa l yX2_init (.code yX2_init cX2_init 2 none) 2 41 44 461 G [vR r] z n sh R I J (fun z1 n1 sh1 R1 I1 J1 => z1 = z + 44 ∧ n1 = n + 44 ∧ sh1 = mineS sh n ∧ R1 = mineR R r n ∧ I1 = mineI I n ∧ J1 = J) := by
  refine gma_of (lo0 := [some (vR r), none]) hl0 (by decide) rfl (Nat.le_of_ble_eq_true rfl) ?_
  intro p e s m args below meth c C hgi
  have C : gC G p l s m args meth c cX2_init 2 RX2 none "<init>" := C
  refine gw_aload_n C 0 dX2_init_0 rfl rfl ?_
  refine gw_objInit C dX2_init_1 kX2_3 (Nat.le_of_ble_eq_true rfl) (Nat.le_of_ble_eq_true rfl) ?_
  refine gw_aload_n C 0 dX2_init_4 rfl rfl ?_
  refine gw_iconst C dX2_init_5 ?_
  refine gw_newarr C (len := 3) (t := 0) (ty := .int) rfl a_int rfl rfl (fun _ => rfl) dX2_init_6 (by decide) (by decide) (by omega) hfr (Nat.le_of_ble_eq_true rfl) (Nat.le_of_ble_eq_true rfl) ?_
  have fr_5 : gFr (n + 1) R I J := hfr.mono (by omega)
  refine gw_dupR C dX2_init_8 ?_
  refine gw_iconst C dX2_init_9 ?_
  refine gw_bipush C dX2_init_10 rfl ?_
  refine gw_iast C 0 dX2_init_12 (by rw [upS_eq]) (by omega) (by omega) (by omega) (by decide) ⟨by decide, by decide⟩ ?_
  have fr_10 : gFr (n + 1) R (up I n 0 20) J := fr_5.upI (by omega)
  refine gw_dupR C dX2_init_13 ?_
  refine gw_iconst C dX2_init_14 ?_
  refine gw_bipush C dX2_init_15 rfl ?_
  refine gw_iast C 1 dX2_init_17 (by rw [upS_eq]) (by omega) (by omega) (by omega) (by decide) ⟨by decide, by decide⟩ ?_
  have fr_15 : gFr (n + 1) R (up (up I n 0 20) n 1 30) J := fr_10.upI (by omega)
  refine gw_dupR C dX2_init_18 ?_
  refine gw_iconst C dX2_init_19 ?_
  refine gw_sipush C dX2_init_20 rfl ?_
  refine gw_iast C 2 dX2_init_23 (by rw [upS_eq]) (by omega) (by omega) (by omega) (by decide) ⟨by decide, by decide⟩ ?_
  have fr_20 : gFr (n + 1) R (up (up (up I n 0 20) n 1 30) n 2 500) J := fr_15.upI (by omega)
  refine gw_putFR (ci := 2) (Cn := RX2) (T0 := TX2) (N := 7) C (ty := tyX2 0) 0 kX2_9 fX2 rfl (by decide) rfl rfl tyX2 tyX2_ok nmX2 rfl C.2.2.2.2.2.2 rfl (by decide) rfl rfl dX2_init_24 (by rw [upS_ne (by omega)]; exact hs) (by omega) ?_
  have fr_22 : gFr (n + 1) (upR R r 0 (some n)) (up (up (up I n 0 20) n 1 30) n 2 500) J := fr_20.upR (by omega)
  refine gw_aload_n C 0 dX2_init_27 rfl rfl ?_
  refine gw_bipush C dX2_init_28 rfl ?_
  refine gw_newq C (len := 6) (t := 3) kX2_15 (List.mem_of_getElem? (i := 0) rfl) rfl (by decide) dX2_init_30 (by decide) (by omega) fr_22 (Nat.le_of_ble_eq_true rfl) (Nat.le_of_ble_eq_true rfl) ?_
  have fr_26 : gFr (n + 2) (upR R r 0 (some n)) (up (up (up I n 0 20) n 1 30) n 2 500) J := fr_22.mono (by omega)
  refine gw_putFR (ci := 2) (Cn := RX2) (T0 := TX2) (N := 7) C (ty := tyX2 4) 4 kX2_17 fX2 rfl (by decide) rfl rfl tyX2 tyX2_ok nmX2 rfl C.2.2.2.2.2.2 rfl (by decide) rfl rfl dX2_init_33 (by rw [upS_ne (by omega), upS_ne (by omega)]; exact hs) (by omega) ?_
  have fr_28 : gFr (n + 2) (upR (upR R r 0 (some n)) r 4 (some (n + 1))) (up (up (up I n 0 20) n 1 30) n 2 500) J := fr_26.upR (by omega)
  refine gw_aload_n C 0 dX2_init_36 rfl rfl ?_
  refine gw_iconst C dX2_init_37 ?_
  refine gw_newq C (len := 4) (t := 4) kX2_21 (List.mem_of_getElem? (i := 1) rfl) rfl (by decide) dX2_init_38 (by decide) (by omega) fr_28 (Nat.le_of_ble_eq_true rfl) (Nat.le_of_ble_eq_true rfl) ?_
  have fr_32 : gFr (n + 3) (upR (upR R r 0 (some n)) r 4 (some (n + 1))) (up (up (up I n 0 20) n 1 30) n 2 500) J := fr_28.mono (by omega)
  refine gw_putFR (ci := 2) (Cn := RX2) (T0 := TX2) (N := 7) C (ty := tyX2 5) 5 kX2_23 fX2 rfl (by decide) rfl rfl tyX2 tyX2_ok nmX2 rfl C.2.2.2.2.2.2 rfl (by decide) rfl rfl dX2_init_41 (by rw [upS_ne (by omega), upS_ne (by omega), upS_ne (by omega)]; exact hs) (by omega) ?_
  have fr_34 : gFr (n + 3) (upR (upR (upR R r 0 (some n)) r 4 (some (n + 1))) r 5 (some (n + 2))) (up (up (up I n 0 20) n 1 30) n 2 500) J := fr_32.upR (by omega)
  refine gw_aload_n C 0 dX2_init_44 rfl rfl ?_
  refine gw_iconst C dX2_init_45 ?_
  refine gw_newq C (len := 4) (t := 5) kX2_27 (List.mem_of_getElem? (i := 2) rfl) rfl (by decide) dX2_init_46 (by decide) (by omega) fr_34 (Nat.le_of_ble_eq_true rfl) (Nat.le_of_ble_eq_true rfl) ?_
  have fr_38 : gFr (n + 4) (upR (upR (upR R r 0 (some n)) r 4 (some (n + 1))) r 5 (some (n + 2))) (up (up (up I n 0 20) n 1 30) n 2 500) J := fr_34.mono (by omega)
  refine gw_putFR (ci := 2) (Cn := RX2) (T0 := TX2) (N := 7) C (ty := tyX2 6) 6 kX2_29 fX2 rfl (by decide) rfl rfl tyX2 tyX2_ok nmX2 rfl C.2.2.2.2.2.2 rfl (by decide) rfl rfl dX2_init_49 (by rw [upS_ne (by omega), upS_ne (by omega), upS_ne (by omega), upS_ne (by omega)]; exact hs) (by omega) ?_
  have fr_40 : gFr (n + 4) (upR (upR (upR (upR R r 0 (some n)) r 4 (some (n + 1))) r 5 (some (n + 2))) r 6 (some (n + 3))) (up (up (up I n 0 20) n 1 30) n 2 500) J := fr_38.upR (by omega)
  refine gw_iconst C dX2_init_52 ?_
  refine gw_istore_n C (lo1 := [some (vR r), some (vI 0)]) 1 dX2_init_53 rfl (by decide) rfl ?_
  refine gw_iload_n C 1 dX2_init_54 rfl rfl ?_
  refine gw_bipush C dX2_init_55 rfl ?_
  refine gw_icmp_ge C (tgt := 79) dX2_init_57 (by decide) ⟨by decide, by decide⟩ ⟨by decide, by decide⟩ (fun h => absurd h (by decide)) (fun _ => ?_)
  refine gw_aload_n C 0 dX2_init_60 rfl rfl ?_
  refine gw_getRs (ci := 2) (Cn := RX2) (T0 := TX2) (N := 7) C (n + 1) 4 kX2_17 fX2 rfl (by decide) rfl rfl dX2_init_61 (by rw [upS_ne (by omega), upS_ne (by omega), upS_ne (by omega), upS_ne (by omega)]; exact hs) (by omega) (by rw [upR_ne2 (by decide), upR_ne2 (by decide), upR_eq]) ?_
  refine gw_iload_n C 1 dX2_init_64 rfl rfl ?_
  refine gw_new C (ci := 5) (Cn := RX6) (T0 := TX6) (N := 7) tyX6 tyX6_ok (by intro j hj; match j, hj with | 0, _ => rfl | 1, _ => rfl | 2, _ => rfl | 3, _ => rfl | 4, _ => rfl | 5, _ => rfl | 6, _ => rfl) fX6 rfl rfl kX2_15 mX6 nX6 dX2_init_65 (by omega) fr_40 (Nat.le_of_ble_eq_true rfl) (Nat.le_of_ble_eq_true rfl) ?_
  have fr_50 : gFr (n + 5) (upR (upR (upR (upR R r 0 (some n)) r 4 (some (n + 1))) r 5 (some (n + 2))) r 6 (some (n + 3))) (up (up (up I n 0 20) n 1 30) n 2 500) J := fr_40.mono (by omega)
  refine gw_dupR C dX2_init_68 ?_
  refine gw_callIN C (as := []) (st := [vR (n + 4), vI 0, vR (n + 1)]) (c_X6_init hl0 G (by omega) fr_50 (by rw [upS_eq]) (by omega)) dX2_init_69 (List.mem_of_getElem? (i := 0) rfl) rfl qX6_init hdX6_init ⟨Nat.le_of_ble_eq_true rfl, Nat.le_of_ble_eq_true rfl⟩ ⟨Nat.le_of_ble_eq_true rfl, Nat.le_of_ble_eq_true rfl⟩ (Nat.le_of_ble_eq_true rfl) rfl ?_
  rintro z1 n1 sh1 R1 I1 J1 ⟨e1, e2, e3, e4, e5, e6⟩
  subst z1 n1 sh1 R1 I1 J1
  try simp only [Nat.add_assoc, Nat.reduceAdd]
  have fr_56 : gFr (n + 6) (upR (upR (upR (upR (upR R r 0 (some n)) r 4 (some (n + 1))) r 5 (some (n + 2))) r 6 (some (n + 3))) (n + 4) 6 (some (n + 5))) (up (up (up I n 0 20) n 1 30) n 2 500) J := (fr_50.mono (by omega)).upR (by omega)
  refine gw_aast C (t := 3) (ci := 5) (cl := (RX6, TX6, 7)) 0 dX2_init_72 rfl (by decide) rfl (by rw [upS_ne (by omega), upS_eq]) (by omega) (by rw [upS_ne (by omega), upS_ne (by omega), upS_ne (by omega), upS_ne (by omega), upS_eq]) (by omega) (by omega) (by omega) (by decide) ?_
  have fr_58 : gFr (n + 6) (upR (upR (upR (upR (upR (upR R r 0 (some n)) r 4 (some (n + 1))) r 5 (some (n + 2))) r 6 (some (n + 3))) (n + 4) 6 (some (n + 5))) (n + 1) 0 (some (n + 4))) (up (up (up I n 0 20) n 1 30) n 2 500) J := fr_56.upR (by omega)
  refine gw_iinc C (lo1 := [some (vR r), some (vI (0 + 1))]) dX2_init_73 rfl (by decide) rfl ?_
  refine gw_goto C (tgt := 54) dX2_init_76 (by decide) ?_
  refine gw_iload_n C 1 dX2_init_54 rfl rfl ?_
  refine gw_bipush C dX2_init_55 rfl ?_
  refine gw_icmp_ge C (tgt := 79) dX2_init_57 (by decide) ⟨by decide, by decide⟩ ⟨by decide, by decide⟩ (fun h => absurd h (by decide)) (fun _ => ?_)
  refine gw_aload_n C 0 dX2_init_60 rfl rfl ?_
  refine gw_getRs (ci := 2) (Cn := RX2) (T0 := TX2) (N := 7) C (n + 1) 4 kX2_17 fX2 rfl (by decide) rfl rfl dX2_init_61 (by rw [upS_ne (by omega), upS_ne (by omega), upS_ne (by omega), upS_ne (by omega), upS_ne (by omega), upS_ne (by omega)]; exact hs) (by omega) (by rw [upR_ne (by omega), upR_ne (by omega), upR_ne2 (by decide), upR_ne2 (by decide), upR_eq]) ?_
  refine gw_iload_n C 1 dX2_init_64 rfl rfl ?_
  refine gw_new C (ci := 5) (Cn := RX6) (T0 := TX6) (N := 7) tyX6 tyX6_ok (by intro j hj; match j, hj with | 0, _ => rfl | 1, _ => rfl | 2, _ => rfl | 3, _ => rfl | 4, _ => rfl | 5, _ => rfl | 6, _ => rfl) fX6 rfl rfl kX2_15 mX6 nX6 dX2_init_65 (by omega) fr_58 (Nat.le_of_ble_eq_true rfl) (Nat.le_of_ble_eq_true rfl) ?_
  have fr_68 : gFr (n + 7) (upR (upR (upR (upR (upR (upR R r 0 (some n)) r 4 (some (n + 1))) r 5 (some (n + 2))) r 6 (some (n + 3))) (n + 4) 6 (some (n + 5))) (n + 1) 0 (some (n + 4))) (up (up (up I n 0 20) n 1 30) n 2 500) J := fr_58.mono (by omega)
  refine gw_dupR C dX2_init_68 ?_
  refine gw_callIN C (as := []) (st := [vR (n + 6), vI (0 + 1), vR (n + 1)]) (c_X6_init hl0 G (by omega) fr_68 (by rw [upS_eq]) (by omega)) dX2_init_69 (List.mem_of_getElem? (i := 0) rfl) rfl qX6_init hdX6_init ⟨Nat.le_of_ble_eq_true rfl, Nat.le_of_ble_eq_true rfl⟩ ⟨Nat.le_of_ble_eq_true rfl, Nat.le_of_ble_eq_true rfl⟩ (Nat.le_of_ble_eq_true rfl) rfl ?_
  rintro z1 n1 sh1 R1 I1 J1 ⟨e1, e2, e3, e4, e5, e6⟩
  subst z1 n1 sh1 R1 I1 J1
  try simp only [Nat.add_assoc, Nat.reduceAdd]
  have fr_74 : gFr (n + 8) (upR (upR (upR (upR (upR (upR (upR R r 0 (some n)) r 4 (some (n + 1))) r 5 (some (n + 2))) r 6 (some (n + 3))) (n + 4) 6 (some (n + 5))) (n + 1) 0 (some (n + 4))) (n + 6) 6 (some (n + 7))) (up (up (up I n 0 20) n 1 30) n 2 500) J := (fr_68.mono (by omega)).upR (by omega)
  refine gw_aast C (t := 3) (ci := 5) (cl := (RX6, TX6, 7)) (0 + 1) dX2_init_72 rfl (by decide) rfl (by rw [upS_ne (by omega), upS_eq]) (by omega) (by rw [upS_ne (by omega), upS_ne (by omega), upS_ne (by omega), upS_ne (by omega), upS_ne (by omega), upS_ne (by omega), upS_eq]) (by omega) (by omega) (by omega) (by decide) ?_
  have fr_76 : gFr (n + 8) (upR (upR (upR (upR (upR (upR (upR (upR R r 0 (some n)) r 4 (some (n + 1))) r 5 (some (n + 2))) r 6 (some (n + 3))) (n + 4) 6 (some (n + 5))) (n + 1) 0 (some (n + 4))) (n + 6) 6 (some (n + 7))) (n + 1) (0 + 1) (some (n + 6))) (up (up (up I n 0 20) n 1 30) n 2 500) J := fr_74.upR (by omega)
  refine gw_iinc C (lo1 := [some (vR r), some (vI ((0 + 1) + 1))]) dX2_init_73 rfl (by decide) rfl ?_
  refine gw_goto C (tgt := 54) dX2_init_76 (by decide) ?_
  refine gw_iload_n C 1 dX2_init_54 rfl rfl ?_
  refine gw_bipush C dX2_init_55 rfl ?_
  refine gw_icmp_ge C (tgt := 79) dX2_init_57 (by decide) ⟨by decide, by decide⟩ ⟨by decide, by decide⟩ (fun h => absurd h (by decide)) (fun _ => ?_)
  refine gw_aload_n C 0 dX2_init_60 rfl rfl ?_
  refine gw_getRs (ci := 2) (Cn := RX2) (T0 := TX2) (N := 7) C (n + 1) 4 kX2_17 fX2 rfl (by decide) rfl rfl dX2_init_61 (by rw [upS_ne (by omega), upS_ne (by omega), upS_ne (by omega), upS_ne (by omega), upS_ne (by omega), upS_ne (by omega), upS_ne (by omega), upS_ne (by omega)]; exact hs) (by omega) (by rw [upR_ne (by omega), upR_ne (by omega), upR_ne (by omega), upR_ne (by omega), upR_ne2 (by decide), upR_ne2 (by decide), upR_eq]) ?_
  refine gw_iload_n C 1 dX2_init_64 rfl rfl ?_
  refine gw_new C (ci := 5) (Cn := RX6) (T0 := TX6) (N := 7) tyX6 tyX6_ok (by intro j hj; match j, hj with | 0, _ => rfl | 1, _ => rfl | 2, _ => rfl | 3, _ => rfl | 4, _ => rfl | 5, _ => rfl | 6, _ => rfl) fX6 rfl rfl kX2_15 mX6 nX6 dX2_init_65 (by omega) fr_76 (Nat.le_of_ble_eq_true rfl) (Nat.le_of_ble_eq_true rfl) ?_
  have fr_86 : gFr (n + 9) (upR (upR (upR (upR (upR (upR (upR (upR R r 0 (some n)) r 4 (some (n + 1))) r 5 (some (n + 2))) r 6 (some (n + 3))) (n + 4) 6 (some (n + 5))) (n + 1) 0 (some (n + 4))) (n + 6) 6 (some (n + 7))) (n + 1) (0 + 1) (some (n + 6))) (up (up (up I n 0 20) n 1 30) n 2 500) J := fr_76.mono (by omega)
  refine gw_dupR C dX2_init_68 ?_
  refine gw_callIN C (as := []) (st := [vR (n + 8), vI ((0 + 1) + 1), vR (n + 1)]) (c_X6_init hl0 G (by omega) fr_86 (by rw [upS_eq]) (by omega)) dX2_init_69 (List.mem_of_getElem? (i := 0) rfl) rfl qX6_init hdX6_init ⟨Nat.le_of_ble_eq_true rfl, Nat.le_of_ble_eq_true rfl⟩ ⟨Nat.le_of_ble_eq_true rfl, Nat.le_of_ble_eq_true rfl⟩ (Nat.le_of_ble_eq_true rfl) rfl ?_
  rintro z1 n1 sh1 R1 I1 J1 ⟨e1, e2, e3, e4, e5, e6⟩
  subst z1 n1 sh1 R1 I1 J1
  try simp only [Nat.add_assoc, Nat.reduceAdd]
  have fr_92 : gFr (n + 10) (upR (upR (upR (upR (upR (upR (upR (upR (upR R r 0 (some n)) r 4 (some (n + 1))) r 5 (some (n + 2))) r 6 (some (n + 3))) (n + 4) 6 (some (n + 5))) (n + 1) 0 (some (n + 4))) (n + 6) 6 (some (n + 7))) (n + 1) (0 + 1) (some (n + 6))) (n + 8) 6 (some (n + 9))) (up (up (up I n 0 20) n 1 30) n 2 500) J := (fr_86.mono (by omega)).upR (by omega)
  refine gw_aast C (t := 3) (ci := 5) (cl := (RX6, TX6, 7)) ((0 + 1) + 1) dX2_init_72 rfl (by decide) rfl (by rw [upS_ne (by omega), upS_eq]) (by omega) (by rw [upS_ne (by omega), upS_ne (by omega), upS_ne (by omega), upS_ne (by omega), upS_ne (by omega), upS_ne (by omega), upS_ne (by omega), upS_ne (by omega), upS_eq]) (by omega) (by omega) (by omega) (by decide) ?_
  have fr_94 : gFr (n + 10) (upR (upR (upR (upR (upR (upR (upR (upR (upR (upR R r 0 (some n)) r 4 (some (n + 1))) r 5 (some (n + 2))) r 6 (some (n + 3))) (n + 4) 6 (some (n + 5))) (n + 1) 0 (some (n + 4))) (n + 6) 6 (some (n + 7))) (n + 1) (0 + 1) (some (n + 6))) (n + 8) 6 (some (n + 9))) (n + 1) ((0 + 1) + 1) (some (n + 8))) (up (up (up I n 0 20) n 1 30) n 2 500) J := fr_92.upR (by omega)
  refine gw_iinc C (lo1 := [some (vR r), some (vI (((0 + 1) + 1) + 1))]) dX2_init_73 rfl (by decide) rfl ?_
  refine gw_goto C (tgt := 54) dX2_init_76 (by decide) ?_
  refine gw_iload_n C 1 dX2_init_54 rfl rfl ?_
  refine gw_bipush C dX2_init_55 rfl ?_
  refine gw_icmp_ge C (tgt := 79) dX2_init_57 (by decide) ⟨by decide, by decide⟩ ⟨by decide, by decide⟩ (fun h => absurd h (by decide)) (fun _ => ?_)
  refine gw_aload_n C 0 dX2_init_60 rfl rfl ?_
  refine gw_getRs (ci := 2) (Cn := RX2) (T0 := TX2) (N := 7) C (n + 1) 4 kX2_17 fX2 rfl (by decide) rfl rfl dX2_init_61 (by rw [upS_ne (by omega), upS_ne (by omega), upS_ne (by omega), upS_ne (by omega), upS_ne (by omega), upS_ne (by omega), upS_ne (by omega), upS_ne (by omega), upS_ne (by omega), upS_ne (by omega)]; exact hs) (by omega) (by rw [upR_ne (by omega), upR_ne (by omega), upR_ne (by omega), upR_ne (by omega), upR_ne (by omega), upR_ne (by omega), upR_ne2 (by decide), upR_ne2 (by decide), upR_eq]) ?_
  refine gw_iload_n C 1 dX2_init_64 rfl rfl ?_
  refine gw_new C (ci := 5) (Cn := RX6) (T0 := TX6) (N := 7) tyX6 tyX6_ok (by intro j hj; match j, hj with | 0, _ => rfl | 1, _ => rfl | 2, _ => rfl | 3, _ => rfl | 4, _ => rfl | 5, _ => rfl | 6, _ => rfl) fX6 rfl rfl kX2_15 mX6 nX6 dX2_init_65 (by omega) fr_94 (Nat.le_of_ble_eq_true rfl) (Nat.le_of_ble_eq_true rfl) ?_
  have fr_104 : gFr (n + 11) (upR (upR (upR (upR (upR (upR (upR (upR (upR (upR R r 0 (some n)) r 4 (some (n + 1))) r 5 (some (n + 2))) r 6 (some (n + 3))) (n + 4) 6 (some (n + 5))) (n + 1) 0 (some (n + 4))) (n + 6) 6 (some (n + 7))) (n + 1) (0 + 1) (some (n + 6))) (n + 8) 6 (some (n + 9))) (n + 1) ((0 + 1) + 1) (some (n + 8))) (up (up (up I n 0 20) n 1 30) n 2 500) J := fr_94.mono (by omega)
  refine gw_dupR C dX2_init_68 ?_
  refine gw_callIN C (as := []) (st := [vR (n + 10), vI (((0 + 1) + 1) + 1), vR (n + 1)]) (c_X6_init hl0 G (by omega) fr_104 (by rw [upS_eq]) (by omega)) dX2_init_69 (List.mem_of_getElem? (i := 0) rfl) rfl qX6_init hdX6_init ⟨Nat.le_of_ble_eq_true rfl, Nat.le_of_ble_eq_true rfl⟩ ⟨Nat.le_of_ble_eq_true rfl, Nat.le_of_ble_eq_true rfl⟩ (Nat.le_of_ble_eq_true rfl) rfl ?_
  rintro z1 n1 sh1 R1 I1 J1 ⟨e1, e2, e3, e4, e5, e6⟩
  subst z1 n1 sh1 R1 I1 J1
  try simp only [Nat.add_assoc, Nat.reduceAdd]
  have fr_110 : gFr (n + 12) (upR (upR (upR (upR (upR (upR (upR (upR (upR (upR (upR R r 0 (some n)) r 4 (some (n + 1))) r 5 (some (n + 2))) r 6 (some (n + 3))) (n + 4) 6 (some (n + 5))) (n + 1) 0 (some (n + 4))) (n + 6) 6 (some (n + 7))) (n + 1) (0 + 1) (some (n + 6))) (n + 8) 6 (some (n + 9))) (n + 1) ((0 + 1) + 1) (some (n + 8))) (n + 10) 6 (some (n + 11))) (up (up (up I n 0 20) n 1 30) n 2 500) J := (fr_104.mono (by omega)).upR (by omega)
  refine gw_aast C (t := 3) (ci := 5) (cl := (RX6, TX6, 7)) (((0 + 1) + 1) + 1) dX2_init_72 rfl (by decide) rfl (by rw [upS_ne (by omega), upS_eq]) (by omega) (by rw [upS_ne (by omega), upS_ne (by omega), upS_ne (by omega), upS_ne (by omega), upS_ne (by omega), upS_ne (by omega), upS_ne (by omega), upS_ne (by omega), upS_ne (by omega), upS_ne (by omega), upS_eq]) (by omega) (by omega) (by omega) (by decide) ?_
  have fr_112 : gFr (n + 12) (upR (upR (upR (upR (upR (upR (upR (upR (upR (upR (upR (upR R r 0 (some n)) r 4 (some (n + 1))) r 5 (some (n + 2))) r 6 (some (n + 3))) (n + 4) 6 (some (n + 5))) (n + 1) 0 (some (n + 4))) (n + 6) 6 (some (n + 7))) (n + 1) (0 + 1) (some (n + 6))) (n + 8) 6 (some (n + 9))) (n + 1) ((0 + 1) + 1) (some (n + 8))) (n + 10) 6 (some (n + 11))) (n + 1) (((0 + 1) + 1) + 1) (some (n + 10))) (up (up (up I n 0 20) n 1 30) n 2 500) J := fr_110.upR (by omega)
  refine gw_iinc C (lo1 := [some (vR r), some (vI ((((0 + 1) + 1) + 1) + 1))]) dX2_init_73 rfl (by decide) rfl ?_
  refine gw_goto C (tgt := 54) dX2_init_76 (by decide) ?_
  refine gw_iload_n C 1 dX2_init_54 rfl rfl ?_
  refine gw_bipush C dX2_init_55 rfl ?_
  refine gw_icmp_ge C (tgt := 79) dX2_init_57 (by decide) ⟨by decide, by decide⟩ ⟨by decide, by decide⟩ (fun h => absurd h (by decide)) (fun _ => ?_)
  refine gw_aload_n C 0 dX2_init_60 rfl rfl ?_
  refine gw_getRs (ci := 2) (Cn := RX2) (T0 := TX2) (N := 7) C (n + 1) 4 kX2_17 fX2 rfl (by decide) rfl rfl dX2_init_61 (by rw [upS_ne (by omega), upS_ne (by omega), upS_ne (by omega), upS_ne (by omega), upS_ne (by omega), upS_ne (by omega), upS_ne (by omega), upS_ne (by omega), upS_ne (by omega), upS_ne (by omega), upS_ne (by omega), upS_ne (by omega)]; exact hs) (by omega) (by rw [upR_ne (by omega), upR_ne (by omega), upR_ne (by omega), upR_ne (by omega), upR_ne (by omega), upR_ne (by omega), upR_ne (by omega), upR_ne (by omega), upR_ne2 (by decide), upR_ne2 (by decide), upR_eq]) ?_
  refine gw_iload_n C 1 dX2_init_64 rfl rfl ?_
  refine gw_new C (ci := 5) (Cn := RX6) (T0 := TX6) (N := 7) tyX6 tyX6_ok (by intro j hj; match j, hj with | 0, _ => rfl | 1, _ => rfl | 2, _ => rfl | 3, _ => rfl | 4, _ => rfl | 5, _ => rfl | 6, _ => rfl) fX6 rfl rfl kX2_15 mX6 nX6 dX2_init_65 (by omega) fr_112 (Nat.le_of_ble_eq_true rfl) (Nat.le_of_ble_eq_true rfl) ?_
  have fr_122 : gFr (n + 13) (upR (upR (upR (upR (upR (upR (upR (upR (upR (upR (upR (upR R r 0 (some n)) r 4 (some (n + 1))) r 5 (some (n + 2))) r 6 (some (n + 3))) (n + 4) 6 (some (n + 5))) (n + 1) 0 (some (n + 4))) (n + 6) 6 (some (n + 7))) (n + 1) (0 + 1) (some (n + 6))) (n + 8) 6 (some (n + 9))) (n + 1) ((0 + 1) + 1) (some (n + 8))) (n + 10) 6 (some (n + 11))) (n + 1) (((0 + 1) + 1) + 1) (some (n + 10))) (up (up (up I n 0 20) n 1 30) n 2 500) J := fr_112.mono (by omega)
  refine gw_dupR C dX2_init_68 ?_
  refine gw_callIN C (as := []) (st := [vR (n + 12), vI ((((0 + 1) + 1) + 1) + 1), vR (n + 1)]) (c_X6_init hl0 G (by omega) fr_122 (by rw [upS_eq]) (by omega)) dX2_init_69 (List.mem_of_getElem? (i := 0) rfl) rfl qX6_init hdX6_init ⟨Nat.le_of_ble_eq_true rfl, Nat.le_of_ble_eq_true rfl⟩ ⟨Nat.le_of_ble_eq_true rfl, Nat.le_of_ble_eq_true rfl⟩ (Nat.le_of_ble_eq_true rfl) rfl ?_
  rintro z1 n1 sh1 R1 I1 J1 ⟨e1, e2, e3, e4, e5, e6⟩
  subst z1 n1 sh1 R1 I1 J1
  try simp only [Nat.add_assoc, Nat.reduceAdd]
  have fr_128 : gFr (n + 14) (upR (upR (upR (upR (upR (upR (upR (upR (upR (upR (upR (upR (upR R r 0 (some n)) r 4 (some (n + 1))) r 5 (some (n + 2))) r 6 (some (n + 3))) (n + 4) 6 (some (n + 5))) (n + 1) 0 (some (n + 4))) (n + 6) 6 (some (n + 7))) (n + 1) (0 + 1) (some (n + 6))) (n + 8) 6 (some (n + 9))) (n + 1) ((0 + 1) + 1) (some (n + 8))) (n + 10) 6 (some (n + 11))) (n + 1) (((0 + 1) + 1) + 1) (some (n + 10))) (n + 12) 6 (some (n + 13))) (up (up (up I n 0 20) n 1 30) n 2 500) J := (fr_122.mono (by omega)).upR (by omega)
  refine gw_aast C (t := 3) (ci := 5) (cl := (RX6, TX6, 7)) ((((0 + 1) + 1) + 1) + 1) dX2_init_72 rfl (by decide) rfl (by rw [upS_ne (by omega), upS_eq]) (by omega) (by rw [upS_ne (by omega), upS_ne (by omega), upS_ne (by omega), upS_ne (by omega), upS_ne (by omega), upS_ne (by omega), upS_ne (by omega), upS_ne (by omega), upS_ne (by omega), upS_ne (by omega), upS_ne (by omega), upS_ne (by omega), upS_eq]) (by omega) (by omega) (by omega) (by decide) ?_
  have fr_130 : gFr (n + 14) (upR (upR (upR (upR (upR (upR (upR (upR (upR (upR (upR (upR (upR (upR R r 0 (some n)) r 4 (some (n + 1))) r 5 (some (n + 2))) r 6 (some (n + 3))) (n + 4) 6 (some (n + 5))) (n + 1) 0 (some (n + 4))) (n + 6) 6 (some (n + 7))) (n + 1) (0 + 1) (some (n + 6))) (n + 8) 6 (some (n + 9))) (n + 1) ((0 + 1) + 1) (some (n + 8))) (n + 10) 6 (some (n + 11))) (n + 1) (((0 + 1) + 1) + 1) (some (n + 10))) (n + 12) 6 (some (n + 13))) (n + 1) ((((0 + 1) + 1) + 1) + 1) (some (n + 12))) (up (up (up I n 0 20) n 1 30) n 2 500) J := fr_128.upR (by omega)
  refine gw_iinc C (lo1 := [some (vR r), some (vI (((((0 + 1) + 1) + 1) + 1) + 1))]) dX2_init_73 rfl (by decide) rfl ?_
  refine gw_goto C (tgt := 54) dX2_init_76 (by decide) ?_
  refine gw_iload_n C 1 dX2_init_54 rfl rfl ?_
  refine gw_bipush C dX2_init_55 rfl ?_
  refine gw_icmp_ge C (tgt := 79) dX2_init_57 (by decide) ⟨by decide, by decide⟩ ⟨by decide, by decide⟩ (fun h => absurd h (by decide)) (fun _ => ?_)
  refine gw_aload_n C 0 dX2_init_60 rfl rfl ?_
  refine gw_getRs (ci := 2) (Cn := RX2) (T0 := TX2) (N := 7) C (n + 1) 4 kX2_17 fX2 rfl (by decide) rfl rfl dX2_init_61 (by rw [upS_ne (by omega), upS_ne (by omega), upS_ne (by omega), upS_ne (by omega), upS_ne (by omega), upS_ne (by omega), upS_ne (by omega), upS_ne (by omega), upS_ne (by omega), upS_ne (by omega), upS_ne (by omega), upS_ne (by omega), upS_ne (by omega), upS_ne (by omega)]; exact hs) (by omega) (by rw [upR_ne (by omega), upR_ne (by omega), upR_ne (by omega), upR_ne (by omega), upR_ne (by omega), upR_ne (by omega), upR_ne (by omega), upR_ne (by omega), upR_ne (by omega), upR_ne (by omega), upR_ne2 (by decide), upR_ne2 (by decide), upR_eq]) ?_
  refine gw_iload_n C 1 dX2_init_64 rfl rfl ?_
  refine gw_new C (ci := 5) (Cn := RX6) (T0 := TX6) (N := 7) tyX6 tyX6_ok (by intro j hj; match j, hj with | 0, _ => rfl | 1, _ => rfl | 2, _ => rfl | 3, _ => rfl | 4, _ => rfl | 5, _ => rfl | 6, _ => rfl) fX6 rfl rfl kX2_15 mX6 nX6 dX2_init_65 (by omega) fr_130 (Nat.le_of_ble_eq_true rfl) (Nat.le_of_ble_eq_true rfl) ?_
  have fr_140 : gFr (n + 15) (upR (upR (upR (upR (upR (upR (upR (upR (upR (upR (upR (upR (upR (upR R r 0 (some n)) r 4 (some (n + 1))) r 5 (some (n + 2))) r 6 (some (n + 3))) (n + 4) 6 (some (n + 5))) (n + 1) 0 (some (n + 4))) (n + 6) 6 (some (n + 7))) (n + 1) (0 + 1) (some (n + 6))) (n + 8) 6 (some (n + 9))) (n + 1) ((0 + 1) + 1) (some (n + 8))) (n + 10) 6 (some (n + 11))) (n + 1) (((0 + 1) + 1) + 1) (some (n + 10))) (n + 12) 6 (some (n + 13))) (n + 1) ((((0 + 1) + 1) + 1) + 1) (some (n + 12))) (up (up (up I n 0 20) n 1 30) n 2 500) J := fr_130.mono (by omega)
  refine gw_dupR C dX2_init_68 ?_
  refine gw_callIN C (as := []) (st := [vR (n + 14), vI (((((0 + 1) + 1) + 1) + 1) + 1), vR (n + 1)]) (c_X6_init hl0 G (by omega) fr_140 (by rw [upS_eq]) (by omega)) dX2_init_69 (List.mem_of_getElem? (i := 0) rfl) rfl qX6_init hdX6_init ⟨Nat.le_of_ble_eq_true rfl, Nat.le_of_ble_eq_true rfl⟩ ⟨Nat.le_of_ble_eq_true rfl, Nat.le_of_ble_eq_true rfl⟩ (Nat.le_of_ble_eq_true rfl) rfl ?_
  rintro z1 n1 sh1 R1 I1 J1 ⟨e1, e2, e3, e4, e5, e6⟩
  subst z1 n1 sh1 R1 I1 J1
  try simp only [Nat.add_assoc, Nat.reduceAdd]
  have fr_146 : gFr (n + 16) (upR (upR (upR (upR (upR (upR (upR (upR (upR (upR (upR (upR (upR (upR (upR R r 0 (some n)) r 4 (some (n + 1))) r 5 (some (n + 2))) r 6 (some (n + 3))) (n + 4) 6 (some (n + 5))) (n + 1) 0 (some (n + 4))) (n + 6) 6 (some (n + 7))) (n + 1) (0 + 1) (some (n + 6))) (n + 8) 6 (some (n + 9))) (n + 1) ((0 + 1) + 1) (some (n + 8))) (n + 10) 6 (some (n + 11))) (n + 1) (((0 + 1) + 1) + 1) (some (n + 10))) (n + 12) 6 (some (n + 13))) (n + 1) ((((0 + 1) + 1) + 1) + 1) (some (n + 12))) (n + 14) 6 (some (n + 15))) (up (up (up I n 0 20) n 1 30) n 2 500) J := (fr_140.mono (by omega)).upR (by omega)
  refine gw_aast C (t := 3) (ci := 5) (cl := (RX6, TX6, 7)) (((((0 + 1) + 1) + 1) + 1) + 1) dX2_init_72 rfl (by decide) rfl (by rw [upS_ne (by omega), upS_eq]) (by omega) (by rw [upS_ne (by omega), upS_ne (by omega), upS_ne (by omega), upS_ne (by omega), upS_ne (by omega), upS_ne (by omega), upS_ne (by omega), upS_ne (by omega), upS_ne (by omega), upS_ne (by omega), upS_ne (by omega), upS_ne (by omega), upS_ne (by omega), upS_ne (by omega), upS_eq]) (by omega) (by omega) (by omega) (by decide) ?_
  have fr_148 : gFr (n + 16) (upR (upR (upR (upR (upR (upR (upR (upR (upR (upR (upR (upR (upR (upR (upR (upR R r 0 (some n)) r 4 (some (n + 1))) r 5 (some (n + 2))) r 6 (some (n + 3))) (n + 4) 6 (some (n + 5))) (n + 1) 0 (some (n + 4))) (n + 6) 6 (some (n + 7))) (n + 1) (0 + 1) (some (n + 6))) (n + 8) 6 (some (n + 9))) (n + 1) ((0 + 1) + 1) (some (n + 8))) (n + 10) 6 (some (n + 11))) (n + 1) (((0 + 1) + 1) + 1) (some (n + 10))) (n + 12) 6 (some (n + 13))) (n + 1) ((((0 + 1) + 1) + 1) + 1) (some (n + 12))) (n + 14) 6 (some (n + 15))) (n + 1) (((((0 + 1) + 1) + 1) + 1) + 1) (some (n + 14))) (up (up (up I n 0 20) n 1 30) n 2 500) J := fr_146.upR (by omega)
  refine gw_iinc C (lo1 := [some (vR r), some (vI ((((((0 + 1) + 1) + 1) + 1) + 1) + 1))]) dX2_init_73 rfl (by decide) rfl ?_
  refine gw_goto C (tgt := 54) dX2_init_76 (by decide) ?_
  refine gw_iload_n C 1 dX2_init_54 rfl rfl ?_
  refine gw_bipush C dX2_init_55 rfl ?_
  refine gw_icmp_ge C (tgt := 79) dX2_init_57 (by decide) ⟨by decide, by decide⟩ ⟨by decide, by decide⟩ (fun _ => ?_) (fun h => absurd h (by decide))
  refine gw_iconst C dX2_init_79 ?_
  refine gw_istore_n C (lo1 := [some (vR r), some (vI 0)]) 1 dX2_init_80 rfl (by decide) rfl ?_
  refine gw_iload_n C 1 dX2_init_81 rfl rfl ?_
  refine gw_iconst C dX2_init_82 ?_
  refine gw_icmp_ge C (tgt := 105) dX2_init_83 (by decide) ⟨by decide, by decide⟩ ⟨by decide, by decide⟩ (fun h => absurd h (by decide)) (fun _ => ?_)
  refine gw_aload_n C 0 dX2_init_86 rfl rfl ?_
  refine gw_getRs (ci := 2) (Cn := RX2) (T0 := TX2) (N := 7) C (n + 2) 5 kX2_23 fX2 rfl (by decide) rfl rfl dX2_init_87 (by rw [upS_ne (by omega), upS_ne (by omega), upS_ne (by omega), upS_ne (by omega), upS_ne (by omega), upS_ne (by omega), upS_ne (by omega), upS_ne (by omega), upS_ne (by omega), upS_ne (by omega), upS_ne (by omega), upS_ne (by omega), upS_ne (by omega), upS_ne (by omega), upS_ne (by omega), upS_ne (by omega)]; exact hs) (by omega) (by rw [upR_ne (by omega), upR_ne (by omega), upR_ne (by omega), upR_ne (by omega), upR_ne (by omega), upR_ne (by omega), upR_ne (by omega), upR_ne (by omega), upR_ne (by omega), upR_ne (by omega), upR_ne (by omega), upR_ne (by omega), upR_ne2 (by decide), upR_eq]) ?_
  refine gw_iload_n C 1 dX2_init_90 rfl rfl ?_
  refine gw_new C (ci := 1) (Cn := RX1) (T0 := TX1) (N := 12) tyX1 tyX1_ok (by intro j hj; match j, hj with | 0, _ => rfl | 1, _ => rfl | 2, _ => rfl | 3, _ => rfl | 4, _ => rfl | 5, _ => rfl | 6, _ => rfl | 7, _ => rfl | 8, _ => rfl | 9, _ => rfl | 10, _ => rfl | 11, _ => rfl) fX1 rfl rfl kX2_21 mX1 nX1 dX2_init_91 (by omega) fr_148 (Nat.le_of_ble_eq_true rfl) (Nat.le_of_ble_eq_true rfl) ?_
  have fr_163 : gFr (n + 17) (upR (upR (upR (upR (upR (upR (upR (upR (upR (upR (upR (upR (upR (upR (upR (upR R r 0 (some n)) r 4 (some (n + 1))) r 5 (some (n + 2))) r 6 (some (n + 3))) (n + 4) 6 (some (n + 5))) (n + 1) 0 (some (n + 4))) (n + 6) 6 (some (n + 7))) (n + 1) (0 + 1) (some (n + 6))) (n + 8) 6 (some (n + 9))) (n + 1) ((0 + 1) + 1) (some (n + 8))) (n + 10) 6 (some (n + 11))) (n + 1) (((0 + 1) + 1) + 1) (some (n + 10))) (n + 12) 6 (some (n + 13))) (n + 1) ((((0 + 1) + 1) + 1) + 1) (some (n + 12))) (n + 14) 6 (some (n + 15))) (n + 1) (((((0 + 1) + 1) + 1) + 1) + 1) (some (n + 14))) (up (up (up I n 0 20) n 1 30) n 2 500) J := fr_148.mono (by omega)
  refine gw_dupR C dX2_init_94 ?_
  refine gw_callIN C (as := []) (st := [vR (n + 16), vI 0, vR (n + 2)]) (c_X1_init hl0 G (by omega) fr_163 (by rw [upS_eq]) (by omega)) dX2_init_95 (List.mem_of_getElem? (i := 1) rfl) rfl qX1_init hdX1_init ⟨Nat.le_of_ble_eq_true rfl, Nat.le_of_ble_eq_true rfl⟩ ⟨Nat.le_of_ble_eq_true rfl, Nat.le_of_ble_eq_true rfl⟩ (Nat.le_of_ble_eq_true rfl) rfl ?_
  rintro z1 n1 sh1 R1 I1 J1 ⟨e1, e2, e3, e4, e5, e6⟩
  subst z1 n1 sh1 R1 I1 J1
  try simp only [Nat.add_assoc, Nat.reduceAdd]
  have fr_169 : gFr (n + 17) (upR (upR (upR (upR (upR (upR (upR (upR (upR (upR (upR (upR (upR (upR (upR (upR R r 0 (some n)) r 4 (some (n + 1))) r 5 (some (n + 2))) r 6 (some (n + 3))) (n + 4) 6 (some (n + 5))) (n + 1) 0 (some (n + 4))) (n + 6) 6 (some (n + 7))) (n + 1) (0 + 1) (some (n + 6))) (n + 8) 6 (some (n + 9))) (n + 1) ((0 + 1) + 1) (some (n + 8))) (n + 10) 6 (some (n + 11))) (n + 1) (((0 + 1) + 1) + 1) (some (n + 10))) (n + 12) 6 (some (n + 13))) (n + 1) ((((0 + 1) + 1) + 1) + 1) (some (n + 12))) (n + 14) 6 (some (n + 15))) (n + 1) (((((0 + 1) + 1) + 1) + 1) + 1) (some (n + 14))) (up (up (up I n 0 20) n 1 30) n 2 500) J := fr_163
  refine gw_aast C (t := 4) (ci := 1) (cl := (RX1, TX1, 12)) 0 dX2_init_98 rfl (by decide) rfl (by rw [upS_eq]) (by omega) (by rw [upS_ne (by omega), upS_ne (by omega), upS_ne (by omega), upS_ne (by omega), upS_ne (by omega), upS_ne (by omega), upS_ne (by omega), upS_ne (by omega), upS_ne (by omega), upS_ne (by omega), upS_ne (by omega), upS_ne (by omega), upS_ne (by omega), upS_ne (by omega), upS_eq]) (by omega) (by omega) (by omega) (by decide) ?_
  have fr_171 : gFr (n + 17) (upR (upR (upR (upR (upR (upR (upR (upR (upR (upR (upR (upR (upR (upR (upR (upR (upR R r 0 (some n)) r 4 (some (n + 1))) r 5 (some (n + 2))) r 6 (some (n + 3))) (n + 4) 6 (some (n + 5))) (n + 1) 0 (some (n + 4))) (n + 6) 6 (some (n + 7))) (n + 1) (0 + 1) (some (n + 6))) (n + 8) 6 (some (n + 9))) (n + 1) ((0 + 1) + 1) (some (n + 8))) (n + 10) 6 (some (n + 11))) (n + 1) (((0 + 1) + 1) + 1) (some (n + 10))) (n + 12) 6 (some (n + 13))) (n + 1) ((((0 + 1) + 1) + 1) + 1) (some (n + 12))) (n + 14) 6 (some (n + 15))) (n + 1) (((((0 + 1) + 1) + 1) + 1) + 1) (some (n + 14))) (n + 2) 0 (some (n + 16))) (up (up (up I n 0 20) n 1 30) n 2 500) J := fr_169.upR (by omega)
  refine gw_iinc C (lo1 := [some (vR r), some (vI (0 + 1))]) dX2_init_99 rfl (by decide) rfl ?_
  refine gw_goto C (tgt := 81) dX2_init_102 (by decide) ?_
  refine gw_iload_n C 1 dX2_init_81 rfl rfl ?_
  refine gw_iconst C dX2_init_82 ?_
  refine gw_icmp_ge C (tgt := 105) dX2_init_83 (by decide) ⟨by decide, by decide⟩ ⟨by decide, by decide⟩ (fun h => absurd h (by decide)) (fun _ => ?_)
  refine gw_aload_n C 0 dX2_init_86 rfl rfl ?_
  refine gw_getRs (ci := 2) (Cn := RX2) (T0 := TX2) (N := 7) C (n + 2) 5 kX2_23 fX2 rfl (by decide) rfl rfl dX2_init_87 (by rw [upS_ne (by omega), upS_ne (by omega), upS_ne (by omega), upS_ne (by omega), upS_ne (by omega), upS_ne (by omega), upS_ne (by omega), upS_ne (by omega), upS_ne (by omega), upS_ne (by omega), upS_ne (by omega), upS_ne (by omega), upS_ne (by omega), upS_ne (by omega), upS_ne (by omega), upS_ne (by omega), upS_ne (by omega)]; exact hs) (by omega) (by rw [upR_ne (by omega), upR_ne (by omega), upR_ne (by omega), upR_ne (by omega), upR_ne (by omega), upR_ne (by omega), upR_ne (by omega), upR_ne (by omega), upR_ne (by omega), upR_ne (by omega), upR_ne (by omega), upR_ne (by omega), upR_ne (by omega), upR_ne2 (by decide), upR_eq]) ?_
  refine gw_iload_n C 1 dX2_init_90 rfl rfl ?_
  refine gw_new C (ci := 1) (Cn := RX1) (T0 := TX1) (N := 12) tyX1 tyX1_ok (by intro j hj; match j, hj with | 0, _ => rfl | 1, _ => rfl | 2, _ => rfl | 3, _ => rfl | 4, _ => rfl | 5, _ => rfl | 6, _ => rfl | 7, _ => rfl | 8, _ => rfl | 9, _ => rfl | 10, _ => rfl | 11, _ => rfl) fX1 rfl rfl kX2_21 mX1 nX1 dX2_init_91 (by omega) fr_171 (Nat.le_of_ble_eq_true rfl) (Nat.le_of_ble_eq_true rfl) ?_
  have fr_181 : gFr (n + 18) (upR (upR (upR (upR (upR (upR (upR (upR (upR (upR (upR (upR (upR (upR (upR (upR (upR R r 0 (some n)) r 4 (some (n + 1))) r 5 (some (n + 2))) r 6 (some (n + 3))) (n + 4) 6 (some (n + 5))) (n + 1) 0 (some (n + 4))) (n + 6) 6 (some (n + 7))) (n + 1) (0 + 1) (some (n + 6))) (n + 8) 6 (some (n + 9))) (n + 1) ((0 + 1) + 1) (some (n + 8))) (n + 10) 6 (some (n + 11))) (n + 1) (((0 + 1) + 1) + 1) (some (n + 10))) (n + 12) 6 (some (n + 13))) (n + 1) ((((0 + 1) + 1) + 1) + 1) (some (n + 12))) (n + 14) 6 (some (n + 15))) (n + 1) (((((0 + 1) + 1) + 1) + 1) + 1) (some (n + 14))) (n + 2) 0 (some (n + 16))) (up (up (up I n 0 20) n 1 30) n 2 500) J := fr_171.mono (by omega)
  refine gw_dupR C dX2_init_94 ?_
  refine gw_callIN C (as := []) (st := [vR (n + 17), vI (0 + 1), vR (n + 2)]) (c_X1_init hl0 G (by omega) fr_181 (by rw [upS_eq]) (by omega)) dX2_init_95 (List.mem_of_getElem? (i := 1) rfl) rfl qX1_init hdX1_init ⟨Nat.le_of_ble_eq_true rfl, Nat.le_of_ble_eq_true rfl⟩ ⟨Nat.le_of_ble_eq_true rfl, Nat.le_of_ble_eq_true rfl⟩ (Nat.le_of_ble_eq_true rfl) rfl ?_
  rintro z1 n1 sh1 R1 I1 J1 ⟨e1, e2, e3, e4, e5, e6⟩
  subst z1 n1 sh1 R1 I1 J1
  try simp only [Nat.add_assoc, Nat.reduceAdd]
  have fr_187 : gFr (n + 18) (upR (upR (upR (upR (upR (upR (upR (upR (upR (upR (upR (upR (upR (upR (upR (upR (upR R r 0 (some n)) r 4 (some (n + 1))) r 5 (some (n + 2))) r 6 (some (n + 3))) (n + 4) 6 (some (n + 5))) (n + 1) 0 (some (n + 4))) (n + 6) 6 (some (n + 7))) (n + 1) (0 + 1) (some (n + 6))) (n + 8) 6 (some (n + 9))) (n + 1) ((0 + 1) + 1) (some (n + 8))) (n + 10) 6 (some (n + 11))) (n + 1) (((0 + 1) + 1) + 1) (some (n + 10))) (n + 12) 6 (some (n + 13))) (n + 1) ((((0 + 1) + 1) + 1) + 1) (some (n + 12))) (n + 14) 6 (some (n + 15))) (n + 1) (((((0 + 1) + 1) + 1) + 1) + 1) (some (n + 14))) (n + 2) 0 (some (n + 16))) (up (up (up I n 0 20) n 1 30) n 2 500) J := fr_181
  refine gw_aast C (t := 4) (ci := 1) (cl := (RX1, TX1, 12)) (0 + 1) dX2_init_98 rfl (by decide) rfl (by rw [upS_eq]) (by omega) (by rw [upS_ne (by omega), upS_ne (by omega), upS_ne (by omega), upS_ne (by omega), upS_ne (by omega), upS_ne (by omega), upS_ne (by omega), upS_ne (by omega), upS_ne (by omega), upS_ne (by omega), upS_ne (by omega), upS_ne (by omega), upS_ne (by omega), upS_ne (by omega), upS_ne (by omega), upS_eq]) (by omega) (by omega) (by omega) (by decide) ?_
  have fr_189 : gFr (n + 18) (upR (upR (upR (upR (upR (upR (upR (upR (upR (upR (upR (upR (upR (upR (upR (upR (upR (upR R r 0 (some n)) r 4 (some (n + 1))) r 5 (some (n + 2))) r 6 (some (n + 3))) (n + 4) 6 (some (n + 5))) (n + 1) 0 (some (n + 4))) (n + 6) 6 (some (n + 7))) (n + 1) (0 + 1) (some (n + 6))) (n + 8) 6 (some (n + 9))) (n + 1) ((0 + 1) + 1) (some (n + 8))) (n + 10) 6 (some (n + 11))) (n + 1) (((0 + 1) + 1) + 1) (some (n + 10))) (n + 12) 6 (some (n + 13))) (n + 1) ((((0 + 1) + 1) + 1) + 1) (some (n + 12))) (n + 14) 6 (some (n + 15))) (n + 1) (((((0 + 1) + 1) + 1) + 1) + 1) (some (n + 14))) (n + 2) 0 (some (n + 16))) (n + 2) (0 + 1) (some (n + 17))) (up (up (up I n 0 20) n 1 30) n 2 500) J := fr_187.upR (by omega)
  refine gw_iinc C (lo1 := [some (vR r), some (vI ((0 + 1) + 1))]) dX2_init_99 rfl (by decide) rfl ?_
  refine gw_goto C (tgt := 81) dX2_init_102 (by decide) ?_
  refine gw_iload_n C 1 dX2_init_81 rfl rfl ?_
  refine gw_iconst C dX2_init_82 ?_
  refine gw_icmp_ge C (tgt := 105) dX2_init_83 (by decide) ⟨by decide, by decide⟩ ⟨by decide, by decide⟩ (fun h => absurd h (by decide)) (fun _ => ?_)
  refine gw_aload_n C 0 dX2_init_86 rfl rfl ?_
  refine gw_getRs (ci := 2) (Cn := RX2) (T0 := TX2) (N := 7) C (n + 2) 5 kX2_23 fX2 rfl (by decide) rfl rfl dX2_init_87 (by rw [upS_ne (by omega), upS_ne (by omega), upS_ne (by omega), upS_ne (by omega), upS_ne (by omega), upS_ne (by omega), upS_ne (by omega), upS_ne (by omega), upS_ne (by omega), upS_ne (by omega), upS_ne (by omega), upS_ne (by omega), upS_ne (by omega), upS_ne (by omega), upS_ne (by omega), upS_ne (by omega), upS_ne (by omega), upS_ne (by omega)]; exact hs) (by omega) (by rw [upR_ne (by omega), upR_ne (by omega), upR_ne (by omega), upR_ne (by omega), upR_ne (by omega), upR_ne (by omega), upR_ne (by omega), upR_ne (by omega), upR_ne (by omega), upR_ne (by omega), upR_ne (by omega), upR_ne (by omega), upR_ne (by omega), upR_ne (by omega), upR_ne2 (by decide), upR_eq]) ?_
  refine gw_iload_n C 1 dX2_init_90 rfl rfl ?_
  refine gw_new C (ci := 1) (Cn := RX1) (T0 := TX1) (N := 12) tyX1 tyX1_ok (by intro j hj; match j, hj with | 0, _ => rfl | 1, _ => rfl | 2, _ => rfl | 3, _ => rfl | 4, _ => rfl | 5, _ => rfl | 6, _ => rfl | 7, _ => rfl | 8, _ => rfl | 9, _ => rfl | 10, _ => rfl | 11, _ => rfl) fX1 rfl rfl kX2_21 mX1 nX1 dX2_init_91 (by omega) fr_189 (Nat.le_of_ble_eq_true rfl) (Nat.le_of_ble_eq_true rfl) ?_
  have fr_199 : gFr (n + 19) (upR (upR (upR (upR (upR (upR (upR (upR (upR (upR (upR (upR (upR (upR (upR (upR (upR (upR R r 0 (some n)) r 4 (some (n + 1))) r 5 (some (n + 2))) r 6 (some (n + 3))) (n + 4) 6 (some (n + 5))) (n + 1) 0 (some (n + 4))) (n + 6) 6 (some (n + 7))) (n + 1) (0 + 1) (some (n + 6))) (n + 8) 6 (some (n + 9))) (n + 1) ((0 + 1) + 1) (some (n + 8))) (n + 10) 6 (some (n + 11))) (n + 1) (((0 + 1) + 1) + 1) (some (n + 10))) (n + 12) 6 (some (n + 13))) (n + 1) ((((0 + 1) + 1) + 1) + 1) (some (n + 12))) (n + 14) 6 (some (n + 15))) (n + 1) (((((0 + 1) + 1) + 1) + 1) + 1) (some (n + 14))) (n + 2) 0 (some (n + 16))) (n + 2) (0 + 1) (some (n + 17))) (up (up (up I n 0 20) n 1 30) n 2 500) J := fr_189.mono (by omega)
  refine gw_dupR C dX2_init_94 ?_
  refine gw_callIN C (as := []) (st := [vR (n + 18), vI ((0 + 1) + 1), vR (n + 2)]) (c_X1_init hl0 G (by omega) fr_199 (by rw [upS_eq]) (by omega)) dX2_init_95 (List.mem_of_getElem? (i := 1) rfl) rfl qX1_init hdX1_init ⟨Nat.le_of_ble_eq_true rfl, Nat.le_of_ble_eq_true rfl⟩ ⟨Nat.le_of_ble_eq_true rfl, Nat.le_of_ble_eq_true rfl⟩ (Nat.le_of_ble_eq_true rfl) rfl ?_
  rintro z1 n1 sh1 R1 I1 J1 ⟨e1, e2, e3, e4, e5, e6⟩
  subst z1 n1 sh1 R1 I1 J1
  try simp only [Nat.add_assoc, Nat.reduceAdd]
  have fr_205 : gFr (n + 19) (upR (upR (upR (upR (upR (upR (upR (upR (upR (upR (upR (upR (upR (upR (upR (upR (upR (upR R r 0 (some n)) r 4 (some (n + 1))) r 5 (some (n + 2))) r 6 (some (n + 3))) (n + 4) 6 (some (n + 5))) (n + 1) 0 (some (n + 4))) (n + 6) 6 (some (n + 7))) (n + 1) (0 + 1) (some (n + 6))) (n + 8) 6 (some (n + 9))) (n + 1) ((0 + 1) + 1) (some (n + 8))) (n + 10) 6 (some (n + 11))) (n + 1) (((0 + 1) + 1) + 1) (some (n + 10))) (n + 12) 6 (some (n + 13))) (n + 1) ((((0 + 1) + 1) + 1) + 1) (some (n + 12))) (n + 14) 6 (some (n + 15))) (n + 1) (((((0 + 1) + 1) + 1) + 1) + 1) (some (n + 14))) (n + 2) 0 (some (n + 16))) (n + 2) (0 + 1) (some (n + 17))) (up (up (up I n 0 20) n 1 30) n 2 500) J := fr_199
  refine gw_aast C (t := 4) (ci := 1) (cl := (RX1, TX1, 12)) ((0 + 1) + 1) dX2_init_98 rfl (by decide) rfl (by rw [upS_eq]) (by omega) (by rw [upS_ne (by omega), upS_ne (by omega), upS_ne (by omega), upS_ne (by omega), upS_ne (by omega), upS_ne (by omega), upS_ne (by omega), upS_ne (by omega), upS_ne (by omega), upS_ne (by omega), upS_ne (by omega), upS_ne (by omega), upS_ne (by omega), upS_ne (by omega), upS_ne (by omega), upS_ne (by omega), upS_eq]) (by omega) (by omega) (by omega) (by decide) ?_
  have fr_207 : gFr (n + 19) (upR (upR (upR (upR (upR (upR (upR (upR (upR (upR (upR (upR (upR (upR (upR (upR (upR (upR (upR R r 0 (some n)) r 4 (some (n + 1))) r 5 (some (n + 2))) r 6 (some (n + 3))) (n + 4) 6 (some (n + 5))) (n + 1) 0 (some (n + 4))) (n + 6) 6 (some (n + 7))) (n + 1) (0 + 1) (some (n + 6))) (n + 8) 6 (some (n + 9))) (n + 1) ((0 + 1) + 1) (some (n + 8))) (n + 10) 6 (some (n + 11))) (n + 1) (((0 + 1) + 1) + 1) (some (n + 10))) (n + 12) 6 (some (n + 13))) (n + 1) ((((0 + 1) + 1) + 1) + 1) (some (n + 12))) (n + 14) 6 (some (n + 15))) (n + 1) (((((0 + 1) + 1) + 1) + 1) + 1) (some (n + 14))) (n + 2) 0 (some (n + 16))) (n + 2) (0 + 1) (some (n + 17))) (n + 2) ((0 + 1) + 1) (some (n + 18))) (up (up (up I n 0 20) n 1 30) n 2 500) J := fr_205.upR (by omega)
  refine gw_iinc C (lo1 := [some (vR r), some (vI (((0 + 1) + 1) + 1))]) dX2_init_99 rfl (by decide) rfl ?_
  refine gw_goto C (tgt := 81) dX2_init_102 (by decide) ?_
  refine gw_iload_n C 1 dX2_init_81 rfl rfl ?_
  refine gw_iconst C dX2_init_82 ?_
  refine gw_icmp_ge C (tgt := 105) dX2_init_83 (by decide) ⟨by decide, by decide⟩ ⟨by decide, by decide⟩ (fun h => absurd h (by decide)) (fun _ => ?_)
  refine gw_aload_n C 0 dX2_init_86 rfl rfl ?_
  refine gw_getRs (ci := 2) (Cn := RX2) (T0 := TX2) (N := 7) C (n + 2) 5 kX2_23 fX2 rfl (by decide) rfl rfl dX2_init_87 (by rw [upS_ne (by omega), upS_ne (by omega), upS_ne (by omega), upS_ne (by omega), upS_ne (by omega), upS_ne (by omega), upS_ne (by omega), upS_ne (by omega), upS_ne (by omega), upS_ne (by omega), upS_ne (by omega), upS_ne (by omega), upS_ne (by omega), upS_ne (by omega), upS_ne (by omega), upS_ne (by omega), upS_ne (by omega), upS_ne (by omega), upS_ne (by omega)]; exact hs) (by omega) (by rw [upR_ne (by omega), upR_ne (by omega), upR_ne (by omega), upR_ne (by omega), upR_ne (by omega), upR_ne (by omega), upR_ne (by omega), upR_ne (by omega), upR_ne (by omega), upR_ne (by omega), upR_ne (by omega), upR_ne (by omega), upR_ne (by omega), upR_ne (by omega), upR_ne (by omega), upR_ne2 (by decide), upR_eq]) ?_
  refine gw_iload_n C 1 dX2_init_90 rfl rfl ?_
  refine gw_new C (ci := 1) (Cn := RX1) (T0 := TX1) (N := 12) tyX1 tyX1_ok (by intro j hj; match j, hj with | 0, _ => rfl | 1, _ => rfl | 2, _ => rfl | 3, _ => rfl | 4, _ => rfl | 5, _ => rfl | 6, _ => rfl | 7, _ => rfl | 8, _ => rfl | 9, _ => rfl | 10, _ => rfl | 11, _ => rfl) fX1 rfl rfl kX2_21 mX1 nX1 dX2_init_91 (by omega) fr_207 (Nat.le_of_ble_eq_true rfl) (Nat.le_of_ble_eq_true rfl) ?_
  have fr_217 : gFr (n + 20) (upR (upR (upR (upR (upR (upR (upR (upR (upR (upR (upR (upR (upR (upR (upR (upR (upR (upR (upR R r 0 (some n)) r 4 (some (n + 1))) r 5 (some (n + 2))) r 6 (some (n + 3))) (n + 4) 6 (some (n + 5))) (n + 1) 0 (some (n + 4))) (n + 6) 6 (some (n + 7))) (n + 1) (0 + 1) (some (n + 6))) (n + 8) 6 (some (n + 9))) (n + 1) ((0 + 1) + 1) (some (n + 8))) (n + 10) 6 (some (n + 11))) (n + 1) (((0 + 1) + 1) + 1) (some (n + 10))) (n + 12) 6 (some (n + 13))) (n + 1) ((((0 + 1) + 1) + 1) + 1) (some (n + 12))) (n + 14) 6 (some (n + 15))) (n + 1) (((((0 + 1) + 1) + 1) + 1) + 1) (some (n + 14))) (n + 2) 0 (some (n + 16))) (n + 2) (0 + 1) (some (n + 17))) (n + 2) ((0 + 1) + 1) (some (n + 18))) (up (up (up I n 0 20) n 1 30) n 2 500) J := fr_207.mono (by omega)
  refine gw_dupR C dX2_init_94 ?_
  refine gw_callIN C (as := []) (st := [vR (n + 19), vI (((0 + 1) + 1) + 1), vR (n + 2)]) (c_X1_init hl0 G (by omega) fr_217 (by rw [upS_eq]) (by omega)) dX2_init_95 (List.mem_of_getElem? (i := 1) rfl) rfl qX1_init hdX1_init ⟨Nat.le_of_ble_eq_true rfl, Nat.le_of_ble_eq_true rfl⟩ ⟨Nat.le_of_ble_eq_true rfl, Nat.le_of_ble_eq_true rfl⟩ (Nat.le_of_ble_eq_true rfl) rfl ?_
  rintro z1 n1 sh1 R1 I1 J1 ⟨e1, e2, e3, e4, e5, e6⟩
  subst z1 n1 sh1 R1 I1 J1
  try simp only [Nat.add_assoc, Nat.reduceAdd]
  have fr_223 : gFr (n + 20) (upR (upR (upR (upR (upR (upR (upR (upR (upR (upR (upR (upR (upR (upR (upR (upR (upR (upR (upR R r 0 (some n)) r 4 (some (n + 1))) r 5 (some (n + 2))) r 6 (some (n + 3))) (n + 4) 6 (some (n + 5))) (n + 1) 0 (some (n + 4))) (n + 6) 6 (some (n + 7))) (n + 1) (0 + 1) (some (n + 6))) (n + 8) 6 (some (n + 9))) (n + 1) ((0 + 1) + 1) (some (n + 8))) (n + 10) 6 (some (n + 11))) (n + 1) (((0 + 1) + 1) + 1) (some (n + 10))) (n + 12) 6 (some (n + 13))) (n + 1) ((((0 + 1) + 1) + 1) + 1) (some (n + 12))) (n + 14) 6 (some (n + 15))) (n + 1) (((((0 + 1) + 1) + 1) + 1) + 1) (some (n + 14))) (n + 2) 0 (some (n + 16))) (n + 2) (0 + 1) (some (n + 17))) (n + 2) ((0 + 1) + 1) (some (n + 18))) (up (up (up I n 0 20) n 1 30) n 2 500) J := fr_217
  refine gw_aast C (t := 4) (ci := 1) (cl := (RX1, TX1, 12)) (((0 + 1) + 1) + 1) dX2_init_98 rfl (by decide) rfl (by rw [upS_eq]) (by omega) (by rw [upS_ne (by omega), upS_ne (by omega), upS_ne (by omega), upS_ne (by omega), upS_ne (by omega), upS_ne (by omega), upS_ne (by omega), upS_ne (by omega), upS_ne (by omega), upS_ne (by omega), upS_ne (by omega), upS_ne (by omega), upS_ne (by omega), upS_ne (by omega), upS_ne (by omega), upS_ne (by omega), upS_ne (by omega), upS_eq]) (by omega) (by omega) (by omega) (by decide) ?_
  have fr_225 : gFr (n + 20) (upR (upR (upR (upR (upR (upR (upR (upR (upR (upR (upR (upR (upR (upR (upR (upR (upR (upR (upR (upR R r 0 (some n)) r 4 (some (n + 1))) r 5 (some (n + 2))) r 6 (some (n + 3))) (n + 4) 6 (some (n + 5))) (n + 1) 0 (some (n + 4))) (n + 6) 6 (some (n + 7))) (n + 1) (0 + 1) (some (n + 6))) (n + 8) 6 (some (n + 9))) (n + 1) ((0 + 1) + 1) (some (n + 8))) (n + 10) 6 (some (n + 11))) (n + 1) (((0 + 1) + 1) + 1) (some (n + 10))) (n + 12) 6 (some (n + 13))) (n + 1) ((((0 + 1) + 1) + 1) + 1) (some (n + 12))) (n + 14) 6 (some (n + 15))) (n + 1) (((((0 + 1) + 1) + 1) + 1) + 1) (some (n + 14))) (n + 2) 0 (some (n + 16))) (n + 2) (0 + 1) (some (n + 17))) (n + 2) ((0 + 1) + 1) (some (n + 18))) (n + 2) (((0 + 1) + 1) + 1) (some (n + 19))) (up (up (up I n 0 20) n 1 30) n 2 500) J := fr_223.upR (by omega)
  refine gw_iinc C (lo1 := [some (vR r), some (vI ((((0 + 1) + 1) + 1) + 1))]) dX2_init_99 rfl (by decide) rfl ?_
  refine gw_goto C (tgt := 81) dX2_init_102 (by decide) ?_
  refine gw_iload_n C 1 dX2_init_81 rfl rfl ?_
  refine gw_iconst C dX2_init_82 ?_
  refine gw_icmp_ge C (tgt := 105) dX2_init_83 (by decide) ⟨by decide, by decide⟩ ⟨by decide, by decide⟩ (fun _ => ?_) (fun h => absurd h (by decide))
  refine gw_iconst C dX2_init_105 ?_
  refine gw_istore_n C (lo1 := [some (vR r), some (vI 0)]) 1 dX2_init_106 rfl (by decide) rfl ?_
  refine gw_iload_n C 1 dX2_init_107 rfl rfl ?_
  refine gw_iconst C dX2_init_108 ?_
  refine gw_icmp_ge C (tgt := 131) dX2_init_109 (by decide) ⟨by decide, by decide⟩ ⟨by decide, by decide⟩ (fun h => absurd h (by decide)) (fun _ => ?_)
  refine gw_aload_n C 0 dX2_init_112 rfl rfl ?_
  refine gw_getRs (ci := 2) (Cn := RX2) (T0 := TX2) (N := 7) C (n + 3) 6 kX2_29 fX2 rfl (by decide) rfl rfl dX2_init_113 (by rw [upS_ne (by omega), upS_ne (by omega), upS_ne (by omega), upS_ne (by omega), upS_ne (by omega), upS_ne (by omega), upS_ne (by omega), upS_ne (by omega), upS_ne (by omega), upS_ne (by omega), upS_ne (by omega), upS_ne (by omega), upS_ne (by omega), upS_ne (by omega), upS_ne (by omega), upS_ne (by omega), upS_ne (by omega), upS_ne (by omega), upS_ne (by omega), upS_ne (by omega)]; exact hs) (by omega) (by rw [upR_ne (by omega), upR_ne (by omega), upR_ne (by omega), upR_ne (by omega), upR_ne (by omega), upR_ne (by omega), upR_ne (by omega), upR_ne (by omega), upR_ne (by omega), upR_ne (by omega), upR_ne (by omega), upR_ne (by omega), upR_ne (by omega), upR_ne (by omega), upR_ne (by omega), upR_ne (by omega), upR_eq]) ?_
  refine gw_iload_n C 1 dX2_init_116 rfl rfl ?_
  refine gw_new C (ci := 4) (Cn := RX5) (T0 := TX5) (N := 15) tyX5 tyX5_ok (by intro j hj; match j, hj with | 0, _ => rfl | 1, _ => rfl | 2, _ => rfl | 3, _ => rfl | 4, _ => rfl | 5, _ => rfl | 6, _ => rfl | 7, _ => rfl | 8, _ => rfl | 9, _ => rfl | 10, _ => rfl | 11, _ => rfl | 12, _ => rfl | 13, _ => rfl | 14, _ => rfl) fX5 rfl rfl kX2_27 mX5 nX5 dX2_init_117 (by omega) fr_225 (Nat.le_of_ble_eq_true rfl) (Nat.le_of_ble_eq_true rfl) ?_
  have fr_240 : gFr (n + 21) (upR (upR (upR (upR (upR (upR (upR (upR (upR (upR (upR (upR (upR (upR (upR (upR (upR (upR (upR (upR R r 0 (some n)) r 4 (some (n + 1))) r 5 (some (n + 2))) r 6 (some (n + 3))) (n + 4) 6 (some (n + 5))) (n + 1) 0 (some (n + 4))) (n + 6) 6 (some (n + 7))) (n + 1) (0 + 1) (some (n + 6))) (n + 8) 6 (some (n + 9))) (n + 1) ((0 + 1) + 1) (some (n + 8))) (n + 10) 6 (some (n + 11))) (n + 1) (((0 + 1) + 1) + 1) (some (n + 10))) (n + 12) 6 (some (n + 13))) (n + 1) ((((0 + 1) + 1) + 1) + 1) (some (n + 12))) (n + 14) 6 (some (n + 15))) (n + 1) (((((0 + 1) + 1) + 1) + 1) + 1) (some (n + 14))) (n + 2) 0 (some (n + 16))) (n + 2) (0 + 1) (some (n + 17))) (n + 2) ((0 + 1) + 1) (some (n + 18))) (n + 2) (((0 + 1) + 1) + 1) (some (n + 19))) (up (up (up I n 0 20) n 1 30) n 2 500) J := fr_225.mono (by omega)
  refine gw_dupR C dX2_init_120 ?_
  refine gw_callIN C (as := []) (st := [vR (n + 20), vI 0, vR (n + 3)]) (c_X5_init hl0 G (by omega) fr_240 (by rw [upS_eq]) (by omega)) dX2_init_121 (List.mem_of_getElem? (i := 2) rfl) rfl qX5_init hdX5_init ⟨Nat.le_of_ble_eq_true rfl, Nat.le_of_ble_eq_true rfl⟩ ⟨Nat.le_of_ble_eq_true rfl, Nat.le_of_ble_eq_true rfl⟩ (Nat.le_of_ble_eq_true rfl) rfl ?_
  rintro z1 n1 sh1 R1 I1 J1 ⟨e1, e2, e3, e4, e5, e6⟩
  subst z1 n1 sh1 R1 I1 J1
  try simp only [Nat.add_assoc, Nat.reduceAdd]
  have fr_246 : gFr (n + 26) (travR (upR (upR (upR (upR (upR (upR (upR (upR (upR (upR (upR (upR (upR (upR (upR (upR (upR (upR (upR (upR R r 0 (some n)) r 4 (some (n + 1))) r 5 (some (n + 2))) r 6 (some (n + 3))) (n + 4) 6 (some (n + 5))) (n + 1) 0 (some (n + 4))) (n + 6) 6 (some (n + 7))) (n + 1) (0 + 1) (some (n + 6))) (n + 8) 6 (some (n + 9))) (n + 1) ((0 + 1) + 1) (some (n + 8))) (n + 10) 6 (some (n + 11))) (n + 1) (((0 + 1) + 1) + 1) (some (n + 10))) (n + 12) 6 (some (n + 13))) (n + 1) ((((0 + 1) + 1) + 1) + 1) (some (n + 12))) (n + 14) 6 (some (n + 15))) (n + 1) (((((0 + 1) + 1) + 1) + 1) + 1) (some (n + 14))) (n + 2) 0 (some (n + 16))) (n + 2) (0 + 1) (some (n + 17))) (n + 2) ((0 + 1) + 1) (some (n + 18))) (n + 2) (((0 + 1) + 1) + 1) (some (n + 19))) (n + 20) (n + 21)) (up (up (up I n 0 20) n 1 30) n 2 500) J := c_fr_X5_init fr_240 (by omega)
  refine gw_aast C (t := 5) (ci := 4) (cl := (RX5, TX5, 15)) 0 dX2_init_124 rfl (by decide) rfl (by rw [travS_lt (by omega), upS_eq]) (by omega) (by rw [travS_lt (by omega), upS_ne (by omega), upS_ne (by omega), upS_ne (by omega), upS_ne (by omega), upS_ne (by omega), upS_ne (by omega), upS_ne (by omega), upS_ne (by omega), upS_ne (by omega), upS_ne (by omega), upS_ne (by omega), upS_ne (by omega), upS_ne (by omega), upS_ne (by omega), upS_ne (by omega), upS_ne (by omega), upS_ne (by omega), upS_eq]) (by omega) (by omega) (by omega) (by decide) ?_
  have fr_248 : gFr (n + 26) (upR (travR (upR (upR (upR (upR (upR (upR (upR (upR (upR (upR (upR (upR (upR (upR (upR (upR (upR (upR (upR (upR R r 0 (some n)) r 4 (some (n + 1))) r 5 (some (n + 2))) r 6 (some (n + 3))) (n + 4) 6 (some (n + 5))) (n + 1) 0 (some (n + 4))) (n + 6) 6 (some (n + 7))) (n + 1) (0 + 1) (some (n + 6))) (n + 8) 6 (some (n + 9))) (n + 1) ((0 + 1) + 1) (some (n + 8))) (n + 10) 6 (some (n + 11))) (n + 1) (((0 + 1) + 1) + 1) (some (n + 10))) (n + 12) 6 (some (n + 13))) (n + 1) ((((0 + 1) + 1) + 1) + 1) (some (n + 12))) (n + 14) 6 (some (n + 15))) (n + 1) (((((0 + 1) + 1) + 1) + 1) + 1) (some (n + 14))) (n + 2) 0 (some (n + 16))) (n + 2) (0 + 1) (some (n + 17))) (n + 2) ((0 + 1) + 1) (some (n + 18))) (n + 2) (((0 + 1) + 1) + 1) (some (n + 19))) (n + 20) (n + 21)) (n + 3) 0 (some (n + 20))) (up (up (up I n 0 20) n 1 30) n 2 500) J := fr_246.upR (by omega)
  refine gw_iinc C (lo1 := [some (vR r), some (vI (0 + 1))]) dX2_init_125 rfl (by decide) rfl ?_
  refine gw_goto C (tgt := 107) dX2_init_128 (by decide) ?_
  refine gw_iload_n C 1 dX2_init_107 rfl rfl ?_
  refine gw_iconst C dX2_init_108 ?_
  refine gw_icmp_ge C (tgt := 131) dX2_init_109 (by decide) ⟨by decide, by decide⟩ ⟨by decide, by decide⟩ (fun h => absurd h (by decide)) (fun _ => ?_)
  refine gw_aload_n C 0 dX2_init_112 rfl rfl ?_
  refine gw_getRs (ci := 2) (Cn := RX2) (T0 := TX2) (N := 7) C (n + 3) 6 kX2_29 fX2 rfl (by decide) rfl rfl dX2_init_113 (by rw [travS_lt (by omega), upS_ne (by omega), upS_ne (by omega), upS_ne (by omega), upS_ne (by omega), upS_ne (by omega), upS_ne (by omega), upS_ne (by omega), upS_ne (by omega), upS_ne (by omega), upS_ne (by omega), upS_ne (by omega), upS_ne (by omega), upS_ne (by omega), upS_ne (by omega), upS_ne (by omega), upS_ne (by omega), upS_ne (by omega), upS_ne (by omega), upS_ne (by omega), upS_ne (by omega), upS_ne (by omega)]; exact hs) (by omega) (by rw [upR_ne (by omega), travR_ne (by omega), upR_ne (by omega), upR_ne (by omega), upR_ne (by omega), upR_ne (by omega), upR_ne (by omega), upR_ne (by omega), upR_ne (by omega), upR_ne (by omega), upR_ne (by omega), upR_ne (by omega), upR_ne (by omega), upR_ne (by omega), upR_ne (by omega), upR_ne (by omega), upR_ne (by omega), upR_ne (by omega), upR_eq]) ?_
  refine gw_iload_n C 1 dX2_init_116 rfl rfl ?_
  refine gw_new C (ci := 4) (Cn := RX5) (T0 := TX5) (N := 15) tyX5 tyX5_ok (by intro j hj; match j, hj with | 0, _ => rfl | 1, _ => rfl | 2, _ => rfl | 3, _ => rfl | 4, _ => rfl | 5, _ => rfl | 6, _ => rfl | 7, _ => rfl | 8, _ => rfl | 9, _ => rfl | 10, _ => rfl | 11, _ => rfl | 12, _ => rfl | 13, _ => rfl | 14, _ => rfl) fX5 rfl rfl kX2_27 mX5 nX5 dX2_init_117 (by omega) fr_248 (Nat.le_of_ble_eq_true rfl) (Nat.le_of_ble_eq_true rfl) ?_
  have fr_258 : gFr (n + 27) (upR (travR (upR (upR (upR (upR (upR (upR (upR (upR (upR (upR (upR (upR (upR (upR (upR (upR (upR (upR (upR (upR R r 0 (some n)) r 4 (some (n + 1))) r 5 (some (n + 2))) r 6 (some (n + 3))) (n + 4) 6 (some (n + 5))) (n + 1) 0 (some (n + 4))) (n + 6) 6 (some (n + 7))) (n + 1) (0 + 1) (some (n + 6))) (n + 8) 6 (some (n + 9))) (n + 1) ((0 + 1) + 1) (some (n + 8))) (n + 10) 6 (some (n + 11))) (n + 1) (((0 + 1) + 1) + 1) (some (n + 10))) (n + 12) 6 (some (n + 13))) (n + 1) ((((0 + 1) + 1) + 1) + 1) (some (n + 12))) (n + 14) 6 (some (n + 15))) (n + 1) (((((0 + 1) + 1) + 1) + 1) + 1) (some (n + 14))) (n + 2) 0 (some (n + 16))) (n + 2) (0 + 1) (some (n + 17))) (n + 2) ((0 + 1) + 1) (some (n + 18))) (n + 2) (((0 + 1) + 1) + 1) (some (n + 19))) (n + 20) (n + 21)) (n + 3) 0 (some (n + 20))) (up (up (up I n 0 20) n 1 30) n 2 500) J := fr_248.mono (by omega)
  refine gw_dupR C dX2_init_120 ?_
  refine gw_callIN C (as := []) (st := [vR (n + 26), vI (0 + 1), vR (n + 3)]) (c_X5_init hl0 G (by omega) fr_258 (by rw [upS_eq]) (by omega)) dX2_init_121 (List.mem_of_getElem? (i := 2) rfl) rfl qX5_init hdX5_init ⟨Nat.le_of_ble_eq_true rfl, Nat.le_of_ble_eq_true rfl⟩ ⟨Nat.le_of_ble_eq_true rfl, Nat.le_of_ble_eq_true rfl⟩ (Nat.le_of_ble_eq_true rfl) rfl ?_
  rintro z1 n1 sh1 R1 I1 J1 ⟨e1, e2, e3, e4, e5, e6⟩
  subst z1 n1 sh1 R1 I1 J1
  try simp only [Nat.add_assoc, Nat.reduceAdd]
  have fr_264 : gFr (n + 32) (travR (upR (travR (upR (upR (upR (upR (upR (upR (upR (upR (upR (upR (upR (upR (upR (upR (upR (upR (upR (upR (upR (upR R r 0 (some n)) r 4 (some (n + 1))) r 5 (some (n + 2))) r 6 (some (n + 3))) (n + 4) 6 (some (n + 5))) (n + 1) 0 (some (n + 4))) (n + 6) 6 (some (n + 7))) (n + 1) (0 + 1) (some (n + 6))) (n + 8) 6 (some (n + 9))) (n + 1) ((0 + 1) + 1) (some (n + 8))) (n + 10) 6 (some (n + 11))) (n + 1) (((0 + 1) + 1) + 1) (some (n + 10))) (n + 12) 6 (some (n + 13))) (n + 1) ((((0 + 1) + 1) + 1) + 1) (some (n + 12))) (n + 14) 6 (some (n + 15))) (n + 1) (((((0 + 1) + 1) + 1) + 1) + 1) (some (n + 14))) (n + 2) 0 (some (n + 16))) (n + 2) (0 + 1) (some (n + 17))) (n + 2) ((0 + 1) + 1) (some (n + 18))) (n + 2) (((0 + 1) + 1) + 1) (some (n + 19))) (n + 20) (n + 21)) (n + 3) 0 (some (n + 20))) (n + 26) (n + 27)) (up (up (up I n 0 20) n 1 30) n 2 500) J := c_fr_X5_init fr_258 (by omega)
  refine gw_aast C (t := 5) (ci := 4) (cl := (RX5, TX5, 15)) (0 + 1) dX2_init_124 rfl (by decide) rfl (by rw [travS_lt (by omega), upS_eq]) (by omega) (by rw [travS_lt (by omega), upS_ne (by omega), travS_lt (by omega), upS_ne (by omega), upS_ne (by omega), upS_ne (by omega), upS_ne (by omega), upS_ne (by omega), upS_ne (by omega), upS_ne (by omega), upS_ne (by omega), upS_ne (by omega), upS_ne (by omega), upS_ne (by omega), upS_ne (by omega), upS_ne (by omega), upS_ne (by omega), upS_ne (by omega), upS_ne (by omega), upS_ne (by omega), upS_eq]) (by omega) (by omega) (by omega) (by decide) ?_
  have fr_266 : gFr (n + 32) (upR (travR (upR (travR (upR (upR (upR (upR (upR (upR (upR (upR (upR (upR (upR (upR (upR (upR (upR (upR (upR (upR (upR (upR R r 0 (some n)) r 4 (some (n + 1))) r 5 (some (n + 2))) r 6 (some (n + 3))) (n + 4) 6 (some (n + 5))) (n + 1) 0 (some (n + 4))) (n + 6) 6 (some (n + 7))) (n + 1) (0 + 1) (some (n + 6))) (n + 8) 6 (some (n + 9))) (n + 1) ((0 + 1) + 1) (some (n + 8))) (n + 10) 6 (some (n + 11))) (n + 1) (((0 + 1) + 1) + 1) (some (n + 10))) (n + 12) 6 (some (n + 13))) (n + 1) ((((0 + 1) + 1) + 1) + 1) (some (n + 12))) (n + 14) 6 (some (n + 15))) (n + 1) (((((0 + 1) + 1) + 1) + 1) + 1) (some (n + 14))) (n + 2) 0 (some (n + 16))) (n + 2) (0 + 1) (some (n + 17))) (n + 2) ((0 + 1) + 1) (some (n + 18))) (n + 2) (((0 + 1) + 1) + 1) (some (n + 19))) (n + 20) (n + 21)) (n + 3) 0 (some (n + 20))) (n + 26) (n + 27)) (n + 3) (0 + 1) (some (n + 26))) (up (up (up I n 0 20) n 1 30) n 2 500) J := fr_264.upR (by omega)
  refine gw_iinc C (lo1 := [some (vR r), some (vI ((0 + 1) + 1))]) dX2_init_125 rfl (by decide) rfl ?_
  refine gw_goto C (tgt := 107) dX2_init_128 (by decide) ?_
  refine gw_iload_n C 1 dX2_init_107 rfl rfl ?_
  refine gw_iconst C dX2_init_108 ?_
  refine gw_icmp_ge C (tgt := 131) dX2_init_109 (by decide) ⟨by decide, by decide⟩ ⟨by decide, by decide⟩ (fun h => absurd h (by decide)) (fun _ => ?_)
  refine gw_aload_n C 0 dX2_init_112 rfl rfl ?_
  refine gw_getRs (ci := 2) (Cn := RX2) (T0 := TX2) (N := 7) C (n + 3) 6 kX2_29 fX2 rfl (by decide) rfl rfl dX2_init_113 (by rw [travS_lt (by omega), upS_ne (by omega), travS_lt (by omega), upS_ne (by omega), upS_ne (by omega), upS_ne (by omega), upS_ne (by omega), upS_ne (by omega), upS_ne (by omega), upS_ne (by omega), upS_ne (by omega), upS_ne (by omega), upS_ne (by omega), upS_ne (by omega), upS_ne (by omega), upS_ne (by omega), upS_ne (by omega), upS_ne (by omega), upS_ne (by omega), upS_ne (by omega), upS_ne (by omega), upS_ne (by omega), upS_ne (by omega), upS_ne (by omega)]; exact hs) (by omega) (by rw [upR_ne (by omega), travR_ne (by omega), upR_ne (by omega), travR_ne (by omega), upR_ne (by omega), upR_ne (by omega), upR_ne (by omega), upR_ne (by omega), upR_ne (by omega), upR_ne (by omega), upR_ne (by omega), upR_ne (by omega), upR_ne (by omega), upR_ne (by omega), upR_ne (by omega), upR_ne (by omega), upR_ne (by omega), upR_ne (by omega), upR_ne (by omega), upR_ne (by omega), upR_eq]) ?_
  refine gw_iload_n C 1 dX2_init_116 rfl rfl ?_
  refine gw_new C (ci := 4) (Cn := RX5) (T0 := TX5) (N := 15) tyX5 tyX5_ok (by intro j hj; match j, hj with | 0, _ => rfl | 1, _ => rfl | 2, _ => rfl | 3, _ => rfl | 4, _ => rfl | 5, _ => rfl | 6, _ => rfl | 7, _ => rfl | 8, _ => rfl | 9, _ => rfl | 10, _ => rfl | 11, _ => rfl | 12, _ => rfl | 13, _ => rfl | 14, _ => rfl) fX5 rfl rfl kX2_27 mX5 nX5 dX2_init_117 (by omega) fr_266 (Nat.le_of_ble_eq_true rfl) (Nat.le_of_ble_eq_true rfl) ?_
  have fr_276 : gFr (n + 33) (upR (travR (upR (travR (upR (upR (upR (upR (upR (upR (upR (upR (upR (upR (upR (upR (upR (upR (upR (upR (upR (upR (upR (upR R r 0 (some n)) r 4 (some (n + 1))) r 5 (some (n + 2))) r 6 (some (n + 3))) (n + 4) 6 (some (n + 5))) (n + 1) 0 (some (n + 4))) (n + 6) 6 (some (n + 7))) (n + 1) (0 + 1) (some (n + 6))) (n + 8) 6 (some (n + 9))) (n + 1) ((0 + 1) + 1) (some (n + 8))) (n + 10) 6 (some (n + 11))) (n + 1) (((0 + 1) + 1) + 1) (some (n + 10))) (n + 12) 6 (some (n + 13))) (n + 1) ((((0 + 1) + 1) + 1) + 1) (some (n + 12))) (n + 14) 6 (some (n + 15))) (n + 1) (((((0 + 1) + 1) + 1) + 1) + 1) (some (n + 14))) (n + 2) 0 (some (n + 16))) (n + 2) (0 + 1) (some (n + 17))) (n + 2) ((0 + 1) + 1) (some (n + 18))) (n + 2) (((0 + 1) + 1) + 1) (some (n + 19))) (n + 20) (n + 21)) (n + 3) 0 (some (n + 20))) (n + 26) (n + 27)) (n + 3) (0 + 1) (some (n + 26))) (up (up (up I n 0 20) n 1 30) n 2 500) J := fr_266.mono (by omega)
  refine gw_dupR C dX2_init_120 ?_
  refine gw_callIN C (as := []) (st := [vR (n + 32), vI ((0 + 1) + 1), vR (n + 3)]) (c_X5_init hl0 G (by omega) fr_276 (by rw [upS_eq]) (by omega)) dX2_init_121 (List.mem_of_getElem? (i := 2) rfl) rfl qX5_init hdX5_init ⟨Nat.le_of_ble_eq_true rfl, Nat.le_of_ble_eq_true rfl⟩ ⟨Nat.le_of_ble_eq_true rfl, Nat.le_of_ble_eq_true rfl⟩ (Nat.le_of_ble_eq_true rfl) rfl ?_
  rintro z1 n1 sh1 R1 I1 J1 ⟨e1, e2, e3, e4, e5, e6⟩
  subst z1 n1 sh1 R1 I1 J1
  try simp only [Nat.add_assoc, Nat.reduceAdd]
  have fr_282 : gFr (n + 38) (travR (upR (travR (upR (travR (upR (upR (upR (upR (upR (upR (upR (upR (upR (upR (upR (upR (upR (upR (upR (upR (upR (upR (upR (upR R r 0 (some n)) r 4 (some (n + 1))) r 5 (some (n + 2))) r 6 (some (n + 3))) (n + 4) 6 (some (n + 5))) (n + 1) 0 (some (n + 4))) (n + 6) 6 (some (n + 7))) (n + 1) (0 + 1) (some (n + 6))) (n + 8) 6 (some (n + 9))) (n + 1) ((0 + 1) + 1) (some (n + 8))) (n + 10) 6 (some (n + 11))) (n + 1) (((0 + 1) + 1) + 1) (some (n + 10))) (n + 12) 6 (some (n + 13))) (n + 1) ((((0 + 1) + 1) + 1) + 1) (some (n + 12))) (n + 14) 6 (some (n + 15))) (n + 1) (((((0 + 1) + 1) + 1) + 1) + 1) (some (n + 14))) (n + 2) 0 (some (n + 16))) (n + 2) (0 + 1) (some (n + 17))) (n + 2) ((0 + 1) + 1) (some (n + 18))) (n + 2) (((0 + 1) + 1) + 1) (some (n + 19))) (n + 20) (n + 21)) (n + 3) 0 (some (n + 20))) (n + 26) (n + 27)) (n + 3) (0 + 1) (some (n + 26))) (n + 32) (n + 33)) (up (up (up I n 0 20) n 1 30) n 2 500) J := c_fr_X5_init fr_276 (by omega)
  refine gw_aast C (t := 5) (ci := 4) (cl := (RX5, TX5, 15)) ((0 + 1) + 1) dX2_init_124 rfl (by decide) rfl (by rw [travS_lt (by omega), upS_eq]) (by omega) (by rw [travS_lt (by omega), upS_ne (by omega), travS_lt (by omega), upS_ne (by omega), travS_lt (by omega), upS_ne (by omega), upS_ne (by omega), upS_ne (by omega), upS_ne (by omega), upS_ne (by omega), upS_ne (by omega), upS_ne (by omega), upS_ne (by omega), upS_ne (by omega), upS_ne (by omega), upS_ne (by omega), upS_ne (by omega), upS_ne (by omega), upS_ne (by omega), upS_ne (by omega), upS_ne (by omega), upS_ne (by omega), upS_eq]) (by omega) (by omega) (by omega) (by decide) ?_
  have fr_284 : gFr (n + 38) (upR (travR (upR (travR (upR (travR (upR (upR (upR (upR (upR (upR (upR (upR (upR (upR (upR (upR (upR (upR (upR (upR (upR (upR (upR (upR R r 0 (some n)) r 4 (some (n + 1))) r 5 (some (n + 2))) r 6 (some (n + 3))) (n + 4) 6 (some (n + 5))) (n + 1) 0 (some (n + 4))) (n + 6) 6 (some (n + 7))) (n + 1) (0 + 1) (some (n + 6))) (n + 8) 6 (some (n + 9))) (n + 1) ((0 + 1) + 1) (some (n + 8))) (n + 10) 6 (some (n + 11))) (n + 1) (((0 + 1) + 1) + 1) (some (n + 10))) (n + 12) 6 (some (n + 13))) (n + 1) ((((0 + 1) + 1) + 1) + 1) (some (n + 12))) (n + 14) 6 (some (n + 15))) (n + 1) (((((0 + 1) + 1) + 1) + 1) + 1) (some (n + 14))) (n + 2) 0 (some (n + 16))) (n + 2) (0 + 1) (some (n + 17))) (n + 2) ((0 + 1) + 1) (some (n + 18))) (n + 2) (((0 + 1) + 1) + 1) (some (n + 19))) (n + 20) (n + 21)) (n + 3) 0 (some (n + 20))) (n + 26) (n + 27)) (n + 3) (0 + 1) (some (n + 26))) (n + 32) (n + 33)) (n + 3) ((0 + 1) + 1) (some (n + 32))) (up (up (up I n 0 20) n 1 30) n 2 500) J := fr_282.upR (by omega)
  refine gw_iinc C (lo1 := [some (vR r), some (vI (((0 + 1) + 1) + 1))]) dX2_init_125 rfl (by decide) rfl ?_
  refine gw_goto C (tgt := 107) dX2_init_128 (by decide) ?_
  refine gw_iload_n C 1 dX2_init_107 rfl rfl ?_
  refine gw_iconst C dX2_init_108 ?_
  refine gw_icmp_ge C (tgt := 131) dX2_init_109 (by decide) ⟨by decide, by decide⟩ ⟨by decide, by decide⟩ (fun h => absurd h (by decide)) (fun _ => ?_)
  refine gw_aload_n C 0 dX2_init_112 rfl rfl ?_
  refine gw_getRs (ci := 2) (Cn := RX2) (T0 := TX2) (N := 7) C (n + 3) 6 kX2_29 fX2 rfl (by decide) rfl rfl dX2_init_113 (by rw [travS_lt (by omega), upS_ne (by omega), travS_lt (by omega), upS_ne (by omega), travS_lt (by omega), upS_ne (by omega), upS_ne (by omega), upS_ne (by omega), upS_ne (by omega), upS_ne (by omega), upS_ne (by omega), upS_ne (by omega), upS_ne (by omega), upS_ne (by omega), upS_ne (by omega), upS_ne (by omega), upS_ne (by omega), upS_ne (by omega), upS_ne (by omega), upS_ne (by omega), upS_ne (by omega), upS_ne (by omega), upS_ne (by omega), upS_ne (by omega), upS_ne (by omega), upS_ne (by omega)]; exact hs) (by omega) (by rw [upR_ne (by omega), travR_ne (by omega), upR_ne (by omega), travR_ne (by omega), upR_ne (by omega), travR_ne (by omega), upR_ne (by omega), upR_ne (by omega), upR_ne (by omega), upR_ne (by omega), upR_ne (by omega), upR_ne (by omega), upR_ne (by omega), upR_ne (by omega), upR_ne (by omega), upR_ne (by omega), upR_ne (by omega), upR_ne (by omega), upR_ne (by omega), upR_ne (by omega), upR_ne (by omega), upR_ne (by omega), upR_eq]) ?_
  refine gw_iload_n C 1 dX2_init_116 rfl rfl ?_
  refine gw_new C (ci := 4) (Cn := RX5) (T0 := TX5) (N := 15) tyX5 tyX5_ok (by intro j hj; match j, hj with | 0, _ => rfl | 1, _ => rfl | 2, _ => rfl | 3, _ => rfl | 4, _ => rfl | 5, _ => rfl | 6, _ => rfl | 7, _ => rfl | 8, _ => rfl | 9, _ => rfl | 10, _ => rfl | 11, _ => rfl | 12, _ => rfl | 13, _ => rfl | 14, _ => rfl) fX5 rfl rfl kX2_27 mX5 nX5 dX2_init_117 (by omega) fr_284 (Nat.le_of_ble_eq_true rfl) (Nat.le_of_ble_eq_true rfl) ?_
  have fr_294 : gFr (n + 39) (upR (travR (upR (travR (upR (travR (upR (upR (upR (upR (upR (upR (upR (upR (upR (upR (upR (upR (upR (upR (upR (upR (upR (upR (upR (upR R r 0 (some n)) r 4 (some (n + 1))) r 5 (some (n + 2))) r 6 (some (n + 3))) (n + 4) 6 (some (n + 5))) (n + 1) 0 (some (n + 4))) (n + 6) 6 (some (n + 7))) (n + 1) (0 + 1) (some (n + 6))) (n + 8) 6 (some (n + 9))) (n + 1) ((0 + 1) + 1) (some (n + 8))) (n + 10) 6 (some (n + 11))) (n + 1) (((0 + 1) + 1) + 1) (some (n + 10))) (n + 12) 6 (some (n + 13))) (n + 1) ((((0 + 1) + 1) + 1) + 1) (some (n + 12))) (n + 14) 6 (some (n + 15))) (n + 1) (((((0 + 1) + 1) + 1) + 1) + 1) (some (n + 14))) (n + 2) 0 (some (n + 16))) (n + 2) (0 + 1) (some (n + 17))) (n + 2) ((0 + 1) + 1) (some (n + 18))) (n + 2) (((0 + 1) + 1) + 1) (some (n + 19))) (n + 20) (n + 21)) (n + 3) 0 (some (n + 20))) (n + 26) (n + 27)) (n + 3) (0 + 1) (some (n + 26))) (n + 32) (n + 33)) (n + 3) ((0 + 1) + 1) (some (n + 32))) (up (up (up I n 0 20) n 1 30) n 2 500) J := fr_284.mono (by omega)
  refine gw_dupR C dX2_init_120 ?_
  refine gw_callIN C (as := []) (st := [vR (n + 38), vI (((0 + 1) + 1) + 1), vR (n + 3)]) (c_X5_init hl0 G (by omega) fr_294 (by rw [upS_eq]) (by omega)) dX2_init_121 (List.mem_of_getElem? (i := 2) rfl) rfl qX5_init hdX5_init ⟨Nat.le_of_ble_eq_true rfl, Nat.le_of_ble_eq_true rfl⟩ ⟨Nat.le_of_ble_eq_true rfl, Nat.le_of_ble_eq_true rfl⟩ (Nat.le_of_ble_eq_true rfl) rfl ?_
  rintro z1 n1 sh1 R1 I1 J1 ⟨e1, e2, e3, e4, e5, e6⟩
  subst z1 n1 sh1 R1 I1 J1
  try simp only [Nat.add_assoc, Nat.reduceAdd]
  have fr_300 : gFr (n + 44) (travR (upR (travR (upR (travR (upR (travR (upR (upR (upR (upR (upR (upR (upR (upR (upR (upR (upR (upR (upR (upR (upR (upR (upR (upR (upR (upR R r 0 (some n)) r 4 (some (n + 1))) r 5 (some (n + 2))) r 6 (some (n + 3))) (n + 4) 6 (some (n + 5))) (n + 1) 0 (some (n + 4))) (n + 6) 6 (some (n + 7))) (n + 1) (0 + 1) (some (n + 6))) (n + 8) 6 (some (n + 9))) (n + 1) ((0 + 1) + 1) (some (n + 8))) (n + 10) 6 (some (n + 11))) (n + 1) (((0 + 1) + 1) + 1) (some (n + 10))) (n + 12) 6 (some (n + 13))) (n + 1) ((((0 + 1) + 1) + 1) + 1) (some (n + 12))) (n + 14) 6 (some (n + 15))) (n + 1) (((((0 + 1) + 1) + 1) + 1) + 1) (some (n + 14))) (n + 2) 0 (some (n + 16))) (n + 2) (0 + 1) (some (n + 17))) (n + 2) ((0 + 1) + 1) (some (n + 18))) (n + 2) (((0 + 1) + 1) + 1) (some (n + 19))) (n + 20) (n + 21)) (n + 3) 0 (some (n + 20))) (n + 26) (n + 27)) (n + 3) (0 + 1) (some (n + 26))) (n + 32) (n + 33)) (n + 3) ((0 + 1) + 1) (some (n + 32))) (n + 38) (n + 39)) (up (up (up I n 0 20) n 1 30) n 2 500) J := c_fr_X5_init fr_294 (by omega)
  refine gw_aast C (t := 5) (ci := 4) (cl := (RX5, TX5, 15)) (((0 + 1) + 1) + 1) dX2_init_124 rfl (by decide) rfl (by rw [travS_lt (by omega), upS_eq]) (by omega) (by rw [travS_lt (by omega), upS_ne (by omega), travS_lt (by omega), upS_ne (by omega), travS_lt (by omega), upS_ne (by omega), travS_lt (by omega), upS_ne (by omega), upS_ne (by omega), upS_ne (by omega), upS_ne (by omega), upS_ne (by omega), upS_ne (by omega), upS_ne (by omega), upS_ne (by omega), upS_ne (by omega), upS_ne (by omega), upS_ne (by omega), upS_ne (by omega), upS_ne (by omega), upS_ne (by omega), upS_ne (by omega), upS_ne (by omega), upS_ne (by omega), upS_eq]) (by omega) (by omega) (by omega) (by decide) ?_
  have fr_302 : gFr (n + 44) (upR (travR (upR (travR (upR (travR (upR (travR (upR (upR (upR (upR (upR (upR (upR (upR (upR (upR (upR (upR (upR (upR (upR (upR (upR (upR (upR (upR R r 0 (some n)) r 4 (some (n + 1))) r 5 (some (n + 2))) r 6 (some (n + 3))) (n + 4) 6 (some (n + 5))) (n + 1) 0 (some (n + 4))) (n + 6) 6 (some (n + 7))) (n + 1) (0 + 1) (some (n + 6))) (n + 8) 6 (some (n + 9))) (n + 1) ((0 + 1) + 1) (some (n + 8))) (n + 10) 6 (some (n + 11))) (n + 1) (((0 + 1) + 1) + 1) (some (n + 10))) (n + 12) 6 (some (n + 13))) (n + 1) ((((0 + 1) + 1) + 1) + 1) (some (n + 12))) (n + 14) 6 (some (n + 15))) (n + 1) (((((0 + 1) + 1) + 1) + 1) + 1) (some (n + 14))) (n + 2) 0 (some (n + 16))) (n + 2) (0 + 1) (some (n + 17))) (n + 2) ((0 + 1) + 1) (some (n + 18))) (n + 2) (((0 + 1) + 1) + 1) (some (n + 19))) (n + 20) (n + 21)) (n + 3) 0 (some (n + 20))) (n + 26) (n + 27)) (n + 3) (0 + 1) (some (n + 26))) (n + 32) (n + 33)) (n + 3) ((0 + 1) + 1) (some (n + 32))) (n + 38) (n + 39)) (n + 3) (((0 + 1) + 1) + 1) (some (n + 38))) (up (up (up I n 0 20) n 1 30) n 2 500) J := fr_300.upR (by omega)
  refine gw_iinc C (lo1 := [some (vR r), some (vI ((((0 + 1) + 1) + 1) + 1))]) dX2_init_125 rfl (by decide) rfl ?_
  refine gw_goto C (tgt := 107) dX2_init_128 (by decide) ?_
  refine gw_iload_n C 1 dX2_init_107 rfl rfl ?_
  refine gw_iconst C dX2_init_108 ?_
  refine gw_icmp_ge C (tgt := 131) dX2_init_109 (by decide) ⟨by decide, by decide⟩ ⟨by decide, by decide⟩ (fun _ => ?_) (fun h => absurd h (by decide))
  exact gw_vretA C (Nat.le_of_ble_eq_true rfl) (Nat.le_of_ble_eq_true rfl) dX2_init_131 (⟨rfl, rfl, rfl, rfl, rfl, rfl⟩)
def copiesS (sh : GSh) (n : Nat) : GSh := (mineS (upS (mineS (upS (mineS (upS (mineS (upS (upS sh n (.inr (6, 4))) (n + 1) (.inl 2)) (n + 2)) (n + 46) (.inl 2)) (n + 47)) (n + 91) (.inl 2)) (n + 92)) (n + 136) (.inl 2)) (n + 137))
def copiesR (R : GR) (r n : Nat) : GR := (upR (mineR (upR (mineR (upR (mineR (upR (mineR (upR R r 2 (some n)) (n + 1) (n + 2)) n 0 (some (n + 1))) (n + 46) (n + 47)) n (0 + 1) (some (n + 46))) (n + 91) (n + 92)) n ((0 + 1) + 1) (some (n + 91))) (n + 136) (n + 137)) n (((0 + 1) + 1) + 1) (some (n + 136)))
def copiesI (I : GI) (n : Nat) : GI := (mineI (mineI (mineI (mineI I (n + 2)) (n + 47)) (n + 92)) (n + 137))
theorem copiesS_lt {sh : GSh} {n q : Nat} (h : q < n) : copiesS sh n q = sh q := by
  unfold copiesS
  rw [mineS_lt (by omega), upS_ne (by omega), mineS_lt (by omega), upS_ne (by omega), mineS_lt (by omega), upS_ne (by omega), mineS_lt (by omega), upS_ne (by omega), upS_ne (by omega)]
theorem copiesR_ne {R : GR} {r n a : Nat} (h : a ≠ r) (h2 : a < n ∨ n + 181 ≤ a) : copiesR R r n a = R a := by
  unfold copiesR
  rw [upR_ne (by omega), mineR_ne (by omega) (by omega), upR_ne (by omega), mineR_ne (by omega) (by omega), upR_ne (by omega), mineR_ne (by omega) (by omega), upR_ne (by omega), mineR_ne (by omega) (by omega), upR_ne (by omega)]
theorem copiesI_ne {I : GI} {n a : Nat} (h2 : a < n ∨ n + 181 ≤ a) : copiesI I n a = I a := by
  unfold copiesI
  (repeat (first | rw [up_ne (by omega)] | rw [mineI_ne (by omega)]))
theorem c_fr_X0_init {n r : Nat} {R : GR} {I J : GI} (h : gFr n R I J) (hr : r < n) : gFr (n + 181) (copiesR R r n) (copiesI I n) J := fun k hk j => by
  obtain ⟨a, b, c⟩ := h k (by omega) j
  exact ⟨by rw [copiesR_ne (by omega) (by omega)]; exact a, by rw [copiesI_ne (by omega)]; exact b, c⟩
set_option maxHeartbeats 4000000 in
set_option maxRecDepth 100000 in
theorem c_X0_init {l : Launch} (hl0 : l.stackTraces = false) (G : GG) {z n : Nat} {sh : GSh} {R : GR} {I J : GI} {r : Nat} (hzn : z = n) (hfr : gFr n R I J) (hs : sh r = .inl 0) (hr : r < n)  : GMa l yX0_init (.code yX0_init cX0_init 2 none) 3 62 181 1876 G [vR r] z n sh R I J (fun z1 n1 sh1 R1 I1 J1 => z1 = z + 181 ∧ n1 = n + 181 ∧ sh1 = copiesS sh n ∧ R1 = copiesR R r n ∧ I1 = copiesI I n ∧ J1 = J) := by
  refine gma_of (lo0 := [some (vR r), none]) hl0 (by decide) rfl (Nat.le_of_ble_eq_true rfl) ?_
  intro p e s m args below meth c C hgi
  have C : gC G p l s m args meth c cX0_init 2 RX0 none "<init>" := C
  refine gw_aload_n C 0 dX0_init_0 rfl rfl ?_
  refine gw_objInit C dX0_init_1 kX0_3 (Nat.le_of_ble_eq_true rfl) (Nat.le_of_ble_eq_true rfl) ?_
  refine gw_aload_n C 0 dX0_init_4 rfl rfl ?_
  refine gw_iconst C dX0_init_5 ?_
  refine gw_newq C (len := 4) (t := 6) kX0_9 (List.mem_of_getElem? (i := 3) rfl) rfl (by decide) dX0_init_6 (by decide) (by omega) hfr (Nat.le_of_ble_eq_true rfl) (Nat.le_of_ble_eq_true rfl) ?_
  have fr_5 : gFr (n + 1) R I J := hfr.mono (by omega)
  refine gw_putFR (ci := 0) (Cn := RX0) (T0 := TX0) (N := 3) C (ty := tyX0 2) 2 kX0_11 fX0 rfl (by decide) rfl rfl tyX0 tyX0_ok nmX0 rfl C.2.2.2.2.2.2 rfl (by decide) rfl rfl dX0_init_9 (by rw [upS_ne (by omega)]; exact hs) (by omega) ?_
  have fr_7 : gFr (n + 1) (upR R r 2 (some n)) I J := fr_5.upR (by omega)
  refine gw_iconst C dX0_init_12 ?_
  refine gw_istore_n C (lo1 := [some (vR r), some (vI 0)]) 1 dX0_init_13 rfl (by decide) rfl ?_
  refine gw_iload_n C 1 dX0_init_14 rfl rfl ?_
  refine gw_iconst C dX0_init_15 ?_
  refine gw_icmp_ge C (tgt := 38) dX0_init_16 (by decide) ⟨by decide, by decide⟩ ⟨by decide, by decide⟩ (fun h => absurd h (by decide)) (fun _ => ?_)
  refine gw_aload_n C 0 dX0_init_19 rfl rfl ?_
  refine gw_getRs (ci := 0) (Cn := RX0) (T0 := TX0) (N := 3) C n 2 kX0_11 fX0 rfl (by decide) rfl rfl dX0_init_20 (by rw [upS_ne (by omega)]; exact hs) (by omega) (by rw [upR_eq]) ?_
  refine gw_iload_n C 1 dX0_init_23 rfl rfl ?_
  refine gw_new C (ci := 2) (Cn := RX2) (T0 := TX2) (N := 7) tyX2 tyX2_ok (by intro j hj; match j, hj with | 0, _ => rfl | 1, _ => rfl | 2, _ => rfl | 3, _ => rfl | 4, _ => rfl | 5, _ => rfl | 6, _ => rfl) fX2 rfl rfl kX0_9 mX2 nX2 dX0_init_24 (by omega) fr_7 (Nat.le_of_ble_eq_true rfl) (Nat.le_of_ble_eq_true rfl) ?_
  have fr_17 : gFr (n + 2) (upR R r 2 (some n)) I J := fr_7.mono (by omega)
  refine gw_dupR C dX0_init_27 ?_
  refine gw_callI C (as := []) (st := [vR (n + 1), vI 0, vR n]) (c_X2_init hl0 G (by omega) fr_17 (by rw [upS_eq]) (by omega)) dX0_init_28 kX0_17 rfl qX2_init hdX2_init ⟨Nat.le_of_ble_eq_true rfl, Nat.le_of_ble_eq_true rfl⟩ ⟨Nat.le_of_ble_eq_true rfl, Nat.le_of_ble_eq_true rfl⟩ (Nat.le_of_ble_eq_true rfl) rfl ?_
  rintro z1 n1 sh1 R1 I1 J1 ⟨e1, e2, e3, e4, e5, e6⟩
  subst z1 n1 sh1 R1 I1 J1
  try simp only [Nat.add_assoc, Nat.reduceAdd]
  have fr_23 : gFr (n + 46) (mineR (upR R r 2 (some n)) (n + 1) (n + 2)) (mineI I (n + 2)) J := c_fr_X2_init fr_17 (by omega)
  refine gw_aast C (t := 6) (ci := 2) (cl := (RX2, TX2, 7)) 0 dX0_init_31 rfl (by decide) rfl (by rw [mineS_lt (by omega), upS_eq]) (by omega) (by rw [mineS_lt (by omega), upS_ne (by omega), upS_eq]) (by omega) (by omega) (by omega) (by decide) ?_
  have fr_25 : gFr (n + 46) (upR (mineR (upR R r 2 (some n)) (n + 1) (n + 2)) n 0 (some (n + 1))) (mineI I (n + 2)) J := fr_23.upR (by omega)
  refine gw_iinc C (lo1 := [some (vR r), some (vI (0 + 1))]) dX0_init_32 rfl (by decide) rfl ?_
  refine gw_goto C (tgt := 14) dX0_init_35 (by decide) ?_
  refine gw_iload_n C 1 dX0_init_14 rfl rfl ?_
  refine gw_iconst C dX0_init_15 ?_
  refine gw_icmp_ge C (tgt := 38) dX0_init_16 (by decide) ⟨by decide, by decide⟩ ⟨by decide, by decide⟩ (fun h => absurd h (by decide)) (fun _ => ?_)
  refine gw_aload_n C 0 dX0_init_19 rfl rfl ?_
  refine gw_getRs (ci := 0) (Cn := RX0) (T0 := TX0) (N := 3) C n 2 kX0_11 fX0 rfl (by decide) rfl rfl dX0_init_20 (by rw [mineS_lt (by omega), upS_ne (by omega), upS_ne (by omega)]; exact hs) (by omega) (by rw [upR_ne (by omega), mineR_ne (by omega) (by omega), upR_eq]) ?_
  refine gw_iload_n C 1 dX0_init_23 rfl rfl ?_
  refine gw_new C (ci := 2) (Cn := RX2) (T0 := TX2) (N := 7) tyX2 tyX2_ok (by intro j hj; match j, hj with | 0, _ => rfl | 1, _ => rfl | 2, _ => rfl | 3, _ => rfl | 4, _ => rfl | 5, _ => rfl | 6, _ => rfl) fX2 rfl rfl kX0_9 mX2 nX2 dX0_init_24 (by omega) fr_25 (Nat.le_of_ble_eq_true rfl) (Nat.le_of_ble_eq_true rfl) ?_
  have fr_35 : gFr (n + 47) (upR (mineR (upR R r 2 (some n)) (n + 1) (n + 2)) n 0 (some (n + 1))) (mineI I (n + 2)) J := fr_25.mono (by omega)
  refine gw_dupR C dX0_init_27 ?_
  refine gw_callI C (as := []) (st := [vR (n + 46), vI (0 + 1), vR n]) (c_X2_init hl0 G (by omega) fr_35 (by rw [upS_eq]) (by omega)) dX0_init_28 kX0_17 rfl qX2_init hdX2_init ⟨Nat.le_of_ble_eq_true rfl, Nat.le_of_ble_eq_true rfl⟩ ⟨Nat.le_of_ble_eq_true rfl, Nat.le_of_ble_eq_true rfl⟩ (Nat.le_of_ble_eq_true rfl) rfl ?_
  rintro z1 n1 sh1 R1 I1 J1 ⟨e1, e2, e3, e4, e5, e6⟩
  subst z1 n1 sh1 R1 I1 J1
  try simp only [Nat.add_assoc, Nat.reduceAdd]
  have fr_41 : gFr (n + 91) (mineR (upR (mineR (upR R r 2 (some n)) (n + 1) (n + 2)) n 0 (some (n + 1))) (n + 46) (n + 47)) (mineI (mineI I (n + 2)) (n + 47)) J := c_fr_X2_init fr_35 (by omega)
  refine gw_aast C (t := 6) (ci := 2) (cl := (RX2, TX2, 7)) (0 + 1) dX0_init_31 rfl (by decide) rfl (by rw [mineS_lt (by omega), upS_eq]) (by omega) (by rw [mineS_lt (by omega), upS_ne (by omega), mineS_lt (by omega), upS_ne (by omega), upS_eq]) (by omega) (by omega) (by omega) (by decide) ?_
  have fr_43 : gFr (n + 91) (upR (mineR (upR (mineR (upR R r 2 (some n)) (n + 1) (n + 2)) n 0 (some (n + 1))) (n + 46) (n + 47)) n (0 + 1) (some (n + 46))) (mineI (mineI I (n + 2)) (n + 47)) J := fr_41.upR (by omega)
  refine gw_iinc C (lo1 := [some (vR r), some (vI ((0 + 1) + 1))]) dX0_init_32 rfl (by decide) rfl ?_
  refine gw_goto C (tgt := 14) dX0_init_35 (by decide) ?_
  refine gw_iload_n C 1 dX0_init_14 rfl rfl ?_
  refine gw_iconst C dX0_init_15 ?_
  refine gw_icmp_ge C (tgt := 38) dX0_init_16 (by decide) ⟨by decide, by decide⟩ ⟨by decide, by decide⟩ (fun h => absurd h (by decide)) (fun _ => ?_)
  refine gw_aload_n C 0 dX0_init_19 rfl rfl ?_
  refine gw_getRs (ci := 0) (Cn := RX0) (T0 := TX0) (N := 3) C n 2 kX0_11 fX0 rfl (by decide) rfl rfl dX0_init_20 (by rw [mineS_lt (by omega), upS_ne (by omega), mineS_lt (by omega), upS_ne (by omega), upS_ne (by omega)]; exact hs) (by omega) (by rw [upR_ne (by omega), mineR_ne (by omega) (by omega), upR_ne (by omega), mineR_ne (by omega) (by omega), upR_eq]) ?_
  refine gw_iload_n C 1 dX0_init_23 rfl rfl ?_
  refine gw_new C (ci := 2) (Cn := RX2) (T0 := TX2) (N := 7) tyX2 tyX2_ok (by intro j hj; match j, hj with | 0, _ => rfl | 1, _ => rfl | 2, _ => rfl | 3, _ => rfl | 4, _ => rfl | 5, _ => rfl | 6, _ => rfl) fX2 rfl rfl kX0_9 mX2 nX2 dX0_init_24 (by omega) fr_43 (Nat.le_of_ble_eq_true rfl) (Nat.le_of_ble_eq_true rfl) ?_
  have fr_53 : gFr (n + 92) (upR (mineR (upR (mineR (upR R r 2 (some n)) (n + 1) (n + 2)) n 0 (some (n + 1))) (n + 46) (n + 47)) n (0 + 1) (some (n + 46))) (mineI (mineI I (n + 2)) (n + 47)) J := fr_43.mono (by omega)
  refine gw_dupR C dX0_init_27 ?_
  refine gw_callI C (as := []) (st := [vR (n + 91), vI ((0 + 1) + 1), vR n]) (c_X2_init hl0 G (by omega) fr_53 (by rw [upS_eq]) (by omega)) dX0_init_28 kX0_17 rfl qX2_init hdX2_init ⟨Nat.le_of_ble_eq_true rfl, Nat.le_of_ble_eq_true rfl⟩ ⟨Nat.le_of_ble_eq_true rfl, Nat.le_of_ble_eq_true rfl⟩ (Nat.le_of_ble_eq_true rfl) rfl ?_
  rintro z1 n1 sh1 R1 I1 J1 ⟨e1, e2, e3, e4, e5, e6⟩
  subst z1 n1 sh1 R1 I1 J1
  try simp only [Nat.add_assoc, Nat.reduceAdd]
  have fr_59 : gFr (n + 136) (mineR (upR (mineR (upR (mineR (upR R r 2 (some n)) (n + 1) (n + 2)) n 0 (some (n + 1))) (n + 46) (n + 47)) n (0 + 1) (some (n + 46))) (n + 91) (n + 92)) (mineI (mineI (mineI I (n + 2)) (n + 47)) (n + 92)) J := c_fr_X2_init fr_53 (by omega)
  refine gw_aast C (t := 6) (ci := 2) (cl := (RX2, TX2, 7)) ((0 + 1) + 1) dX0_init_31 rfl (by decide) rfl (by rw [mineS_lt (by omega), upS_eq]) (by omega) (by rw [mineS_lt (by omega), upS_ne (by omega), mineS_lt (by omega), upS_ne (by omega), mineS_lt (by omega), upS_ne (by omega), upS_eq]) (by omega) (by omega) (by omega) (by decide) ?_
  have fr_61 : gFr (n + 136) (upR (mineR (upR (mineR (upR (mineR (upR R r 2 (some n)) (n + 1) (n + 2)) n 0 (some (n + 1))) (n + 46) (n + 47)) n (0 + 1) (some (n + 46))) (n + 91) (n + 92)) n ((0 + 1) + 1) (some (n + 91))) (mineI (mineI (mineI I (n + 2)) (n + 47)) (n + 92)) J := fr_59.upR (by omega)
  refine gw_iinc C (lo1 := [some (vR r), some (vI (((0 + 1) + 1) + 1))]) dX0_init_32 rfl (by decide) rfl ?_
  refine gw_goto C (tgt := 14) dX0_init_35 (by decide) ?_
  refine gw_iload_n C 1 dX0_init_14 rfl rfl ?_
  refine gw_iconst C dX0_init_15 ?_
  refine gw_icmp_ge C (tgt := 38) dX0_init_16 (by decide) ⟨by decide, by decide⟩ ⟨by decide, by decide⟩ (fun h => absurd h (by decide)) (fun _ => ?_)
  refine gw_aload_n C 0 dX0_init_19 rfl rfl ?_
  refine gw_getRs (ci := 0) (Cn := RX0) (T0 := TX0) (N := 3) C n 2 kX0_11 fX0 rfl (by decide) rfl rfl dX0_init_20 (by rw [mineS_lt (by omega), upS_ne (by omega), mineS_lt (by omega), upS_ne (by omega), mineS_lt (by omega), upS_ne (by omega), upS_ne (by omega)]; exact hs) (by omega) (by rw [upR_ne (by omega), mineR_ne (by omega) (by omega), upR_ne (by omega), mineR_ne (by omega) (by omega), upR_ne (by omega), mineR_ne (by omega) (by omega), upR_eq]) ?_
  refine gw_iload_n C 1 dX0_init_23 rfl rfl ?_
  refine gw_new C (ci := 2) (Cn := RX2) (T0 := TX2) (N := 7) tyX2 tyX2_ok (by intro j hj; match j, hj with | 0, _ => rfl | 1, _ => rfl | 2, _ => rfl | 3, _ => rfl | 4, _ => rfl | 5, _ => rfl | 6, _ => rfl) fX2 rfl rfl kX0_9 mX2 nX2 dX0_init_24 (by omega) fr_61 (Nat.le_of_ble_eq_true rfl) (Nat.le_of_ble_eq_true rfl) ?_
  have fr_71 : gFr (n + 137) (upR (mineR (upR (mineR (upR (mineR (upR R r 2 (some n)) (n + 1) (n + 2)) n 0 (some (n + 1))) (n + 46) (n + 47)) n (0 + 1) (some (n + 46))) (n + 91) (n + 92)) n ((0 + 1) + 1) (some (n + 91))) (mineI (mineI (mineI I (n + 2)) (n + 47)) (n + 92)) J := fr_61.mono (by omega)
  refine gw_dupR C dX0_init_27 ?_
  refine gw_callI C (as := []) (st := [vR (n + 136), vI (((0 + 1) + 1) + 1), vR n]) (c_X2_init hl0 G (by omega) fr_71 (by rw [upS_eq]) (by omega)) dX0_init_28 kX0_17 rfl qX2_init hdX2_init ⟨Nat.le_of_ble_eq_true rfl, Nat.le_of_ble_eq_true rfl⟩ ⟨Nat.le_of_ble_eq_true rfl, Nat.le_of_ble_eq_true rfl⟩ (Nat.le_of_ble_eq_true rfl) rfl ?_
  rintro z1 n1 sh1 R1 I1 J1 ⟨e1, e2, e3, e4, e5, e6⟩
  subst z1 n1 sh1 R1 I1 J1
  try simp only [Nat.add_assoc, Nat.reduceAdd]
  have fr_77 : gFr (n + 181) (mineR (upR (mineR (upR (mineR (upR (mineR (upR R r 2 (some n)) (n + 1) (n + 2)) n 0 (some (n + 1))) (n + 46) (n + 47)) n (0 + 1) (some (n + 46))) (n + 91) (n + 92)) n ((0 + 1) + 1) (some (n + 91))) (n + 136) (n + 137)) (mineI (mineI (mineI (mineI I (n + 2)) (n + 47)) (n + 92)) (n + 137)) J := c_fr_X2_init fr_71 (by omega)
  refine gw_aast C (t := 6) (ci := 2) (cl := (RX2, TX2, 7)) (((0 + 1) + 1) + 1) dX0_init_31 rfl (by decide) rfl (by rw [mineS_lt (by omega), upS_eq]) (by omega) (by rw [mineS_lt (by omega), upS_ne (by omega), mineS_lt (by omega), upS_ne (by omega), mineS_lt (by omega), upS_ne (by omega), mineS_lt (by omega), upS_ne (by omega), upS_eq]) (by omega) (by omega) (by omega) (by decide) ?_
  have fr_79 : gFr (n + 181) (upR (mineR (upR (mineR (upR (mineR (upR (mineR (upR R r 2 (some n)) (n + 1) (n + 2)) n 0 (some (n + 1))) (n + 46) (n + 47)) n (0 + 1) (some (n + 46))) (n + 91) (n + 92)) n ((0 + 1) + 1) (some (n + 91))) (n + 136) (n + 137)) n (((0 + 1) + 1) + 1) (some (n + 136))) (mineI (mineI (mineI (mineI I (n + 2)) (n + 47)) (n + 92)) (n + 137)) J := fr_77.upR (by omega)
  refine gw_iinc C (lo1 := [some (vR r), some (vI ((((0 + 1) + 1) + 1) + 1))]) dX0_init_32 rfl (by decide) rfl ?_
  refine gw_goto C (tgt := 14) dX0_init_35 (by decide) ?_
  refine gw_iload_n C 1 dX0_init_14 rfl rfl ?_
  refine gw_iconst C dX0_init_15 ?_
  refine gw_icmp_ge C (tgt := 38) dX0_init_16 (by decide) ⟨by decide, by decide⟩ ⟨by decide, by decide⟩ (fun _ => ?_) (fun h => absurd h (by decide))
  exact gw_vretA C (Nat.le_of_ble_eq_true rfl) (Nat.le_of_ble_eq_true rfl) dX0_init_38 (⟨rfl, rfl, rfl, rfl, rfl, rfl⟩)
def scriptS (sh : GSh) (n : Nat) : GSh := (upS (upS sh n (.inr (0, 3))) (n + 1) (.inr (2, 90)))
def scriptR (R : GR) (r n : Nat) : GR := (upR (upR R r 2 (some n)) r 4 (some (n + 1)))
def scriptI (I : GI) (n : Nat) : GI := I
theorem scriptS_lt {sh : GSh} {n q : Nat} (h : q < n) : scriptS sh n q = sh q := by
  unfold scriptS
  rw [upS_ne (by omega), upS_ne (by omega)]
theorem scriptR_ne {R : GR} {r n a : Nat} (h : a ≠ r) (h2 : a < n ∨ n + 2 ≤ a) : scriptR R r n a = R a := by
  unfold scriptR
  rw [upR_ne (by omega), upR_ne (by omega)]
theorem scriptI_ne {I : GI} {n a : Nat} (h2 : a < n ∨ n + 2 ≤ a) : scriptI I n a = I a := by
  unfold scriptI
  rfl
theorem c_fr_X4_init {n r : Nat} {R : GR} {I J : GI} (h : gFr n R I J) (hr : r < n) : gFr (n + 2) (scriptR R r n) (scriptI I n) J := fun k hk j => by
  obtain ⟨a, b, c⟩ := h k (by omega) j
  exact ⟨by rw [scriptR_ne (by omega) (by omega)]; exact a, by rw [scriptI_ne (by omega)]; exact b, c⟩
set_option maxHeartbeats 4000000 in
set_option maxRecDepth 100000 in
theorem c_X4_init {l : Launch} (hl0 : l.stackTraces = false) (G : GG) {z n : Nat} {sh : GSh} {R : GR} {I J : GI} {r : Nat} (hzn : z = n) (hfr : gFr n R I J) (hs : sh r = .inl 3) (hr : r < n)  : GMa l yX4_init (.code yX4_init cX4_init 1 none) 1 21 2 93 G [vR r] z n sh R I J (fun z1 n1 sh1 R1 I1 J1 => z1 = z + 2 ∧ n1 = n + 2 ∧ sh1 = scriptS sh n ∧ R1 = scriptR R r n ∧ I1 = scriptI I n ∧ J1 = J) := by
  refine gma_of (lo0 := [some (vR r)]) hl0 (by decide) rfl (Nat.le_of_ble_eq_true rfl) ?_
  intro p e s m args below meth c C hgi
  have C : gC G p l s m args meth c cX4_init 1 RX4 none "<init>" := C
  refine gw_aload_n C 0 dX4_init_0 rfl rfl ?_
  refine gw_objInit C dX4_init_1 kX4_3 (Nat.le_of_ble_eq_true rfl) (Nat.le_of_ble_eq_true rfl) ?_
  refine gw_aload_n C 0 dX4_init_4 rfl rfl ?_
  refine gw_iconst C dX4_init_5 ?_
  refine gw_newarr C (len := 3) (t := 0) (ty := .int) rfl a_int rfl rfl (fun _ => rfl) dX4_init_6 (by decide) (by decide) (by omega) hfr (Nat.le_of_ble_eq_true rfl) (Nat.le_of_ble_eq_true rfl) ?_
  have fr_5 : gFr (n + 1) R I J := hfr.mono (by omega)
  refine gw_putFR (ci := 3) (Cn := RX4) (T0 := TX4) (N := 5) C (ty := tyX4 2) 2 kX4_9 fX4 rfl (by decide) rfl rfl tyX4 tyX4_ok nmX4 rfl C.2.2.2.2.2.2 rfl (by decide) rfl rfl dX4_init_8 (by rw [upS_ne (by omega)]; exact hs) (by omega) ?_
  have fr_7 : gFr (n + 1) (upR R r 2 (some n)) I J := fr_5.upR (by omega)
  refine gw_aload_n C 0 dX4_init_11 rfl rfl ?_
  refine gw_bipush C dX4_init_12 rfl ?_
  refine gw_newarr C (len := 90) (t := 2) (ty := .char) rfl a_char rfl rfl (fun _ => rfl) dX4_init_14 (by decide) (by decide) (by omega) fr_7 (Nat.le_of_ble_eq_true rfl) (Nat.le_of_ble_eq_true rfl) ?_
  have fr_11 : gFr (n + 2) (upR R r 2 (some n)) I J := fr_7.mono (by omega)
  refine gw_putFR (ci := 3) (Cn := RX4) (T0 := TX4) (N := 5) C (ty := tyX4 4) 4 kX4_15 fX4 rfl (by decide) rfl rfl tyX4 tyX4_ok nmX4 rfl C.2.2.2.2.2.2 rfl (by decide) rfl rfl dX4_init_16 (by rw [upS_ne (by omega), upS_ne (by omega)]; exact hs) (by omega) ?_
  have fr_13 : gFr (n + 2) (upR (upR R r 2 (some n)) r 4 (some (n + 1))) I J := fr_11.upR (by omega)
  exact gw_vretA C (Nat.le_of_ble_eq_true rfl) (Nat.le_of_ble_eq_true rfl) dX4_init_19 (⟨rfl, rfl, rfl, rfl, rfl, rfl⟩)
def plumbS (sh : GSh) (n : Nat) : GSh := (scriptS (upS (copiesS (upS (mineS (upS sh n (.inl 2)) (n + 1)) (n + 45) (.inl 0)) (n + 46)) (n + 227) (.inl 3)) (n + 228))
def plumbR (R : GR) (r n : Nat) : GR := (upR (scriptR (upR (copiesR (upR (mineR R n (n + 1)) r 0 (some n)) (n + 45) (n + 46)) r 1 (some (n + 45))) (n + 227) (n + 228)) r 2 (some (n + 227)))
def plumbI (I : GI) (n : Nat) : GI := (scriptI (copiesI (mineI I (n + 1)) (n + 46)) (n + 228))
theorem plumbS_lt {sh : GSh} {n q : Nat} (h : q < n) : plumbS sh n q = sh q := by
  unfold plumbS
  rw [scriptS_lt (by omega), upS_ne (by omega), copiesS_lt (by omega), upS_ne (by omega), mineS_lt (by omega), upS_ne (by omega)]
theorem plumbR_ne {R : GR} {r n a : Nat} (h : a ≠ r) (h2 : a < n ∨ n + 230 ≤ a) : plumbR R r n a = R a := by
  unfold plumbR
  rw [upR_ne (by omega), scriptR_ne (by omega) (by omega), upR_ne (by omega), copiesR_ne (by omega) (by omega), upR_ne (by omega), mineR_ne (by omega) (by omega)]
theorem plumbI_ne {I : GI} {n a : Nat} (h2 : a < n ∨ n + 230 ≤ a) : plumbI I n a = I a := by
  unfold plumbI
  (repeat (first | rw [up_ne (by omega)] | rw [mineI_ne (by omega)] | rw [copiesI_ne (by omega)] | rw [scriptI_ne (by omega)]))
theorem c_fr_X7_init {n r : Nat} {R : GR} {I J : GI} (h : gFr n R I J) (hr : r < n) : gFr (n + 230) (plumbR R r n) (plumbI I n) J := fun k hk j => by
  obtain ⟨a, b, c⟩ := h k (by omega) j
  exact ⟨by rw [plumbR_ne (by omega) (by omega)]; exact a, by rw [plumbI_ne (by omega)]; exact b, c⟩
set_option maxHeartbeats 4000000 in
set_option maxRecDepth 100000 in
theorem c_X7_init {l : Launch} (hl0 : l.stackTraces = false) (G : GG) {z n : Nat} {sh : GSh} {R : GR} {I J : GI} {r : Nat} (hzn : z = n) (hfr : gFr n R I J) (hs : sh r = .inl 6) (hr : r < n)  : GMa l yX7_init (.code yX7_init cX7_init 1 none) 4 83 230 2445 G [vR r] z n sh R I J (fun z1 n1 sh1 R1 I1 J1 => z1 = z + 230 ∧ n1 = n + 230 ∧ sh1 = plumbS sh n ∧ R1 = plumbR R r n ∧ I1 = plumbI I n ∧ J1 = J) := by
  refine gma_of (lo0 := [some (vR r)]) hl0 (by decide) rfl (Nat.le_of_ble_eq_true rfl) ?_
  intro p e s m args below meth c C hgi
  have C : gC G p l s m args meth c cX7_init 1 RX7 none "<init>" := C
  refine gw_aload_n C 0 dX7_init_0 rfl rfl ?_
  refine gw_objInit C dX7_init_1 kX7_1 (Nat.le_of_ble_eq_true rfl) (Nat.le_of_ble_eq_true rfl) ?_
  refine gw_aload_n C 0 dX7_init_4 rfl rfl ?_
  refine gw_new C (ci := 2) (Cn := RX2) (T0 := TX2) (N := 7) tyX2 tyX2_ok (by intro j hj; match j, hj with | 0, _ => rfl | 1, _ => rfl | 2, _ => rfl | 3, _ => rfl | 4, _ => rfl | 5, _ => rfl | 6, _ => rfl) fX2 rfl rfl kX7_7 mX2 nX2 dX7_init_5 (by omega) hfr (Nat.le_of_ble_eq_true rfl) (Nat.le_of_ble_eq_true rfl) ?_
  have fr_4 : gFr (n + 1) R I J := hfr.mono (by omega)
  refine gw_dupR C dX7_init_8 ?_
  refine gw_callI C (as := []) (st := [vR n, vR r]) (c_X2_init hl0 G (by omega) fr_4 (by rw [upS_eq]) (by omega)) dX7_init_9 kX7_9 rfl qX2_init hdX2_init ⟨Nat.le_of_ble_eq_true rfl, Nat.le_of_ble_eq_true rfl⟩ ⟨Nat.le_of_ble_eq_true rfl, Nat.le_of_ble_eq_true rfl⟩ (Nat.le_of_ble_eq_true rfl) rfl ?_
  rintro z1 n1 sh1 R1 I1 J1 ⟨e1, e2, e3, e4, e5, e6⟩
  subst z1 n1 sh1 R1 I1 J1
  try simp only [Nat.add_assoc, Nat.reduceAdd]
  have fr_10 : gFr (n + 45) (mineR R n (n + 1)) (mineI I (n + 1)) J := c_fr_X2_init fr_4 (by omega)
  refine gw_putFR (ci := 6) (Cn := RX7) (T0 := TX7) (N := 3) C (ty := tyX7 0) 0 kX7_10 fX7 rfl (by decide) rfl rfl tyX7 tyX7_ok nmX7 rfl C.2.2.2.2.2.2 rfl (by decide) rfl rfl dX7_init_12 (by rw [mineS_lt (by omega), upS_ne (by omega)]; exact hs) (by omega) ?_
  have fr_12 : gFr (n + 45) (upR (mineR R n (n + 1)) r 0 (some n)) (mineI I (n + 1)) J := fr_10.upR (by omega)
  refine gw_aload_n C 0 dX7_init_15 rfl rfl ?_
  refine gw_new C (ci := 0) (Cn := RX0) (T0 := TX0) (N := 3) tyX0 tyX0_ok (by intro j hj; match j, hj with | 0, _ => rfl | 1, _ => rfl | 2, _ => rfl) fX0 rfl rfl kX7_16 mX0 nX0 dX7_init_16 (by omega) fr_12 (Nat.le_of_ble_eq_true rfl) (Nat.le_of_ble_eq_true rfl) ?_
  have fr_15 : gFr (n + 46) (upR (mineR R n (n + 1)) r 0 (some n)) (mineI I (n + 1)) J := fr_12.mono (by omega)
  refine gw_dupR C dX7_init_19 ?_
  refine gw_callI C (as := []) (st := [vR (n + 45), vR r]) (c_X0_init hl0 G (by omega) fr_15 (by rw [upS_eq]) (by omega)) dX7_init_20 kX7_18 rfl qX0_init hdX0_init ⟨Nat.le_of_ble_eq_true rfl, Nat.le_of_ble_eq_true rfl⟩ ⟨Nat.le_of_ble_eq_true rfl, Nat.le_of_ble_eq_true rfl⟩ (Nat.le_of_ble_eq_true rfl) rfl ?_
  rintro z1 n1 sh1 R1 I1 J1 ⟨e1, e2, e3, e4, e5, e6⟩
  subst z1 n1 sh1 R1 I1 J1
  try simp only [Nat.add_assoc, Nat.reduceAdd]
  have fr_21 : gFr (n + 227) (copiesR (upR (mineR R n (n + 1)) r 0 (some n)) (n + 45) (n + 46)) (copiesI (mineI I (n + 1)) (n + 46)) J := c_fr_X0_init fr_15 (by omega)
  refine gw_putFR (ci := 6) (Cn := RX7) (T0 := TX7) (N := 3) C (ty := tyX7 1) 1 kX7_19 fX7 rfl (by decide) rfl rfl tyX7 tyX7_ok nmX7 rfl C.2.2.2.2.2.2 rfl (by decide) rfl rfl dX7_init_23 (by rw [copiesS_lt (by omega), upS_ne (by omega), mineS_lt (by omega), upS_ne (by omega)]; exact hs) (by omega) ?_
  have fr_23 : gFr (n + 227) (upR (copiesR (upR (mineR R n (n + 1)) r 0 (some n)) (n + 45) (n + 46)) r 1 (some (n + 45))) (copiesI (mineI I (n + 1)) (n + 46)) J := fr_21.upR (by omega)
  refine gw_aload_n C 0 dX7_init_26 rfl rfl ?_
  refine gw_new C (ci := 3) (Cn := RX4) (T0 := TX4) (N := 5) tyX4 tyX4_ok (by intro j hj; match j, hj with | 0, _ => rfl | 1, _ => rfl | 2, _ => rfl | 3, _ => rfl | 4, _ => rfl) fX4 rfl rfl kX7_23 mX4 nX4 dX7_init_27 (by omega) fr_23 (Nat.le_of_ble_eq_true rfl) (Nat.le_of_ble_eq_true rfl) ?_
  have fr_26 : gFr (n + 228) (upR (copiesR (upR (mineR R n (n + 1)) r 0 (some n)) (n + 45) (n + 46)) r 1 (some (n + 45))) (copiesI (mineI I (n + 1)) (n + 46)) J := fr_23.mono (by omega)
  refine gw_dupR C dX7_init_30 ?_
  refine gw_callIN C (as := []) (st := [vR (n + 227), vR r]) (c_X4_init hl0 G (by omega) fr_26 (by rw [upS_eq]) (by omega)) dX7_init_31 (List.mem_of_getElem? (i := 3) rfl) rfl qX4_init hdX4_init ⟨Nat.le_of_ble_eq_true rfl, Nat.le_of_ble_eq_true rfl⟩ ⟨Nat.le_of_ble_eq_true rfl, Nat.le_of_ble_eq_true rfl⟩ (Nat.le_of_ble_eq_true rfl) rfl ?_
  rintro z1 n1 sh1 R1 I1 J1 ⟨e1, e2, e3, e4, e5, e6⟩
  subst z1 n1 sh1 R1 I1 J1
  try simp only [Nat.add_assoc, Nat.reduceAdd]
  have fr_32 : gFr (n + 230) (scriptR (upR (copiesR (upR (mineR R n (n + 1)) r 0 (some n)) (n + 45) (n + 46)) r 1 (some (n + 45))) (n + 227) (n + 228)) (scriptI (copiesI (mineI I (n + 1)) (n + 46)) (n + 228)) J := c_fr_X4_init fr_26 (by omega)
  refine gw_putFR (ci := 6) (Cn := RX7) (T0 := TX7) (N := 3) C (ty := tyX7 2) 2 kX7_26 fX7 rfl (by decide) rfl rfl tyX7 tyX7_ok nmX7 rfl C.2.2.2.2.2.2 rfl (by decide) rfl rfl dX7_init_34 (by rw [scriptS_lt (by omega), upS_ne (by omega), copiesS_lt (by omega), upS_ne (by omega), mineS_lt (by omega), upS_ne (by omega)]; exact hs) (by omega) ?_
  have fr_34 : gFr (n + 230) (upR (scriptR (upR (copiesR (upR (mineR R n (n + 1)) r 0 (some n)) (n + 45) (n + 46)) r 1 (some (n + 45))) (n + 227) (n + 228)) r 2 (some (n + 227))) (scriptI (copiesI (mineI I (n + 1)) (n + 46)) (n + 228)) J := fr_32.upR (by omega)
  exact gw_vretA C (Nat.le_of_ble_eq_true rfl) (Nat.le_of_ble_eq_true rfl) dX7_init_37 (⟨rfl, rfl, rfl, rfl, rfl, rfl⟩)
def z0S : GSh := fun _ => .inl 0
def z0R : GR := fun _ _ => none
def z0I : GI := fun _ _ => 0
def SH : GSh := upS (upS (upS (upS (upS (upS (upS (upS (plumbS (upS z0S 0 (.inl 6)) 1) 231 (.inr (0, 6))) 232 (.inr (0, 12))) 233 (.inr (0, 6))) 234 (.inr (0, 54))) 235 (.inr (0, 24))) 236 (.inr (0, 16))) 237 (.inr (0, 48))) 238 (.inr (0, 48))
def RR : GR := plumbR z0R 0 1
def II0 : GI := up (up (up (plumbI z0I 1) 231 0 20) 231 1 30) 231 2 500
def N0 : Nat := 239
