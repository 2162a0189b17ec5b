def flQ (I J : GI) : Option GV → Nat → GI → GI → Prop := fun v _ I' J' => v = some (vI (ffF (I 234) (tN I) 0 0 0)) ∧ (I' 231 6 = 0 ∧ ∀ q f, q ≠ 235 → ¬ (q = 231 ∧ (f = 6 ∨ f = 7)) → I' q f = I q f) ∧ J' = J
theorem tN_up {I : GI} {x : Int} : tN (up I 231 6 x) = tN I ∧ up I 231 6 x 234 = I 234 ∧ up I 231 6 x 231 5 = I 231 5 := ⟨by unfold tN; rw [up_ne2 (by decide)], up_ne (by decide), up_ne2 (by decide)⟩
theorem fl_of {I K : GI} {x : Int} (h : tfr (up I 231 6 x) K) : K 231 6 = x ∧ ∀ q f, q ≠ 235 → ¬ (q = 231 ∧ (f = 6 ∨ f = 7)) → K q f = I q f :=
  ⟨by rw [h 231 6 (by decide) (by omega), up_eq], fun q f a b => by rw [h q f a (by omega), up_nn (by omega)]⟩
def dsR (I K : GI) (l : Int) : Prop := K 232 = exS (I 232) l (I 235 0) (I 235 1) (I 235 2) ∧ ((K 231 6 = 0 ∧ exC (I 232) l (I 235 0) (I 235 1) (I 235 2) = 1) ∨ (K 231 6 ≠ 0 ∧ exC (I 232) l (I 235 0) (I 235 1) (I 235 2) = 0)) ∧ ∀ q f, q ≠ 232 → ¬ (q = 231 ∧ f = 6) → K q f = I q f
def dsQ (I J : GI) (l : Int) : Option GV → Nat → GI → GI → Prop := fun v _ I' J' => v = none ∧ dsR I I' l ∧ J' = J
theorem ds_of {I K : GI} {k l : Int} {S' : Nat → Int} (h3 : I 231 3 ≠ 0) (hm : K 231 6 = k ∧ (k ≠ 0 → ∀ q f, ¬ (q = 231 ∧ f = 6) → K q f = I q f) ∧ (k = 0 → mdR I K S')) (hk : k = 0 ↔ rfZ (I 232) l (I 235 0) (I 235 1) (I 235 2) = 0) (hS : S' = coS (I 232) l (I 235 0) (I 235 1) (I 235 2)) : dsR I K l := by
  obtain ⟨h1, h2, h4⟩ := hm
  unfold dsR exS exC
  by_cases c : k = 0
  · obtain ⟨⟨_, hs⟩, he, hf⟩ := h4 c
    have hs := hs h3
    rw [if_pos (hk.mp c), if_pos (hk.mp c)]
    refine ⟨by rw [he, hS], Or.inl ⟨by rw [h1]; exact c, rfl⟩, fun q f a b => ?_⟩
    by_cases e : q = 233
    · rw [e, hs.2]
    · by_cases e2 : q = 231 ∧ f = 2
      · rw [e2.1, e2.2, hs.1]
      · exact hf q f a e (by omega)
  · have n0 : ¬ rfZ (I 232) l (I 235 0) (I 235 1) (I 235 2) = 0 := fun q => c (hk.mpr q)
    rw [if_neg n0, if_neg n0]
    exact ⟨funext (fun f => h2 c 232 f (by omega)), Or.inr ⟨by rw [h1]; exact c, rfl⟩, fun q f _ b => h2 c q f b⟩
theorem kDrop_0 {S : Nat → Int} {t : Int} : kDrop S t = 0 ↔ rfK S t = 0 := by
  unfold kDrop rfK
  by_cases a : 0 ≤ t ∧ t < S 5
  · rw [if_neg (show ¬ ¬ (0 ≤ t ∧ t < S 5) by omega), if_neg (show ¬ ¬ (0 ≤ t ∧ t < S 5) by omega)]
    split <;> omega
  · rw [if_pos a, if_pos a]
theorem kAdj_0 {S : Nat → Int} {t : Int} : kAdj S t = 0 ↔ rfA S t = 0 := by
  unfold kAdj rfA
  by_cases a : 0 ≤ t ∧ t < S 5
  · rw [if_neg (show ¬ ¬ (0 ≤ t ∧ t < S 5) by omega), if_neg (show ¬ ¬ (0 ≤ t ∧ t < S 5) by omega)]
    split <;> omega
  · rw [if_pos a, if_pos a]
set_option maxHeartbeats 4000000 in
set_option maxRecDepth 100000 in
theorem c_X8_fault {l : Launch} (hl0 : l.stackTraces = false) (G : GG) (I J : GI) {z : Nat} (hn : 0 ≤ I 231 5 ∧ I 231 5 ≤ 90) (hT : ∀ k : Nat, (k : Int) < I 231 5 → 32 ≤ I 234 k ∧ I 234 k ≤ 126) : GM l yX8_fault (.code yX8_fault cX8_fault 1 (some .int)) 5 115 0 0 G N0 SH RR [vR 231] z I J (flQ I J) gNo := by
  refine gm_of (lo0 := [some (vR 231)]) hl0 (by decide) rfl (Nat.le_of_ble_eq_true rfl) ?_
  intro p e s m args below meth c C ht hgi
  have C : gC G p l s m args meth c cX8_fault 1 RX8 (some .int) "fault" := C
  refine gw_aload_n C 0 dX8_fault_0 rfl rfl ?_
  refine gw_iconst C dX8_fault_1 ?_
  refine gw_putI (ci := 7) (Cn := RX8) (T0 := TX8) (N := 10) C (ty := .int) 6 kX8_22 fX8 rfl (by decide) rfl rfl tyX8 tyX8_ok nmX8 rfl (by decide) rfl rfl ⟨by decide, by decide⟩ dX8_fault_2 xs_231 xn_231 ?_
  refine gw_aload_n C 0 dX8_fault_5 rfl rfl ?_
  refine gw_callV C (as := []) (st := []) (ci := 7) (T0 := TX8) (N := 10) (c_X8_faultAt hl0 G (up I 231 6 0) J (by rw [tN_up.2.2]; exact hn) (fun j hj => by rw [tN_up.2.1]; rw [tN_up.2.2] at hj; exact hT j hj)) dX8_fault_6 kX8_261 qX8_faultAt hdX8_faultAt ⟨Nat.le_of_ble_eq_true rfl, Nat.le_of_ble_eq_true rfl⟩ ⟨Nat.le_of_ble_eq_true rfl, Nat.le_of_ble_eq_true rfl⟩ (Nat.le_of_ble_eq_true rfl) rfl xs_231 xn_231 rfl (fun _ _ _ _ h => h.elim) ?_
  intro v_6 z_6_2 Kf J_6 hv_6
  obtain ⟨ev_6, hfq, eJ_6⟩ := hv_6
  rw [ev_6, eJ_6]
  show GW G p l e ({ frames := 5, cells := 0, slots := 0, locals := 115 } : Room) s m args below meth c 1 z_6_2 N0 SH RR Kf J 0 0 (vx_MQ below (GQ G N0 SH RR (flQ I J)) (GX G N0 SH RR gNo) args s 0 0 (ge G)) 9 [some (vR 231)] [vI (ffF ((up I 231 6 0) 234) (tN (up I 231 6 0)) 0 0 0)]
  exact gw_iret C (Nat.le_of_ble_eq_true rfl) (Nat.le_of_ble_eq_true rfl) dX8_fault_9 (⟨by rw [tN_up.1, tN_up.2.1], fl_of hfq, rfl⟩)
set_option maxHeartbeats 4000000 in
set_option maxRecDepth 100000 in
theorem c_X8_does {l : Launch} (hl0 : l.stackTraces = false) (G : GG) (I J : GI) {z : Nat} (ho : Oks (I 232)) (hp : 0 ≤ I 231 2 ∧ I 231 2 ≤ 4) (hru : 0 ≤ I 231 3 ∧ I 231 3 ≤ 1) (h31 : I 231 3 ≠ 0) (x1 : Int) (hx1 : inI x1) : GM l yX8_does (.code yX8_does cX8_does 2 none) 7 166 0 0 G N0 SH RR [vR 231, vI x1] z I J (dsQ I J x1) gNo := by
  refine gm_of (lo0 := [some (vR 231), some (vI x1)]) hl0 (by decide) rfl (Nat.le_of_ble_eq_true rfl) ?_
  intro p e s m args below meth c C ht hgi
  have C : gC G p l s m args meth c cX8_does 2 RX8 none "does" := C
  refine gw_iload_n C 1 dX8_does_0 rfl rfl ?_
  rcases (show x1 = 107 ∨ x1 = 108 ∨ x1 = 116 ∨ (x1 ≠ 107 ∧ x1 ≠ 108 ∧ x1 ≠ 116) from by omega) with h_1 | h_1 | h_1 | h_1
  · skip
    refine gw_lookup C (tgt := 82) (off := 81) dX8_does_1 hx1 rfl (by rw [h_1]; rfl) (by decide) ?_
    refine gw_aload_n C 0 dX8_does_82 rfl rfl ?_
    refine gw_aload_n C 0 dX8_does_83 rfl rfl ?_
    refine gw_getRs (ci := 7) (Cn := RX8) (T0 := TX8) (N := 10) C 235 8 kX8_19 fX8 rfl (by decide) rfl rfl dX8_does_84 xs_231 xn_231 xr_231_8 ?_
    refine gw_iconst C dX8_does_87 ?_
    refine gw_iald C 0 dX8_does_88 xs_235 xn_235 (by omega) (by omega) (by decide) (fun hI_88 => ?_)
    refine gw_callV C (as := [vI (I 235 0)]) (st := []) (ci := 7) (T0 := TX8) (N := 10) (c_X8_dropLeg hl0 G I J ho hp hru (I 235 0) hI_88) dX8_does_89 kX8_271 qX8_dropLeg hdX8_dropLeg ⟨Nat.le_of_ble_eq_true rfl, Nat.le_of_ble_eq_true rfl⟩ ⟨Nat.le_of_ble_eq_true rfl, Nat.le_of_ble_eq_true rfl⟩ (Nat.le_of_ble_eq_true rfl) rfl xs_231 xn_231 rfl (fun _ _ _ _ h => h.elim) ?_
    intro v_89 z_89_2 Kq J_89 hv_89
    obtain ⟨ev_89, hmm, eJ_89⟩ := hv_89
    rw [ev_89, eJ_89]
    show GW G p l e ({ frames := 7, cells := 0, slots := 0, locals := 166 } : Room) s m args below meth c 2 z_89_2 N0 SH RR Kq J 0 0 (vx_MQ below (GQ G N0 SH RR (dsQ I J x1)) (GX G N0 SH RR gNo) args s 0 0 (ge G)) 92 [some (vR 231), some (vI x1)] [vI (if kDrop (I 232) (I 235 0) = 0 then I 232 (103 + 28 * (I 235 0).toNat) - 1 else 0)]
    refine gw_popI C dX8_does_92 ?_
    refine gw_goto C (tgt := 107) dX8_does_93 (by decide) ?_
    exact gw_vret C (Nat.le_of_ble_eq_true rfl) (Nat.le_of_ble_eq_true rfl) dX8_does_107 (⟨rfl, (by first | exact ds_of (by omega) hmm (by rw [rfZ_t (by omega)]) (by unfold coS; rw [if_pos (by omega)]) | exact ds_of (by omega) hmm (by rw [rfZ_l (by omega)]) (by unfold coS; rw [if_neg (by omega), if_pos (by omega)]) | exact ds_of (by omega) hmm (by rw [rfZ_k (by omega)]; exact kDrop_0) (by unfold coS; rw [if_neg (by omega), if_neg (by omega), if_pos (by omega)]) | exact ds_of (by omega) hmm (by rw [rfZ_a (by omega)]; exact kAdj_0) (by unfold coS; rw [if_neg (by omega), if_neg (by omega), if_neg (by omega)])), rfl⟩)
  · skip
    refine gw_lookup C (tgt := 56) (off := 55) dX8_does_1 hx1 rfl (by rw [h_1]; rfl) (by decide) ?_
    refine gw_aload_n C 0 dX8_does_56 rfl rfl ?_
    refine gw_aload_n C 0 dX8_does_57 rfl rfl ?_
    refine gw_getRs (ci := 7) (Cn := RX8) (T0 := TX8) (N := 10) C 235 8 kX8_19 fX8 rfl (by decide) rfl rfl dX8_does_58 xs_231 xn_231 xr_231_8 ?_
    refine gw_iconst C dX8_does_61 ?_
    refine gw_iald C 0 dX8_does_62 xs_235 xn_235 (by omega) (by omega) (by decide) (fun hI_62 => ?_)
    refine gw_aload_n C 0 dX8_does_63 rfl rfl ?_
    refine gw_getRs (ci := 7) (Cn := RX8) (T0 := TX8) (N := 10) C 235 8 kX8_19 fX8 rfl (by decide) rfl rfl dX8_does_64 xs_231 xn_231 xr_231_8 ?_
    refine gw_iconst C dX8_does_67 ?_
    refine gw_iald C 1 dX8_does_68 xs_235 xn_235 (by omega) (by omega) (by decide) (fun hI_68 => ?_)
    refine gw_aload_n C 0 dX8_does_69 rfl rfl ?_
    refine gw_getRs (ci := 7) (Cn := RX8) (T0 := TX8) (N := 10) C 235 8 kX8_19 fX8 rfl (by decide) rfl rfl dX8_does_70 xs_231 xn_231 xr_231_8 ?_
    refine gw_iconst C dX8_does_73 ?_
    refine gw_iald C 2 dX8_does_74 xs_235 xn_235 (by omega) (by omega) (by decide) (fun hI_74 => ?_)
    refine gw_callV C (as := [vI (I 235 0), vI (I 235 1), vI (I 235 2)]) (st := []) (ci := 7) (T0 := TX8) (N := 10) (c_X8_addLeg hl0 G I J ho hp hru (I 235 0) (I 235 1) (I 235 2) hI_62 hI_68 hI_74) dX8_does_75 kX8_268 qX8_addLeg hdX8_addLeg ⟨Nat.le_of_ble_eq_true rfl, Nat.le_of_ble_eq_true rfl⟩ ⟨Nat.le_of_ble_eq_true rfl, Nat.le_of_ble_eq_true rfl⟩ (Nat.le_of_ble_eq_true rfl) rfl xs_231 xn_231 rfl (fun _ _ _ _ h => h.elim) ?_
    intro v_75 z_75_2 Kq J_75 hv_75
    obtain ⟨ev_75, hmm, eJ_75⟩ := hv_75
    rw [ev_75, eJ_75]
    show GW G p l e ({ frames := 7, cells := 0, slots := 0, locals := 166 } : Room) s m args below meth c 2 z_75_2 N0 SH RR Kq J 0 0 (vx_MQ below (GQ G N0 SH RR (dsQ I J x1)) (GX G N0 SH RR gNo) args s 0 0 (ge G)) 78 [some (vR 231), some (vI x1)] [vI (if rfL (I 232) (I 235 0) (I 235 1) (I 235 2) = 0 then I 232 (103 + 28 * (I 235 0).toNat) else 0)]
    refine gw_popI C dX8_does_78 ?_
    refine gw_goto C (tgt := 107) dX8_does_79 (by decide) ?_
    exact gw_vret C (Nat.le_of_ble_eq_true rfl) (Nat.le_of_ble_eq_true rfl) dX8_does_107 (⟨rfl, (by first | exact ds_of (by omega) hmm (by rw [rfZ_t (by omega)]) (by unfold coS; rw [if_pos (by omega)]) | exact ds_of (by omega) hmm (by rw [rfZ_l (by omega)]) (by unfold coS; rw [if_neg (by omega), if_pos (by omega)]) | exact ds_of (by omega) hmm (by rw [rfZ_k (by omega)]; exact kDrop_0) (by unfold coS; rw [if_neg (by omega), if_neg (by omega), if_pos (by omega)]) | exact ds_of (by omega) hmm (by rw [rfZ_a (by omega)]; exact kAdj_0) (by unfold coS; rw [if_neg (by omega), if_neg (by omega), if_neg (by omega)])), rfl⟩)
  · skip
    refine gw_lookup C (tgt := 36) (off := 35) dX8_does_1 hx1 rfl (by rw [h_1]; rfl) (by decide) ?_
    refine gw_aload_n C 0 dX8_does_36 rfl rfl ?_
    refine gw_aload_n C 0 dX8_does_37 rfl rfl ?_
    refine gw_getRs (ci := 7) (Cn := RX8) (T0 := TX8) (N := 10) C 235 8 kX8_19 fX8 rfl (by decide) rfl rfl dX8_does_38 xs_231 xn_231 xr_231_8 ?_
    refine gw_iconst C dX8_does_41 ?_
    refine gw_iald C 0 dX8_does_42 xs_235 xn_235 (by omega) (by omega) (by decide) (fun hI_42 => ?_)
    refine gw_aload_n C 0 dX8_does_43 rfl rfl ?_
    refine gw_getRs (ci := 7) (Cn := RX8) (T0 := TX8) (N := 10) C 235 8 kX8_19 fX8 rfl (by decide) rfl rfl dX8_does_44 xs_231 xn_231 xr_231_8 ?_
    refine gw_iconst C dX8_does_47 ?_
    refine gw_iald C 1 dX8_does_48 xs_235 xn_235 (by omega) (by omega) (by decide) (fun hI_48 => ?_)
    refine gw_callV C (as := [vI (I 235 0), vI (I 235 1)]) (st := []) (ci := 7) (T0 := TX8) (N := 10) (c_X8_swing hl0 G I J ho hp hru (I 235 0) (I 235 1) hI_42 hI_48) dX8_does_49 kX8_265 qX8_swing hdX8_swing ⟨Nat.le_of_ble_eq_true rfl, Nat.le_of_ble_eq_true rfl⟩ ⟨Nat.le_of_ble_eq_true rfl, Nat.le_of_ble_eq_true rfl⟩ (Nat.le_of_ble_eq_true rfl) rfl xs_231 xn_231 rfl (fun _ _ _ _ h => h.elim) ?_
    intro v_49 z_49_2 Kq J_49 hv_49
    obtain ⟨ev_49, hmm, eJ_49⟩ := hv_49
    rw [ev_49, eJ_49]
    show GW G p l e ({ frames := 7, cells := 0, slots := 0, locals := 166 } : Room) s m args below meth c 2 z_49_2 N0 SH RR Kq J 0 0 (vx_MQ below (GQ G N0 SH RR (dsQ I J x1)) (GX G N0 SH RR gNo) args s 0 0 (ge G)) 52 [some (vR 231), some (vI x1)] [vI (if rfT (I 232) (I 235 0) (I 235 1) = 0 then I 232 (8 + 12 * (I 235 0).toNat) + 1 else 0)]
    refine gw_popI C dX8_does_52 ?_
    refine gw_goto C (tgt := 107) dX8_does_53 (by decide) ?_
    exact gw_vret C (Nat.le_of_ble_eq_true rfl) (Nat.le_of_ble_eq_true rfl) dX8_does_107 (⟨rfl, (by first | exact ds_of (by omega) hmm (by rw [rfZ_t (by omega)]) (by unfold coS; rw [if_pos (by omega)]) | exact ds_of (by omega) hmm (by rw [rfZ_l (by omega)]) (by unfold coS; rw [if_neg (by omega), if_pos (by omega)]) | exact ds_of (by omega) hmm (by rw [rfZ_k (by omega)]; exact kDrop_0) (by unfold coS; rw [if_neg (by omega), if_neg (by omega), if_pos (by omega)]) | exact ds_of (by omega) hmm (by rw [rfZ_a (by omega)]; exact kAdj_0) (by unfold coS; rw [if_neg (by omega), if_neg (by omega), if_neg (by omega)])), rfl⟩)
  · skip
    refine gw_lookup C (tgt := 96) (off := 95) dX8_does_1 hx1 rfl (by simp [Op.lookupswitch.offset]; (repeat rw [if_neg (by omega)])) (by decide) ?_
    refine gw_aload_n C 0 dX8_does_96 rfl rfl ?_
    refine gw_aload_n C 0 dX8_does_97 rfl rfl ?_
    refine gw_getRs (ci := 7) (Cn := RX8) (T0 := TX8) (N := 10) C 235 8 kX8_19 fX8 rfl (by decide) rfl rfl dX8_does_98 xs_231 xn_231 xr_231_8 ?_
    refine gw_iconst C dX8_does_101 ?_
    refine gw_iald C 0 dX8_does_102 xs_235 xn_235 (by omega) (by omega) (by decide) (fun hI_102 => ?_)
    refine gw_callV C (as := [vI (I 235 0)]) (st := []) (ci := 7) (T0 := TX8) (N := 10) (c_X8_adjust hl0 G I J ho hp hru (I 235 0) hI_102) dX8_does_103 kX8_274 qX8_adjust hdX8_adjust ⟨Nat.le_of_ble_eq_true rfl, Nat.le_of_ble_eq_true rfl⟩ ⟨Nat.le_of_ble_eq_true rfl, Nat.le_of_ble_eq_true rfl⟩ (Nat.le_of_ble_eq_true rfl) rfl xs_231 xn_231 rfl (fun _ _ _ _ h => h.elim) ?_
    intro v_103 z_103_2 Kq J_103 hv_103
    obtain ⟨ev_103, hmm, eJ_103⟩ := hv_103
    rw [ev_103, eJ_103]
    show GW G p l e ({ frames := 7, cells := 0, slots := 0, locals := 166 } : Room) s m args below meth c 2 z_103_2 N0 SH RR Kq J 0 0 (vx_MQ below (GQ G N0 SH RR (dsQ I J x1)) (GX G N0 SH RR gNo) args s 0 0 (ge G)) 106 [some (vR 231), some (vI x1)] [vI (if kAdj (I 232) (I 235 0) = 0 then sG (I 232) (I 235 0).toNat else 0)]
    refine gw_popI C dX8_does_106 ?_
    exact gw_vret C (Nat.le_of_ble_eq_true rfl) (Nat.le_of_ble_eq_true rfl) dX8_does_107 (⟨rfl, (by first | exact ds_of (by omega) hmm (by rw [rfZ_t (by omega)]) (by unfold coS; rw [if_pos (by omega)]) | exact ds_of (by omega) hmm (by rw [rfZ_l (by omega)]) (by unfold coS; rw [if_neg (by omega), if_pos (by omega)]) | exact ds_of (by omega) hmm (by rw [rfZ_k (by omega)]; exact kDrop_0) (by unfold coS; rw [if_neg (by omega), if_neg (by omega), if_pos (by omega)]) | exact ds_of (by omega) hmm (by rw [rfZ_a (by omega)]; exact kAdj_0) (by unfold coS; rw [if_neg (by omega), if_neg (by omega), if_neg (by omega)])), rfl⟩)
