def mfr (M K : GI) : Prop := ∀ q f, q ≠ 232 → q ≠ 235 → ¬ (q = 231 ∧ (f = 3 ∨ f = 6 ∨ f = 7)) → K q f = M q f
def rmI (I M K : GI) (p : Nat) (k : Int) : Prop := (Oks (K 232) ∧ (K 231 7 = (p : Int) ∧ p ≤ tN I) ∧ K 231 3 = 1) ∧ mfr M K ∧ ffF (I 234) (tN I - p) p 0 0 = -2000000000 ∧ (∀ (l : Int) (a : Nat) (w : Nat → Int) (l' : Int) (a' : Nat) (w' : Nat → Int), crF (I 234) (tN I) 0 l a w (I 232) 0 = crF (I 234) (tN I - p) p l' a' w' (K 232) k) ∧ 0 ≤ k ∧ k ≤ (p : Int)
theorem rm_step {I M K Kd Ke : GI} {p : Nat} {k x y : Int} (hM : M 234 = I 234 ∧ M 231 5 = I 231 5) (h : rmI I M K p k) (hp : p < tN I) (hr : (numZ (K 234 p) = 0 ∧ x = 0 ∧ Kd = K) ∨ (numZ (K 234 p) ≠ 0 ∧ rsR K Kd (numZ (K 234 p)).toNat p x)) (hd : dsR Kd Ke (I 234 p)) (hy : (Ke 231 6 = 0 → y = 1) ∧ (Ke 231 6 ≠ 0 → y = 0)) : x = 1 ∧ ∃ p' : Nat, p < p' ∧ rmI I M Ke p' (k + y) := by
  obtain ⟨⟨h1, ⟨h2, h3⟩, h4⟩, h5, h6, h7, h8⟩ := h
  have e4 : K 234 = I 234 := by rw [← hM.1]; exact funext (fun f => h5 234 f (by decide) (by decide) (by omega))
  have e5 : K 231 5 = I 231 5 := by rw [← hM.2]; exact h5 231 5 (by decide) (by decide) (by omega)
  have en : tN K = tN I := by unfold tN; rw [e5]
  rw [e4] at hr
  obtain ⟨z, ok, nx⟩ := ff_cmd hp h6
  rcases hr with ⟨z0, _⟩ | ⟨_, ⟨r1, r2⟩, r3, r4⟩
  · exact absurd z0 z
  · rw [e4, en] at r1 r2 r3
    have hb := rdF_b (T := I 234) (n := tN I) (numZ (I 234 p)).toNat (p + 1) (by omega)
    have x1 : x = 1 := by
      rcases r3 with ⟨q, _⟩ | ⟨_, q⟩
      · exact q
      · rw [ok] at q; cases q
    refine ⟨x1, (rdF (I 234) (tN I) (numZ (I 234 p)).toNat (p + 1)).2, by omega, ?_⟩
    obtain ⟨d1, d2, d3⟩ := hd
    have e2 : Kd 232 = K 232 := funext (fun f => r4 232 f (by decide) (by omega))
    rw [e2, r2] at d1 d2
    have hy1 : y = exC (K 232) (I 234 p) (rtF (I 234) (tN I) (numZ (I 234 p)).toNat 0 (p + 1) (K 235) 0) (rtF (I 234) (tN I) (numZ (I 234 p)).toNat 0 (p + 1) (K 235) 1) (rtF (I 234) (tN I) (numZ (I 234 p)).toNat 0 (p + 1) (K 235) 2) := by
      rcases d2 with ⟨a, b⟩ | ⟨a, b⟩
      · rw [hy.1 a, b]
      · rw [hy.2 a, b]
    have hyb := exC_b (K 232) (I 234 p) (rtF (I 234) (tN I) (numZ (I 234 p)).toNat 0 (p + 1) (K 235) 0) (rtF (I 234) (tN I) (numZ (I 234 p)).toNat 0 (p + 1) (K 235) 1) (rtF (I 234) (tN I) (numZ (I 234 p)).toNat 0 (p + 1) (K 235) 2)
    refine ⟨⟨by rw [d1]; exact oks_ex h1, ⟨?_, hb.2⟩, ?_⟩, fun q f a b c => ?_, nx, fun l a w l' a' w' => ?_, by omega, by omega⟩
    · rw [d3 231 7 (by decide) (by omega)]; exact r1
    · rw [d3 231 3 (by decide) (by omega), r4 231 3 (by decide) (by omega)]; exact h4
    · rw [d3 q f a (by omega), r4 q f b (by omega)]; exact h5 q f a b c
    · rw [h7 l a w l a w, cr_mr (n := tN I) (tN I - (p + 1) + 1) p l a w (K 235) (K 232) k h3 (by omega) h6, mrF, if_pos hp, ← hy1, ← d1]
      exact (cr_mr _ _ _ _ _ _ _ _ hb.2 (by omega) nx).symm
theorem rm_0 {I Kf M : GI} {x y : Int} (hk : ffF (I 234) (tN I) 0 0 0 = -2000000000) (ho : Oks (I 232)) (hf : tfr I Kf) (hs : svR (up Kf 231 6 0) M) (hx : x = 1) (hy : y = 0) : rmI I M (up (up M 231 3 x) 231 7 y) 0 0 := by
  subst hx hy
  have e2 : up (up M 231 3 1) 231 7 0 232 = I 232 := by rw [up_ne (by decide), up_ne (by decide), sv_232 hs]; exact funext (fun f => hf 232 f (by decide) (by omega))
  refine ⟨⟨by rw [e2]; exact ho, ⟨up_eq, Nat.zero_le _⟩, by rw [up_ne2 (by decide), up_eq]⟩, fun q f a b c => by rw [up_nn (by omega), up_nn (by omega)], hk, fun l a w l' a' w' => ?_, by decide, by decide⟩
  rw [e2]
  rw [show tN I - 0 = tN I from rfl]
  have a1 := cr_mr (T := I 234) (n := tN I) (tN I) 0 l a w w (I 232) 0 (Nat.zero_le _) (by omega) hk
  have a2 := cr_mr (T := I 234) (n := tN I) (tN I) 0 l' a' w' w (I 232) 0 (Nat.zero_le _) (by omega) hk
  rw [Nat.sub_zero] at a1 a2
  rw [a1, a2]
def rmQ (I J : GI) : Option GV → Nat → GI → GI → Prop := fun v _ I' J' => ((kRun (I 234) (tN I) ≠ 0 → v = some (vI 0) ∧ I' 231 6 = 1 ∧ ∀ q f, q ≠ 235 → ¬ (q = 231 ∧ (f = 6 ∨ f = 7)) → I' q f = I q f) ∧ (kRun (I 234) (tN I) = 0 → (∀ (l : Int) (a : Nat) (w : Nat → Int), v = some (vI (crF (I 234) (tN I) 0 l a w (I 232) 0).2) ∧ I' 232 = (crF (I 234) (tN I) 0 l a w (I 232) 0).1) ∧ (I' 231 6 = 0 ∧ I' 231 3 = 0) ∧ pshR I I' ∧ ∀ q f, q ≠ 232 → q ≠ 233 → q ≠ 235 → ¬ (q = 231 ∧ (f = 2 ∨ f = 3 ∨ f = 6 ∨ f = 7)) → I' q f = I q f)) ∧ J' = J
theorem rm_1 {I J K : GI} {z : Nat} (hk : ffF (I 234) (tN I) 0 0 0 ≠ -2000000000) (hf : tfr I K) : rmQ I J (some (vI 0)) z (up K 231 6 1) J := by
  have k1 : kRun (I 234) (tN I) = 1 := by unfold kRun; rw [if_neg hk]
  refine ⟨⟨fun _ => ⟨rfl, up_eq, fun q f a b => by rw [up_nn (by omega)]; exact hf q f a (by omega)⟩, fun e => by omega⟩, rfl⟩
theorem rm_2 {I J Kf M K : GI} {z p : Nat} {k x : Int} (hk : ffF (I 234) (tN I) 0 0 0 = -2000000000) (h30 : I 231 3 = 0) (hf : tfr I Kf) (hs : svR (up Kf 231 6 0) M) (hM : M 234 = I 234 ∧ M 231 5 = I 231 5) (h : rmI I M K p k) (he : K 231 5 ≤ K 231 7) (hx : x = 0) : rmQ I J (some (vI k)) z (up (up K 231 3 x) 231 6 0) J := by
  subst hx
  have k0 : kRun (I 234) (tN I) = 0 := by unfold kRun; rw [if_pos hk]
  obtain ⟨⟨h1, ⟨h2, h3⟩, h4⟩, h5, h6, h7, h8⟩ := h
  have e5 : K 231 5 = I 231 5 := by rw [← hM.2]; exact h5 231 5 (by decide) (by decide) (by omega)
  have ep : tN I - p = 0 := by unfold tN; omega
  obtain ⟨s1, s2, s3⟩ := hs
  have s1 := s1 (by rw [up_ne2 (by decide), hf 231 3 (by decide) (by omega)]; exact h30)
  refine ⟨⟨fun e => absurd k0 e, fun _ => ⟨fun l a w => ?_, ⟨up_eq, by rw [up_ne2 (by decide), up_eq]⟩, ?_, fun q f a b c d => ?_⟩⟩, rfl⟩
  · have e := h7 l a w l a w
    rw [ep] at e
    rw [e]
    exact ⟨rfl, by rw [up_ne (by decide), up_ne (by decide)]; rfl⟩
  · unfold pshR at s1 ⊢
    have m2 : up (up K 231 3 0) 231 6 0 231 2 = M 231 2 := by rw [up_ne2 (by decide), up_ne2 (by decide)]; exact h5 231 2 (by decide) (by decide) (by omega)
    have m3 : up (up K 231 3 0) 231 6 0 233 = M 233 := by rw [up_ne (by decide), up_ne (by decide)]; exact funext (fun f => h5 233 f (by decide) (by decide) (by omega))
    have i2 : up Kf 231 6 0 231 2 = I 231 2 := by rw [up_ne2 (by decide)]; exact hf 231 2 (by decide) (by omega)
    have i3 : up Kf 231 6 0 233 = I 233 := by rw [up_ne (by decide)]; exact funext (fun f => hf 233 f (by decide) (by omega))
    have i4 : up Kf 231 6 0 232 = I 232 := by rw [up_ne (by decide)]; exact funext (fun f => hf 232 f (by decide) (by omega))
    rw [i2, i3, i4] at s1
    rw [m2, m3]
    exact s1
  · rw [up_nn (by omega), up_nn (by omega), h5 q f a c (by omega), s3 q f (by omega) b, up_nn (by omega)]
    exact hf q f c (by omega)
theorem rm_M {I Kf M : GI} (hf : tfr I Kf) (hs : svR (up Kf 231 6 0) M) : M 234 = I 234 ∧ M 231 5 = I 231 5 ∧ (0 ≤ M 231 2 → True) := by
  refine ⟨funext (fun f => ?_), ?_, fun _ => trivial⟩
  · rw [hs.2.2 234 f (by omega) (by decide), up_ne (by decide)]; exact hf 234 f (by decide) (by omega)
  · rw [hs.2.2 231 5 (by omega) (by decide), up_ne2 (by decide)]; exact hf 231 5 (by decide) (by omega)
theorem rm_c {I Kf M : GI} (h30 : I 231 3 = 0) (hp : 0 ≤ I 231 2 ∧ I 231 2 ≤ 4) (hf : tfr I Kf) (hs : svR (up Kf 231 6 0) M) : 0 ≤ M 231 2 ∧ M 231 2 ≤ 4 := by
  have s1 := hs.1 (by rw [up_ne2 (by decide), hf 231 3 (by decide) (by omega)]; exact h30)
  have := s1.1
  rw [up_ne2 (by decide), hf 231 2 (by decide) (by omega)] at this
  rw [this]
  split <;> omega
set_option maxHeartbeats 4000000 in
set_option maxRecDepth 100000 in
theorem c_X8_run {l : Launch} (hl0 : l.stackTraces = false) (G : GG) (I J : GI) {z : Nat} (ho : Oks (I 232)) (hn : 0 ≤ I 231 5 ∧ I 231 5 ≤ 90) (hT : ∀ k : Nat, (k : Int) < I 231 5 → 32 ≤ I 234 k ∧ I 234 k ≤ 126) (hp : 0 ≤ I 231 2 ∧ I 231 2 ≤ 4) (h30 : I 231 3 = 0) : GM l yX8_run (.code yX8_run cX8_run 4 (some .int)) 8 187 0 0 G N0 SH RR [vR 231] z I J (rmQ I J) gNo := by
  refine gm_of (lo0 := [some (vR 231), none, none, none]) hl0 (by decide) rfl (Nat.le_of_ble_eq_true rfl) ?_
  intro p e s m args below meth c C ht hgi
  have C : gC G p l s m args meth c cX8_run 4 RX8 (some .int) "run" := C
  have hfi := ff_i (T := I 234) (r := tN I) (by unfold tN; omega)
  refine gw_aload_n C 0 dX8_run_0 rfl rfl ?_
  refine gw_aload_n C 0 dX8_run_1 rfl rfl ?_
  refine gw_callV C (as := []) (st := [vR 231]) (ci := 7) (T0 := TX8) (N := 10) (c_X8_faultAt hl0 G I J hn hT) dX8_run_2 kX8_261 qX8_faultAt hdX8_faultAt ⟨Nat.le_of_ble_eq_true rfl, Nat.le_of_ble_eq_true rfl⟩ ⟨Nat.le_of_ble_eq_true rfl, Nat.le_of_ble_eq_true rfl⟩ (Nat.le_of_ble_eq_true rfl) rfl xs_231 xn_231 rfl (fun _ _ _ _ h => h.elim) ?_
  intro v_2 z_2_2 Kf J_2 hv_2
  obtain ⟨ev_2, hfq, eJ_2⟩ := hv_2
  rw [ev_2, eJ_2]
  show GW G p l e ({ frames := 8, cells := 0, slots := 0, locals := 187 } : Room) s m args below meth c 4 z_2_2 N0 SH RR Kf J 0 0 (vx_MQ below (GQ G N0 SH RR (rmQ I J)) (GX G N0 SH RR gNo) args s 0 0 (ge G)) 5 [some (vR 231), none, none, none] [vI (ffF (I 234) (tN I) 0 0 0), vR 231]
  refine gw_ldc C (x := (-2000000000)) dX8_run_5 kX8_105 (by decide) ?_
  refine gw_icmp_ne C (tgt := 14) dX8_run_7 (by decide) hfi ⟨by decide, by decide⟩ (fun h_7 => ?_) (fun h_7 => ?_)
  · skip
    refine gw_iconst C dX8_run_14 ?_
    refine gw_callVm C (as := [vI 1]) (st := []) (ci := 7) (T0 := TX8) (N := 10) (c_X8_throwsAt hl0 G Kf J 1 ⟨by decide, by decide⟩) dX8_run_15 kX8_70 qX8_throwsAt hdX8_throwsAt ⟨Nat.le_of_ble_eq_true rfl, Nat.le_of_ble_eq_true rfl⟩ ⟨Nat.le_of_ble_eq_true rfl, Nat.le_of_ble_eq_true rfl⟩ (Nat.le_of_ble_eq_true rfl) rfl xs_231 xn_231 rfl (fun z_15 => ?_)
    rw [show (if (0 : Int) < 1 then (1 : Int) else 0) = 1 from by decide]
    refine gw_if_eq C (tgt := 23) dX8_run_18 (by decide) ⟨by decide, by decide⟩ (fun h => absurd h (by decide)) (fun _ => ?_)
    refine gw_iconst C dX8_run_21 ?_
    exact gw_iret C (Nat.le_of_ble_eq_true rfl) (Nat.le_of_ble_eq_true rfl) dX8_run_22 (rm_1 (by omega) hfq)
  · skip
    refine gw_iconst C dX8_run_10 ?_
    refine gw_goto C (tgt := 15) dX8_run_11 (by decide) ?_
    refine gw_callVm C (as := [vI 0]) (st := []) (ci := 7) (T0 := TX8) (N := 10) (c_X8_throwsAt hl0 G Kf J 0 ⟨by decide, by decide⟩) dX8_run_15 kX8_70 qX8_throwsAt hdX8_throwsAt ⟨Nat.le_of_ble_eq_true rfl, Nat.le_of_ble_eq_true rfl⟩ ⟨Nat.le_of_ble_eq_true rfl, Nat.le_of_ble_eq_true rfl⟩ (Nat.le_of_ble_eq_true rfl) rfl xs_231 xn_231 rfl (fun z_15_2 => ?_)
    rw [show (if (0 : Int) < 0 then (1 : Int) else 0) = 0 from by decide]
    refine gw_if_eq C (tgt := 23) dX8_run_18 (by decide) ⟨by decide, by decide⟩ (fun _ => ?_) (fun h => absurd h (by decide))
    refine gw_aload_n C 0 dX8_run_23 rfl rfl ?_
    refine gw_callV C (as := []) (st := []) (ci := 7) (T0 := TX8) (N := 10) (c_X8_saves hl0 G (up Kf 231 6 0) J (by rw [up_ne2 (by decide), hfq 231 2 (by decide) (by omega)]; exact hp) (by rw [up_ne2 (by decide), hfq 231 3 (by decide) (by omega), h30]; exact ⟨by decide, by decide⟩)) dX8_run_24 kX8_74 qX8_saves hdX8_saves ⟨Nat.le_of_ble_eq_true rfl, Nat.le_of_ble_eq_true rfl⟩ ⟨Nat.le_of_ble_eq_true rfl, Nat.le_of_ble_eq_true rfl⟩ (Nat.le_of_ble_eq_true rfl) rfl xs_231 xn_231 rfl (fun _ _ _ _ h => h.elim) ?_
    intro v_24 z_24_2 Ms J_24 hv_24
    obtain ⟨ev_24, hsv, eJ_24⟩ := hv_24
    rw [ev_24, eJ_24]
    have hMM := rm_M hfq hsv
    have hMc := rm_c h30 hp hfq hsv
    have hk0 : ffF (I 234) (tN I) 0 0 0 = -2000000000 := by omega
    show GW G p l e ({ frames := 8, cells := 0, slots := 0, locals := 187 } : Room) s m args below meth c 4 z_24_2 N0 SH RR Ms J 0 0 (vx_MQ below (GQ G N0 SH RR (rmQ I J)) (GX G N0 SH RR gNo) args s 0 0 (ge G)) 27 [some (vR 231), none, none, none] []
    refine gw_aload_n C 0 dX8_run_27 rfl rfl ?_
    refine gw_iconst C dX8_run_28 ?_
    refine gw_putI (ci := 7) (Cn := RX8) (T0 := TX8) (N := 10) C (ty := .boolean) 3 kX8_26 fX8 rfl (by decide) rfl rfl tyX8 tyX8_ok nmX8 rfl (by decide) rfl rfl ⟨by decide, by decide⟩ dX8_run_29 xs_231 xn_231 ?_
    refine gw_iconst C dX8_run_32 ?_
    refine gw_istore_n C (lo1 := [some (vR 231), some (vI 0), none, none]) 1 dX8_run_33 rfl (by decide) rfl ?_
    refine gw_aload_n C 0 dX8_run_34 rfl rfl ?_
    refine gw_iconst C dX8_run_35 ?_
    refine gw_putI (ci := 7) (Cn := RX8) (T0 := TX8) (N := 10) C (ty := .int) 7 kX8_244 fX8 rfl (by decide) rfl rfl tyX8 tyX8_ok nmX8 rfl (by decide) rfl rfl ⟨by decide, by decide⟩ dX8_run_36 xs_231 xn_231 ?_
    refine gw_iconst C dX8_run_39 ?_
    refine gw_istore_n C (lo1 := [some (vR 231), some (vI 0), some (vI 1), none]) 2 dX8_run_40 rfl (by decide) rfl ?_
    have loop_41 : ∀ (fuel : Nat) (k9 : Int) (x : Int) (K : GI) (p9 : Nat) (z1 : Nat), (x = 1) → (rmI I Ms K p9 k9) → tN I - p9 < fuel → GW G p l e ({ frames := 8, cells := 0, slots := 0, locals := 187 } : Room) s m args below meth c 4 z1 N0 SH RR K J 0 0 (vx_MQ below (GQ G N0 SH RR (rmQ I J)) (GX G N0 SH RR gNo) args s 0 0 (ge G)) 41 [some (vR 231), some (vI k9), some (vI x), none] [] := by
      intro fuel
      induction fuel with
      | zero => intro k9 x K p9 z1 hx hrm hf_41; exact absurd hf_41 (Nat.not_lt_zero _)
      | succ fuel ih_41 =>
        intro k9 x K p9 z1 hx hrm hf_41
        have hkb := hrm.2.2.2.2
        have hpb := hrm.1.2.1.2
        unfold tN at hpb
        refine gw_iload_n C 2 dX8_run_41 rfl rfl ?_
        refine gw_if_eq C (tgt := 94) dX8_run_42 (by decide) (by first | omega | exact hgi _ _) (fun h_42 => ?_) (fun h_42 => ?_)
        · skip
          refine gw_aload_n C 0 dX8_run_94 rfl rfl ?_
          refine gw_iconst C dX8_run_95 ?_
          refine gw_putI (ci := 7) (Cn := RX8) (T0 := TX8) (N := 10) C (ty := .boolean) 3 kX8_26 fX8 rfl (by decide) rfl rfl tyX8 tyX8_ok nmX8 rfl (by decide) rfl rfl ⟨by decide, by decide⟩ dX8_run_96 xs_231 xn_231 ?_
          refine gw_aload_n C 0 dX8_run_99 rfl rfl ?_
          refine gw_iconst C dX8_run_100 ?_
          refine gw_putI (ci := 7) (Cn := RX8) (T0 := TX8) (N := 10) C (ty := .int) 6 kX8_22 fX8 rfl (by decide) rfl rfl tyX8 tyX8_ok nmX8 rfl (by decide) rfl rfl ⟨by decide, by decide⟩ dX8_run_101 xs_231 xn_231 ?_
          refine gw_iload_n C 1 dX8_run_104 rfl rfl ?_
          exact gw_iret C (Nat.le_of_ble_eq_true rfl) (Nat.le_of_ble_eq_true rfl) dX8_run_105 (rm_2 hk0 h30 hfq hsv ⟨hMM.1, hMM.2.1⟩ hrm (by omega) rfl)
        · skip
          refine gw_aload_n C 0 dX8_run_45 rfl rfl ?_
          refine gw_getI (ci := 7) (Cn := RX8) (T0 := TX8) (N := 10) C 7 kX8_244 fX8 rfl (by decide) rfl rfl dX8_run_46 xs_231 xn_231 (fun hI_46 => ?_)
          refine gw_aload_n C 0 dX8_run_49 rfl rfl ?_
          refine gw_getI (ci := 7) (Cn := RX8) (T0 := TX8) (N := 10) C 5 kX8_241 fX8 rfl (by decide) rfl rfl dX8_run_50 xs_231 xn_231 (fun hI_50 => ?_)
          refine gw_icmp_ge C (tgt := 94) dX8_run_53 (by decide) hI_46 hI_50 (fun h_53 => ?_) (fun h_53 => ?_)
          · skip
            refine gw_aload_n C 0 dX8_run_94 rfl rfl ?_
            refine gw_iconst C dX8_run_95 ?_
            refine gw_putI (ci := 7) (Cn := RX8) (T0 := TX8) (N := 10) C (ty := .boolean) 3 kX8_26 fX8 rfl (by decide) rfl rfl tyX8 tyX8_ok nmX8 rfl (by decide) rfl rfl ⟨by decide, by decide⟩ dX8_run_96 xs_231 xn_231 ?_
            refine gw_aload_n C 0 dX8_run_99 rfl rfl ?_
            refine gw_iconst C dX8_run_100 ?_
            refine gw_putI (ci := 7) (Cn := RX8) (T0 := TX8) (N := 10) C (ty := .int) 6 kX8_22 fX8 rfl (by decide) rfl rfl tyX8 tyX8_ok nmX8 rfl (by decide) rfl rfl ⟨by decide, by decide⟩ dX8_run_101 xs_231 xn_231 ?_
            refine gw_iload_n C 1 dX8_run_104 rfl rfl ?_
            exact gw_iret C (Nat.le_of_ble_eq_true rfl) (Nat.le_of_ble_eq_true rfl) dX8_run_105 (rm_2 hk0 h30 hfq hsv ⟨hMM.1, hMM.2.1⟩ hrm (by omega) rfl)
          · skip
            have e234 : K 234 = I 234 := by rw [← hMM.1]; exact funext (fun f => hrm.2.1 234 f (by decide) (by decide) (by omega))
            have e5 : K 231 5 = I 231 5 := by rw [← hMM.2.1]; exact hrm.2.1 231 5 (by decide) (by decide) (by omega)
            have hfr : K 234 = I 234 ∧ K 231 5 = I 231 5 := ⟨e234, e5⟩
            have hp7 := hrm.1.2.1.1
            have hp9 : K 231 7 = (p9 : Int) ∧ p9 < tN I := ⟨hp7, by unfold tN; omega⟩
            have h9n := hp9.2
            unfold tN at h9n
            refine gw_aload_n C 0 dX8_run_56 rfl rfl ?_
            refine gw_getRs (ci := 7) (Cn := RX8) (T0 := TX8) (N := 10) C 234 4 kX8_16 fX8 rfl (by decide) rfl rfl dX8_run_57 xs_231 xn_231 xr_231_4 ?_
            refine gw_aload_n C 0 dX8_run_60 rfl rfl ?_
            refine gw_getI (ci := 7) (Cn := RX8) (T0 := TX8) (N := 10) C 7 kX8_244 fX8 rfl (by decide) rfl rfl dX8_run_61 xs_231 xn_231 (fun hI_61 => ?_)
            refine gw_iald C p9 dX8_run_64 xs_234 xn_234 (by omega) (by omega) (by decide) (fun hI_64 => ?_)
            rw [show (K 234 p9) = I 234 p9 from by rw [e234]] at hI_64 ⊢; have hTp := hT p9 (by omega)
            refine gw_istore_n C (lo1 := [some (vR 231), some (vI k9), some (vI x), some (vI (I 234 p9))]) 3 dX8_run_65 rfl (by decide) rfl ?_
            refine gw_aload_n C 0 dX8_run_66 rfl rfl ?_
            refine gw_callV C (as := []) (st := []) (ci := 7) (T0 := TX8) (N := 10) (c_X8_reads hl0 G K J (by rw [hfr.2]; exact hn) (fun j hj => by rw [hfr.1]; rw [hfr.2] at hj; exact hT j hj) p9 hp9.1 (by rw [hfr.2]; have h9 := hp9.2; unfold tN at h9; omega)) dX8_run_67 kX8_257 qX8_reads hdX8_reads ⟨Nat.le_of_ble_eq_true rfl, Nat.le_of_ble_eq_true rfl⟩ ⟨Nat.le_of_ble_eq_true rfl, Nat.le_of_ble_eq_true rfl⟩ (Nat.le_of_ble_eq_true rfl) rfl xs_231 xn_231 rfl (fun _ _ _ _ h => h.elim) ?_
            intro v_67 z_67_2 Kd J_67 hv_67
            obtain ⟨⟨x9, ev_67, hx9⟩, eJ_67⟩ := hv_67
            rw [ev_67, eJ_67]
            have hKd : Kd 232 = K 232 := by rcases hx9 with ⟨_, _, q⟩ | ⟨_, q⟩; (rw [q]); (exact funext (fun f => q.2.2 232 f (by decide) (by omega)))
            have hKd2 : ∀ f, f < 7 → Kd 231 f = K 231 f := fun f hf => by rcases hx9 with ⟨_, _, q⟩ | ⟨_, q⟩; (rw [q]); (exact q.2.2 231 f (by decide) (by omega))
            show GW G p l e ({ frames := 8, cells := 0, slots := 0, locals := 187 } : Room) s m args below meth c 4 z_67_2 N0 SH RR Kd J 0 0 (vx_MQ below (GQ G N0 SH RR (rmQ I J)) (GX G N0 SH RR gNo) args s 0 0 (ge G)) 70 [some (vR 231), some (vI k9), some (vI x), some (vI (I 234 p9))] [vI x9]
            refine gw_istore_n C (lo1 := [some (vR 231), some (vI k9), some (vI x9), some (vI (I 234 p9))]) 2 dX8_run_70 rfl (by decide) rfl ?_
            refine gw_aload_n C 0 dX8_run_71 rfl rfl ?_
            refine gw_iload_n C 3 dX8_run_72 rfl rfl ?_
            refine gw_callV C (as := [vI (I 234 p9)]) (st := []) (ci := 7) (T0 := TX8) (N := 10) (c_X8_does hl0 G Kd J (by rw [hKd]; exact hrm.1.1) (by rw [hKd2 2 (by decide), hrm.2.1 231 2 (by decide) (by decide) (by omega)]; exact hMc) (by rw [hKd2 3 (by decide), hrm.1.2.2]; exact ⟨by decide, by decide⟩) (by rw [hKd2 3 (by decide), hrm.1.2.2]; decide) (I 234 p9) hI_64) dX8_run_73 kX8_277 qX8_does hdX8_does ⟨Nat.le_of_ble_eq_true rfl, Nat.le_of_ble_eq_true rfl⟩ ⟨Nat.le_of_ble_eq_true rfl, Nat.le_of_ble_eq_true rfl⟩ (Nat.le_of_ble_eq_true rfl) rfl xs_231 xn_231 rfl (fun _ _ _ _ h => h.elim) ?_
            intro v_73 z_73_2 Ke J_73 hv_73
            obtain ⟨ev_73, hds, eJ_73⟩ := hv_73
            rw [ev_73, eJ_73]
            show GW G p l e ({ frames := 8, cells := 0, slots := 0, locals := 187 } : Room) s m args below meth c 4 z_73_2 N0 SH RR Ke J 0 0 (vx_MQ below (GQ G N0 SH RR (rmQ I J)) (GX G N0 SH RR gNo) args s 0 0 (ge G)) 76 [some (vR 231), some (vI k9), some (vI x9), some (vI (I 234 p9))] []
            refine gw_iload_n C 1 dX8_run_76 rfl rfl ?_
            refine gw_aload_n C 0 dX8_run_77 rfl rfl ?_
            refine gw_getI (ci := 7) (Cn := RX8) (T0 := TX8) (N := 10) C 6 kX8_22 fX8 rfl (by decide) rfl rfl dX8_run_78 xs_231 xn_231 (fun hI_78 => ?_)
            refine gw_if_ne C (tgt := 88) dX8_run_81 (by decide) hI_78 (fun h_81 => ?_) (fun h_81 => ?_)
            · skip
              refine gw_iconst C dX8_run_88 ?_
              refine gw_iadd C dX8_run_89 ?_
              refine gw_istore_n C (lo1 := [some (vR 231), some (vI (k9 + 0)), some (vI x9), some (vI (I 234 p9))]) 1 dX8_run_90 rfl (by decide) rfl ?_
              refine gw_goto C (tgt := 41) dX8_run_91 (by decide) ?_
              have hst := rm_step ⟨hMM.1, hMM.2.1⟩ hrm hp9.2 hx9 hds (y := 0) ⟨fun q => by first | rfl | omega, fun q => by first | rfl | omega⟩
              obtain ⟨hx1, p8, hp8, hrm8⟩ := hst
              exact gw_weak (lo' := [some (vR 231), some (vI (k9 + 0)), some (vI x9), none]) ⟨rfl, rfl, rfl, trivial⟩ (ih_41 (k9 + 0) x9 Ke p8 z_73_2 (by exact hx1) (by rw [Int.add_zero] at hrm8; first | exact hrm8 | (rw [Int.add_zero]; exact hrm8)) (by omega))
            · skip
              refine gw_iconst C dX8_run_84 ?_
              refine gw_goto C (tgt := 89) dX8_run_85 (by decide) ?_
              refine gw_iadd C dX8_run_89 ?_
              refine gw_istore_n C (lo1 := [some (vR 231), some (vI (k9 + 1)), some (vI x9), some (vI (I 234 p9))]) 1 dX8_run_90 rfl (by decide) rfl ?_
              refine gw_goto C (tgt := 41) dX8_run_91 (by decide) ?_
              have hst := rm_step ⟨hMM.1, hMM.2.1⟩ hrm hp9.2 hx9 hds (y := 1) ⟨fun q => by first | rfl | omega, fun q => by first | rfl | omega⟩
              obtain ⟨hx1, p8, hp8, hrm8⟩ := hst
              exact gw_weak (lo' := [some (vR 231), some (vI (k9 + 1)), some (vI x9), none]) ⟨rfl, rfl, rfl, trivial⟩ (ih_41 (k9 + 1) x9 Ke p8 z_73_2 (by exact hx1) (by exact hrm8) (by omega))
    exact gw_weak (lo' := [some (vR 231), some (vI 0), some (vI 1), none]) ⟨rfl, rfl, rfl, trivial⟩ (loop_41 _ 0 1 (up (up Ms 231 3 1) 231 7 0) 0 z_24_2 (by rfl) (by exact rm_0 hk0 ho hfq hsv rfl rfl) (Nat.lt_succ_self _))
