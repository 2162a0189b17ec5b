def csQ (I J : GI) : Option GV → Nat → GI → GI → Prop := fun v _ I' J' => v = some (vL (ckF (I 232) (I 231 5) (I 231 2))) ∧ I' = up I 231 6 0 ∧ ∀ q f, ¬ (q = 231 ∧ f = 9) → J' q f = J q f
set_option maxHeartbeats 4000000 in
set_option maxRecDepth 100000 in
theorem c_X8_checksum {l : Launch} (hl0 : l.stackTraces = false) (G : GG) (I J : GI) {z : Nat} (ho : Oks (I 232)) (hty : 0 ≤ I 231 5 ∧ I 231 5 ≤ 90) (hp : 0 ≤ I 231 2 ∧ I 231 2 ≤ 4) : GM l yX8_checksum (.code yX8_checksum cX8_checksum 3 (some .long)) 8 188 0 0 G N0 SH RR [vR 231] z I J (csQ I J) gNo := by
  refine gm_of (lo0 := [some (vR 231), none, none]) hl0 (by decide) rfl (Nat.le_of_ble_eq_true rfl) ?_
  intro p e s m args below meth c C ht hgi
  have C : gC G p l s m args meth c cX8_checksum 3 RX8 (some .long) "checksum" := C
  have h3 := ho.2.1
  have h0 := ho.1
  refine gw_aload_n C 0 dX8_checksum_0 rfl rfl ?_
  refine gw_iconst C dX8_checksum_1 ?_
  refine gw_putI (ci := 7) (Cn := RX8) (T0 := TX8) (N := 10) C (ty := .int) 6 kX8_22 fX8 rfl (by decide) rfl rfl tyX8 tyX8_ok nmX8 rfl (by decide) rfl rfl ⟨by decide, by decide⟩ dX8_checksum_2 xs_231 xn_231 ?_
  refine gw_aload_n C 0 dX8_checksum_5 rfl rfl ?_
  refine gw_ldc2 C (x := 12946) dX8_checksum_6 kX8_287 (by decide) ?_
  refine gw_putL (ci := 7) (Cn := RX8) (T0 := TX8) (N := 10) C (ty := .long) 9 kX8_283 fX8 rfl (by decide) rfl rfl tyX8 tyX8_ok nmX8 rfl (by decide) rfl rfl dX8_checksum_9 xs_231 xn_231 ?_
  refine gw_iconst C dX8_checksum_12 ?_
  refine gw_istore_n C (lo1 := [some (vR 231), some (vI 0), none]) 1 dX8_checksum_13 rfl (by decide) rfl ?_
  have loop_14 : ∀ (fuel : Nat) (a : Nat) (J1 : GI) (z1 : Nat), (a ≤ 8) → (J1 231 9 = hsF (fun k => rInfo (I 232) (k : Int)) a 12946) → (∀ q f, ¬ (q = 231 ∧ f = 9) → J1 q f = J q f) → 9 - a < fuel → GW G p l e ({ frames := 8, cells := 0, slots := 0, locals := 188 } : Room) s m args below meth c 3 z1 N0 SH RR (up I 231 6 0) J1 0 0 (vx_MQ below (GQ G N0 SH RR (csQ I J)) (GX G N0 SH RR gNo) args s 0 0 (ge G)) 14 [some (vR 231), some (vI (a : Int)), none] [] := by
    intro fuel
    induction fuel with
    | zero => intro a J1 z1 hl1 hv1 ho1 hf_14; exact absurd hf_14 (Nat.not_lt_zero _)
    | succ fuel ih_14 =>
      intro a J1 z1 hl1 hv1 ho1 hf_14
      refine gw_iload_n C 1 dX8_checksum_14 rfl rfl ?_
      refine gw_bipush C dX8_checksum_15 rfl ?_
      refine gw_icmp_ge C (tgt := 36) dX8_checksum_17 (by decide) (by first | omega | exact hgi _ _) ⟨by decide, by decide⟩ (fun h_17 => ?_) (fun h_17 => ?_)
      · skip
        refine gw_iconst C dX8_checksum_36 ?_
        refine gw_istore_n C (lo1 := [some (vR 231), some (vI 0), none]) 1 dX8_checksum_37 rfl (by decide) rfl ?_
        have loop_38 : ∀ (fuel : Nat) (k : Nat) (J2 : GI) (z2 : Nat), ((k : Int) ≤ 6 * I 232 3) → (J2 231 9 = hsF (fun k => rWire (I 232) (k / 6) ((k % 6 : Nat) : Int)) k (c1F (I 232))) → (∀ q f, ¬ (q = 231 ∧ f = 9) → J2 q f = J q f) → 40 - k < fuel → GW G p l e ({ frames := 8, cells := 0, slots := 0, locals := 188 } : Room) s m args below meth c 3 z2 N0 SH RR (up I 231 6 0) J2 0 0 (vx_MQ below (GQ G N0 SH RR (csQ I J)) (GX G N0 SH RR gNo) args s 0 0 (ge G)) 38 [some (vR 231), some (vI (k : Int)), none] [] := by
          intro fuel
          induction fuel with
          | zero => intro k J2 z2 hl2 hv2 ho2 hf_38; exact absurd hf_38 (Nat.not_lt_zero _)
          | succ fuel ih_38 =>
            intro k J2 z2 hl2 hv2 ho2 hf_38
            refine gw_iload_n C 1 dX8_checksum_38 rfl rfl ?_
            refine gw_bipush C dX8_checksum_39 rfl ?_
            refine gw_aload_n C 0 dX8_checksum_41 rfl rfl ?_
            refine gw_getRs (ci := 7) (Cn := RX8) (T0 := TX8) (N := 10) C 232 0 kX8_7 fX8 rfl (by decide) rfl rfl dX8_checksum_42 xs_231 xn_231 xr_231_0 ?_
            refine gw_iconst C dX8_checksum_45 ?_
            refine gw_iald C 3 dX8_checksum_46 xs_232 xn_232 (by omega) (by omega) (by decide) (fun hI_46 => ?_)
            rw [show ((up I 231 6 0) 232 3) = I 232 3 from up_nn (by omega)] at hI_46 ⊢
            refine gw_imul C dX8_checksum_47 ?_
            refine gw_icmp_ge C (tgt := 74) dX8_checksum_48 (by decide) (by first | omega | exact hgi _ _) (by first | omega | exact hgi _ _) (fun h_48 => ?_) (fun h_48 => ?_)
            · skip
              refine gw_iconst C dX8_checksum_74 ?_
              refine gw_istore_n C (lo1 := [some (vR 231), some (vI 0), none]) 1 dX8_checksum_75 rfl (by decide) rfl ?_
              have loop_76 : ∀ (fuel : Nat) (k : Nat) (J3 : GI) (z3 : Nat), ((k : Int) ≤ 8 * I 232 4) → (J3 231 9 = hsF (fun k => rJoinOf (I 232) (k / 8) ((k % 8 : Nat) : Int)) k (c2F (I 232))) → (∀ q f, ¬ (q = 231 ∧ f = 9) → J3 q f = J q f) → 40 - k < fuel → GW G p l e ({ frames := 8, cells := 0, slots := 0, locals := 188 } : Room) s m args below meth c 3 z3 N0 SH RR (up I 231 6 0) J3 0 0 (vx_MQ below (GQ G N0 SH RR (csQ I J)) (GX G N0 SH RR gNo) args s 0 0 (ge G)) 76 [some (vR 231), some (vI (k : Int)), none] [] := by
                intro fuel
                induction fuel with
                | zero => intro k J3 z3 hl3 hv3 ho3 hf_76; exact absurd hf_76 (Nat.not_lt_zero _)
                | succ fuel ih_76 =>
                  intro k J3 z3 hl3 hv3 ho3 hf_76
                  refine gw_iload_n C 1 dX8_checksum_76 rfl rfl ?_
                  refine gw_bipush C dX8_checksum_77 rfl ?_
                  refine gw_aload_n C 0 dX8_checksum_79 rfl rfl ?_
                  refine gw_getRs (ci := 7) (Cn := RX8) (T0 := TX8) (N := 10) C 232 0 kX8_7 fX8 rfl (by decide) rfl rfl dX8_checksum_80 xs_231 xn_231 xr_231_0 ?_
                  refine gw_iconst C dX8_checksum_83 ?_
                  refine gw_iald C 4 dX8_checksum_84 xs_232 xn_232 (by omega) (by omega) (by decide) (fun hI_84 => ?_)
                  rw [show ((up I 231 6 0) 232 4) = I 232 4 from up_nn (by omega)] at hI_84 ⊢
                  refine gw_imul C dX8_checksum_85 ?_
                  refine gw_icmp_ge C (tgt := 112) dX8_checksum_86 (by decide) (by first | omega | exact hgi _ _) (by first | omega | exact hgi _ _) (fun h_86 => ?_) (fun h_86 => ?_)
                  · skip
                    refine gw_iconst C dX8_checksum_112 ?_
                    refine gw_istore_n C (lo1 := [some (vR 231), some (vI 0), none]) 1 dX8_checksum_113 rfl (by decide) rfl ?_
                    have loop_114 : ∀ (fuel : Nat) (t : Nat) (J4 : GI) (z4 : Nat), ((t : Int) ≤ I 232 5) → (J4 231 9 = htF (I 232) t (c3F (I 232))) → (∀ q f, ¬ (q = 231 ∧ f = 9) → J4 q f = J q f) → 5 - t < fuel → GW G p l e ({ frames := 8, cells := 0, slots := 0, locals := 188 } : Room) s m args below meth c 3 z4 N0 SH RR (up I 231 6 0) J4 0 0 (vx_MQ below (GQ G N0 SH RR (csQ I J)) (GX G N0 SH RR gNo) args s 0 0 (ge G)) 114 [some (vR 231), some (vI (t : Int)), none] [] := by
                      intro fuel
                      induction fuel with
                      | zero => intro t J4 z4 hl4 hv4 ho4 hf_114; exact absurd hf_114 (Nat.not_lt_zero _)
                      | succ fuel ih_114 =>
                        intro t J4 z4 hl4 hv4 ho4 hf_114
                        refine gw_iload_n C 1 dX8_checksum_114 rfl rfl ?_
                        refine gw_aload_n C 0 dX8_checksum_115 rfl rfl ?_
                        refine gw_getRs (ci := 7) (Cn := RX8) (T0 := TX8) (N := 10) C 232 0 kX8_7 fX8 rfl (by decide) rfl rfl dX8_checksum_116 xs_231 xn_231 xr_231_0 ?_
                        refine gw_iconst C dX8_checksum_119 ?_
                        refine gw_iald C 5 dX8_checksum_120 xs_232 xn_232 (by omega) (by omega) (by decide) (fun hI_120 => ?_)
                        rw [show ((up I 231 6 0) 232 5) = I 232 5 from up_nn (by omega)] at hI_120 ⊢
                        refine gw_icmp_ge C (tgt := 224) dX8_checksum_121 (by decide) (by first | omega | exact hgi _ _) hI_120 (fun h_121 => ?_) (fun h_121 => ?_)
                        · skip
                          refine gw_aload_n C 0 dX8_checksum_224 rfl rfl ?_
                          refine gw_aload_n C 0 dX8_checksum_225 rfl rfl ?_
                          refine gw_getI (ci := 7) (Cn := RX8) (T0 := TX8) (N := 10) C 5 kX8_241 fX8 rfl (by decide) rfl rfl dX8_checksum_226 xs_231 xn_231 (fun hI_226 => ?_)
                          rw [show ((up I 231 6 0) 231 5) = (I 231 5) from by (repeat (first | rw [up_eq] | rw [up_ne (by decide)] | rw [up_ne2 (by first | decide | omega)]))] at hI_226 ⊢
                          refine gw_i2l C dX8_checksum_229 hI_226 ?_
                          refine gw_callVm C (as := [vL (I 231 5)]) (st := []) (ci := 7) (T0 := TX8) (N := 10) (c_X8_say hl0 G (up I 231 6 0) J4 (I 231 5)) dX8_checksum_230 kX8_289 qX8_say hdX8_say ⟨Nat.le_of_ble_eq_true rfl, Nat.le_of_ble_eq_true rfl⟩ ⟨Nat.le_of_ble_eq_true rfl, Nat.le_of_ble_eq_true rfl⟩ (Nat.le_of_ble_eq_true rfl) rfl xs_231 xn_231 rfl (fun z_230 => ?_)
                          refine gw_aload_n C 0 dX8_checksum_233 rfl rfl ?_
                          refine gw_aload_n C 0 dX8_checksum_234 rfl rfl ?_
                          refine gw_getI (ci := 7) (Cn := RX8) (T0 := TX8) (N := 10) C 2 kX8_30 fX8 rfl (by decide) rfl rfl dX8_checksum_235 xs_231 xn_231 (fun hI_235 => ?_)
                          rw [show ((up I 231 6 0) 231 2) = (I 231 2) from by (repeat (first | rw [up_eq] | rw [up_ne (by decide)] | rw [up_ne2 (by first | decide | omega)]))] at hI_235 ⊢
                          refine gw_i2l C dX8_checksum_238 hI_235 ?_
                          refine gw_callVm C (as := [vL (I 231 2)]) (st := []) (ci := 7) (T0 := TX8) (N := 10) (c_X8_say hl0 G (up I 231 6 0) (up J4 231 9 (31 * J4 231 9 + (I 231 5))) (I 231 2)) dX8_checksum_239 kX8_289 qX8_say hdX8_say ⟨Nat.le_of_ble_eq_true rfl, Nat.le_of_ble_eq_true rfl⟩ ⟨Nat.le_of_ble_eq_true rfl, Nat.le_of_ble_eq_true rfl⟩ (Nat.le_of_ble_eq_true rfl) rfl xs_231 xn_231 rfl (fun z_239 => ?_)
                          refine gw_aload_n C 0 dX8_checksum_242 rfl rfl ?_
                          refine gw_getL (ci := 7) (Cn := RX8) (T0 := TX8) (N := 10) C 9 kX8_283 fX8 rfl (by decide) rfl rfl dX8_checksum_243 xs_231 xn_231 ?_
                          exact gw_lret C (Nat.le_of_ble_eq_true rfl) (Nat.le_of_ble_eq_true rfl) dX8_checksum_246 (⟨congrArg (fun q => some (vL q)) (by rw [up_eq, up_eq, hv4, show t = (I 232 5).toNat by omega]; rfl), rfl, (fun q f hq => by rw [up_nn hq, up_nn hq]; exact ho4 q f hq)⟩)
                        · skip
                          have hot := okT ho (t := t) (by omega)
                          refine gw_iconst C dX8_checksum_124 ?_
                          refine gw_istore_n C (lo1 := [some (vR 231), some (vI (t : Int)), some (vI 0)]) 2 dX8_checksum_125 rfl (by decide) rfl ?_
                          have loop_126 : ∀ (fuel : Nat) (a : Nat) (J5 : GI) (z5 : Nat), (a ≤ 10) → (J5 231 9 = hsF (fun a => rTrav (I 232) t (a : Int)) a (htF (I 232) t (c3F (I 232)))) → (∀ q f, ¬ (q = 231 ∧ f = 9) → J5 q f = J q f) → 11 - a < fuel → GW G p l e ({ frames := 8, cells := 0, slots := 0, locals := 188 } : Room) s m args below meth c 3 z5 N0 SH RR (up I 231 6 0) J5 0 0 (vx_MQ below (GQ G N0 SH RR (csQ I J)) (GX G N0 SH RR gNo) args s 0 0 (ge G)) 126 [some (vR 231), some (vI (t : Int)), some (vI (a : Int))] [] := by
                            intro fuel
                            induction fuel with
                            | zero => intro a J5 z5 hl5 hv5 ho5 hf_126; exact absurd hf_126 (Nat.not_lt_zero _)
                            | succ fuel ih_126 =>
                              intro a J5 z5 hl5 hv5 ho5 hf_126
                              refine gw_iload_n C 2 dX8_checksum_126 rfl rfl ?_
                              refine gw_bipush C dX8_checksum_127 rfl ?_
                              refine gw_icmp_ge C (tgt := 149) dX8_checksum_129 (by decide) (by first | omega | exact hgi _ _) ⟨by decide, by decide⟩ (fun h_129 => ?_) (fun h_129 => ?_)
                              · skip
                                refine gw_iconst C dX8_checksum_149 ?_
                                refine gw_istore_n C (lo1 := [some (vR 231), some (vI (t : Int)), some (vI 0)]) 2 dX8_checksum_150 rfl (by decide) rfl ?_
                                have loop_151 : ∀ (fuel : Nat) (k : Nat) (J6 : GI) (z6 : Nat), ((k : Int) ≤ 5 * I 232 (103 + 28 * t)) → (J6 231 9 = hsF (fun k => rLeg (I 232) t (k / 5) ((k % 5 : Nat) : Int)) k (hsF (fun a => rTrav (I 232) t (a : Int)) 10 (htF (I 232) t (c3F (I 232))))) → (∀ q f, ¬ (q = 231 ∧ f = 9) → J6 q f = J q f) → 61 - k < fuel → GW G p l e ({ frames := 8, cells := 0, slots := 0, locals := 188 } : Room) s m args below meth c 3 z6 N0 SH RR (up I 231 6 0) J6 0 0 (vx_MQ below (GQ G N0 SH RR (csQ I J)) (GX G N0 SH RR gNo) args s 0 0 (ge G)) 151 [some (vR 231), some (vI (t : Int)), some (vI (k : Int))] [] := by
                                  intro fuel
                                  induction fuel with
                                  | zero => intro k J6 z6 hl6 hv6 ho6 hf_151; exact absurd hf_151 (Nat.not_lt_zero _)
                                  | succ fuel ih_151 =>
                                    intro k J6 z6 hl6 hv6 ho6 hf_151
                                    refine gw_iload_n C 2 dX8_checksum_151 rfl rfl ?_
                                    refine gw_iconst C dX8_checksum_152 ?_
                                    refine gw_aload_n C 0 dX8_checksum_153 rfl rfl ?_
                                    refine gw_iload_n C 1 dX8_checksum_154 rfl rfl ?_
                                    refine gw_callVm C (as := [vI (t : Int)]) (st := [vI 5, vI (k : Int)]) (ci := 7) (T0 := TX8) (N := 10) (c_X8_legs hl0 G (up I 231 6 0) J6 (by rw [show (up I 231 6 0) 232 = I 232 from up_ne (by decide)]; exact ho) (t : Int) (by first | (rw [show (up I 231 6 0) 232 = I 232 from up_ne (by decide)]; (try rw [show (t : Int).toNat = t from by omega]); omega) | (omega))) dX8_checksum_155 kX8_77 qX8_legs hdX8_legs ⟨Nat.le_of_ble_eq_true rfl, Nat.le_of_ble_eq_true rfl⟩ ⟨Nat.le_of_ble_eq_true rfl, Nat.le_of_ble_eq_true rfl⟩ (Nat.le_of_ble_eq_true rfl) rfl xs_231 xn_231 rfl (fun z_155 => ?_)
                                    rw [show (t : Int).toNat = t from by omega]
                                    rw [show (up I 231 6 0) 232 = I 232 from up_ne (by decide)]
                                    refine gw_imul C dX8_checksum_158 ?_
                                    refine gw_icmp_ge C (tgt := 184) dX8_checksum_159 (by decide) (by first | omega | exact hgi _ _) (by first | omega | exact hgi _ _) (fun h_159 => ?_) (fun h_159 => ?_)
                                    · skip
                                      refine gw_aload_n C 0 dX8_checksum_184 rfl rfl ?_
                                      refine gw_aload_n C 0 dX8_checksum_185 rfl rfl ?_
                                      refine gw_iload_n C 1 dX8_checksum_186 rfl rfl ?_
                                      refine gw_callVm C (as := [vI (t : Int)]) (st := [vR 231]) (ci := 7) (T0 := TX8) (N := 10) (c_X8_suspectOf hl0 G (up I 231 6 0) J6 (by rw [show (up I 231 6 0) 232 = I 232 from up_ne (by decide)]; exact ho) (t : Int) (by first | (rw [show (up I 231 6 0) 232 = I 232 from up_ne (by decide)]; (try rw [show (t : Int).toNat = t from by omega]); omega) | (omega))) dX8_checksum_187 kX8_232 qX8_suspectOf hdX8_suspectOf ⟨Nat.le_of_ble_eq_true rfl, Nat.le_of_ble_eq_true rfl⟩ ⟨Nat.le_of_ble_eq_true rfl, Nat.le_of_ble_eq_true rfl⟩ (Nat.le_of_ble_eq_true rfl) rfl xs_231 xn_231 rfl (fun z_187 => ?_)
                                      rw [show (t : Int).toNat = t from by omega]
                                      rw [show (up I 231 6 0) 232 = I 232 from up_ne (by decide)]
                                      have hi9_187 : inI (rSus (I 232) t) := rSus_i ho (by omega)
                                      refine gw_i2l C dX8_checksum_190 hi9_187 ?_
                                      refine gw_callVm C (as := [vL (rSus (I 232) t)]) (st := []) (ci := 7) (T0 := TX8) (N := 10) (c_X8_say hl0 G (up I 231 6 0) J6 (rSus (I 232) t)) dX8_checksum_191 kX8_289 qX8_say hdX8_say ⟨Nat.le_of_ble_eq_true rfl, Nat.le_of_ble_eq_true rfl⟩ ⟨Nat.le_of_ble_eq_true rfl, Nat.le_of_ble_eq_true rfl⟩ (Nat.le_of_ble_eq_true rfl) rfl xs_231 xn_231 rfl (fun z_191 => ?_)
                                      refine gw_iconst C dX8_checksum_194 ?_
                                      refine gw_istore_n C (lo1 := [some (vR 231), some (vI (t : Int)), some (vI 0)]) 2 dX8_checksum_195 rfl (by decide) rfl ?_
                                      have loop_196 : ∀ (fuel : Nat) (v : Nat) (J7 : GI) (z7 : Nat), (v ≤ 3) → (J7 231 9 = hsF (fun a => rTrb (I 232) t (a : Int)) v (31 * hnF (fun k a => rLeg (I 232) t k (a : Int)) 5 (sLg (I 232) t) (hsF (fun a => rTrav (I 232) t (a : Int)) 10 (htF (I 232) t (c3F (I 232)))) + rSus (I 232) t)) → (∀ q f, ¬ (q = 231 ∧ f = 9) → J7 q f = J q f) → 4 - v < fuel → GW G p l e ({ frames := 8, cells := 0, slots := 0, locals := 188 } : Room) s m args below meth c 3 z7 N0 SH RR (up I 231 6 0) J7 0 0 (vx_MQ below (GQ G N0 SH RR (csQ I J)) (GX G N0 SH RR gNo) args s 0 0 (ge G)) 196 [some (vR 231), some (vI (t : Int)), some (vI (v : Int))] [] := by
                                        intro fuel
                                        induction fuel with
                                        | zero => intro v J7 z7 hl7 hv7 ho7 hf_196; exact absurd hf_196 (Nat.not_lt_zero _)
                                        | succ fuel ih_196 =>
                                          intro v J7 z7 hl7 hv7 ho7 hf_196
                                          refine gw_iload_n C 2 dX8_checksum_196 rfl rfl ?_
                                          refine gw_iconst C dX8_checksum_197 ?_
                                          refine gw_icmp_ge C (tgt := 218) dX8_checksum_198 (by decide) (by first | omega | exact hgi _ _) ⟨by decide, by decide⟩ (fun h_198 => ?_) (fun h_198 => ?_)
                                          · skip
                                            refine gw_iinc C (lo1 := [some (vR 231), some (vI ((t : Int) + 1)), some (vI (v : Int))]) dX8_checksum_218 rfl (by decide) rfl ?_
                                            refine gw_goto C (tgt := 114) dX8_checksum_221 (by decide) ?_
                                            exact gw_weak (lo' := [some (vR 231), some (vI (((t + 1) : Nat) : Int)), none]) ⟨rfl, congrArg (fun q => some (vI q)) (by omega), trivial⟩ (ih_114 (t + 1) J7 z7 (by omega) (by rw [hv7, show v = 3 by omega, ht_s]; rfl) (by exact ho7) (by omega))
                                          · skip
                                            refine gw_aload_n C 0 dX8_checksum_201 rfl rfl ?_
                                            refine gw_aload_n C 0 dX8_checksum_202 rfl rfl ?_
                                            refine gw_iload_n C 1 dX8_checksum_203 rfl rfl ?_
                                            refine gw_iload_n C 2 dX8_checksum_204 rfl rfl ?_
                                            refine gw_callVm C (as := [vI (t : Int), vI (v : Int)]) (st := [vR 231]) (ci := 7) (T0 := TX8) (N := 10) (c_X8_troubleAt hl0 G (up I 231 6 0) J7 (by rw [show (up I 231 6 0) 232 = I 232 from up_ne (by decide)]; exact ho) (t : Int) (v : Int) (by first | (rw [show (up I 231 6 0) 232 = I 232 from up_ne (by decide)]; (try rw [show (t : Int).toNat = t from by omega]); (try rw [show (v : Int).toNat = v from by omega]); omega) | (omega)) (by first | (rw [show (up I 231 6 0) 232 = I 232 from up_ne (by decide)]; (try rw [show (t : Int).toNat = t from by omega]); (try rw [show (v : Int).toNat = v from by omega]); first | assumption | omega) | (first | assumption | omega))) dX8_checksum_205 kX8_217 qX8_troubleAt hdX8_troubleAt ⟨Nat.le_of_ble_eq_true rfl, Nat.le_of_ble_eq_true rfl⟩ ⟨Nat.le_of_ble_eq_true rfl, Nat.le_of_ble_eq_true rfl⟩ (Nat.le_of_ble_eq_true rfl) rfl xs_231 xn_231 rfl (fun z_205 => ?_)
                                            rw [show (t : Int).toNat = t from by omega]
                                            rw [show (up I 231 6 0) 232 = I 232 from up_ne (by decide)]
                                            have hi9_205 : inI (rTrb (I 232) t (v : Int)) := rTrb_i (I 232) _ _
                                            refine gw_i2l C dX8_checksum_208 hi9_205 ?_
                                            refine gw_callVm C (as := [vL (rTrb (I 232) t (v : Int))]) (st := []) (ci := 7) (T0 := TX8) (N := 10) (c_X8_say hl0 G (up I 231 6 0) J7 (rTrb (I 232) t (v : Int))) dX8_checksum_209 kX8_289 qX8_say hdX8_say ⟨Nat.le_of_ble_eq_true rfl, Nat.le_of_ble_eq_true rfl⟩ ⟨Nat.le_of_ble_eq_true rfl, Nat.le_of_ble_eq_true rfl⟩ (Nat.le_of_ble_eq_true rfl) rfl xs_231 xn_231 rfl (fun z_209 => ?_)
                                            refine gw_iinc C (lo1 := [some (vR 231), some (vI (t : Int)), some (vI ((v : Int) + 1))]) dX8_checksum_212 rfl (by decide) rfl ?_
                                            refine gw_goto C (tgt := 196) dX8_checksum_215 (by decide) ?_
                                            exact gw_weak (lo' := [some (vR 231), some (vI (t : Int)), some (vI (((v + 1) : Nat) : Int))]) ⟨rfl, rfl, congrArg (fun q => some (vI q)) (by omega), trivial⟩ (ih_196 (v + 1) (up J7 231 9 (31 * J7 231 9 + (rTrb (I 232) t (v : Int)))) z_209 (by omega) (by rw [up_eq, hv7]; rfl) (by intro q f hq; rw [up_nn hq]; exact ho7 q f hq) (by omega))
                                      exact gw_weak (lo' := [some (vR 231), some (vI (t : Int)), some (vI (0 : Int))]) ⟨rfl, rfl, congrArg (fun q => some (vI q)) (by omega), trivial⟩ (loop_196 _ 0 (up J6 231 9 (31 * J6 231 9 + (rSus (I 232) t))) z_191 (by omega) (by rw [up_eq, hv6, show k = 5 * sLg (I 232) t by unfold sLg; omega, hn_hs (v := fun k a => rLeg (I 232) t k (a : Int)) (by decide)]; rfl) (by intro q f hq; rw [up_nn hq]; exact ho6 q f hq) (Nat.lt_succ_self _))
                                    · skip
                                      refine gw_aload_n C 0 dX8_checksum_162 rfl rfl ?_
                                      refine gw_aload_n C 0 dX8_checksum_163 rfl rfl ?_
                                      refine gw_iload_n C 1 dX8_checksum_164 rfl rfl ?_
                                      refine gw_iload_n C 2 dX8_checksum_165 rfl rfl ?_
                                      refine gw_iconst C dX8_checksum_166 ?_
                                      refine gw_idiv C dX8_checksum_167 (by first | omega | exact hgi _ _) ⟨by decide, by decide⟩ (by decide) ?_
                                      rw [show ((k : Int)).tdiv 5 = (((k / 5) : Nat) : Int) from rfl]
                                      refine gw_iload_n C 2 dX8_checksum_168 rfl rfl ?_
                                      refine gw_iconst C dX8_checksum_169 ?_
                                      refine gw_irem C dX8_checksum_170 (by first | omega | exact hgi _ _) ⟨by decide, by decide⟩ (by decide) ?_
                                      rw [show ((k : Int)).tmod 5 = (((k % 5) : Nat) : Int) from rfl]
                                      refine gw_callVm C (as := [vI (t : Int), vI (((k / 5) : Nat) : Int), vI (((k % 5) : Nat) : Int)]) (st := [vR 231]) (ci := 7) (T0 := TX8) (N := 10) (c_X8_legOf hl0 G (up I 231 6 0) J6 (by rw [show (up I 231 6 0) 232 = I 232 from up_ne (by decide)]; exact ho) (t : Int) (((k / 5) : Nat) : Int) (((k % 5) : Nat) : Int) (by first | (rw [show (up I 231 6 0) 232 = I 232 from up_ne (by decide)]; (try rw [show (t : Int).toNat = t from by omega]); (try rw [show (((k / 5) : Nat) : Int).toNat = (k / 5) from by omega]); (try rw [show (((k % 5) : Nat) : Int).toNat = (k % 5) from by omega]); omega) | (omega)) (by first | (rw [show (up I 231 6 0) 232 = I 232 from up_ne (by decide)]; (try rw [show (t : Int).toNat = t from by omega]); (try rw [show (((k / 5) : Nat) : Int).toNat = (k / 5) from by omega]); (try rw [show (((k % 5) : Nat) : Int).toNat = (k % 5) from by omega]); omega) | (omega)) (by first | (rw [show (up I 231 6 0) 232 = I 232 from up_ne (by decide)]; (try rw [show (t : Int).toNat = t from by omega]); (try rw [show (((k / 5) : Nat) : Int).toNat = (k / 5) from by omega]); (try rw [show (((k % 5) : Nat) : Int).toNat = (k % 5) from by omega]); omega) | (omega))) dX8_checksum_171 kX8_213 qX8_legOf hdX8_legOf ⟨Nat.le_of_ble_eq_true rfl, Nat.le_of_ble_eq_true rfl⟩ ⟨Nat.le_of_ble_eq_true rfl, Nat.le_of_ble_eq_true rfl⟩ (Nat.le_of_ble_eq_true rfl) rfl xs_231 xn_231 rfl (fun z_171 => ?_)
                                      rw [show (t : Int).toNat = t from by omega]
                                      rw [show (((k / 5) : Nat) : Int).toNat = (k / 5) from by omega]
                                      rw [show (up I 231 6 0) 232 = I 232 from up_ne (by decide)]
                                      have hi9_171 : inI (rLeg (I 232) t (k / 5) (((k % 5) : Nat) : Int)) := rLeg_i ho (by omega) (by omega)
                                      refine gw_i2l C dX8_checksum_174 hi9_171 ?_
                                      refine gw_callVm C (as := [vL (rLeg (I 232) t (k / 5) (((k % 5) : Nat) : Int))]) (st := []) (ci := 7) (T0 := TX8) (N := 10) (c_X8_say hl0 G (up I 231 6 0) J6 (rLeg (I 232) t (k / 5) (((k % 5) : Nat) : Int))) dX8_checksum_175 kX8_289 qX8_say hdX8_say ⟨Nat.le_of_ble_eq_true rfl, Nat.le_of_ble_eq_true rfl⟩ ⟨Nat.le_of_ble_eq_true rfl, Nat.le_of_ble_eq_true rfl⟩ (Nat.le_of_ble_eq_true rfl) rfl xs_231 xn_231 rfl (fun z_175 => ?_)
                                      refine gw_iinc C (lo1 := [some (vR 231), some (vI (t : Int)), some (vI ((k : Int) + 1))]) dX8_checksum_178 rfl (by decide) rfl ?_
                                      refine gw_goto C (tgt := 151) dX8_checksum_181 (by decide) ?_
                                      exact gw_weak (lo' := [some (vR 231), some (vI (t : Int)), some (vI (((k + 1) : Nat) : Int))]) ⟨rfl, rfl, congrArg (fun q => some (vI q)) (by omega), trivial⟩ (ih_151 (k + 1) (up J6 231 9 (31 * J6 231 9 + (rLeg (I 232) t (k / 5) (((k % 5) : Nat) : Int)))) z_175 (by omega) (by rw [up_eq, hv6]; rfl) (by intro q f hq; rw [up_nn hq]; exact ho6 q f hq) (by omega))
                                exact gw_weak (lo' := [some (vR 231), some (vI (t : Int)), some (vI (0 : Int))]) ⟨rfl, rfl, congrArg (fun q => some (vI q)) (by omega), trivial⟩ (loop_151 _ 0 J5 z5 (by omega) (by rw [hv5, show a = 10 by omega]; rfl) (by exact ho5) (Nat.lt_succ_self _))
                              · skip
                                refine gw_aload_n C 0 dX8_checksum_132 rfl rfl ?_
                                refine gw_aload_n C 0 dX8_checksum_133 rfl rfl ?_
                                refine gw_iload_n C 1 dX8_checksum_134 rfl rfl ?_
                                refine gw_iload_n C 2 dX8_checksum_135 rfl rfl ?_
                                refine gw_callVm C (as := [vI (t : Int), vI (a : Int)]) (st := [vR 231]) (ci := 7) (T0 := TX8) (N := 10) (c_X8_traverseOf hl0 G (up I 231 6 0) J5 (by rw [show (up I 231 6 0) 232 = I 232 from up_ne (by decide)]; exact ho) (t : Int) (a : Int) (by first | (rw [show (up I 231 6 0) 232 = I 232 from up_ne (by decide)]; (try rw [show (t : Int).toNat = t from by omega]); (try rw [show (a : Int).toNat = a from by omega]); omega) | (omega)) (by first | (rw [show (up I 231 6 0) 232 = I 232 from up_ne (by decide)]; (try rw [show (t : Int).toNat = t from by omega]); (try rw [show (a : Int).toNat = a from by omega]); omega) | (omega))) dX8_checksum_136 kX8_208 qX8_traverseOf hdX8_traverseOf ⟨Nat.le_of_ble_eq_true rfl, Nat.le_of_ble_eq_true rfl⟩ ⟨Nat.le_of_ble_eq_true rfl, Nat.le_of_ble_eq_true rfl⟩ (Nat.le_of_ble_eq_true rfl) rfl xs_231 xn_231 rfl (fun z_136 => ?_)
                                rw [show (t : Int).toNat = t from by omega]
                                rw [show (up I 231 6 0) 232 = I 232 from up_ne (by decide)]
                                have hi9_136 : inI (rTrav (I 232) t (a : Int)) := rTrav_i ho (by omega)
                                refine gw_i2l C dX8_checksum_139 hi9_136 ?_
                                refine gw_callVm C (as := [vL (rTrav (I 232) t (a : Int))]) (st := []) (ci := 7) (T0 := TX8) (N := 10) (c_X8_say hl0 G (up I 231 6 0) J5 (rTrav (I 232) t (a : Int))) dX8_checksum_140 kX8_289 qX8_say hdX8_say ⟨Nat.le_of_ble_eq_true rfl, Nat.le_of_ble_eq_true rfl⟩ ⟨Nat.le_of_ble_eq_true rfl, Nat.le_of_ble_eq_true rfl⟩ (Nat.le_of_ble_eq_true rfl) rfl xs_231 xn_231 rfl (fun z_140 => ?_)
                                refine gw_iinc C (lo1 := [some (vR 231), some (vI (t : Int)), some (vI ((a : Int) + 1))]) dX8_checksum_143 rfl (by decide) rfl ?_
                                refine gw_goto C (tgt := 126) dX8_checksum_146 (by decide) ?_
                                exact gw_weak (lo' := [some (vR 231), some (vI (t : Int)), some (vI (((a + 1) : Nat) : Int))]) ⟨rfl, rfl, congrArg (fun q => some (vI q)) (by omega), trivial⟩ (ih_126 (a + 1) (up J5 231 9 (31 * J5 231 9 + (rTrav (I 232) t (a : Int)))) z_140 (by omega) (by rw [up_eq, hv5]; rfl) (by intro q f hq; rw [up_nn hq]; exact ho5 q f hq) (by omega))
                          exact gw_weak (lo' := [some (vR 231), some (vI (t : Int)), some (vI (0 : Int))]) ⟨rfl, rfl, congrArg (fun q => some (vI q)) (by omega), trivial⟩ (loop_126 _ 0 J4 z4 (by omega) (by exact hv4) (by exact ho4) (Nat.lt_succ_self _))
                    exact gw_weak (lo' := [some (vR 231), some (vI (0 : Int)), none]) ⟨rfl, congrArg (fun q => some (vI q)) (by omega), trivial⟩ (loop_114 _ 0 J3 z3 (by omega) (by rw [hv3, show k = 8 * (I 232 4).toNat by omega, hn_hs (v := fun i a => rJoinOf (I 232) i (a : Int)) (by decide)]; rfl) (by exact ho3) (Nat.lt_succ_self _))
                  · skip
                    refine gw_aload_n C 0 dX8_checksum_89 rfl rfl ?_
                    refine gw_aload_n C 0 dX8_checksum_90 rfl rfl ?_
                    refine gw_iload_n C 1 dX8_checksum_91 rfl rfl ?_
                    refine gw_bipush C dX8_checksum_92 rfl ?_
                    refine gw_idiv C dX8_checksum_94 (by first | omega | exact hgi _ _) ⟨by decide, by decide⟩ (by decide) ?_
                    rw [show ((k : Int)).tdiv 8 = (((k / 8) : Nat) : Int) from rfl]
                    refine gw_iload_n C 1 dX8_checksum_95 rfl rfl ?_
                    refine gw_bipush C dX8_checksum_96 rfl ?_
                    refine gw_irem C dX8_checksum_98 (by first | omega | exact hgi _ _) ⟨by decide, by decide⟩ (by decide) ?_
                    rw [show ((k : Int)).tmod 8 = (((k % 8) : Nat) : Int) from rfl]
                    refine gw_callVm C (as := [vI (((k / 8) : Nat) : Int), vI (((k % 8) : Nat) : Int)]) (st := [vR 231]) (ci := 7) (T0 := TX8) (N := 10) (c_X8_joinTold hl0 G (up I 231 6 0) J3 (by rw [show (up I 231 6 0) 232 = I 232 from up_ne (by decide)]; exact ho) (((k / 8) : Nat) : Int) (((k % 8) : Nat) : Int) (by first | (rw [show (up I 231 6 0) 232 = I 232 from up_ne (by decide)]; (try rw [show (((k / 8) : Nat) : Int).toNat = (k / 8) from by omega]); (try rw [show (((k % 8) : Nat) : Int).toNat = (k % 8) from by omega]); omega) | (omega)) (by first | (rw [show (up I 231 6 0) 232 = I 232 from up_ne (by decide)]; (try rw [show (((k / 8) : Nat) : Int).toNat = (k / 8) from by omega]); (try rw [show (((k % 8) : Nat) : Int).toNat = (k % 8) from by omega]); omega) | (omega))) dX8_checksum_99 kX8_150 qX8_joinTold hdX8_joinTold ⟨Nat.le_of_ble_eq_true rfl, Nat.le_of_ble_eq_true rfl⟩ ⟨Nat.le_of_ble_eq_true rfl, Nat.le_of_ble_eq_true rfl⟩ (Nat.le_of_ble_eq_true rfl) rfl xs_231 xn_231 rfl (fun z_99 => ?_)
                    rw [show (((k / 8) : Nat) : Int).toNat = (k / 8) from by omega]
                    rw [show (up I 231 6 0) 232 = I 232 from up_ne (by decide)]
                    have hi9_99 : inI (rJoinOf (I 232) (k / 8) (((k % 8) : Nat) : Int)) := rJoinOf_i ho (by omega)
                    refine gw_i2l C dX8_checksum_102 hi9_99 ?_
                    refine gw_callVm C (as := [vL (rJoinOf (I 232) (k / 8) (((k % 8) : Nat) : Int))]) (st := []) (ci := 7) (T0 := TX8) (N := 10) (c_X8_say hl0 G (up I 231 6 0) J3 (rJoinOf (I 232) (k / 8) (((k % 8) : Nat) : Int))) dX8_checksum_103 kX8_289 qX8_say hdX8_say ⟨Nat.le_of_ble_eq_true rfl, Nat.le_of_ble_eq_true rfl⟩ ⟨Nat.le_of_ble_eq_true rfl, Nat.le_of_ble_eq_true rfl⟩ (Nat.le_of_ble_eq_true rfl) rfl xs_231 xn_231 rfl (fun z_103 => ?_)
                    refine gw_iinc C (lo1 := [some (vR 231), some (vI ((k : Int) + 1)), none]) dX8_checksum_106 rfl (by decide) rfl ?_
                    refine gw_goto C (tgt := 76) dX8_checksum_109 (by decide) ?_
                    exact gw_weak (lo' := [some (vR 231), some (vI (((k + 1) : Nat) : Int)), none]) ⟨rfl, congrArg (fun q => some (vI q)) (by omega), trivial⟩ (ih_76 (k + 1) (up J3 231 9 (31 * J3 231 9 + (rJoinOf (I 232) (k / 8) (((k % 8) : Nat) : Int)))) z_103 (by omega) (by rw [up_eq, hv3]; rfl) (by intro q f hq; rw [up_nn hq]; exact ho3 q f hq) (by omega))
              exact gw_weak (lo' := [some (vR 231), some (vI (0 : Int)), none]) ⟨rfl, congrArg (fun q => some (vI q)) (by omega), trivial⟩ (loop_76 _ 0 J2 z2 (by omega) (by rw [hv2, show k = 6 * (I 232 3).toNat by omega, hn_hs (v := fun i a => rWire (I 232) i (a : Int)) (by decide)]; rfl) (by exact ho2) (Nat.lt_succ_self _))
            · skip
              refine gw_aload_n C 0 dX8_checksum_51 rfl rfl ?_
              refine gw_aload_n C 0 dX8_checksum_52 rfl rfl ?_
              refine gw_iload_n C 1 dX8_checksum_53 rfl rfl ?_
              refine gw_bipush C dX8_checksum_54 rfl ?_
              refine gw_idiv C dX8_checksum_56 (by first | omega | exact hgi _ _) ⟨by decide, by decide⟩ (by decide) ?_
              rw [show ((k : Int)).tdiv 6 = (((k / 6) : Nat) : Int) from rfl]
              refine gw_iload_n C 1 dX8_checksum_57 rfl rfl ?_
              refine gw_bipush C dX8_checksum_58 rfl ?_
              refine gw_irem C dX8_checksum_60 (by first | omega | exact hgi _ _) ⟨by decide, by decide⟩ (by decide) ?_
              rw [show ((k : Int)).tmod 6 = (((k % 6) : Nat) : Int) from rfl]
              refine gw_callVm C (as := [vI (((k / 6) : Nat) : Int), vI (((k % 6) : Nat) : Int)]) (st := [vR 231]) (ci := 7) (T0 := TX8) (N := 10) (c_X8_wireOf hl0 G (up I 231 6 0) J2 (by rw [show (up I 231 6 0) 232 = I 232 from up_ne (by decide)]; exact ho) (((k / 6) : Nat) : Int) (((k % 6) : Nat) : Int) (by first | (rw [show (up I 231 6 0) 232 = I 232 from up_ne (by decide)]; (try rw [show (((k / 6) : Nat) : Int).toNat = (k / 6) from by omega]); (try rw [show (((k % 6) : Nat) : Int).toNat = (k % 6) from by omega]); omega) | (omega)) (by first | (rw [show (up I 231 6 0) 232 = I 232 from up_ne (by decide)]; (try rw [show (((k / 6) : Nat) : Int).toNat = (k / 6) from by omega]); (try rw [show (((k % 6) : Nat) : Int).toNat = (k % 6) from by omega]); omega) | (omega))) dX8_checksum_61 kX8_114 qX8_wireOf hdX8_wireOf ⟨Nat.le_of_ble_eq_true rfl, Nat.le_of_ble_eq_true rfl⟩ ⟨Nat.le_of_ble_eq_true rfl, Nat.le_of_ble_eq_true rfl⟩ (Nat.le_of_ble_eq_true rfl) rfl xs_231 xn_231 rfl (fun z_61 => ?_)
              rw [show (((k / 6) : Nat) : Int).toNat = (k / 6) from by omega]
              rw [show (up I 231 6 0) 232 = I 232 from up_ne (by decide)]
              have hi9_61 : inI (rWire (I 232) (k / 6) (((k % 6) : Nat) : Int)) := rWire_i ho (by omega)
              refine gw_i2l C dX8_checksum_64 hi9_61 ?_
              refine gw_callVm C (as := [vL (rWire (I 232) (k / 6) (((k % 6) : Nat) : Int))]) (st := []) (ci := 7) (T0 := TX8) (N := 10) (c_X8_say hl0 G (up I 231 6 0) J2 (rWire (I 232) (k / 6) (((k % 6) : Nat) : Int))) dX8_checksum_65 kX8_289 qX8_say hdX8_say ⟨Nat.le_of_ble_eq_true rfl, Nat.le_of_ble_eq_true rfl⟩ ⟨Nat.le_of_ble_eq_true rfl, Nat.le_of_ble_eq_true rfl⟩ (Nat.le_of_ble_eq_true rfl) rfl xs_231 xn_231 rfl (fun z_65 => ?_)
              refine gw_iinc C (lo1 := [some (vR 231), some (vI ((k : Int) + 1)), none]) dX8_checksum_68 rfl (by decide) rfl ?_
              refine gw_goto C (tgt := 38) dX8_checksum_71 (by decide) ?_
              exact gw_weak (lo' := [some (vR 231), some (vI (((k + 1) : Nat) : Int)), none]) ⟨rfl, congrArg (fun q => some (vI q)) (by omega), trivial⟩ (ih_38 (k + 1) (up J2 231 9 (31 * J2 231 9 + (rWire (I 232) (k / 6) (((k % 6) : Nat) : Int)))) z_65 (by omega) (by rw [up_eq, hv2]; rfl) (by intro q f hq; rw [up_nn hq]; exact ho2 q f hq) (by omega))
        exact gw_weak (lo' := [some (vR 231), some (vI (0 : Int)), none]) ⟨rfl, congrArg (fun q => some (vI q)) (by omega), trivial⟩ (loop_38 _ 0 J1 z1 (by omega) (by rw [hv1, show a = 8 by omega]; rfl) (by exact ho1) (Nat.lt_succ_self _))
      · skip
        refine gw_aload_n C 0 dX8_checksum_20 rfl rfl ?_
        refine gw_aload_n C 0 dX8_checksum_21 rfl rfl ?_
        refine gw_iload_n C 1 dX8_checksum_22 rfl rfl ?_
        refine gw_callVm C (as := [vI (a : Int)]) (st := [vR 231]) (ci := 7) (T0 := TX8) (N := 10) (c_X8_infoOf hl0 G (up I 231 6 0) J1 (by rw [show (up I 231 6 0) 232 = I 232 from up_ne (by decide)]; exact ho) (a : Int) (by first | (rw [show (up I 231 6 0) 232 = I 232 from up_ne (by decide)]; (try rw [show (a : Int).toNat = a from by omega]); omega) | (omega))) dX8_checksum_23 kX8_86 qX8_infoOf hdX8_infoOf ⟨Nat.le_of_ble_eq_true rfl, Nat.le_of_ble_eq_true rfl⟩ ⟨Nat.le_of_ble_eq_true rfl, Nat.le_of_ble_eq_true rfl⟩ (Nat.le_of_ble_eq_true rfl) rfl xs_231 xn_231 rfl (fun z_23 => ?_)
        rw [show (up I 231 6 0) 232 = I 232 from up_ne (by decide)]
        have hi9_23 : inI (rInfo (I 232) (a : Int)) := rInfo_i ho (by omega)
        refine gw_i2l C dX8_checksum_26 hi9_23 ?_
        refine gw_callVm C (as := [vL (rInfo (I 232) (a : Int))]) (st := []) (ci := 7) (T0 := TX8) (N := 10) (c_X8_say hl0 G (up I 231 6 0) J1 (rInfo (I 232) (a : Int))) dX8_checksum_27 kX8_289 qX8_say hdX8_say ⟨Nat.le_of_ble_eq_true rfl, Nat.le_of_ble_eq_true rfl⟩ ⟨Nat.le_of_ble_eq_true rfl, Nat.le_of_ble_eq_true rfl⟩ (Nat.le_of_ble_eq_true rfl) rfl xs_231 xn_231 rfl (fun z_27 => ?_)
        refine gw_iinc C (lo1 := [some (vR 231), some (vI ((a : Int) + 1)), none]) dX8_checksum_30 rfl (by decide) rfl ?_
        refine gw_goto C (tgt := 14) dX8_checksum_33 (by decide) ?_
        exact gw_weak (lo' := [some (vR 231), some (vI (((a + 1) : Nat) : Int)), none]) ⟨rfl, congrArg (fun q => some (vI q)) (by omega), trivial⟩ (ih_14 (a + 1) (up J1 231 9 (31 * J1 231 9 + (rInfo (I 232) (a : Int)))) z_27 (by omega) (by rw [up_eq, hv1]; rfl) (by intro q f hq; rw [up_nn hq]; exact ho1 q f hq) (by omega))
  exact gw_weak (lo' := [some (vR 231), some (vI (0 : Int)), none]) ⟨rfl, congrArg (fun q => some (vI q)) (by omega), trivial⟩ (loop_14 _ 0 (up J 231 9 12946) z (by omega) (by rw [up_eq]; rfl) (by intro q f hq; rw [up_nn hq]) (Nat.lt_succ_self _))
