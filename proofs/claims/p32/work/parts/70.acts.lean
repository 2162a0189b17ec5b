set_option maxHeartbeats 4000000 in
set_option maxRecDepth 100000 in
theorem c_L_acts {l : Launch} (hl0 : l.stackTraces = false) (G : GG) (I J : GI) {z : Nat} (hLI : LI I) (x : Int) (hx : inI x) : GM l yL_acts (.code yL_acts cL_acts 14 (some .boolean)) 10 225 6 36 G N0 SH RR [vR 0, vR 231, vR 232, vR 233, vR 234, vR 235, vR 236, vR 237, vR 238, vI x] z I J (acQ x J) gNo := by
  refine gm_of (lo0 := [some (vR 0), some (vR 231), some (vR 232), some (vR 233), some (vR 234), some (vR 235), some (vR 236), some (vR 237), some (vR 238), some (vI x), none, none, none, none]) hl0 (by decide) rfl (Nat.le_of_ble_eq_true rfl) ?_
  intro p e s m args below meth c C ht hgi
  have C : gC G p l s m args meth c cL_acts 14 RL (some .boolean) "acts" := C
  have hLI2 := hLI
  obtain ⟨D9, c9, hCI⟩ := hLI
  obtain ⟨S, hR⟩ : ∃ S, rowL I = S := ⟨_, rfl⟩
  rw [hR] at hCI
  have ho := hCI.1.1.2.1
  have h0 := ho.1
  have h3 := ho.2.1
  refine gw_iload C dL_acts_0 rfl ?_
  refine gw_iconst C dL_acts_2 ?_
  refine gw_ishrY C (sh5 x) dL_acts_3 (sh5_e x) ?_
  have hs5 := sh5_i x
  refine gw_ldc C (x := 60000000) dL_acts_4 kL_166 (by decide) ?_
  refine gw_callSm C (as := [vI (sh5 x), vI 60000000]) (st := []) (c_L_low hl0 G I J (sh5 x) 60000000 hs5 (by omega)) dL_acts_6 kL_167 qL_low hdL_low ⟨Nat.le_of_ble_eq_true rfl, Nat.le_of_ble_eq_true rfl⟩ ⟨Nat.le_of_ble_eq_true rfl, Nat.le_of_ble_eq_true rfl⟩ (Nat.le_of_ble_eq_true rfl) rfl (fun z_6 => ?_)
  have hlw_6 := lowZ_b (x := (sh5 x)) (n := 60000000) (by omega)
  obtain ⟨v, hv9⟩ : ∃ v, lowZ (sh5 x) 60000000 = v := ⟨_, rfl⟩
  rw [hv9] at hlw_6 ⊢
  refine gw_istore C (lo1 := [some (vR 0), some (vR 231), some (vR 232), some (vR 233), some (vR 234), some (vR 235), some (vR 236), some (vR 237), some (vR 238), some (vI x), some (vI v), none, none, none]) dL_acts_9 (by decide) rfl ?_
  refine gw_iload C dL_acts_11 rfl ?_
  refine gw_bipush C dL_acts_13 rfl ?_
  refine gw_callSm C (as := [vI x, vI 28]) (st := []) (c_L_low hl0 G I J x 28 hx (by omega)) dL_acts_15 kL_167 qL_low hdL_low ⟨Nat.le_of_ble_eq_true rfl, Nat.le_of_ble_eq_true rfl⟩ ⟨Nat.le_of_ble_eq_true rfl, Nat.le_of_ble_eq_true rfl⟩ (Nat.le_of_ble_eq_true rfl) rfl (fun z_15 => ?_)
  have hlw_15 := lowZ_b (x := x) (n := 28) (by omega)
  obtain ⟨y, hy9⟩ : ∃ y, lowZ x 28 = y := ⟨_, rfl⟩
  rw [hy9] at hlw_15 ⊢
  refine gw_istore C (lo1 := [some (vR 0), some (vR 231), some (vR 232), some (vR 233), some (vR 234), some (vR 235), some (vR 236), some (vR 237), some (vR 238), some (vI x), some (vI v), some (vI y), none, none]) dL_acts_18 (by decide) rfl ?_
  refine gw_iload C dL_acts_20 rfl ?_
  refine gw_iconst C dL_acts_22 ?_
  refine gw_icmp_ge C (tgt := 41) dL_acts_23 (by decide) (by first | omega | assumption | exact hgi _ _) ⟨by decide, by decide⟩ (fun h_23 => ?_) (fun h_23 => ?_)
  · skip
    refine gw_iload C dL_acts_41 rfl ?_
    refine gw_bipush C dL_acts_43 rfl ?_
    refine gw_icmp_ge C (tgt := 63) dL_acts_45 (by decide) (by first | omega | assumption | exact hgi _ _) ⟨by decide, by decide⟩ (fun h_45 => ?_) (fun h_45 => ?_)
    · skip
      refine gw_iload C dL_acts_63 rfl ?_
      refine gw_bipush C dL_acts_65 rfl ?_
      refine gw_icmp_ge C (tgt := 96) dL_acts_67 (by decide) (by first | omega | assumption | exact hgi _ _) ⟨by decide, by decide⟩ (fun h_67 => ?_) (fun h_67 => ?_)
      · skip
        refine gw_iload C dL_acts_96 rfl ?_
        refine gw_bipush C dL_acts_98 rfl ?_
        refine gw_icmp_ne C (tgt := 181) dL_acts_100 (by decide) (by first | omega | assumption | exact hgi _ _) ⟨by decide, by decide⟩ (fun h_100 => ?_) (fun h_100 => ?_)
        · skip
          refine gw_aload_n C 1 dL_acts_181 rfl rfl ?_
          refine gw_iconst C dL_acts_182 ?_
          refine gw_iald C 4 dL_acts_183 xs_231 xn_231 (by omega) (by omega) (by decide) (fun hI_183 => ?_)
          rw [show (I 231 4) = (((S 4).toNat : Nat) : Int) from by have e9 := lr_g (I := I) (k := 4) (by omega); rw [hR] at e9; omega] at hI_183 ⊢
          refine gw_if_ne C (tgt := 214) dL_acts_184 (by decide) hI_183 (fun h_184 => ?_) (fun h_184 => ?_)
          · skip
            refine gw_iload C dL_acts_214 rfl ?_
            refine gw_bipush C dL_acts_216 rfl ?_
            refine gw_icmp_ne C (tgt := 290) dL_acts_218 (by decide) (by first | omega | assumption | exact hgi _ _) ⟨by decide, by decide⟩ (fun h_218 => ?_) (fun h_218 => ?_)
            · skip
              refine gw_iload C dL_acts_290 rfl ?_
              refine gw_bipush C dL_acts_292 rfl ?_
              refine gw_icmp_ge C (tgt := 388) dL_acts_294 (by decide) (by first | omega | assumption | exact hgi _ _) ⟨by decide, by decide⟩ (fun h_294 => ?_) (fun h_294 => ?_)
              · skip
                refine gw_aload_n C 1 dL_acts_388 rfl rfl ?_
                refine gw_iconst C dL_acts_389 ?_
                refine gw_iald C 5 dL_acts_390 xs_231 xn_231 (by omega) (by omega) (by decide) (fun hI_390 => ?_)
                rw [show (I 231 5) = (((S 5).toNat : Nat) : Int) from by have e9 := lr_g (I := I) (k := 5) (by omega); rw [hR] at e9; omega] at hI_390 ⊢
                refine gw_if_ne C (tgt := 444) dL_acts_391 (by decide) hI_390 (fun h_391 => ?_) (fun h_391 => ?_)
                · skip
                  refine gw_aload_n C 0 dL_acts_444 rfl rfl ?_
                  refine gw_aload_n C 1 dL_acts_445 rfl rfl ?_
                  refine gw_aload_n C 3 dL_acts_446 rfl rfl ?_
                  refine gw_aload C dL_acts_447 rfl ?_
                  refine gw_aload C dL_acts_449 rfl ?_
                  refine gw_aload C dL_acts_451 rfl ?_
                  refine gw_aload C dL_acts_453 rfl ?_
                  refine gw_aload C dL_acts_455 rfl ?_
                  refine gw_iload C dL_acts_457 rfl ?_
                  refine gw_iload C dL_acts_459 rfl ?_
                  refine gw_bipush C dL_acts_461 rfl ?_
                  refine gw_icmp_ge C (tgt := 470) dL_acts_463 (by decide) (by first | omega | assumption | exact hgi _ _) ⟨by decide, by decide⟩ (fun h_463 => ?_) (fun h_463 => ?_)
                  · skip
                    refine gw_iload C dL_acts_470 rfl ?_
                    refine gw_bipush C dL_acts_472 rfl ?_
                    refine gw_icmp_ne C (tgt := 481) dL_acts_474 (by decide) (by first | omega | assumption | exact hgi _ _) ⟨by decide, by decide⟩ (fun h_474 => ?_) (fun h_474 => ?_)
                    · skip
                      refine gw_iload C dL_acts_481 rfl ?_
                      refine gw_bipush C dL_acts_483 rfl ?_
                      refine gw_icmp_ge C (tgt := 492) dL_acts_485 (by decide) (by first | omega | assumption | exact hgi _ _) ⟨by decide, by decide⟩ (fun h_485 => ?_) (fun h_485 => ?_)
                      · skip
                        refine gw_iconst C dL_acts_492 ?_
                        refine gw_callS C (as := [vR 0, vR 231, vR 233, vR 234, vR 235, vR 236, vR 237, vR 238, vI v, vI 3]) (st := []) (c_L_walks3 hl0 G I J hLI2 v (by rw [hR]; omega) (by omega)) dL_acts_493 kL_184 qL_walks hdL_walks ⟨Nat.le_of_ble_eq_true rfl, Nat.le_of_ble_eq_true rfl⟩ ⟨Nat.le_of_ble_eq_true rfl, Nat.le_of_ble_eq_true rfl⟩ (Nat.le_of_ble_eq_true rfl) rfl (fun _ _ _ _ h => h.elim) ?_
                        intro v_493 z_493_2 I_493 J_493 hv_493
                        obtain ⟨ev, ⟨hL, hgp⟩, eJ⟩ := hv_493
                        rw [ev, eJ]
                        show GW G p l e ({ frames := 10, cells := 6, slots := 36, locals := 225 } : Room) s m args below meth c 14 z_493_2 N0 SH RR I_493 J 1 6 (vx_MQ below (GQ G N0 SH RR (acQ x J)) (GX G N0 SH RR gNo) args s 6 36 (ge G)) 496 [some (vR 0), some (vR 231), some (vR 232), some (vR 233), some (vR 234), some (vR 235), some (vR 236), some (vR 237), some (vR 238), some (vI x), some (vI v), some (vI y), none, none] [vI 1]
                        exact gw_zret C (Nat.le_of_ble_eq_true rfl) (Nat.le_of_ble_eq_true rfl) dL_acts_496 (Or.inr rfl) (⟨rfl, ⟨hL, (fun _ => by rw [hv9]; exact hgp)⟩, rfl⟩)
                      · skip
                        refine gw_iconst C dL_acts_488 ?_
                        refine gw_goto C (tgt := 493) dL_acts_489 (by decide) ?_
                        refine gw_callS C (as := [vR 0, vR 231, vR 233, vR 234, vR 235, vR 236, vR 237, vR 238, vI v, vI 2]) (st := []) (c_L_walks2 hl0 G I J hLI2 v (by rw [hR]; omega) (by omega)) dL_acts_493 kL_184 qL_walks hdL_walks ⟨Nat.le_of_ble_eq_true rfl, Nat.le_of_ble_eq_true rfl⟩ ⟨Nat.le_of_ble_eq_true rfl, Nat.le_of_ble_eq_true rfl⟩ (Nat.le_of_ble_eq_true rfl) rfl (fun _ _ _ _ h => h.elim) ?_
                        intro v_493_2 z_493_4 I_493_2 J_493_2 hv_493_2
                        obtain ⟨ev, hL, eJ⟩ := hv_493_2
                        rw [ev, eJ]
                        show GW G p l e ({ frames := 10, cells := 6, slots := 36, locals := 225 } : Room) s m args below meth c 14 z_493_4 N0 SH RR I_493_2 J 1 6 (vx_MQ below (GQ G N0 SH RR (acQ x J)) (GX G N0 SH RR gNo) args s 6 36 (ge G)) 496 [some (vR 0), some (vR 231), some (vR 232), some (vR 233), some (vR 234), some (vR 235), some (vR 236), some (vR 237), some (vR 238), some (vI x), some (vI v), some (vI y), none, none] [vI 1]
                        exact gw_zret C (Nat.le_of_ble_eq_true rfl) (Nat.le_of_ble_eq_true rfl) dL_acts_496 (Or.inr rfl) (⟨rfl, ⟨hL, (fun h9 => absurd h9 (by omega))⟩, rfl⟩)
                    · skip
                      refine gw_iconst C dL_acts_477 ?_
                      refine gw_goto C (tgt := 493) dL_acts_478 (by decide) ?_
                      refine gw_callS C (as := [vR 0, vR 231, vR 233, vR 234, vR 235, vR 236, vR 237, vR 238, vI v, vI 1]) (st := []) (c_L_walks1 hl0 G I J hLI2 v (by rw [hR]; omega) (by omega)) dL_acts_493 kL_184 qL_walks hdL_walks ⟨Nat.le_of_ble_eq_true rfl, Nat.le_of_ble_eq_true rfl⟩ ⟨Nat.le_of_ble_eq_true rfl, Nat.le_of_ble_eq_true rfl⟩ (Nat.le_of_ble_eq_true rfl) rfl (fun _ _ _ _ h => h.elim) ?_
                      intro v_493_3 z_493_6 I_493_3 J_493_3 hv_493_3
                      obtain ⟨ev, hL, eJ⟩ := hv_493_3
                      rw [ev, eJ]
                      show GW G p l e ({ frames := 10, cells := 6, slots := 36, locals := 225 } : Room) s m args below meth c 14 z_493_6 N0 SH RR I_493_3 J 1 6 (vx_MQ below (GQ G N0 SH RR (acQ x J)) (GX G N0 SH RR gNo) args s 6 36 (ge G)) 496 [some (vR 0), some (vR 231), some (vR 232), some (vR 233), some (vR 234), some (vR 235), some (vR 236), some (vR 237), some (vR 238), some (vI x), some (vI v), some (vI y), none, none] [vI 1]
                      exact gw_zret C (Nat.le_of_ble_eq_true rfl) (Nat.le_of_ble_eq_true rfl) dL_acts_496 (Or.inr rfl) (⟨rfl, ⟨hL, (fun h9 => absurd h9 (by omega))⟩, rfl⟩)
                  · skip
                    refine gw_iconst C dL_acts_466 ?_
                    refine gw_goto C (tgt := 493) dL_acts_467 (by decide) ?_
                    refine gw_callS C (as := [vR 0, vR 231, vR 233, vR 234, vR 235, vR 236, vR 237, vR 238, vI v, vI 0]) (st := []) (c_L_walks0 hl0 G I J hLI2 v (by rw [hR]; omega) (by omega)) dL_acts_493 kL_184 qL_walks hdL_walks ⟨Nat.le_of_ble_eq_true rfl, Nat.le_of_ble_eq_true rfl⟩ ⟨Nat.le_of_ble_eq_true rfl, Nat.le_of_ble_eq_true rfl⟩ (Nat.le_of_ble_eq_true rfl) rfl (fun _ _ _ _ h => h.elim) ?_
                    intro v_493_4 z_493_8 I_493_4 J_493_4 hv_493_4
                    obtain ⟨ev, hL, eJ⟩ := hv_493_4
                    rw [ev, eJ]
                    show GW G p l e ({ frames := 10, cells := 6, slots := 36, locals := 225 } : Room) s m args below meth c 14 z_493_8 N0 SH RR I_493_4 J 1 6 (vx_MQ below (GQ G N0 SH RR (acQ x J)) (GX G N0 SH RR gNo) args s 6 36 (ge G)) 496 [some (vR 0), some (vR 231), some (vR 232), some (vR 233), some (vR 234), some (vR 235), some (vR 236), some (vR 237), some (vR 238), some (vI x), some (vI v), some (vI y), none, none] [vI 1]
                    exact gw_zret C (Nat.le_of_ble_eq_true rfl) (Nat.le_of_ble_eq_true rfl) dL_acts_496 (Or.inr rfl) (⟨rfl, ⟨hL, (fun h9 => absurd h9 (by omega))⟩, rfl⟩)
                · skip
                  refine gw_aload_n C 0 dL_acts_394 rfl rfl ?_
                  refine gw_iconst C dL_acts_395 ?_
                  refine gw_iconst C dL_acts_396 ?_
                  refine gw_iconst C dL_acts_397 ?_
                  refine gw_callSH C (as := [vR 0, vI 0, vI 0, vI 1]) (st := []) (c_L_adds hl0 G I J hCI 0 0 1 ⟨by decide, by decide⟩ ⟨by decide, by decide⟩ ⟨by decide, by decide⟩) dL_acts_398 kL_149 qL_adds hdL_adds ⟨Nat.le_of_ble_eq_true rfl, Nat.le_of_ble_eq_true rfl⟩ ⟨Nat.le_of_ble_eq_true rfl, Nat.le_of_ble_eq_true rfl⟩ (Nat.le_of_ble_eq_true rfl) rfl (fun _ _ _ _ h => h.elim) ?_
                  intro v_398 z_398_2 I_398 J_9 hv_398
                  obtain ⟨ev, ⟨hm, hn⟩, eJ⟩ := hv_398
                  have hk_398 : rfL S 0 0 1 = 1 := by unfold rfL; rw [if_pos (by omega)]
                  rw [ev, eJ, hn (by omega), cdV_1 hk_398]
                  show GW G p l e ({ frames := 10, cells := 6, slots := 36, locals := 225 } : Room) s m args below meth c 14 z_398_2 N0 SH RR I J 1 6 (vx_MQ below (GQ G N0 SH RR (acQ x J)) (GX G N0 SH RR gNo) args s 6 36 (ge G)) 401 [some (vR 0), some (vR 231), some (vR 232), some (vR 233), some (vR 234), some (vR 235), some (vR 236), some (vR 237), some (vR 238), some (vI x), some (vI v), some (vI y), none, none] [vI (-2000001)]
                  refine gw_ldc C (x := (-2000001)) dL_acts_401 kL_29 (by decide) ?_
                  refine gw_icmp_ne C (tgt := 442) dL_acts_403 (by decide) ⟨by decide, by decide⟩ ⟨by decide, by decide⟩ (fun h => absurd h (by decide)) (fun _ => ?_)
                  refine gw_aload_n C 0 dL_acts_406 rfl rfl ?_
                  refine gw_iconst C dL_acts_407 ?_
                  refine gw_callSH C (as := [vR 0, vI 0]) (st := []) (c_L_drops hl0 G I J hCI 0 ⟨by decide, by decide⟩) dL_acts_408 kL_153 qL_drops hdL_drops ⟨Nat.le_of_ble_eq_true rfl, Nat.le_of_ble_eq_true rfl⟩ ⟨Nat.le_of_ble_eq_true rfl, Nat.le_of_ble_eq_true rfl⟩ (Nat.le_of_ble_eq_true rfl) rfl (fun _ _ _ _ h => h.elim) ?_
                  intro v_408 z_408_2 I_408 J_9 hv_408
                  obtain ⟨ev, ⟨hm, hn⟩, eJ⟩ := hv_408
                  have hk_408 : kDrop S 0 = 1 := by unfold kDrop; rw [if_pos (by omega)]
                  rw [ev, eJ, hn (by omega), cdV_1 hk_408]
                  show GW G p l e ({ frames := 10, cells := 6, slots := 36, locals := 225 } : Room) s m args below meth c 14 z_408_2 N0 SH RR I J 2 12 (vx_MQ below (GQ G N0 SH RR (acQ x J)) (GX G N0 SH RR gNo) args s 6 36 (ge G)) 411 [some (vR 0), some (vR 231), some (vR 232), some (vR 233), some (vR 234), some (vR 235), some (vR 236), some (vR 237), some (vR 238), some (vI x), some (vI v), some (vI y), none, none] [vI (-2000001)]
                  refine gw_ldc C (x := (-2000001)) dL_acts_411 kL_29 (by decide) ?_
                  refine gw_icmp_ne C (tgt := 442) dL_acts_413 (by decide) ⟨by decide, by decide⟩ ⟨by decide, by decide⟩ (fun h => absurd h (by decide)) (fun _ => ?_)
                  refine gw_aload_n C 0 dL_acts_416 rfl rfl ?_
                  refine gw_iconst C dL_acts_417 ?_
                  refine gw_iconst C dL_acts_418 ?_
                  refine gw_iconst C dL_acts_419 ?_
                  refine gw_callSH C (as := [vR 0, vI 0, vI 0, vI 0]) (st := []) (c_L_closes hl0 G I J hCI 0 0 0 ⟨by decide, by decide⟩ ⟨by decide, by decide⟩ ⟨by decide, by decide⟩) dL_acts_420 kL_156 qL_closes hdL_closes ⟨Nat.le_of_ble_eq_true rfl, Nat.le_of_ble_eq_true rfl⟩ ⟨Nat.le_of_ble_eq_true rfl, Nat.le_of_ble_eq_true rfl⟩ (Nat.le_of_ble_eq_true rfl) rfl (fun _ _ _ _ h => h.elim) ?_
                  intro v_420 z_420_2 I_420 J_9 hv_420
                  obtain ⟨ev, ⟨hm, hn⟩, eJ⟩ := hv_420
                  have hk_420 : kClose S 0 0 0 = 1 := by unfold kClose; rw [if_pos (by omega)]
                  rw [ev, eJ, hn (by omega), cdV_1 hk_420]
                  show GW G p l e ({ frames := 10, cells := 6, slots := 36, locals := 225 } : Room) s m args below meth c 14 z_420_2 N0 SH RR I J 3 18 (vx_MQ below (GQ G N0 SH RR (acQ x J)) (GX G N0 SH RR gNo) args s 6 36 (ge G)) 423 [some (vR 0), some (vR 231), some (vR 232), some (vR 233), some (vR 234), some (vR 235), some (vR 236), some (vR 237), some (vR 238), some (vI x), some (vI v), some (vI y), none, none] [vI (-2000001)]
                  refine gw_ldc C (x := (-2000001)) dL_acts_423 kL_29 (by decide) ?_
                  refine gw_icmp_ne C (tgt := 442) dL_acts_425 (by decide) ⟨by decide, by decide⟩ ⟨by decide, by decide⟩ (fun h => absurd h (by decide)) (fun _ => ?_)
                  refine gw_aload_n C 0 dL_acts_428 rfl rfl ?_
                  refine gw_iconst C dL_acts_429 ?_
                  refine gw_callSH C (as := [vR 0, vI 0]) (st := []) (c_L_adjusts hl0 G I J hCI 0 ⟨by decide, by decide⟩) dL_acts_430 kL_161 qL_adjusts hdL_adjusts ⟨Nat.le_of_ble_eq_true rfl, Nat.le_of_ble_eq_true rfl⟩ ⟨Nat.le_of_ble_eq_true rfl, Nat.le_of_ble_eq_true rfl⟩ (Nat.le_of_ble_eq_true rfl) rfl (fun _ _ _ _ h => h.elim) ?_
                  intro v_430 z_430_2 I_430 J_9 hv_430
                  obtain ⟨ev, ⟨hm, hn⟩, eJ⟩ := hv_430
                  have hk_430 : kAdj S 0 = 1 := by unfold kAdj; rw [if_pos (by omega)]
                  rw [ev, eJ, hn (by omega), cdV_1 hk_430]
                  show GW G p l e ({ frames := 10, cells := 6, slots := 36, locals := 225 } : Room) s m args below meth c 14 z_430_2 N0 SH RR I J 4 24 (vx_MQ below (GQ G N0 SH RR (acQ x J)) (GX G N0 SH RR gNo) args s 6 36 (ge G)) 433 [some (vR 0), some (vR 231), some (vR 232), some (vR 233), some (vR 234), some (vR 235), some (vR 236), some (vR 237), some (vR 238), some (vI x), some (vI v), some (vI y), none, none] [vI (-2000001)]
                  refine gw_ldc C (x := (-2000001)) dL_acts_433 kL_29 (by decide) ?_
                  refine gw_icmp_ne C (tgt := 442) dL_acts_435 (by decide) ⟨by decide, by decide⟩ ⟨by decide, by decide⟩ (fun h => absurd h (by decide)) (fun _ => ?_)
                  refine gw_iconst C dL_acts_438 ?_
                  refine gw_goto C (tgt := 443) dL_acts_439 (by decide) ?_
                  exact gw_zret C (Nat.le_of_ble_eq_true rfl) (Nat.le_of_ble_eq_true rfl) dL_acts_443 (Or.inr rfl) (⟨rfl, ⟨⟨_, _, by rw [hR]; exact hCI⟩, (fun _ => gp_0 (by rw [hR]; omega))⟩, rfl⟩)
              · skip
                refine gw_iload C dL_acts_297 rfl ?_
                refine gw_aload_n C 1 dL_acts_299 rfl rfl ?_
                refine gw_iconst C dL_acts_300 ?_
                refine gw_iald C 4 dL_acts_301 xs_231 xn_231 (by omega) (by omega) (by decide) (fun hI_301 => ?_)
                rw [show (I 231 4) = (((S 4).toNat : Nat) : Int) from by have e9 := lr_g (I := I) (k := 4) (by omega); rw [hR] at e9; omega] at hI_301 ⊢
                refine gw_irem C dL_acts_302 (by first | omega | assumption | exact hgi _ _) hI_301 (by omega) ?_
                obtain ⟨k, et_k, hb_k⟩ := tm_nat (v := v) (n := (((S 4).toNat : Nat) : Int)) (by omega) (by omega)
                rw [show (v).tmod (((S 4).toNat : Nat) : Int) = (k : Int) from et_k]
                refine gw_istore C (lo1 := [some (vR 0), some (vR 231), some (vR 232), some (vR 233), some (vR 234), some (vR 235), some (vR 236), some (vR 237), some (vR 238), some (vI x), some (vI v), some (vI y), some (vI (k : Int)), none]) dL_acts_303 (by decide) rfl ?_
                refine gw_aload_n C 1 dL_acts_305 rfl rfl ?_
                refine gw_iconst C dL_acts_306 ?_
                refine gw_iald C 5 dL_acts_307 xs_231 xn_231 (by omega) (by omega) (by decide) (fun hI_307 => ?_)
                rw [show (I 231 5) = (((S 5).toNat : Nat) : Int) from by have e9 := lr_g (I := I) (k := 5) (by omega); rw [hR] at e9; omega] at hI_307 ⊢
                refine gw_iconst C dL_acts_308 ?_
                refine gw_icmp_ne C (tgt := 329) dL_acts_309 (by decide) hI_307 ⟨by decide, by decide⟩ (fun h_309 => ?_) (fun h_309 => ?_)
                · skip
                  refine gw_aload C dL_acts_329 rfl ?_
                  refine gw_iconst C dL_acts_331 ?_
                  refine gw_aload_n C 1 dL_acts_332 rfl rfl ?_
                  refine gw_iconst C dL_acts_333 ?_
                  refine gw_iald C 5 dL_acts_334 xs_231 xn_231 (by omega) (by omega) (by decide) (fun hI_334 => ?_)
                  rw [show (I 231 5) = (((S 5).toNat : Nat) : Int) from by have e9 := lr_g (I := I) (k := 5) (by omega); rw [hR] at e9; omega] at hI_334 ⊢
                  refine gw_imul C dL_acts_335 ?_
                  refine gw_iload C dL_acts_336 rfl ?_
                  refine gw_iast C (4 * (S 5).toNat) dL_acts_338 xs_236 xn_236 (by omega) (by omega) (by decide) (by first | omega | assumption | exact hgi _ _) ?_
                  have hR_338 : rowL (up I 236 (4 * (S 5).toNat) (k : Int)) = (us S (102 + 28 * ((S 5).toNat)) (k : Int)) := (lu_h0 (I := I) (x := (k : Int)) (t := (S 5).toNat) (by omega)).trans (by rw [hR])
                  refine gw_aload C dL_acts_339 rfl ?_
                  refine gw_iconst C dL_acts_341 ?_
                  refine gw_aload_n C 1 dL_acts_342 rfl rfl ?_
                  refine gw_iconst C dL_acts_343 ?_
                  refine gw_iald C 5 dL_acts_344 xs_231 xn_231 (by omega) (by omega) (by decide) (fun hI_344 => ?_)
                  rw [show ((up I 236 (4 * (S 5).toNat) (k : Int)) 231 5) = (((S 5).toNat : Nat) : Int) from by have e9 := lr_g (I := (up I 236 (4 * (S 5).toNat) (k : Int))) (k := 5) (by omega); rw [hR_338, us_ne (by omega)] at e9; omega] at hI_344 ⊢
                  refine gw_imul C dL_acts_345 ?_
                  refine gw_iconst C dL_acts_346 ?_
                  refine gw_iadd C dL_acts_347 ?_
                  refine gw_iconst C dL_acts_348 ?_
                  refine gw_iast C ((4 * (S 5).toNat) + 1) dL_acts_349 xs_236 xn_236 (by omega) (by omega) (by decide) ⟨by decide, by decide⟩ ?_
                  have hR_349 : rowL (up (up I 236 (4 * (S 5).toNat) (k : Int)) 236 ((4 * (S 5).toNat) + 1) 0) = (us (us S (102 + 28 * ((S 5).toNat)) (k : Int)) (103 + 28 * ((S 5).toNat)) 0) := (lu_h1 (I := (up I 236 (4 * (S 5).toNat) (k : Int))) (x := 0) (t := (S 5).toNat) (by omega)).trans (by rw [hR_338])
                  refine gw_aload C dL_acts_350 rfl ?_
                  refine gw_iconst C dL_acts_352 ?_
                  refine gw_aload_n C 1 dL_acts_353 rfl rfl ?_
                  refine gw_iconst C dL_acts_354 ?_
                  refine gw_iald C 5 dL_acts_355 xs_231 xn_231 (by omega) (by omega) (by decide) (fun hI_355 => ?_)
                  rw [show ((up (up I 236 (4 * (S 5).toNat) (k : Int)) 236 ((4 * (S 5).toNat) + 1) 0) 231 5) = (((S 5).toNat : Nat) : Int) from by have e9 := lr_g (I := (up (up I 236 (4 * (S 5).toNat) (k : Int)) 236 ((4 * (S 5).toNat) + 1) 0)) (k := 5) (by omega); rw [hR_349, us_ne (by omega), us_ne (by omega)] at e9; omega] at hI_355 ⊢
                  refine gw_imul C dL_acts_356 ?_
                  refine gw_iconst C dL_acts_357 ?_
                  refine gw_iadd C dL_acts_358 ?_
                  refine gw_iconst C dL_acts_359 ?_
                  refine gw_iast C ((4 * (S 5).toNat) + 2) dL_acts_360 xs_236 xn_236 (by omega) (by omega) (by decide) ⟨by decide, by decide⟩ ?_
                  have hR_360 : rowL (up (up (up I 236 (4 * (S 5).toNat) (k : Int)) 236 ((4 * (S 5).toNat) + 1) 0) 236 ((4 * (S 5).toNat) + 2) (-1)) = (us (us (us S (102 + 28 * ((S 5).toNat)) (k : Int)) (103 + 28 * ((S 5).toNat)) 0) (104 + 28 * ((S 5).toNat)) (-1)) := (lu_h2 (I := (up (up I 236 (4 * (S 5).toNat) (k : Int)) 236 ((4 * (S 5).toNat) + 1) 0)) (x := (-1)) (t := (S 5).toNat) (by omega)).trans (by rw [hR_349])
                  refine gw_aload_n C 1 dL_acts_361 rfl rfl ?_
                  refine gw_iconst C dL_acts_362 ?_
                  refine gw_dup2IR C dL_acts_363 ?_
                  refine gw_iald C 5 dL_acts_364 xs_231 xn_231 (by omega) (by omega) (by decide) (fun hI_364 => ?_)
                  rw [show ((up (up (up I 236 (4 * (S 5).toNat) (k : Int)) 236 ((4 * (S 5).toNat) + 1) 0) 236 ((4 * (S 5).toNat) + 2) (-1)) 231 5) = (((S 5).toNat : Nat) : Int) from by have e9 := lr_g (I := (up (up (up I 236 (4 * (S 5).toNat) (k : Int)) 236 ((4 * (S 5).toNat) + 1) 0) 236 ((4 * (S 5).toNat) + 2) (-1))) (k := 5) (by omega); rw [hR_360, us_ne (by omega), us_ne (by omega), us_ne (by omega)] at e9; omega] at hI_364 ⊢
                  refine gw_iconst C dL_acts_365 ?_
                  refine gw_iadd C dL_acts_366 ?_
                  refine gw_iast C 5 dL_acts_367 xs_231 xn_231 (by omega) (by omega) (by decide) (by first | omega | assumption | exact hgi _ _) ?_
                  have hR_367 : rowL (up (up (up (up I 236 (4 * (S 5).toNat) (k : Int)) 236 ((4 * (S 5).toNat) + 1) 0) 236 ((4 * (S 5).toNat) + 2) (-1)) 231 5 ((((S 5).toNat : Nat) : Int) + 1)) = (us (us (us (us S (102 + 28 * ((S 5).toNat)) (k : Int)) (103 + 28 * ((S 5).toNat)) 0) (104 + 28 * ((S 5).toNat)) (-1)) 5 ((((S 5).toNat : Nat) : Int) + 1)) := (lu_g (I := (up (up (up I 236 (4 * (S 5).toNat) (k : Int)) 236 ((4 * (S 5).toNat) + 1) 0) 236 ((4 * (S 5).toNat) + 2) (-1))) (x := ((((S 5).toNat : Nat) : Int) + 1)) (k := 5) (by omega)).trans (by rw [hR_360])
                  refine gw_aload_n C 0 dL_acts_368 rfl rfl ?_
                  refine gw_iload C dL_acts_369 rfl ?_
                  have hC_371 : CI (up (up (up (up I 236 (4 * (S 5).toNat) (k : Int)) 236 ((4 * (S 5).toNat) + 1) 0) 236 ((4 * (S 5).toNat) + 2) (-1)) 231 5 ((((S 5).toNat : Nat) : Int) + 1)) S D9 c9 := ci_eq hCI (fun q f hq => by (repeat rw [up_nn (by omega)]))
                  refine gw_callSH C (as := [vR 0, vI (k : Int)]) (st := []) (c_L_begins hl0 G (up (up (up (up I 236 (4 * (S 5).toNat) (k : Int)) 236 ((4 * (S 5).toNat) + 1) 0) 236 ((4 * (S 5).toNat) + 2) (-1)) 231 5 ((((S 5).toNat : Nat) : Int) + 1)) J hC_371 (k : Int) (by first | omega | assumption | exact hgi _ _)) dL_acts_371 kL_181 qL_begins hdL_begins ⟨Nat.le_of_ble_eq_true rfl, Nat.le_of_ble_eq_true rfl⟩ ⟨Nat.le_of_ble_eq_true rfl, Nat.le_of_ble_eq_true rfl⟩ (Nat.le_of_ble_eq_true rfl) rfl (fun _ _ _ _ h => h.elim) ?_
                  intro v_371 z_371_2 I_371 J_9 hv_371
                  obtain ⟨ev, ⟨hm, hn⟩, eJ⟩ := hv_371
                  have hk_371 : kBegin S (k : Int) = 0 := by unfold kBegin; rw [if_neg (by omega), if_neg (by omega)]
                  rw [ev, eJ, cdV_0 hk_371]
                  obtain ⟨hX_371, hF_371⟩ := hm hk_371
                  have hfin : rowL I_371 = (oBegin S (S 5).toNat (k : Int)) := (row_fr hF_371).trans (hR_367.trans (by unfold oBegin; congr 1; omega))
                  have hCf : CI I_371 (rowL I_371) (psh S D9) (cN c9) := by rw [hfin]; exact hX_371
                  have hox : Oks (oBegin S (S 5).toNat (k : Int)) := hX_371.1.1.2.1
                  have hrow := (row_fr hF_371).trans hR_367
                  show GW G p l e ({ frames := 10, cells := 6, slots := 36, locals := 225 } : Room) s m args below meth c 14 z_371_2 N0 SH RR I_371 J 1 6 (vx_MQ below (GQ G N0 SH RR (acQ x J)) (GX G N0 SH RR gNo) args s 6 36 (ge G)) 374 [some (vR 0), some (vR 231), some (vR 232), some (vR 233), some (vR 234), some (vR 235), some (vR 236), some (vR 237), some (vR 238), some (vI x), some (vI v), some (vI y), some (vI (k : Int)), none] [vI (S 5)]
                  refine gw_aload_n C 1 dL_acts_374 rfl rfl ?_
                  refine gw_iconst C dL_acts_375 ?_
                  refine gw_iald C 5 dL_acts_376 xs_231 xn_231 (by omega) (by omega) (by decide) (fun hI_376 => ?_)
                  rw [show (I_371 231 5) = ((((S 5).toNat : Nat) : Int) + 1) from by have e9 := lr_g (I := I_371) (k := 5) (by omega); rw [hrow, us_at rfl] at e9; exact e9] at hI_376 ⊢
                  refine gw_iconst C dL_acts_377 ?_
                  refine gw_isub C dL_acts_378 ?_
                  refine gw_icmp_ne C (tgt := 386) dL_acts_379 (by decide) (by first | omega | assumption | exact hgi _ _) (by first | omega | assumption | exact hgi _ _) (fun h => absurd h (by omega)) (fun _ => ?_)
                  refine gw_iconst C dL_acts_382 ?_
                  refine gw_goto C (tgt := 387) dL_acts_383 (by decide) ?_
                  exact gw_zret C (Nat.le_of_ble_eq_true rfl) (Nat.le_of_ble_eq_true rfl) dL_acts_387 (Or.inr rfl) (⟨rfl, ⟨⟨_, _, hCf⟩, (fun h9 => absurd h9 (by omega))⟩, rfl⟩)
                · skip
                  refine gw_aload_n C 0 dL_acts_312 rfl rfl ?_
                  refine gw_iload C dL_acts_313 rfl ?_
                  refine gw_callSH C (as := [vR 0, vI (k : Int)]) (st := []) (c_L_begins hl0 G I J hCI (k : Int) (by first | omega | assumption | exact hgi _ _)) dL_acts_315 kL_181 qL_begins hdL_begins ⟨Nat.le_of_ble_eq_true rfl, Nat.le_of_ble_eq_true rfl⟩ ⟨Nat.le_of_ble_eq_true rfl, Nat.le_of_ble_eq_true rfl⟩ (Nat.le_of_ble_eq_true rfl) rfl (fun _ _ _ _ h => h.elim) ?_
                  intro v_315 z_315_2 I_315 J_9 hv_315
                  obtain ⟨ev, ⟨hm, hn⟩, eJ⟩ := hv_315
                  have hk_315 : kBegin S (k : Int) = 2 := by unfold kBegin; rw [if_neg (by omega), if_pos (by omega)]
                  rw [ev, eJ, hn (by omega), cdV_2 hk_315]
                  show GW G p l e ({ frames := 10, cells := 6, slots := 36, locals := 225 } : Room) s m args below meth c 14 z_315_2 N0 SH RR I J 1 6 (vx_MQ below (GQ G N0 SH RR (acQ x J)) (GX G N0 SH RR gNo) args s 6 36 (ge G)) 318 [some (vR 0), some (vR 231), some (vR 232), some (vR 233), some (vR 234), some (vR 235), some (vR 236), some (vR 237), some (vR 238), some (vI x), some (vI v), some (vI y), some (vI (k : Int)), none] [vI (-2000003)]
                  refine gw_ldc C (x := (-2000003)) dL_acts_318 kL_23 (by decide) ?_
                  refine gw_icmp_ne C (tgt := 327) dL_acts_320 (by decide) ⟨by decide, by decide⟩ ⟨by decide, by decide⟩ (fun h => absurd h (by decide)) (fun _ => ?_)
                  refine gw_iconst C dL_acts_323 ?_
                  refine gw_goto C (tgt := 328) dL_acts_324 (by decide) ?_
                  exact gw_zret C (Nat.le_of_ble_eq_true rfl) (Nat.le_of_ble_eq_true rfl) dL_acts_328 (Or.inr rfl) (⟨rfl, ⟨⟨_, _, by rw [hR]; exact hCI⟩, (fun h9 => absurd h9 (by omega))⟩, rfl⟩)
            · skip
              refine gw_iload C dL_acts_221 rfl ?_
              refine gw_aload_n C 1 dL_acts_223 rfl rfl ?_
              refine gw_iconst C dL_acts_224 ?_
              refine gw_iald C 4 dL_acts_225 xs_231 xn_231 (by omega) (by omega) (by decide) (fun hI_225 => ?_)
              rw [show (I 231 4) = (((S 4).toNat : Nat) : Int) from by have e9 := lr_g (I := I) (k := 4) (by omega); rw [hR] at e9; omega] at hI_225 ⊢
              refine gw_irem C dL_acts_226 (by first | omega | assumption | exact hgi _ _) hI_225 (by omega) ?_
              obtain ⟨k, et_k, hb_k⟩ := tm_nat (v := v) (n := (((S 4).toNat : Nat) : Int)) (by omega) (by omega)
              rw [show (v).tmod (((S 4).toNat : Nat) : Int) = (k : Int) from et_k]
              refine gw_istore C (lo1 := [some (vR 0), some (vR 231), some (vR 232), some (vR 233), some (vR 234), some (vR 235), some (vR 236), some (vR 237), some (vR 238), some (vI x), some (vI v), some (vI y), some (vI (k : Int)), none]) dL_acts_227 (by decide) rfl ?_
              refine gw_aload C dL_acts_229 rfl ?_
              refine gw_bipush C dL_acts_231 rfl ?_
              refine gw_iload C dL_acts_233 rfl ?_
              refine gw_imul C dL_acts_235 ?_
              refine gw_iconst C dL_acts_236 ?_
              refine gw_iadd C dL_acts_237 ?_
              refine gw_iald C ((6 * k) + 5) dL_acts_238 xs_235 xn_235 (by omega) (by omega) (by decide) (fun hI_238 => ?_)
              rw [show (I 235 ((6 * k) + 5)) = (S (83 + 6 * k)) from by have e9 := lr_j5 (I := I) (i := k) (by omega); rw [hR] at e9; exact e9] at hI_238 ⊢
              refine gw_istore C (lo1 := [some (vR 0), some (vR 231), some (vR 232), some (vR 233), some (vR 234), some (vR 235), some (vR 236), some (vR 237), some (vR 238), some (vI x), some (vI v), some (vI y), some (vI (k : Int)), some (vI (S (83 + 6 * k)))]) dL_acts_239 (by decide) rfl ?_
              refine gw_aload C dL_acts_241 rfl ?_
              refine gw_bipush C dL_acts_243 rfl ?_
              refine gw_iload C dL_acts_245 rfl ?_
              refine gw_imul C dL_acts_247 ?_
              refine gw_iconst C dL_acts_248 ?_
              refine gw_iadd C dL_acts_249 ?_
              refine gw_iload C dL_acts_250 rfl ?_
              refine gw_iconst C dL_acts_252 ?_
              refine gw_idiv C dL_acts_253 (by first | omega | assumption | exact hgi _ _) ⟨by decide, by decide⟩ (by decide) ?_
              rw [show (v).tdiv 4 = (v / 4) from Int.tdiv_eq_ediv_of_nonneg (by omega)]
              refine gw_sipush C dL_acts_254 rfl ?_
              refine gw_irem C dL_acts_257 (by first | omega | assumption | exact hgi _ _) ⟨by decide, by decide⟩ (by decide) ?_
              rw [show ((v / 4)).tmod 7201 = ((v / 4) % 7201) from Int.tmod_eq_emod_of_nonneg (by omega)]
              refine gw_sipush C dL_acts_258 rfl ?_
              refine gw_isub C dL_acts_261 ?_
              refine gw_iast C ((6 * k) + 5) dL_acts_262 xs_235 xn_235 (by omega) (by omega) (by decide) (by first | omega | assumption | exact hgi _ _) ?_
              have hR_262 : rowL (up I 235 ((6 * k) + 5) (((v / 4) % 7201) - 3600)) = (us S (83 + 6 * k) (((v / 4) % 7201) - 3600)) := (lu_j5 (I := I) (x := (((v / 4) % 7201) - 3600)) (i := k) (by omega)).trans (by rw [hR])
              refine gw_aload_n C 0 dL_acts_263 rfl rfl ?_
              refine gw_iload C dL_acts_264 rfl ?_
              refine gw_aload C dL_acts_266 rfl ?_
              refine gw_bipush C dL_acts_268 rfl ?_
              refine gw_iload C dL_acts_270 rfl ?_
              refine gw_imul C dL_acts_272 ?_
              refine gw_iconst C dL_acts_273 ?_
              refine gw_iadd C dL_acts_274 ?_
              refine gw_iald C ((6 * k) + 5) dL_acts_275 xs_235 xn_235 (by omega) (by omega) (by decide) (fun hI_275 => ?_)
              rw [show ((up I 235 ((6 * k) + 5) (((v / 4) % 7201) - 3600)) 235 ((6 * k) + 5)) = (((v / 4) % 7201) - 3600) from by have e9 := lr_j5 (I := (up I 235 ((6 * k) + 5) (((v / 4) % 7201) - 3600))) (i := k) (by omega); rw [hR_262, us_at rfl] at e9; exact e9] at hI_275 ⊢
              have hC_276 : CI (up I 235 ((6 * k) + 5) (((v / 4) % 7201) - 3600)) S D9 c9 := ci_eq hCI (fun q f hq => by (repeat rw [up_nn (by omega)]))
              refine gw_callSH C (as := [vR 0, vI (k : Int), vI (((v / 4) % 7201) - 3600)]) (st := []) (c_L_measures hl0 G (up I 235 ((6 * k) + 5) (((v / 4) % 7201) - 3600)) J hC_276 (k : Int) (((v / 4) % 7201) - 3600) (by first | omega | assumption | exact hgi _ _) hI_275) dL_acts_276 kL_178 qL_measures hdL_measures ⟨Nat.le_of_ble_eq_true rfl, Nat.le_of_ble_eq_true rfl⟩ ⟨Nat.le_of_ble_eq_true rfl, Nat.le_of_ble_eq_true rfl⟩ (Nat.le_of_ble_eq_true rfl) rfl (fun _ _ _ _ h => h.elim) ?_
              intro v_276 z_276_2 I_276 J_9 hv_276
              obtain ⟨ev, ⟨hm, hn⟩, eJ⟩ := hv_276
              have hk_276 : kMeas S (k : Int) (((v / 4) % 7201) - 3600) = 0 := by unfold kMeas; rw [if_neg (by omega), if_neg (by omega)]
              rw [ev, eJ, cdV_0 hk_276]
              obtain ⟨hX_276, hF_276⟩ := hm hk_276
              have hfin : rowL I_276 = (oMeas S k (((v / 4) % 7201) - 3600)) := (row_fr hF_276).trans (hR_262.trans (by rfl))
              have hCf : CI I_276 (rowL I_276) (psh S D9) (cN c9) := by rw [hfin]; exact hX_276
              have hox : Oks (oMeas S k (((v / 4) % 7201) - 3600)) := hX_276.1.1.2.1
              have hrow := (row_fr hF_276).trans hR_262
              show GW G p l e ({ frames := 10, cells := 6, slots := 36, locals := 225 } : Room) s m args below meth c 14 z_276_2 N0 SH RR I_276 J 1 6 (vx_MQ below (GQ G N0 SH RR (acQ x J)) (GX G N0 SH RR gNo) args s 6 36 (ge G)) 279 [some (vR 0), some (vR 231), some (vR 232), some (vR 233), some (vR 234), some (vR 235), some (vR 236), some (vR 237), some (vR 238), some (vI x), some (vI v), some (vI y), some (vI (k : Int)), some (vI (S (83 + 6 * k)))] [vI (S (83 + 6 * k))]
              refine gw_iload C dL_acts_279 rfl ?_
              refine gw_icmp_ne C (tgt := 288) dL_acts_281 (by decide) (by first | omega | assumption | exact hgi _ _) hI_238 (fun h => absurd h (by omega)) (fun _ => ?_)
              refine gw_iconst C dL_acts_284 ?_
              refine gw_goto C (tgt := 289) dL_acts_285 (by decide) ?_
              exact gw_zret C (Nat.le_of_ble_eq_true rfl) (Nat.le_of_ble_eq_true rfl) dL_acts_289 (Or.inr rfl) (⟨rfl, ⟨⟨_, _, hCf⟩, (fun h9 => absurd h9 (by omega))⟩, rfl⟩)
          · skip
            refine gw_aload_n C 0 dL_acts_187 rfl rfl ?_
            refine gw_iconst C dL_acts_188 ?_
            refine gw_iconst C dL_acts_189 ?_
            refine gw_callSH C (as := [vR 0, vI 0, vI 0]) (st := []) (c_L_measures hl0 G I J hCI 0 0 ⟨by decide, by decide⟩ ⟨by decide, by decide⟩) dL_acts_190 kL_178 qL_measures hdL_measures ⟨Nat.le_of_ble_eq_true rfl, Nat.le_of_ble_eq_true rfl⟩ ⟨Nat.le_of_ble_eq_true rfl, Nat.le_of_ble_eq_true rfl⟩ (Nat.le_of_ble_eq_true rfl) rfl (fun _ _ _ _ h => h.elim) ?_
            intro v_190 z_190_2 I_190 J_9 hv_190
            obtain ⟨ev, ⟨hm, hn⟩, eJ⟩ := hv_190
            have hk_190 : kMeas S 0 0 = 1 := by unfold kMeas; rw [if_pos (by omega)]
            rw [ev, eJ, hn (by omega), cdV_1 hk_190]
            show GW G p l e ({ frames := 10, cells := 6, slots := 36, locals := 225 } : Room) s m args below meth c 14 z_190_2 N0 SH RR I J 1 6 (vx_MQ below (GQ G N0 SH RR (acQ x J)) (GX G N0 SH RR gNo) args s 6 36 (ge G)) 193 [some (vR 0), some (vR 231), some (vR 232), some (vR 233), some (vR 234), some (vR 235), some (vR 236), some (vR 237), some (vR 238), some (vI x), some (vI v), some (vI y), none, none] [vI (-2000001)]
            refine gw_ldc C (x := (-2000001)) dL_acts_193 kL_29 (by decide) ?_
            refine gw_icmp_ne C (tgt := 212) dL_acts_195 (by decide) ⟨by decide, by decide⟩ ⟨by decide, by decide⟩ (fun h => absurd h (by decide)) (fun _ => ?_)
            refine gw_aload_n C 0 dL_acts_198 rfl rfl ?_
            refine gw_iconst C dL_acts_199 ?_
            refine gw_callSH C (as := [vR 0, vI 0]) (st := []) (c_L_begins hl0 G I J hCI 0 ⟨by decide, by decide⟩) dL_acts_200 kL_181 qL_begins hdL_begins ⟨Nat.le_of_ble_eq_true rfl, Nat.le_of_ble_eq_true rfl⟩ ⟨Nat.le_of_ble_eq_true rfl, Nat.le_of_ble_eq_true rfl⟩ (Nat.le_of_ble_eq_true rfl) rfl (fun _ _ _ _ h => h.elim) ?_
            intro v_200 z_200_2 I_200 J_9 hv_200
            obtain ⟨ev, ⟨hm, hn⟩, eJ⟩ := hv_200
            have hk_200 : kBegin S 0 = 1 := by unfold kBegin; rw [if_pos (by omega)]
            rw [ev, eJ, hn (by omega), cdV_1 hk_200]
            show GW G p l e ({ frames := 10, cells := 6, slots := 36, locals := 225 } : Room) s m args below meth c 14 z_200_2 N0 SH RR I J 2 12 (vx_MQ below (GQ G N0 SH RR (acQ x J)) (GX G N0 SH RR gNo) args s 6 36 (ge G)) 203 [some (vR 0), some (vR 231), some (vR 232), some (vR 233), some (vR 234), some (vR 235), some (vR 236), some (vR 237), some (vR 238), some (vI x), some (vI v), some (vI y), none, none] [vI (-2000001)]
            refine gw_ldc C (x := (-2000001)) dL_acts_203 kL_29 (by decide) ?_
            refine gw_icmp_ne C (tgt := 212) dL_acts_205 (by decide) ⟨by decide, by decide⟩ ⟨by decide, by decide⟩ (fun h => absurd h (by decide)) (fun _ => ?_)
            refine gw_iconst C dL_acts_208 ?_
            refine gw_goto C (tgt := 213) dL_acts_209 (by decide) ?_
            exact gw_zret C (Nat.le_of_ble_eq_true rfl) (Nat.le_of_ble_eq_true rfl) dL_acts_213 (Or.inr rfl) (⟨rfl, ⟨⟨_, _, by rw [hR]; exact hCI⟩, (fun _ => gp_0 (by rw [hR]; exact no_tr ho (by omega)))⟩, rfl⟩)
        · skip
          refine gw_iload C dL_acts_103 rfl ?_
          refine gw_iconst C dL_acts_105 ?_
          refine gw_irem C dL_acts_106 (by first | omega | assumption | exact hgi _ _) ⟨by decide, by decide⟩ (by decide) ?_
          rw [show (v).tmod 3 = (v % 3) from Int.tmod_eq_emod_of_nonneg (by omega)]
          obtain ⟨k, hk9⟩ : ∃ k : Nat, (v % 3) = (k : Int) := ⟨((v % 3)).toNat, by omega⟩
          rw [hk9]
          refine gw_istore C (lo1 := [some (vR 0), some (vR 231), some (vR 232), some (vR 233), some (vR 234), some (vR 235), some (vR 236), some (vR 237), some (vR 238), some (vI x), some (vI v), some (vI y), some (vI (k : Int)), none]) dL_acts_107 (by decide) rfl ?_
          refine gw_aload_n C 1 dL_acts_109 rfl rfl ?_
          refine gw_iload C dL_acts_110 rfl ?_
          refine gw_iald C k dL_acts_112 xs_231 xn_231 (by omega) (by omega) (by decide) (fun hI_112 => ?_)
          rw [show (I 231 k) = (S k) from by have e9 := lr_g (I := I) (k := k) (by omega); rw [hR] at e9; exact e9] at hI_112 ⊢
          refine gw_istore C (lo1 := [some (vR 0), some (vR 231), some (vR 232), some (vR 233), some (vR 234), some (vR 235), some (vR 236), some (vR 237), some (vR 238), some (vI x), some (vI v), some (vI y), some (vI (k : Int)), some (vI (S k))]) dL_acts_113 (by decide) rfl ?_
          refine gw_aload_n C 1 dL_acts_115 rfl rfl ?_
          refine gw_iload C dL_acts_116 rfl ?_
          refine gw_iload C dL_acts_118 rfl ?_
          refine gw_if_ne C (tgt := 133) dL_acts_120 (by decide) (by first | omega | assumption | exact hgi _ _) (fun h_120 => ?_) (fun h_120 => ?_)
          · skip
            refine gw_iload C dL_acts_133 rfl ?_
            refine gw_iconst C dL_acts_135 ?_
            refine gw_icmp_ne C (tgt := 152) dL_acts_136 (by decide) (by first | omega | assumption | exact hgi _ _) ⟨by decide, by decide⟩ (fun h_136 => ?_) (fun h_136 => ?_)
            · skip
              refine gw_iload C dL_acts_152 rfl ?_
              refine gw_iconst C dL_acts_154 ?_
              refine gw_idiv C dL_acts_155 (by first | omega | assumption | exact hgi _ _) ⟨by decide, by decide⟩ (by decide) ?_
              rw [show (v).tdiv 3 = (v / 3) from Int.tdiv_eq_ediv_of_nonneg (by omega)]
              refine gw_ldc C (x := 1000000) dL_acts_156 kL_174 (by decide) ?_
              refine gw_irem C dL_acts_158 (by first | omega | assumption | exact hgi _ _) ⟨by decide, by decide⟩ (by decide) ?_
              rw [show ((v / 3)).tmod 1000000 = ((v / 3) % 1000000) from Int.tmod_eq_emod_of_nonneg (by omega)]
              refine gw_iast C k dL_acts_159 xs_231 xn_231 (by omega) (by omega) (by decide) (by first | omega | assumption | exact hgi _ _) ?_
              have hR_159 : rowL (up I 231 k ((v / 3) % 1000000)) = (us S k ((v / 3) % 1000000)) := (lu_g (I := I) (x := ((v / 3) % 1000000)) (k := k) (by omega)).trans (by rw [hR])
              refine gw_aload_n C 0 dL_acts_160 rfl rfl ?_
              refine gw_iload C dL_acts_161 rfl ?_
              refine gw_aload_n C 1 dL_acts_163 rfl rfl ?_
              refine gw_iload C dL_acts_164 rfl ?_
              refine gw_iald C k dL_acts_166 xs_231 xn_231 (by omega) (by omega) (by decide) (fun hI_166 => ?_)
              rw [show ((up I 231 k ((v / 3) % 1000000)) 231 k) = ((v / 3) % 1000000) from by have e9 := lr_g (I := (up I 231 k ((v / 3) % 1000000))) (k := k) (by omega); rw [hR_159, us_at rfl] at e9; exact e9] at hI_166 ⊢
              have hC_167 : CI (up I 231 k ((v / 3) % 1000000)) S D9 c9 := ci_eq hCI (fun q f hq => by (repeat rw [up_nn (by omega)]))
              refine gw_callSH C (as := [vR 0, vI (k : Int), vI ((v / 3) % 1000000)]) (st := []) (c_L_sets hl0 G (up I 231 k ((v / 3) % 1000000)) J hC_167 (k : Int) ((v / 3) % 1000000) (by first | omega | assumption | exact hgi _ _) hI_166) dL_acts_167 kL_175 qL_sets hdL_sets ⟨Nat.le_of_ble_eq_true rfl, Nat.le_of_ble_eq_true rfl⟩ ⟨Nat.le_of_ble_eq_true rfl, Nat.le_of_ble_eq_true rfl⟩ (Nat.le_of_ble_eq_true rfl) rfl (fun _ _ _ _ h => h.elim) ?_
              intro v_167 z_167_2 I_167 J_9 hv_167
              obtain ⟨ev, ⟨hm, hn⟩, eJ⟩ := hv_167
              have hk_167 : kSet (k : Int) ((v / 3) % 1000000) = 0 := by unfold kSet; rw [if_pos (by omega)]
              rw [ev, eJ, cdV_0 hk_167]
              obtain ⟨hX_167, hF_167⟩ := hm hk_167
              have hfin : rowL I_167 = (oSet S k ((v / 3) % 1000000)) := (row_fr hF_167).trans (hR_159.trans (by rfl))
              have hCf : CI I_167 (rowL I_167) (psh S D9) (cN c9) := by rw [hfin]; exact hX_167
              have hox : Oks (oSet S k ((v / 3) % 1000000)) := hX_167.1.1.2.1
              have hrow := (row_fr hF_167).trans hR_159
              show GW G p l e ({ frames := 10, cells := 6, slots := 36, locals := 225 } : Room) s m args below meth c 14 z_167_2 N0 SH RR I_167 J 1 6 (vx_MQ below (GQ G N0 SH RR (acQ x J)) (GX G N0 SH RR gNo) args s 6 36 (ge G)) 170 [some (vR 0), some (vR 231), some (vR 232), some (vR 233), some (vR 234), some (vR 235), some (vR 236), some (vR 237), some (vR 238), some (vI x), some (vI v), some (vI y), some (vI (k : Int)), some (vI (S k))] [vI (S k)]
              refine gw_iload C dL_acts_170 rfl ?_
              refine gw_icmp_ne C (tgt := 179) dL_acts_172 (by decide) (by first | omega | assumption | exact hgi _ _) hI_112 (fun h => absurd h (by exact fun q => q rfl)) (fun _ => ?_)
              refine gw_iconst C dL_acts_175 ?_
              refine gw_goto C (tgt := 180) dL_acts_176 (by decide) ?_
              exact gw_zret C (Nat.le_of_ble_eq_true rfl) (Nat.le_of_ble_eq_true rfl) dL_acts_180 (Or.inr rfl) (⟨rfl, ⟨⟨_, _, hCf⟩, (fun h9 => absurd h9 (by omega))⟩, rfl⟩)
            · skip
              refine gw_iconst C dL_acts_139 ?_
              refine gw_iload C dL_acts_140 rfl ?_
              refine gw_iconst C dL_acts_142 ?_
              refine gw_idiv C dL_acts_143 (by first | omega | assumption | exact hgi _ _) ⟨by decide, by decide⟩ (by decide) ?_
              rw [show (v).tdiv 3 = (v / 3) from Int.tdiv_eq_ediv_of_nonneg (by omega)]
              refine gw_sipush C dL_acts_144 rfl ?_
              refine gw_irem C dL_acts_147 (by first | omega | assumption | exact hgi _ _) ⟨by decide, by decide⟩ (by decide) ?_
              rw [show ((v / 3)).tmod 600 = ((v / 3) % 600) from Int.tmod_eq_emod_of_nonneg (by omega)]
              refine gw_iadd C dL_acts_148 ?_
              refine gw_goto C (tgt := 159) dL_acts_149 (by decide) ?_
              refine gw_iast C k dL_acts_159 xs_231 xn_231 (by omega) (by omega) (by decide) (by first | omega | assumption | exact hgi _ _) ?_
              have hR_159_2 : rowL (up I 231 k (1 + ((v / 3) % 600))) = (us S k (1 + ((v / 3) % 600))) := (lu_g (I := I) (x := (1 + ((v / 3) % 600))) (k := k) (by omega)).trans (by rw [hR])
              refine gw_aload_n C 0 dL_acts_160 rfl rfl ?_
              refine gw_iload C dL_acts_161 rfl ?_
              refine gw_aload_n C 1 dL_acts_163 rfl rfl ?_
              refine gw_iload C dL_acts_164 rfl ?_
              refine gw_iald C k dL_acts_166 xs_231 xn_231 (by omega) (by omega) (by decide) (fun hI_166_2 => ?_)
              rw [show ((up I 231 k (1 + ((v / 3) % 600))) 231 k) = (1 + ((v / 3) % 600)) from by have e9 := lr_g (I := (up I 231 k (1 + ((v / 3) % 600)))) (k := k) (by omega); rw [hR_159_2, us_at rfl] at e9; exact e9] at hI_166_2 ⊢
              have hC_167_2 : CI (up I 231 k (1 + ((v / 3) % 600))) S D9 c9 := ci_eq hCI (fun q f hq => by (repeat rw [up_nn (by omega)]))
              refine gw_callSH C (as := [vR 0, vI (k : Int), vI (1 + ((v / 3) % 600))]) (st := []) (c_L_sets hl0 G (up I 231 k (1 + ((v / 3) % 600))) J hC_167_2 (k : Int) (1 + ((v / 3) % 600)) (by first | omega | assumption | exact hgi _ _) hI_166_2) dL_acts_167 kL_175 qL_sets hdL_sets ⟨Nat.le_of_ble_eq_true rfl, Nat.le_of_ble_eq_true rfl⟩ ⟨Nat.le_of_ble_eq_true rfl, Nat.le_of_ble_eq_true rfl⟩ (Nat.le_of_ble_eq_true rfl) rfl (fun _ _ _ _ h => h.elim) ?_
              intro v_167_2 z_167_4 I_167_2 J_9 hv_167_2
              obtain ⟨ev, ⟨hm, hn⟩, eJ⟩ := hv_167_2
              have hk_167_2 : kSet (k : Int) (1 + ((v / 3) % 600)) = 0 := by unfold kSet; rw [if_pos (by omega)]
              rw [ev, eJ, cdV_0 hk_167_2]
              obtain ⟨hX_167_2, hF_167_2⟩ := hm hk_167_2
              have hfin : rowL I_167_2 = (oSet S k (1 + ((v / 3) % 600))) := (row_fr hF_167_2).trans (hR_159_2.trans (by rfl))
              have hCf : CI I_167_2 (rowL I_167_2) (psh S D9) (cN c9) := by rw [hfin]; exact hX_167_2
              have hox : Oks (oSet S k (1 + ((v / 3) % 600))) := hX_167_2.1.1.2.1
              have hrow := (row_fr hF_167_2).trans hR_159_2
              show GW G p l e ({ frames := 10, cells := 6, slots := 36, locals := 225 } : Room) s m args below meth c 14 z_167_4 N0 SH RR I_167_2 J 1 6 (vx_MQ below (GQ G N0 SH RR (acQ x J)) (GX G N0 SH RR gNo) args s 6 36 (ge G)) 170 [some (vR 0), some (vR 231), some (vR 232), some (vR 233), some (vR 234), some (vR 235), some (vR 236), some (vR 237), some (vR 238), some (vI x), some (vI v), some (vI y), some (vI (k : Int)), some (vI (S k))] [vI (S k)]
              refine gw_iload C dL_acts_170 rfl ?_
              refine gw_icmp_ne C (tgt := 179) dL_acts_172 (by decide) (by first | omega | assumption | exact hgi _ _) hI_112 (fun h => absurd h (by exact fun q => q rfl)) (fun _ => ?_)
              refine gw_iconst C dL_acts_175 ?_
              refine gw_goto C (tgt := 180) dL_acts_176 (by decide) ?_
              exact gw_zret C (Nat.le_of_ble_eq_true rfl) (Nat.le_of_ble_eq_true rfl) dL_acts_180 (Or.inr rfl) (⟨rfl, ⟨⟨_, _, hCf⟩, (fun h9 => absurd h9 (by omega))⟩, rfl⟩)
          · skip
            refine gw_iload C dL_acts_123 rfl ?_
            refine gw_iconst C dL_acts_125 ?_
            refine gw_idiv C dL_acts_126 (by first | omega | assumption | exact hgi _ _) ⟨by decide, by decide⟩ (by decide) ?_
            rw [show (v).tdiv 3 = (v / 3) from Int.tdiv_eq_ediv_of_nonneg (by omega)]
            refine gw_bipush C dL_acts_127 rfl ?_
            refine gw_irem C dL_acts_129 (by first | omega | assumption | exact hgi _ _) ⟨by decide, by decide⟩ (by decide) ?_
            rw [show ((v / 3)).tmod 60 = ((v / 3) % 60) from Int.tmod_eq_emod_of_nonneg (by omega)]
            refine gw_goto C (tgt := 159) dL_acts_130 (by decide) ?_
            refine gw_iast C k dL_acts_159 xs_231 xn_231 (by omega) (by omega) (by decide) (by first | omega | assumption | exact hgi _ _) ?_
            have hR_159_3 : rowL (up I 231 k ((v / 3) % 60)) = (us S k ((v / 3) % 60)) := (lu_g (I := I) (x := ((v / 3) % 60)) (k := k) (by omega)).trans (by rw [hR])
            refine gw_aload_n C 0 dL_acts_160 rfl rfl ?_
            refine gw_iload C dL_acts_161 rfl ?_
            refine gw_aload_n C 1 dL_acts_163 rfl rfl ?_
            refine gw_iload C dL_acts_164 rfl ?_
            refine gw_iald C k dL_acts_166 xs_231 xn_231 (by omega) (by omega) (by decide) (fun hI_166_3 => ?_)
            rw [show ((up I 231 k ((v / 3) % 60)) 231 k) = ((v / 3) % 60) from by have e9 := lr_g (I := (up I 231 k ((v / 3) % 60))) (k := k) (by omega); rw [hR_159_3, us_at rfl] at e9; exact e9] at hI_166_3 ⊢
            have hC_167_3 : CI (up I 231 k ((v / 3) % 60)) S D9 c9 := ci_eq hCI (fun q f hq => by (repeat rw [up_nn (by omega)]))
            refine gw_callSH C (as := [vR 0, vI (k : Int), vI ((v / 3) % 60)]) (st := []) (c_L_sets hl0 G (up I 231 k ((v / 3) % 60)) J hC_167_3 (k : Int) ((v / 3) % 60) (by first | omega | assumption | exact hgi _ _) hI_166_3) dL_acts_167 kL_175 qL_sets hdL_sets ⟨Nat.le_of_ble_eq_true rfl, Nat.le_of_ble_eq_true rfl⟩ ⟨Nat.le_of_ble_eq_true rfl, Nat.le_of_ble_eq_true rfl⟩ (Nat.le_of_ble_eq_true rfl) rfl (fun _ _ _ _ h => h.elim) ?_
            intro v_167_3 z_167_6 I_167_3 J_9 hv_167_3
            obtain ⟨ev, ⟨hm, hn⟩, eJ⟩ := hv_167_3
            have hk_167_3 : kSet (k : Int) ((v / 3) % 60) = 0 := by unfold kSet; rw [if_pos (by omega)]
            rw [ev, eJ, cdV_0 hk_167_3]
            obtain ⟨hX_167_3, hF_167_3⟩ := hm hk_167_3
            have hfin : rowL I_167_3 = (oSet S k ((v / 3) % 60)) := (row_fr hF_167_3).trans (hR_159_3.trans (by rfl))
            have hCf : CI I_167_3 (rowL I_167_3) (psh S D9) (cN c9) := by rw [hfin]; exact hX_167_3
            have hox : Oks (oSet S k ((v / 3) % 60)) := hX_167_3.1.1.2.1
            have hrow := (row_fr hF_167_3).trans hR_159_3
            show GW G p l e ({ frames := 10, cells := 6, slots := 36, locals := 225 } : Room) s m args below meth c 14 z_167_6 N0 SH RR I_167_3 J 1 6 (vx_MQ below (GQ G N0 SH RR (acQ x J)) (GX G N0 SH RR gNo) args s 6 36 (ge G)) 170 [some (vR 0), some (vR 231), some (vR 232), some (vR 233), some (vR 234), some (vR 235), some (vR 236), some (vR 237), some (vR 238), some (vI x), some (vI v), some (vI y), some (vI (k : Int)), some (vI (S k))] [vI (S k)]
            refine gw_iload C dL_acts_170 rfl ?_
            refine gw_icmp_ne C (tgt := 179) dL_acts_172 (by decide) (by first | omega | assumption | exact hgi _ _) hI_112 (fun h => absurd h (by exact fun q => q rfl)) (fun _ => ?_)
            refine gw_iconst C dL_acts_175 ?_
            refine gw_goto C (tgt := 180) dL_acts_176 (by decide) ?_
            exact gw_zret C (Nat.le_of_ble_eq_true rfl) (Nat.le_of_ble_eq_true rfl) dL_acts_180 (Or.inr rfl) (⟨rfl, ⟨⟨_, _, hCf⟩, (fun h9 => absurd h9 (by omega))⟩, rfl⟩)
      · skip
        refine gw_aload_n C 0 dL_acts_70 rfl rfl ?_
        refine gw_aload_n C 1 dL_acts_71 rfl rfl ?_
        refine gw_aload_n C 2 dL_acts_72 rfl rfl ?_
        refine gw_aload_n C 3 dL_acts_73 rfl rfl ?_
        refine gw_aload C dL_acts_74 rfl ?_
        refine gw_aload C dL_acts_76 rfl ?_
        refine gw_iload C dL_acts_78 rfl ?_
        refine gw_iload C dL_acts_80 rfl ?_
        refine gw_bipush C dL_acts_82 rfl ?_
        refine gw_icmp_ne C (tgt := 91) dL_acts_84 (by decide) (by first | omega | assumption | exact hgi _ _) ⟨by decide, by decide⟩ (fun h_84 => ?_) (fun h_84 => ?_)
        · skip
          refine gw_iconst C dL_acts_91 ?_
          refine gw_callS C (as := [vR 0, vR 231, vR 232, vR 233, vR 234, vR 235, vI v, vI 3]) (st := []) (c_L_lays3 hl0 G I J hLI2 v (by omega)) dL_acts_92 kL_170 qL_lays hdL_lays ⟨Nat.le_of_ble_eq_true rfl, Nat.le_of_ble_eq_true rfl⟩ ⟨Nat.le_of_ble_eq_true rfl, Nat.le_of_ble_eq_true rfl⟩ (Nat.le_of_ble_eq_true rfl) rfl (fun _ _ _ _ h => h.elim) ?_
          intro v_92 z_92_2 I_92 J_92 hv_92
          obtain ⟨ev, hL, eJ⟩ := hv_92
          rw [ev, eJ]
          show GW G p l e ({ frames := 10, cells := 6, slots := 36, locals := 225 } : Room) s m args below meth c 14 z_92_2 N0 SH RR I_92 J 4 24 (vx_MQ below (GQ G N0 SH RR (acQ x J)) (GX G N0 SH RR gNo) args s 6 36 (ge G)) 95 [some (vR 0), some (vR 231), some (vR 232), some (vR 233), some (vR 234), some (vR 235), some (vR 236), some (vR 237), some (vR 238), some (vI x), some (vI v), some (vI y), none, none] [vI 1]
          exact gw_zret C (Nat.le_of_ble_eq_true rfl) (Nat.le_of_ble_eq_true rfl) dL_acts_95 (Or.inr rfl) (⟨rfl, ⟨hL, (fun h9 => absurd h9 (by omega))⟩, rfl⟩)
        · skip
          refine gw_iconst C dL_acts_87 ?_
          refine gw_goto C (tgt := 92) dL_acts_88 (by decide) ?_
          refine gw_callS C (as := [vR 0, vR 231, vR 232, vR 233, vR 234, vR 235, vI v, vI 2]) (st := []) (c_L_lays2 hl0 G I J hLI2 v (by omega)) dL_acts_92 kL_170 qL_lays hdL_lays ⟨Nat.le_of_ble_eq_true rfl, Nat.le_of_ble_eq_true rfl⟩ ⟨Nat.le_of_ble_eq_true rfl, Nat.le_of_ble_eq_true rfl⟩ (Nat.le_of_ble_eq_true rfl) rfl (fun _ _ _ _ h => h.elim) ?_
          intro v_92_2 z_92_4 I_92_2 J_92_2 hv_92_2
          obtain ⟨ev, hL, eJ⟩ := hv_92_2
          rw [ev, eJ]
          show GW G p l e ({ frames := 10, cells := 6, slots := 36, locals := 225 } : Room) s m args below meth c 14 z_92_4 N0 SH RR I_92_2 J 4 24 (vx_MQ below (GQ G N0 SH RR (acQ x J)) (GX G N0 SH RR gNo) args s 6 36 (ge G)) 95 [some (vR 0), some (vR 231), some (vR 232), some (vR 233), some (vR 234), some (vR 235), some (vR 236), some (vR 237), some (vR 238), some (vI x), some (vI v), some (vI y), none, none] [vI 1]
          exact gw_zret C (Nat.le_of_ble_eq_true rfl) (Nat.le_of_ble_eq_true rfl) dL_acts_95 (Or.inr rfl) (⟨rfl, ⟨hL, (fun h9 => absurd h9 (by omega))⟩, rfl⟩)
    · skip
      refine gw_aload_n C 0 dL_acts_48 rfl rfl ?_
      refine gw_aload_n C 1 dL_acts_49 rfl rfl ?_
      refine gw_aload_n C 2 dL_acts_50 rfl rfl ?_
      refine gw_aload_n C 3 dL_acts_51 rfl rfl ?_
      refine gw_aload C dL_acts_52 rfl ?_
      refine gw_aload C dL_acts_54 rfl ?_
      refine gw_iload C dL_acts_56 rfl ?_
      refine gw_iconst C dL_acts_58 ?_
      refine gw_callS C (as := [vR 0, vR 231, vR 232, vR 233, vR 234, vR 235, vI v, vI 1]) (st := []) (c_L_lays1 hl0 G I J hLI2 v (by omega)) dL_acts_59 kL_170 qL_lays hdL_lays ⟨Nat.le_of_ble_eq_true rfl, Nat.le_of_ble_eq_true rfl⟩ ⟨Nat.le_of_ble_eq_true rfl, Nat.le_of_ble_eq_true rfl⟩ (Nat.le_of_ble_eq_true rfl) rfl (fun _ _ _ _ h => h.elim) ?_
      intro v_59 z_59_2 I_59 J_59 hv_59
      obtain ⟨ev, hL, eJ⟩ := hv_59
      rw [ev, eJ]
      show GW G p l e ({ frames := 10, cells := 6, slots := 36, locals := 225 } : Room) s m args below meth c 14 z_59_2 N0 SH RR I_59 J 4 24 (vx_MQ below (GQ G N0 SH RR (acQ x J)) (GX G N0 SH RR gNo) args s 6 36 (ge G)) 62 [some (vR 0), some (vR 231), some (vR 232), some (vR 233), some (vR 234), some (vR 235), some (vR 236), some (vR 237), some (vR 238), some (vI x), some (vI v), some (vI y), none, none] [vI 1]
      exact gw_zret C (Nat.le_of_ble_eq_true rfl) (Nat.le_of_ble_eq_true rfl) dL_acts_62 (Or.inr rfl) (⟨rfl, ⟨hL, (fun h9 => absurd h9 (by omega))⟩, rfl⟩)
  · skip
    refine gw_aload_n C 0 dL_acts_26 rfl rfl ?_
    refine gw_aload_n C 1 dL_acts_27 rfl rfl ?_
    refine gw_aload_n C 2 dL_acts_28 rfl rfl ?_
    refine gw_aload_n C 3 dL_acts_29 rfl rfl ?_
    refine gw_aload C dL_acts_30 rfl ?_
    refine gw_aload C dL_acts_32 rfl ?_
    refine gw_iload C dL_acts_34 rfl ?_
    refine gw_iconst C dL_acts_36 ?_
    refine gw_callS C (as := [vR 0, vR 231, vR 232, vR 233, vR 234, vR 235, vI v, vI 0]) (st := []) (c_L_lays0 hl0 G I J hLI2 v (by omega)) dL_acts_37 kL_170 qL_lays hdL_lays ⟨Nat.le_of_ble_eq_true rfl, Nat.le_of_ble_eq_true rfl⟩ ⟨Nat.le_of_ble_eq_true rfl, Nat.le_of_ble_eq_true rfl⟩ (Nat.le_of_ble_eq_true rfl) rfl (fun _ _ _ _ h => h.elim) ?_
    intro v_37 z_37_2 I_37 J_37 hv_37
    obtain ⟨ev, hL, eJ⟩ := hv_37
    rw [ev, eJ]
    show GW G p l e ({ frames := 10, cells := 6, slots := 36, locals := 225 } : Room) s m args below meth c 14 z_37_2 N0 SH RR I_37 J 4 24 (vx_MQ below (GQ G N0 SH RR (acQ x J)) (GX G N0 SH RR gNo) args s 6 36 (ge G)) 40 [some (vR 0), some (vR 231), some (vR 232), some (vR 233), some (vR 234), some (vR 235), some (vR 236), some (vR 237), some (vR 238), some (vI x), some (vI v), some (vI y), none, none] [vI 1]
    exact gw_zret C (Nat.le_of_ble_eq_true rfl) (Nat.le_of_ble_eq_true rfl) dL_acts_40 (Or.inr rfl) (⟨rfl, ⟨hL, (fun h9 => absurd h9 (by omega))⟩, rfl⟩)
