theorem i0_z {q : Nat} (h : q ≠ 2 ∧ q ≠ 49 ∧ q ≠ 94 ∧ q ≠ 139 ∧ q ≠ 184 ∧ q ≠ 231) : II0 q = fun _ => 0 := by
  unfold II0 plumbI scriptI copiesI mineI
  (repeat rw [up_ne (by omega)])
  rfl
theorem i0_3 {q f : Nat} (h : 3 ≤ f) : II0 q f = 0 := by
  unfold II0 plumbI scriptI copiesI mineI
  (repeat rw [up_ne2 (by omega)])
  rfl
theorem i0_raw {b : Nat} (h : b = 1 ∨ b = 48 ∨ b = 93 ∨ b = 138 ∨ b = 183) : Raw b II0 := by
  refine ⟨fun i hi => ?_, fun t ht => ?_⟩
  · unfold wP wOk
    rw [i0_z (q := b + 5 + 2 * i) (by omega), i0_z (q := b + 5 + 2 * i + 1) (by omega)]
    exact ⟨⟨by decide, by decide⟩, by decide, fun _ _ => ⟨show (0 : Int) ≤ 0 by decide, show (0 : Int) ≤ 999 by decide⟩⟩
  · unfold tP tOk
    rw [i0_z (q := b + 21 + 6 * t) (by omega), i0_z (q := b + 21 + 6 * t + 1) (by omega), i0_z (q := b + 21 + 6 * t + 2) (by omega)]
    exact ⟨⟨by decide, by decide⟩, ⟨by decide, by decide⟩, fun _ _ => ⟨show (0 : Int) ≤ 0 by decide, show (0 : Int) ≤ 1295999 by decide⟩, fun _ _ => ⟨show (0 : Int) ≤ 0 by decide, show (0 : Int) ≤ 200000 by decide⟩⟩
theorem r0_z {k : Nat} (h : 3 ≤ k) : rowL II0 k = 0 := by
  unfold rowL
  split
  · by_cases g : k < 6
    · exact i0_3 (by unfold cC; rw [if_pos g]; exact h)
    · have e : cR k ≠ 231 ∧ 231 ≤ cR k := by unfold cR; (repeat' split) <;> omega
      rw [i0_z (by omega)]
  · rfl
theorem li_0 : LI II0 := by
  have a3 : rowL II0 3 = 0 := r0_z (by decide)
  have a4 : rowL II0 4 = 0 := r0_z (by decide)
  have a5 : rowL II0 5 = 0 := r0_z (by decide)
  have e46 : II0 46 = fun _ => 0 := i0_z (by decide)
  have e1 : II0 1 = fun _ => 0 := i0_z (by decide)
  have hok : Oks (rowL II0) := ⟨by decide +kernel, by rw [a3, a4, a5]; decide, fun i hi => by rw [a3] at hi; omega, fun j hj => by rw [a4] at hj; omega, fun t ht => by rw [a5] at ht; omega⟩
  have hrel : Rel 1 II0 (rowL II0) := ⟨fun k hk => by rcases (show k = 0 ∨ k = 1 ∨ k = 2 by omega) with h | h | h <;> subst h <;> decide +kernel, by rw [a3, a4, a5, e1]; exact ⟨rfl, rfl, rfl⟩, fun i hi => by rw [a3] at hi; omega, fun j hj => by rw [a4] at hj; omega, fun t ht => by rw [a5] at ht; omega⟩
  have hjd : Jdg 1 II0 (rowL II0) := ⟨fun i hi => by rw [a3] at hi; omega, fun j hj => by rw [a4] at hj; omega, fun t ht => by rw [a5] at ht; omega⟩
  have hring : Ring II0 (fun _ _ => 0) 0 := ⟨⟨by rw [e46]; decide, by rw [e46]; exact ⟨rfl, by decide⟩⟩, fun q hq => i0_raw (by omega), fun d hd => absurd hd (Nat.not_lt_zero _)⟩
  exact ⟨fun _ _ => 0, 0, ⟨⟨hrel, hok, i0_raw (Or.inl rfl)⟩, hring⟩, hjd⟩
set_option maxHeartbeats 4000000 in
set_option maxRecDepth 100000 in
theorem law_body {l : Launch} (hl0 : l.stackTraces = false) {G : GG} {p : Program} {e : Env} {s : State} {m : MethodId} {args : Array Value} {below : List Frame} {meth : Method} {c : Code} {Q : State → Prop} {nm9 : String} (C : gC G p l s m args meth c cL_law 15 RL (some .boolean) nm9) (hQ : ∀ (z : Nat) (I J : GI) (k1 k2 : Nat) (lo : List (Option GV)), k1 ≤ 672096 → k2 ≤ 7085481 → GW G p l e room_1 s m args below meth c 15 z N0 SH RR I J k1 k2 Q 532 lo [vI 1]) : GW G p l e room_1 s m args below meth c 15 239 N0 SH RR II0 z0I 239 2662 Q 70 [some (vA G.2.2.2.2.2.1), some (vR 0), some (vR 231), some (vR 232), some (vR 233), some (vR 234), some (vR 235), some (vR 236), some (vR 237), some (vR 238), none, none, none, none, none] [] := by
  have hLI := li_0
  refine gw_aload_n C 1 dL_law_70 rfl rfl ?_
  refine gw_aload_n C 2 dL_law_71 rfl rfl ?_
  refine gw_aload_n C 3 dL_law_72 rfl rfl ?_
  refine gw_aload C dL_law_73 rfl ?_
  refine gw_aload C dL_law_75 rfl ?_
  refine gw_aload C dL_law_77 rfl ?_
  refine gw_aload C dL_law_79 rfl ?_
  refine gw_aload C dL_law_81 rfl ?_
  refine gw_aload C dL_law_83 rfl ?_
  obtain ⟨D9_85, c9_85, hCI_85⟩ := id li_0
  refine gw_callSm C (as := [vR 0, vR 231, vR 232, vR 233, vR 234, vR 235, vR 236, vR 237, vR 238]) (st := []) (c_L_isSo hl0 G II0 z0I hCI_85 rfl) dL_law_85 kL_239 qL_isSo hdL_isSo ⟨Nat.le_of_ble_eq_true rfl, Nat.le_of_ble_eq_true rfl⟩ ⟨(show _ ≤ 672096 from by omega), (show _ ≤ 7085481 from by omega)⟩ (Nat.le_of_ble_eq_true rfl) rfl (fun z_85 => ?_)
  refine gw_istore C (lo1 := [some (vA G.2.2.2.2.2.1), some (vR 0), some (vR 231), some (vR 232), some (vR 233), some (vR 234), some (vR 235), some (vR 236), some (vR 237), some (vR 238), some (vI 1), none, none, none, none]) dL_law_88 (by decide) rfl ?_
  refine gw_iconst C dL_law_90 ?_
  refine gw_istore C (lo1 := [some (vA G.2.2.2.2.2.1), some (vR 0), some (vR 231), some (vR 232), some (vR 233), some (vR 234), some (vR 235), some (vR 236), some (vR 237), some (vR 238), some (vI 1), some (vI 0), none, none, none]) dL_law_91 (by decide) rfl ?_
  have loop_93 : ∀ (fuel : Nat) (i : Nat) (K : GI) (zi : Nat) (a1 : Nat) (a2 : Nat), (i ≤ 20) → (LI K) → (a1 ≤ 681 + 6 * i ∧ a2 ≤ 5314 + 36 * i) → 21 - i < fuel → GW G p l e room_1 s m args below meth c 15 zi N0 SH RR K z0I a1 a2 Q 93 [some (vA G.2.2.2.2.2.1), some (vR 0), some (vR 231), some (vR 232), some (vR 233), some (vR 234), some (vR 235), some (vR 236), some (vR 237), some (vR 238), some (vI 1), some (vI (i : Int)), none, none, none] [] := by
    intro fuel
    induction fuel with
    | zero => intro i K zi a1 a2 hi hLI ha hf_93; exact absurd hf_93 (Nat.not_lt_zero _)
    | succ fuel ih_93 =>
      intro i K zi a1 a2 hi hLI ha hf_93
      refine gw_iload C dL_law_93 rfl ?_
      refine gw_bipush C dL_law_95 rfl ?_
      refine gw_icmp_ge C (tgt := 245) dL_law_97 (by decide) (by first | omega | assumption | exact cellZ_i _ _) ⟨by decide, by decide⟩ (fun h_97 => ?_) (fun h_97 => ?_)
      · skip
        refine gw_bipush C dL_law_245 rfl ?_
        refine gw_aloadA_n C 0 dL_law_247 rfl rfl ?_
        refine gw_iconst C dL_law_248 ?_
        refine gw_callSm C (as := [vA G.2.2.2.2.2.1, vI 0]) (st := [vI 8]) (c_L_cell hl0 G K z0I 0 (by omega)) dL_law_249 kL_243 qL_cell hdL_cell ⟨Nat.le_of_ble_eq_true rfl, Nat.le_of_ble_eq_true rfl⟩ ⟨(show _ ≤ 672096 from by omega), (show _ ≤ 7085481 from by omega)⟩ (Nat.le_of_ble_eq_true rfl) rfl (fun z_249 => ?_)
        refine gw_bipush C dL_law_252 rfl ?_
        refine gw_callSm C (as := [vI (cellZ G 0), vI 36]) (st := [vI 8]) (c_L_low hl0 G K z0I (cellZ G 0) 36 (cellZ_i G _) (by omega)) dL_law_254 kL_167 qL_low hdL_low ⟨Nat.le_of_ble_eq_true rfl, Nat.le_of_ble_eq_true rfl⟩ ⟨(show _ ≤ 672096 from by omega), (show _ ≤ 7085481 from by omega)⟩ (Nat.le_of_ble_eq_true rfl) rfl (fun z_254 => ?_)
        have hlw_254 := lowZ_b (x := (cellZ G 0)) (n := 36) (by omega)
        refine gw_iadd C dL_law_257 ?_
        obtain ⟨tn, htn9⟩ : ∃ tn, (8 + (lowZ (cellZ G 0) 36)) = tn := ⟨_, rfl⟩
        have htb : 0 ≤ tn ∧ tn ≤ 43 := by omega
        rw [htn9]
        refine gw_istore C (lo1 := [some (vA G.2.2.2.2.2.1), some (vR 0), some (vR 231), some (vR 232), some (vR 233), some (vR 234), some (vR 235), some (vR 236), some (vR 237), some (vR 238), some (vI 1), some (vI tn), none, none, none]) dL_law_258 (by decide) rfl ?_
        refine gw_iconst C dL_law_260 ?_
        refine gw_istore C (lo1 := [some (vA G.2.2.2.2.2.1), some (vR 0), some (vR 231), some (vR 232), some (vR 233), some (vR 234), some (vR 235), some (vR 236), some (vR 237), some (vR 238), some (vI 1), some (vI tn), some (vI 0), none, none]) dL_law_261 (by decide) rfl ?_
        have loop_263 : ∀ (fuel : Nat) (k : Nat) (K2 : GI) (zk : Nat) (b1 : Nat) (b2 : Nat), (k ≤ 43 + 1) → (LI K2) → (b1 ≤ 801 + 451 * k ∧ b2 ≤ 6034 + 2706 * k) → 45 - k < fuel → GW G p l e room_1 s m args below meth c 15 zk N0 SH RR K2 z0I b1 b2 Q 263 [some (vA G.2.2.2.2.2.1), some (vR 0), some (vR 231), some (vR 232), some (vR 233), some (vR 234), some (vR 235), some (vR 236), some (vR 237), some (vR 238), some (vI 1), some (vI tn), some (vI (k : Int)), none, none] [] := by
          intro fuel
          induction fuel with
          | zero => intro k K2 zk b1 b2 hk hLI hb hf_263; exact absurd hf_263 (Nat.not_lt_zero _)
          | succ fuel ih_263 =>
            intro k K2 zk b1 b2 hk hLI hb hf_263
            refine gw_iload C dL_law_263 rfl ?_
            refine gw_iload C dL_law_265 rfl ?_
            refine gw_icmp_ge C (tgt := 435) dL_law_267 (by decide) (by first | omega | assumption | exact cellZ_i _ _) (by first | omega | assumption | exact cellZ_i _ _) (fun h_267 => ?_) (fun h_267 => ?_)
            · skip
              refine gw_iload C dL_law_435 rfl ?_
              refine gw_if_eq C (tgt := 531) dL_law_437 (by decide) ⟨by decide, by decide⟩ (fun h => absurd h (by decide)) (fun _ => ?_)
              obtain ⟨D9, c9, hCI⟩ := id hLI
              obtain ⟨S, hR⟩ : ∃ S, rowL K2 = S := ⟨_, rfl⟩
              rw [hR] at hCI
              have ho := hCI.1.1.2.1
              have h0 := ho.1
              have h3 := ho.2.1
              refine gw_aload_n C 1 dL_law_440 rfl rfl ?_
              refine gw_bipush C dL_law_441 rfl ?_
              refine gw_callSHm C (as := [vR 0, vI 8]) (st := []) (c_L_infoOf hl0 G K2 z0I hCI 8 ⟨by decide, by decide⟩) dL_law_443 kL_235 qL_infoOf hdL_infoOf ⟨Nat.le_of_ble_eq_true rfl, Nat.le_of_ble_eq_true rfl⟩ ⟨(show _ ≤ 672096 from by omega), (show _ ≤ 7085481 from by omega)⟩ (Nat.le_of_ble_eq_true rfl) rfl (fun z_443 => ?_)
              rw [show cdV (kInfo 8) (rInfo S 8) (-2000002) 0 0 = (-2000002) from w_in1 (S := S) (by decide)]
              refine gw_ldc C (x := (-2000002)) dL_law_446 kL_17 (by decide) ?_
              refine gw_icmp_ne C (tgt := 531) dL_law_448 (by decide) ⟨by decide, by decide⟩ ⟨by decide, by decide⟩ (fun h => absurd h (by decide)) (fun _ => ?_)
              refine gw_aload_n C 1 dL_law_451 rfl rfl ?_
              refine gw_iconst C dL_law_452 ?_
              refine gw_callSHm C (as := [vR 0, vI (-1)]) (st := []) (c_L_infoOf hl0 G K2 z0I hCI (-1) ⟨by decide, by decide⟩) dL_law_453 kL_235 qL_infoOf hdL_infoOf ⟨Nat.le_of_ble_eq_true rfl, Nat.le_of_ble_eq_true rfl⟩ ⟨(show _ ≤ 672096 from by omega), (show _ ≤ 7085481 from by omega)⟩ (Nat.le_of_ble_eq_true rfl) rfl (fun z_453 => ?_)
              rw [show cdV (kInfo (-1)) (rInfo S (-1)) (-2000002) 0 0 = (-2000002) from w_in1 (S := S) (by decide)]
              refine gw_ldc C (x := (-2000002)) dL_law_456 kL_17 (by decide) ?_
              refine gw_icmp_ne C (tgt := 531) dL_law_458 (by decide) ⟨by decide, by decide⟩ ⟨by decide, by decide⟩ (fun h => absurd h (by decide)) (fun _ => ?_)
              refine gw_aload_n C 1 dL_law_461 rfl rfl ?_
              refine gw_aload_n C 2 dL_law_462 rfl rfl ?_
              refine gw_iconst C dL_law_463 ?_
              refine gw_iald C 3 dL_law_464 xs_231 xn_231 (by omega) (by omega) (by decide) (fun hI_464 => ?_)
              rw [show (K2 231 3) = (((S 3).toNat : Nat) : Int) from by have e9 := lr_g (I := K2) (k := 3) (by omega); rw [hR] at e9; omega] at hI_464 ⊢
              refine gw_iconst C dL_law_465 ?_
              refine gw_callSHm C (as := [vR 0, vI (((S 3).toNat : Nat) : Int), vI 0]) (st := []) (c_L_wireOf hl0 G K2 z0I hCI (((S 3).toNat : Nat) : Int) 0 hI_464 ⟨by decide, by decide⟩) dL_law_466 kL_226 qL_wireOf hdL_wireOf ⟨Nat.le_of_ble_eq_true rfl, Nat.le_of_ble_eq_true rfl⟩ ⟨(show _ ≤ 672096 from by omega), (show _ ≤ 7085481 from by omega)⟩ (Nat.le_of_ble_eq_true rfl) rfl (fun z_466 => ?_)
              rw [show cdV (kWire S (((S 3).toNat : Nat) : Int) 0) (rWire S (((S 3).toNat : Nat) : Int).toNat 0) (-2000001) (-2000002) 0 = (-2000001) from w_wi1 (by omega)]
              refine gw_ldc C (x := (-2000001)) dL_law_469 kL_29 (by decide) ?_
              refine gw_icmp_ne C (tgt := 531) dL_law_471 (by decide) ⟨by decide, by decide⟩ ⟨by decide, by decide⟩ (fun h => absurd h (by decide)) (fun _ => ?_)
              refine gw_aload_n C 1 dL_law_474 rfl rfl ?_
              refine gw_aload_n C 2 dL_law_475 rfl rfl ?_
              refine gw_iconst C dL_law_476 ?_
              refine gw_iald C 4 dL_law_477 xs_231 xn_231 (by omega) (by omega) (by decide) (fun hI_477 => ?_)
              rw [show (K2 231 4) = (((S 4).toNat : Nat) : Int) from by have e9 := lr_g (I := K2) (k := 4) (by omega); rw [hR] at e9; omega] at hI_477 ⊢
              refine gw_iconst C dL_law_478 ?_
              refine gw_callSHm C (as := [vR 0, vI (((S 4).toNat : Nat) : Int), vI 0]) (st := []) (c_L_joinOf hl0 G K2 z0I hCI (((S 4).toNat : Nat) : Int) 0 hI_477 ⟨by decide, by decide⟩) dL_law_479 kL_229 qL_joinOf hdL_joinOf ⟨Nat.le_of_ble_eq_true rfl, Nat.le_of_ble_eq_true rfl⟩ ⟨(show _ ≤ 672096 from by omega), (show _ ≤ 7085481 from by omega)⟩ (Nat.le_of_ble_eq_true rfl) rfl (fun z_479 => ?_)
              rw [show cdV (kJoinOf S (((S 4).toNat : Nat) : Int) 0) (rJoinOf S (((S 4).toNat : Nat) : Int).toNat 0) (-2000001) (-2000002) 0 = (-2000001) from w_jo1 (by omega)]
              refine gw_ldc C (x := (-2000001)) dL_law_482 kL_29 (by decide) ?_
              refine gw_icmp_ne C (tgt := 531) dL_law_484 (by decide) ⟨by decide, by decide⟩ ⟨by decide, by decide⟩ (fun h => absurd h (by decide)) (fun _ => ?_)
              refine gw_aload_n C 1 dL_law_487 rfl rfl ?_
              refine gw_aload_n C 2 dL_law_488 rfl rfl ?_
              refine gw_iconst C dL_law_489 ?_
              refine gw_iald C 5 dL_law_490 xs_231 xn_231 (by omega) (by omega) (by decide) (fun hI_490 => ?_)
              rw [show (K2 231 5) = (((S 5).toNat : Nat) : Int) from by have e9 := lr_g (I := K2) (k := 5) (by omega); rw [hR] at e9; omega] at hI_490 ⊢
              refine gw_iconst C dL_law_491 ?_
              refine gw_callSHm C (as := [vR 0, vI (((S 5).toNat : Nat) : Int), vI 0]) (st := []) (c_L_traverseOf hl0 G K2 z0I hCI (((S 5).toNat : Nat) : Int) 0 hI_490 ⟨by decide, by decide⟩) dL_law_492 kL_216 qL_traverseOf hdL_traverseOf ⟨Nat.le_of_ble_eq_true rfl, Nat.le_of_ble_eq_true rfl⟩ ⟨(show _ ≤ 672096 from by omega), (show _ ≤ 7085481 from by omega)⟩ (Nat.le_of_ble_eq_true rfl) rfl (fun z_492 => ?_)
              rw [show cdV (kTrav S (((S 5).toNat : Nat) : Int) 0) (rTrav S (((S 5).toNat : Nat) : Int).toNat 0) (-2000001) (-2000002) 0 = (-2000001) from w_tr1 (by omega)]
              refine gw_ldc C (x := (-2000001)) dL_law_495 kL_29 (by decide) ?_
              refine gw_icmp_ne C (tgt := 531) dL_law_497 (by decide) ⟨by decide, by decide⟩ ⟨by decide, by decide⟩ (fun h => absurd h (by decide)) (fun _ => ?_)
              refine gw_aload_n C 1 dL_law_500 rfl rfl ?_
              refine gw_aload_n C 2 dL_law_501 rfl rfl ?_
              refine gw_iconst C dL_law_502 ?_
              refine gw_iald C 5 dL_law_503 xs_231 xn_231 (by omega) (by omega) (by decide) (fun hI_503 => ?_)
              rw [show (K2 231 5) = (((S 5).toNat : Nat) : Int) from by have e9 := lr_g (I := K2) (k := 5) (by omega); rw [hR] at e9; omega] at hI_503 ⊢
              refine gw_iconst C dL_law_504 ?_
              refine gw_iconst C dL_law_505 ?_
              refine gw_callSHm C (as := [vR 0, vI (((S 5).toNat : Nat) : Int), vI 0, vI 0]) (st := []) (c_L_legOf hl0 G K2 z0I hCI (((S 5).toNat : Nat) : Int) 0 0 hI_503 ⟨by decide, by decide⟩ ⟨by decide, by decide⟩) dL_law_506 kL_205 qL_legOf hdL_legOf ⟨Nat.le_of_ble_eq_true rfl, Nat.le_of_ble_eq_true rfl⟩ ⟨(show _ ≤ 672096 from by omega), (show _ ≤ 7085481 from by omega)⟩ (Nat.le_of_ble_eq_true rfl) rfl (fun z_506 => ?_)
              rw [show cdV (kLeg S (((S 5).toNat : Nat) : Int) 0 0) (rLeg S (((S 5).toNat : Nat) : Int).toNat (0 : Int).toNat 0) (-2000001) (-2000002) 0 = (-2000001) from w_lg1 (by omega)]
              refine gw_ldc C (x := (-2000001)) dL_law_509 kL_29 (by decide) ?_
              refine gw_icmp_ne C (tgt := 531) dL_law_511 (by decide) ⟨by decide, by decide⟩ ⟨by decide, by decide⟩ (fun h => absurd h (by decide)) (fun _ => ?_)
              refine gw_aload_n C 1 dL_law_514 rfl rfl ?_
              refine gw_aload_n C 2 dL_law_515 rfl rfl ?_
              refine gw_iconst C dL_law_516 ?_
              refine gw_iald C 5 dL_law_517 xs_231 xn_231 (by omega) (by omega) (by decide) (fun hI_517 => ?_)
              rw [show (K2 231 5) = (((S 5).toNat : Nat) : Int) from by have e9 := lr_g (I := K2) (k := 5) (by omega); rw [hR] at e9; omega] at hI_517 ⊢
              refine gw_iconst C dL_law_518 ?_
              refine gw_callSHm C (as := [vR 0, vI (((S 5).toNat : Nat) : Int), vI 0]) (st := []) (c_L_troubleOf hl0 G K2 z0I hCI (((S 5).toNat : Nat) : Int) 0 hI_517 ⟨by decide, by decide⟩) dL_law_519 kL_223 qL_troubleOf hdL_troubleOf ⟨Nat.le_of_ble_eq_true rfl, Nat.le_of_ble_eq_true rfl⟩ ⟨(show _ ≤ 672096 from by omega), (show _ ≤ 7085481 from by omega)⟩ (Nat.le_of_ble_eq_true rfl) rfl (fun z_519 => ?_)
              rw [show cdV (kTrb S (((S 5).toNat : Nat) : Int)) (rTrb S (((S 5).toNat : Nat) : Int).toNat 0) (-2000001) 0 0 = (-2000001) from w_tb1 (by omega)]
              refine gw_ldc C (x := (-2000001)) dL_law_522 kL_29 (by decide) ?_
              refine gw_icmp_ne C (tgt := 531) dL_law_524 (by decide) ⟨by decide, by decide⟩ ⟨by decide, by decide⟩ (fun h => absurd h (by decide)) (fun _ => ?_)
              refine gw_iconst C dL_law_527 ?_
              refine gw_goto C (tgt := 532) dL_law_528 (by decide) ?_
              exact hQ _ _ _ _ _ _ (by omega) (by omega)
            · skip
              refine gw_iload C dL_law_270 rfl ?_
              refine gw_if_eq C (tgt := 435) dL_law_272 (by decide) ⟨by decide, by decide⟩ (fun h => absurd h (by decide)) (fun _ => ?_)
              refine gw_aloadA_n C 0 dL_law_275 rfl rfl ?_
              refine gw_bipush C dL_law_276 rfl ?_
              refine gw_iload C dL_law_278 rfl ?_
              refine gw_iadd C dL_law_280 ?_
              refine gw_callSm C (as := [vA G.2.2.2.2.2.1, vI (21 + (k : Int))]) (st := []) (c_L_cell hl0 G K2 z0I (21 + k) (by omega)) dL_law_281 kL_243 qL_cell hdL_cell ⟨Nat.le_of_ble_eq_true rfl, Nat.le_of_ble_eq_true rfl⟩ ⟨(show _ ≤ 672096 from by omega), (show _ ≤ 7085481 from by omega)⟩ (Nat.le_of_ble_eq_true rfl) rfl (fun z_281 => ?_)
              refine gw_sipush C dL_law_284 rfl ?_
              refine gw_iload C dL_law_287 rfl ?_
              refine gw_imul C dL_law_289 ?_
              refine gw_ixorY C (xrZ (cellZ G (21 + k)) (7919 * (k : Int))) dL_law_290 (xrZ_e (cellZ G (21 + k)) (7919 * (k : Int))) ?_
              have hzi := xrZ_i (cellZ G (21 + k)) (7919 * (k : Int))
              generalize xrZ (cellZ G (21 + k)) (7919 * (k : Int)) = zv at hzi ⊢
              refine gw_istore C (lo1 := [some (vA G.2.2.2.2.2.1), some (vR 0), some (vR 231), some (vR 232), some (vR 233), some (vR 234), some (vR 235), some (vR 236), some (vR 237), some (vR 238), some (vI 1), some (vI tn), some (vI (k : Int)), some (vI zv), none]) dL_law_291 (by decide) rfl ?_
              refine gw_aload_n C 1 dL_law_293 rfl rfl ?_
              refine gw_aload_n C 2 dL_law_294 rfl rfl ?_
              refine gw_aload_n C 3 dL_law_295 rfl rfl ?_
              refine gw_aload C dL_law_296 rfl ?_
              refine gw_aload C dL_law_298 rfl ?_
              refine gw_aload C dL_law_300 rfl ?_
              refine gw_aload C dL_law_302 rfl ?_
              refine gw_aload C dL_law_304 rfl ?_
              refine gw_aload C dL_law_306 rfl ?_
              refine gw_iload C dL_law_308 rfl ?_
              refine gw_callS C (as := [vR 0, vR 231, vR 232, vR 233, vR 234, vR 235, vR 236, vR 237, vR 238, vI zv]) (st := []) (c_L_acts hl0 G K2 z0I hLI zv hzi) dL_law_310 kL_247 qL_acts hdL_acts ⟨Nat.le_of_ble_eq_true rfl, Nat.le_of_ble_eq_true rfl⟩ ⟨(show _ ≤ 672096 from by omega), (show _ ≤ 7085481 from by omega)⟩ (Nat.le_of_ble_eq_true rfl) rfl (fun _ _ _ _ h => h.elim) ?_
              intro v_310 z_310_2 I_310 J_310 hv_310
              obtain ⟨ev, ⟨hL, hgp⟩, eJ⟩ := hv_310
              rw [ev, eJ]
              show GW G p l e room_1 s m args below meth c 15 z_310_2 N0 SH RR I_310 z0I (b1 + 6) (b2 + 36) Q 313 [some (vA G.2.2.2.2.2.1), some (vR 0), some (vR 231), some (vR 232), some (vR 233), some (vR 234), some (vR 235), some (vR 236), some (vR 237), some (vR 238), some (vI 1), some (vI tn), some (vI (k : Int)), some (vI zv), none] [vI 1]
              refine gw_if_eq C (tgt := 341) dL_law_313 (by decide) ⟨by decide, by decide⟩ (fun h => absurd h (by decide)) (fun _ => ?_)
              refine gw_aload_n C 1 dL_law_316 rfl rfl ?_
              refine gw_aload_n C 2 dL_law_317 rfl rfl ?_
              refine gw_aload_n C 3 dL_law_318 rfl rfl ?_
              refine gw_aload C dL_law_319 rfl ?_
              refine gw_aload C dL_law_321 rfl ?_
              refine gw_aload C dL_law_323 rfl ?_
              refine gw_aload C dL_law_325 rfl ?_
              refine gw_aload C dL_law_327 rfl ?_
              refine gw_aload C dL_law_329 rfl ?_
              obtain ⟨D9_331, c9_331, hCI_331⟩ := id hL
              refine gw_callSm C (as := [vR 0, vR 231, vR 232, vR 233, vR 234, vR 235, vR 236, vR 237, vR 238]) (st := []) (c_L_isSo hl0 G I_310 z0I hCI_331 rfl) dL_law_331 kL_239 qL_isSo hdL_isSo ⟨Nat.le_of_ble_eq_true rfl, Nat.le_of_ble_eq_true rfl⟩ ⟨(show _ ≤ 672096 from by omega), (show _ ≤ 7085481 from by omega)⟩ (Nat.le_of_ble_eq_true rfl) rfl (fun z_331 => ?_)
              refine gw_if_eq C (tgt := 341) dL_law_334 (by decide) ⟨by decide, by decide⟩ (fun h => absurd h (by decide)) (fun _ => ?_)
              refine gw_iconst C dL_law_337 ?_
              refine gw_goto C (tgt := 342) dL_law_338 (by decide) ?_
              refine gw_istore C (lo1 := [some (vA G.2.2.2.2.2.1), some (vR 0), some (vR 231), some (vR 232), some (vR 233), some (vR 234), some (vR 235), some (vR 236), some (vR 237), some (vR 238), some (vI 1), some (vI tn), some (vI (k : Int)), some (vI zv), none]) dL_law_342 (by decide) rfl ?_
              obtain ⟨D9, c9, hCI⟩ := id hL
              obtain ⟨S, hR⟩ : ∃ S, rowL I_310 = S := ⟨_, rfl⟩
              rw [hR] at hCI
              have ho := hCI.1.1.2.1
              have h0 := ho.1
              have h3 := ho.2.1
              refine gw_iload C dL_law_344 rfl ?_
              refine gw_iconst C dL_law_346 ?_
              refine gw_ishrY C (sh5 zv) dL_law_347 (sh5_e zv) ?_
              have hs5 := sh5_i zv
              refine gw_ldc C (x := 60000000) dL_law_348 kL_166 (by decide) ?_
              refine gw_callSm C (as := [vI (sh5 zv), vI 60000000]) (st := []) (c_L_low hl0 G I_310 z0I (sh5 zv) 60000000 hs5 (by omega)) dL_law_350 kL_167 qL_low hdL_low ⟨Nat.le_of_ble_eq_true rfl, Nat.le_of_ble_eq_true rfl⟩ ⟨(show _ ≤ 672096 from by omega), (show _ ≤ 7085481 from by omega)⟩ (Nat.le_of_ble_eq_true rfl) rfl (fun z_350 => ?_)
              have hlw_350 := lowZ_b (x := (sh5 zv)) (n := 60000000) (by omega)
              refine gw_aload_n C 2 dL_law_353 rfl rfl ?_
              refine gw_iconst C dL_law_354 ?_
              refine gw_iald C 5 dL_law_355 xs_231 xn_231 (by omega) (by omega) (by decide) (fun hI_355 => ?_)
              rw [show (I_310 231 5) = (((S 5).toNat : Nat) : Int) from by have e9 := lr_g (I := I_310) (k := 5) (by omega); rw [hR] at e9; omega] at hI_355 ⊢
              refine gw_if_ne C (tgt := 363) dL_law_356 (by decide) hI_355 (fun h_356 => ?_) (fun h_356 => ?_)
              · skip
                skip
                refine gw_aload_n C 2 dL_law_363 rfl rfl ?_
                refine gw_iconst C dL_law_364 ?_
                refine gw_iald C 5 dL_law_365 xs_231 xn_231 (by omega) (by omega) (by decide) (fun hI_365 => ?_)
                rw [show (I_310 231 5) = (((S 5).toNat : Nat) : Int) from by have e9 := lr_g (I := I_310) (k := 5) (by omega); rw [hR] at e9; omega] at hI_365 ⊢
                refine gw_irem C dL_law_366 (by first | omega | assumption | exact cellZ_i _ _) hI_365 (by omega) ?_
                obtain ⟨t, et_t, hb_t⟩ := tm_nat (v := (lowZ (sh5 zv) 60000000)) (n := (((S 5).toNat : Nat) : Int)) (by omega) (by omega)
                rw [show ((lowZ (sh5 zv) 60000000)).tmod (((S 5).toNat : Nat) : Int) = (t : Int) from et_t]
                have htt : (t : Int) < S 5 := by omega
                refine gw_istore C (lo1 := [some (vA G.2.2.2.2.2.1), some (vR 0), some (vR 231), some (vR 232), some (vR 233), some (vR 234), some (vR 235), some (vR 236), some (vR 237), some (vR 238), some (vI 1), some (vI tn), some (vI (k : Int)), some (vI zv), some (vI (t : Int))]) dL_law_367 (by decide) rfl ?_
                refine gw_iload C dL_law_369 rfl ?_
                refine gw_if_eq C (tgt := 426) dL_law_371 (by decide) ⟨by decide, by decide⟩ (fun h => absurd h (by decide)) (fun _ => ?_)
                refine gw_iload C dL_law_374 rfl ?_
                refine gw_bipush C dL_law_376 rfl ?_
                refine gw_callSm C (as := [vI zv, vI 28]) (st := []) (c_L_low hl0 G I_310 z0I zv 28 hzi (by omega)) dL_law_378 kL_167 qL_low hdL_low ⟨Nat.le_of_ble_eq_true rfl, Nat.le_of_ble_eq_true rfl⟩ ⟨(show _ ≤ 672096 from by omega), (show _ ≤ 7085481 from by omega)⟩ (Nat.le_of_ble_eq_true rfl) rfl (fun z_378 => ?_)
                have hlw_378 := lowZ_b (x := zv) (n := 28) (by omega)
                refine gw_bipush C dL_law_381 rfl ?_
                refine gw_icmp_lt C (tgt := 422) dL_law_383 (by decide) (by first | omega | assumption | exact cellZ_i _ _) ⟨by decide, by decide⟩ (fun h_383 => ?_) (fun h_383 => ?_)
                · skip
                  refine gw_iconst C dL_law_422 ?_
                  refine gw_goto C (tgt := 427) dL_law_423 (by decide) ?_
                  refine gw_istore C (lo1 := [some (vA G.2.2.2.2.2.1), some (vR 0), some (vR 231), some (vR 232), some (vR 233), some (vR 234), some (vR 235), some (vR 236), some (vR 237), some (vR 238), some (vI 1), some (vI tn), some (vI (k : Int)), some (vI zv), some (vI (t : Int))]) dL_law_427 (by decide) rfl ?_
                  refine gw_iinc C (lo1 := [some (vA G.2.2.2.2.2.1), some (vR 0), some (vR 231), some (vR 232), some (vR 233), some (vR 234), some (vR 235), some (vR 236), some (vR 237), some (vR 238), some (vI 1), some (vI tn), some (vI ((k : Int) + 1)), some (vI zv), some (vI (t : Int))]) dL_law_429 rfl (by decide) rfl ?_
                  refine gw_goto C (tgt := 263) dL_law_432 (by decide) ?_
                  exact gw_weak (lo' := [some (vA G.2.2.2.2.2.1), some (vR 0), some (vR 231), some (vR 232), some (vR 233), some (vR 234), some (vR 235), some (vR 236), some (vR 237), some (vR 238), some (vI 1), some (vI tn), some (vI (((k + 1) : Nat) : Int)), none, none]) ⟨rfl, rfl, rfl, rfl, rfl, rfl, rfl, rfl, rfl, rfl, rfl, rfl, congrArg (fun q => some (vI q)) (by omega), trivial⟩ (ih_263 (k + 1) I_310 z_378 ((b1 + 6) + 442) ((b2 + 36) + 2652) (by omega) (by exact hL) (by omega) (by omega))
                · skip
                  refine gw_aload_n C 2 dL_law_386 rfl rfl ?_
                  refine gw_iconst C dL_law_387 ?_
                  refine gw_iald C 5 dL_law_388 xs_231 xn_231 (by omega) (by omega) (by decide) (fun hI_388 => ?_)
                  rw [show (I_310 231 5) = (((S 5).toNat : Nat) : Int) from by have e9 := lr_g (I := I_310) (k := 5) (by omega); rw [hR] at e9; omega] at hI_388 ⊢
                  refine gw_if_eq C (tgt := 422) dL_law_389 (by decide) hI_388 (fun h => absurd h (by omega)) (fun _ => ?_)
                  refine gw_aload_n C 1 dL_law_392 rfl rfl ?_
                  refine gw_iload C dL_law_393 rfl ?_
                  refine gw_iconst C dL_law_395 ?_
                  refine gw_callSHm C (as := [vR 0, vI (t : Int), vI 4]) (st := []) (c_L_traverseOf hl0 G I_310 z0I hCI (t : Int) 4 (by first | omega | assumption | exact cellZ_i _ _) ⟨by decide, by decide⟩) dL_law_396 kL_216 qL_traverseOf hdL_traverseOf ⟨Nat.le_of_ble_eq_true rfl, Nat.le_of_ble_eq_true rfl⟩ ⟨(show _ ≤ 672096 from by omega), (show _ ≤ 7085481 from by omega)⟩ (Nat.le_of_ble_eq_true rfl) rfl (fun z_396 => ?_)
                  rw [show cdV (kTrav S (t : Int) 4) (rTrav S (t : Int).toNat 4) (-2000001) (-2000002) 0 = (sTT S t) from (w_tr htt (by decide))]
                  have htv := sTT_v S t
                  refine gw_if_gt C (tgt := 422) dL_law_399 (by decide) (by first | omega | assumption | exact cellZ_i _ _) (fun h_399 => ?_) (fun h_399 => ?_)
                  · skip
                    refine gw_iconst C dL_law_422 ?_
                    refine gw_goto C (tgt := 427) dL_law_423 (by decide) ?_
                    refine gw_istore C (lo1 := [some (vA G.2.2.2.2.2.1), some (vR 0), some (vR 231), some (vR 232), some (vR 233), some (vR 234), some (vR 235), some (vR 236), some (vR 237), some (vR 238), some (vI 1), some (vI tn), some (vI (k : Int)), some (vI zv), some (vI (t : Int))]) dL_law_427 (by decide) rfl ?_
                    refine gw_iinc C (lo1 := [some (vA G.2.2.2.2.2.1), some (vR 0), some (vR 231), some (vR 232), some (vR 233), some (vR 234), some (vR 235), some (vR 236), some (vR 237), some (vR 238), some (vI 1), some (vI tn), some (vI ((k : Int) + 1)), some (vI zv), some (vI (t : Int))]) dL_law_429 rfl (by decide) rfl ?_
                    refine gw_goto C (tgt := 263) dL_law_432 (by decide) ?_
                    exact gw_weak (lo' := [some (vA G.2.2.2.2.2.1), some (vR 0), some (vR 231), some (vR 232), some (vR 233), some (vR 234), some (vR 235), some (vR 236), some (vR 237), some (vR 238), some (vI 1), some (vI tn), some (vI (((k + 1) : Nat) : Int)), none, none]) ⟨rfl, rfl, rfl, rfl, rfl, rfl, rfl, rfl, rfl, rfl, rfl, rfl, congrArg (fun q => some (vI q)) (by omega), trivial⟩ (ih_263 (k + 1) I_310 z_396 (((b1 + 6) + 442) + 1) (((b2 + 36) + 2652) + 6) (by omega) (by exact hL) (by omega) (by omega))
                  · skip
                    have hr3 : (0 ≤ S (104 + 28 * t) ∧ rTrav S t 2 = S (104 + 28 * t)) ∨ (S (104 + 28 * t) < 0 ∧ rTrav S t 2 = -2000000000) := by rcases Int.lt_or_le (S (104 + 28 * t)) 0 with q | q; exact Or.inr ⟨q, (rTr_2.2 q).1⟩; exact Or.inl ⟨q, (rTr_2.1 q).1⟩
                    have ht9 := okT ho htt
                    refine gw_aload_n C 1 dL_law_402 rfl rfl ?_
                    refine gw_iload C dL_law_403 rfl ?_
                    refine gw_iconst C dL_law_405 ?_
                    refine gw_callSHm C (as := [vR 0, vI (t : Int), vI 2]) (st := []) (c_L_traverseOf hl0 G I_310 z0I hCI (t : Int) 2 (by first | omega | assumption | exact cellZ_i _ _) ⟨by decide, by decide⟩) dL_law_406 kL_216 qL_traverseOf hdL_traverseOf ⟨Nat.le_of_ble_eq_true rfl, Nat.le_of_ble_eq_true rfl⟩ ⟨(show _ ≤ 672096 from by omega), (show _ ≤ 7085481 from by omega)⟩ (Nat.le_of_ble_eq_true rfl) rfl (fun z_406 => ?_)
                    rw [show cdV (kTrav S (t : Int) 2) (rTrav S (t : Int).toNat 2) (-2000001) (-2000002) 0 = (rTrav S t 2) from (w_tr htt (by decide))]
                    refine gw_if_lt C (tgt := 422) dL_law_409 (by decide) (by first | omega | assumption | exact cellZ_i _ _) (fun h_409 => ?_) (fun h_409 => ?_)
                    · skip
                      refine gw_iconst C dL_law_422 ?_
                      refine gw_goto C (tgt := 427) dL_law_423 (by decide) ?_
                      refine gw_istore C (lo1 := [some (vA G.2.2.2.2.2.1), some (vR 0), some (vR 231), some (vR 232), some (vR 233), some (vR 234), some (vR 235), some (vR 236), some (vR 237), some (vR 238), some (vI 1), some (vI tn), some (vI (k : Int)), some (vI zv), some (vI (t : Int))]) dL_law_427 (by decide) rfl ?_
                      refine gw_iinc C (lo1 := [some (vA G.2.2.2.2.2.1), some (vR 0), some (vR 231), some (vR 232), some (vR 233), some (vR 234), some (vR 235), some (vR 236), some (vR 237), some (vR 238), some (vI 1), some (vI tn), some (vI ((k : Int) + 1)), some (vI zv), some (vI (t : Int))]) dL_law_429 rfl (by decide) rfl ?_
                      refine gw_goto C (tgt := 263) dL_law_432 (by decide) ?_
                      exact gw_weak (lo' := [some (vA G.2.2.2.2.2.1), some (vR 0), some (vR 231), some (vR 232), some (vR 233), some (vR 234), some (vR 235), some (vR 236), some (vR 237), some (vR 238), some (vI 1), some (vI tn), some (vI (((k + 1) : Nat) : Int)), none, none]) ⟨rfl, rfl, rfl, rfl, rfl, rfl, rfl, rfl, rfl, rfl, rfl, rfl, congrArg (fun q => some (vI q)) (by omega), trivial⟩ (ih_263 (k + 1) I_310 z_406 ((((b1 + 6) + 442) + 1) + 1) ((((b2 + 36) + 2652) + 6) + 6) (by omega) (by exact hL) (by omega) (by omega))
                    · skip
                      have hgq := hgp (by omega)
                      unfold gpO at hgq
                      rw [hR] at hgq
                      have hg0 : sG S t = 0 := by rcases hgq (by omega) t (by rw [show (((S 5).toNat : Nat) : Int) = S 5 by omega] at et_t; exact et_t) with q | q | q; omega; omega; exact q
                      refine gw_aload_n C 1 dL_law_412 rfl rfl ?_
                      refine gw_iload C dL_law_413 rfl ?_
                      refine gw_iconst C dL_law_415 ?_
                      refine gw_callSHm C (as := [vR 0, vI (t : Int), vI 5]) (st := []) (c_L_traverseOf hl0 G I_310 z0I hCI (t : Int) 5 (by first | omega | assumption | exact cellZ_i _ _) ⟨by decide, by decide⟩) dL_law_416 kL_216 qL_traverseOf hdL_traverseOf ⟨Nat.le_of_ble_eq_true rfl, Nat.le_of_ble_eq_true rfl⟩ ⟨(show _ ≤ 672096 from by omega), (show _ ≤ 7085481 from by omega)⟩ (Nat.le_of_ble_eq_true rfl) rfl (fun z_416 => ?_)
                      rw [show cdV (kTrav S (t : Int) 5) (rTrav S (t : Int).toNat 5) (-2000001) (-2000002) 0 = 0 from (w_tr htt (by decide)).trans ((rTr_w ⟨by omega, by omega⟩).1.trans hg0)]
                      refine gw_if_ne C (tgt := 426) dL_law_419 (by decide) ⟨by decide, by decide⟩ (fun h => absurd h (by decide)) (fun _ => ?_)
                      refine gw_iconst C dL_law_422 ?_
                      refine gw_goto C (tgt := 427) dL_law_423 (by decide) ?_
                      refine gw_istore C (lo1 := [some (vA G.2.2.2.2.2.1), some (vR 0), some (vR 231), some (vR 232), some (vR 233), some (vR 234), some (vR 235), some (vR 236), some (vR 237), some (vR 238), some (vI 1), some (vI tn), some (vI (k : Int)), some (vI zv), some (vI (t : Int))]) dL_law_427 (by decide) rfl ?_
                      refine gw_iinc C (lo1 := [some (vA G.2.2.2.2.2.1), some (vR 0), some (vR 231), some (vR 232), some (vR 233), some (vR 234), some (vR 235), some (vR 236), some (vR 237), some (vR 238), some (vI 1), some (vI tn), some (vI ((k : Int) + 1)), some (vI zv), some (vI (t : Int))]) dL_law_429 rfl (by decide) rfl ?_
                      refine gw_goto C (tgt := 263) dL_law_432 (by decide) ?_
                      exact gw_weak (lo' := [some (vA G.2.2.2.2.2.1), some (vR 0), some (vR 231), some (vR 232), some (vR 233), some (vR 234), some (vR 235), some (vR 236), some (vR 237), some (vR 238), some (vI 1), some (vI tn), some (vI (((k + 1) : Nat) : Int)), none, none]) ⟨rfl, rfl, rfl, rfl, rfl, rfl, rfl, rfl, rfl, rfl, rfl, rfl, congrArg (fun q => some (vI q)) (by omega), trivial⟩ (ih_263 (k + 1) I_310 z_416 (((((b1 + 6) + 442) + 1) + 1) + 1) (((((b2 + 36) + 2652) + 6) + 6) + 6) (by omega) (by exact hL) (by omega) (by omega))
              · skip
                skip
                refine gw_iconst C dL_law_359 ?_
                refine gw_goto C (tgt := 366) dL_law_360 (by decide) ?_
                refine gw_irem C dL_law_366 (by first | omega | assumption | exact cellZ_i _ _) ⟨by decide, by decide⟩ (by decide) ?_
                rw [show ((lowZ (sh5 zv) 60000000)).tmod 1 = ((lowZ (sh5 zv) 60000000) % 1) from Int.tmod_eq_emod_of_nonneg (by omega)]
                refine gw_istore C (lo1 := [some (vA G.2.2.2.2.2.1), some (vR 0), some (vR 231), some (vR 232), some (vR 233), some (vR 234), some (vR 235), some (vR 236), some (vR 237), some (vR 238), some (vI 1), some (vI tn), some (vI (k : Int)), some (vI zv), some (vI ((lowZ (sh5 zv) 60000000) % 1))]) dL_law_367 (by decide) rfl ?_
                refine gw_iload C dL_law_369 rfl ?_
                refine gw_if_eq C (tgt := 426) dL_law_371 (by decide) ⟨by decide, by decide⟩ (fun h => absurd h (by decide)) (fun _ => ?_)
                refine gw_iload C dL_law_374 rfl ?_
                refine gw_bipush C dL_law_376 rfl ?_
                refine gw_callSm C (as := [vI zv, vI 28]) (st := []) (c_L_low hl0 G I_310 z0I zv 28 hzi (by omega)) dL_law_378 kL_167 qL_low hdL_low ⟨Nat.le_of_ble_eq_true rfl, Nat.le_of_ble_eq_true rfl⟩ ⟨(show _ ≤ 672096 from by omega), (show _ ≤ 7085481 from by omega)⟩ (Nat.le_of_ble_eq_true rfl) rfl (fun z_378_2 => ?_)
                have hlw_378_2 := lowZ_b (x := zv) (n := 28) (by omega)
                refine gw_bipush C dL_law_381 rfl ?_
                refine gw_icmp_lt C (tgt := 422) dL_law_383 (by decide) (by first | omega | assumption | exact cellZ_i _ _) ⟨by decide, by decide⟩ (fun h_383_2 => ?_) (fun h_383_2 => ?_)
                · skip
                  refine gw_iconst C dL_law_422 ?_
                  refine gw_goto C (tgt := 427) dL_law_423 (by decide) ?_
                  refine gw_istore C (lo1 := [some (vA G.2.2.2.2.2.1), some (vR 0), some (vR 231), some (vR 232), some (vR 233), some (vR 234), some (vR 235), some (vR 236), some (vR 237), some (vR 238), some (vI 1), some (vI tn), some (vI (k : Int)), some (vI zv), some (vI ((lowZ (sh5 zv) 60000000) % 1))]) dL_law_427 (by decide) rfl ?_
                  refine gw_iinc C (lo1 := [some (vA G.2.2.2.2.2.1), some (vR 0), some (vR 231), some (vR 232), some (vR 233), some (vR 234), some (vR 235), some (vR 236), some (vR 237), some (vR 238), some (vI 1), some (vI tn), some (vI ((k : Int) + 1)), some (vI zv), some (vI ((lowZ (sh5 zv) 60000000) % 1))]) dL_law_429 rfl (by decide) rfl ?_
                  refine gw_goto C (tgt := 263) dL_law_432 (by decide) ?_
                  exact gw_weak (lo' := [some (vA G.2.2.2.2.2.1), some (vR 0), some (vR 231), some (vR 232), some (vR 233), some (vR 234), some (vR 235), some (vR 236), some (vR 237), some (vR 238), some (vI 1), some (vI tn), some (vI (((k + 1) : Nat) : Int)), none, none]) ⟨rfl, rfl, rfl, rfl, rfl, rfl, rfl, rfl, rfl, rfl, rfl, rfl, congrArg (fun q => some (vI q)) (by omega), trivial⟩ (ih_263 (k + 1) I_310 z_378_2 ((b1 + 6) + 442) ((b2 + 36) + 2652) (by omega) (by exact hL) (by omega) (by omega))
                · skip
                  refine gw_aload_n C 2 dL_law_386 rfl rfl ?_
                  refine gw_iconst C dL_law_387 ?_
                  refine gw_iald C 5 dL_law_388 xs_231 xn_231 (by omega) (by omega) (by decide) (fun hI_388_2 => ?_)
                  rw [show (I_310 231 5) = (((S 5).toNat : Nat) : Int) from by have e9 := lr_g (I := I_310) (k := 5) (by omega); rw [hR] at e9; omega] at hI_388_2 ⊢
                  refine gw_if_eq C (tgt := 422) dL_law_389 (by decide) hI_388_2 (fun _ => ?_) (fun h => absurd h (by omega))
                  refine gw_iconst C dL_law_422 ?_
                  refine gw_goto C (tgt := 427) dL_law_423 (by decide) ?_
                  refine gw_istore C (lo1 := [some (vA G.2.2.2.2.2.1), some (vR 0), some (vR 231), some (vR 232), some (vR 233), some (vR 234), some (vR 235), some (vR 236), some (vR 237), some (vR 238), some (vI 1), some (vI tn), some (vI (k : Int)), some (vI zv), some (vI ((lowZ (sh5 zv) 60000000) % 1))]) dL_law_427 (by decide) rfl ?_
                  refine gw_iinc C (lo1 := [some (vA G.2.2.2.2.2.1), some (vR 0), some (vR 231), some (vR 232), some (vR 233), some (vR 234), some (vR 235), some (vR 236), some (vR 237), some (vR 238), some (vI 1), some (vI tn), some (vI ((k : Int) + 1)), some (vI zv), some (vI ((lowZ (sh5 zv) 60000000) % 1))]) dL_law_429 rfl (by decide) rfl ?_
                  refine gw_goto C (tgt := 263) dL_law_432 (by decide) ?_
                  exact gw_weak (lo' := [some (vA G.2.2.2.2.2.1), some (vR 0), some (vR 231), some (vR 232), some (vR 233), some (vR 234), some (vR 235), some (vR 236), some (vR 237), some (vR 238), some (vI 1), some (vI tn), some (vI (((k + 1) : Nat) : Int)), none, none]) ⟨rfl, rfl, rfl, rfl, rfl, rfl, rfl, rfl, rfl, rfl, rfl, rfl, congrArg (fun q => some (vI q)) (by omega), trivial⟩ (ih_263 (k + 1) I_310 z_378_2 ((b1 + 6) + 442) ((b2 + 36) + 2652) (by omega) (by exact hL) (by omega) (by omega))
        exact gw_weak (lo' := [some (vA G.2.2.2.2.2.1), some (vR 0), some (vR 231), some (vR 232), some (vR 233), some (vR 234), some (vR 235), some (vR 236), some (vR 237), some (vR 238), some (vI 1), some (vI tn), some (vI (0 : Int)), none, none]) ⟨rfl, rfl, rfl, rfl, rfl, rfl, rfl, rfl, rfl, rfl, rfl, rfl, congrArg (fun q => some (vI q)) (by omega), trivial⟩ (loop_263 _ 0 K z_254 a1 a2 (by omega) (by exact hLI) (by omega) (Nat.lt_succ_self _))
      · skip
        refine gw_iload C dL_law_100 rfl ?_
        refine gw_if_eq C (tgt := 245) dL_law_102 (by decide) ⟨by decide, by decide⟩ (fun h => absurd h (by decide)) (fun _ => ?_)
        refine gw_aloadA_n C 0 dL_law_105 rfl rfl ?_
        refine gw_iconst C dL_law_106 ?_
        refine gw_iload C dL_law_107 rfl ?_
        refine gw_iadd C dL_law_109 ?_
        refine gw_callSm C (as := [vA G.2.2.2.2.2.1, vI (1 + (i : Int))]) (st := []) (c_L_cell hl0 G K z0I (1 + i) (by omega)) dL_law_110 kL_243 qL_cell hdL_cell ⟨Nat.le_of_ble_eq_true rfl, Nat.le_of_ble_eq_true rfl⟩ ⟨(show _ ≤ 672096 from by omega), (show _ ≤ 7085481 from by omega)⟩ (Nat.le_of_ble_eq_true rfl) rfl (fun z_110 => ?_)
        refine gw_ldc C (x := 2147483647) dL_law_113 kL_8 (by decide) ?_
        refine gw_iandY C (m31 (cellZ G (1 + i))) dL_law_115 (m31_e (cellZ G (1 + i))) ?_
        have hm31 := m31_b (cellZ G (1 + i))
        refine gw_sipush C dL_law_116 rfl ?_
        refine gw_idiv C dL_law_119 (by first | omega | assumption | exact cellZ_i _ _) ⟨by decide, by decide⟩ (by decide) ?_
        rw [show ((m31 (cellZ G (1 + i)))).tdiv 896 = ((m31 (cellZ G (1 + i))) / 896) from Int.tdiv_eq_ediv_of_nonneg (by omega)]
        obtain ⟨w, hw9⟩ : ∃ w, ((m31 (cellZ G (1 + i))) / 896) = w := ⟨_, rfl⟩
        have hwb : 0 ≤ w ∧ w ≤ 2396745 := by omega
        rw [hw9]
        refine gw_istore C (lo1 := [some (vA G.2.2.2.2.2.1), some (vR 0), some (vR 231), some (vR 232), some (vR 233), some (vR 234), some (vR 235), some (vR 236), some (vR 237), some (vR 238), some (vI 1), some (vI (i : Int)), some (vI w), none, none]) dL_law_120 (by decide) rfl ?_
        refine gw_iload C dL_law_122 rfl ?_
        refine gw_iconst C dL_law_124 ?_
        refine gw_icmp_ge C (tgt := 146) dL_law_125 (by decide) (by first | omega | assumption | exact cellZ_i _ _) ⟨by decide, by decide⟩ (fun h_125 => ?_) (fun h_125 => ?_)
        · skip
          refine gw_iload C dL_law_146 rfl ?_
          refine gw_bipush C dL_law_148 rfl ?_
          refine gw_icmp_ge C (tgt := 185) dL_law_150 (by decide) (by first | omega | assumption | exact cellZ_i _ _) ⟨by decide, by decide⟩ (fun h_150 => ?_) (fun h_150 => ?_)
          · skip
            refine gw_iload C dL_law_185 rfl ?_
            refine gw_bipush C dL_law_187 rfl ?_
            refine gw_icmp_ge C (tgt := 210) dL_law_189 (by decide) (by first | omega | assumption | exact cellZ_i _ _) ⟨by decide, by decide⟩ (fun h_189 => ?_) (fun h_189 => ?_)
            · skip
              refine gw_aload_n C 1 dL_law_210 rfl rfl ?_
              refine gw_aload_n C 2 dL_law_211 rfl rfl ?_
              refine gw_aload_n C 3 dL_law_212 rfl rfl ?_
              refine gw_aload C dL_law_213 rfl ?_
              refine gw_aload C dL_law_215 rfl ?_
              refine gw_aload C dL_law_217 rfl ?_
              refine gw_aload C dL_law_219 rfl ?_
              refine gw_aload C dL_law_221 rfl ?_
              refine gw_aload C dL_law_223 rfl ?_
              refine gw_iload C dL_law_225 rfl ?_
              refine gw_sipush C dL_law_227 rfl ?_
              refine gw_imul C dL_law_230 ?_
              refine gw_bipush C dL_law_231 rfl ?_
              refine gw_iadd C dL_law_233 ?_
              refine gw_callS C (as := [vR 0, vR 231, vR 232, vR 233, vR 234, vR 235, vR 236, vR 237, vR 238, vI ((w * 896) + 15)]) (st := []) (c_L_acts hl0 G K z0I hLI ((w * 896) + 15) (by first | omega | assumption | exact cellZ_i _ _)) dL_law_234 kL_247 qL_acts hdL_acts ⟨Nat.le_of_ble_eq_true rfl, Nat.le_of_ble_eq_true rfl⟩ ⟨(show _ ≤ 672096 from by omega), (show _ ≤ 7085481 from by omega)⟩ (Nat.le_of_ble_eq_true rfl) rfl (fun _ _ _ _ h => h.elim) ?_
              intro v_234 z_234_2 I_234 J_234 hv_234
              obtain ⟨ev, ⟨hL, hgp⟩, eJ⟩ := hv_234
              rw [ev, eJ]
              show GW G p l e room_1 s m args below meth c 15 z_234_2 N0 SH RR I_234 z0I (a1 + 6) (a2 + 36) Q 237 [some (vA G.2.2.2.2.2.1), some (vR 0), some (vR 231), some (vR 232), some (vR 233), some (vR 234), some (vR 235), some (vR 236), some (vR 237), some (vR 238), some (vI 1), some (vI (i : Int)), some (vI w), none, none] [vI 1]
              refine gw_istore C (lo1 := [some (vA G.2.2.2.2.2.1), some (vR 0), some (vR 231), some (vR 232), some (vR 233), some (vR 234), some (vR 235), some (vR 236), some (vR 237), some (vR 238), some (vI 1), some (vI (i : Int)), some (vI w), none, none]) dL_law_237 (by decide) rfl ?_
              refine gw_iinc C (lo1 := [some (vA G.2.2.2.2.2.1), some (vR 0), some (vR 231), some (vR 232), some (vR 233), some (vR 234), some (vR 235), some (vR 236), some (vR 237), some (vR 238), some (vI 1), some (vI ((i : Int) + 1)), some (vI w), none, none]) dL_law_239 rfl (by decide) rfl ?_
              refine gw_goto C (tgt := 93) dL_law_242 (by decide) ?_
              exact gw_weak (lo' := [some (vA G.2.2.2.2.2.1), some (vR 0), some (vR 231), some (vR 232), some (vR 233), some (vR 234), some (vR 235), some (vR 236), some (vR 237), some (vR 238), some (vI 1), some (vI (((i + 1) : Nat) : Int)), none, none, none]) ⟨rfl, rfl, rfl, rfl, rfl, rfl, rfl, rfl, rfl, rfl, rfl, congrArg (fun q => some (vI q)) (by omega), trivial⟩ (ih_93 (i + 1) I_234 z_234_2 (a1 + 6) (a2 + 36) (by omega) (by exact hL) (by omega) (by omega))
            · skip
              refine gw_aload_n C 1 dL_law_192 rfl rfl ?_
              refine gw_aload_n C 2 dL_law_193 rfl rfl ?_
              refine gw_aload_n C 3 dL_law_194 rfl rfl ?_
              refine gw_aload C dL_law_195 rfl ?_
              refine gw_aload C dL_law_197 rfl ?_
              refine gw_aload C dL_law_199 rfl ?_
              refine gw_iload C dL_law_201 rfl ?_
              refine gw_iconst C dL_law_203 ?_
              refine gw_callS C (as := [vR 0, vR 231, vR 232, vR 233, vR 234, vR 235, vI w, vI 3]) (st := []) (c_L_lays3 hl0 G K z0I hLI w (by omega)) dL_law_204 kL_170 qL_lays hdL_lays ⟨Nat.le_of_ble_eq_true rfl, Nat.le_of_ble_eq_true rfl⟩ ⟨(show _ ≤ 672096 from by omega), (show _ ≤ 7085481 from by omega)⟩ (Nat.le_of_ble_eq_true rfl) rfl (fun _ _ _ _ h => h.elim) ?_
              intro v_204 z_204_2 I_204 J_204 hv_204
              obtain ⟨ev, hL, eJ⟩ := hv_204
              rw [ev, eJ]
              show GW G p l e room_1 s m args below meth c 15 z_204_2 N0 SH RR I_204 z0I (a1 + 4) (a2 + 24) Q 207 [some (vA G.2.2.2.2.2.1), some (vR 0), some (vR 231), some (vR 232), some (vR 233), some (vR 234), some (vR 235), some (vR 236), some (vR 237), some (vR 238), some (vI 1), some (vI (i : Int)), some (vI w), none, none] [vI 1]
              refine gw_goto C (tgt := 237) dL_law_207 (by decide) ?_
              refine gw_istore C (lo1 := [some (vA G.2.2.2.2.2.1), some (vR 0), some (vR 231), some (vR 232), some (vR 233), some (vR 234), some (vR 235), some (vR 236), some (vR 237), some (vR 238), some (vI 1), some (vI (i : Int)), some (vI w), none, none]) dL_law_237 (by decide) rfl ?_
              refine gw_iinc C (lo1 := [some (vA G.2.2.2.2.2.1), some (vR 0), some (vR 231), some (vR 232), some (vR 233), some (vR 234), some (vR 235), some (vR 236), some (vR 237), some (vR 238), some (vI 1), some (vI ((i : Int) + 1)), some (vI w), none, none]) dL_law_239 rfl (by decide) rfl ?_
              refine gw_goto C (tgt := 93) dL_law_242 (by decide) ?_
              exact gw_weak (lo' := [some (vA G.2.2.2.2.2.1), some (vR 0), some (vR 231), some (vR 232), some (vR 233), some (vR 234), some (vR 235), some (vR 236), some (vR 237), some (vR 238), some (vI 1), some (vI (((i + 1) : Nat) : Int)), none, none, none]) ⟨rfl, rfl, rfl, rfl, rfl, rfl, rfl, rfl, rfl, rfl, rfl, congrArg (fun q => some (vI q)) (by omega), trivial⟩ (ih_93 (i + 1) I_204 z_204_2 (a1 + 4) (a2 + 24) (by omega) (by exact hL) (by omega) (by omega))
          · skip
            refine gw_aload_n C 1 dL_law_153 rfl rfl ?_
            refine gw_aload_n C 2 dL_law_154 rfl rfl ?_
            refine gw_aload_n C 3 dL_law_155 rfl rfl ?_
            refine gw_aload C dL_law_156 rfl ?_
            refine gw_aload C dL_law_158 rfl ?_
            refine gw_aload C dL_law_160 rfl ?_
            refine gw_iload C dL_law_162 rfl ?_
            refine gw_bipush C dL_law_164 rfl ?_
            refine gw_idiv C dL_law_166 (by first | omega | assumption | exact cellZ_i _ _) ⟨by decide, by decide⟩ (by decide) ?_
            rw [show (w).tdiv 6 = (w / 6) from Int.tdiv_eq_ediv_of_nonneg (by omega)]
            refine gw_ldc C (x := 200000) dL_law_167 kL_148 (by decide) ?_
            refine gw_irem C dL_law_169 (by first | omega | assumption | exact cellZ_i _ _) ⟨by decide, by decide⟩ (by decide) ?_
            rw [show ((w / 6)).tmod 200000 = ((w / 6) % 200000) from Int.tmod_eq_emod_of_nonneg (by omega)]
            refine gw_bipush C dL_law_170 rfl ?_
            refine gw_imul C dL_law_172 ?_
            refine gw_iload C dL_law_173 rfl ?_
            refine gw_iconst C dL_law_175 ?_
            refine gw_irem C dL_law_176 (by first | omega | assumption | exact cellZ_i _ _) ⟨by decide, by decide⟩ (by decide) ?_
            rw [show ((i : Int)).tmod 3 = ((i : Int) % 3) from Int.tmod_eq_emod_of_nonneg (by omega)]
            refine gw_iadd C dL_law_177 ?_
            refine gw_iconst C dL_law_178 ?_
            refine gw_callS C (as := [vR 0, vR 231, vR 232, vR 233, vR 234, vR 235, vI ((((w / 6) % 200000) * 6) + ((i : Int) % 3)), vI 1]) (st := []) (c_L_lays1 hl0 G K z0I hLI ((((w / 6) % 200000) * 6) + ((i : Int) % 3)) (by omega)) dL_law_179 kL_170 qL_lays hdL_lays ⟨Nat.le_of_ble_eq_true rfl, Nat.le_of_ble_eq_true rfl⟩ ⟨(show _ ≤ 672096 from by omega), (show _ ≤ 7085481 from by omega)⟩ (Nat.le_of_ble_eq_true rfl) rfl (fun _ _ _ _ h => h.elim) ?_
            intro v_179 z_179_2 I_179 J_179 hv_179
            obtain ⟨ev, hL, eJ⟩ := hv_179
            rw [ev, eJ]
            show GW G p l e room_1 s m args below meth c 15 z_179_2 N0 SH RR I_179 z0I (a1 + 4) (a2 + 24) Q 182 [some (vA G.2.2.2.2.2.1), some (vR 0), some (vR 231), some (vR 232), some (vR 233), some (vR 234), some (vR 235), some (vR 236), some (vR 237), some (vR 238), some (vI 1), some (vI (i : Int)), some (vI w), none, none] [vI 1]
            refine gw_goto C (tgt := 237) dL_law_182 (by decide) ?_
            refine gw_istore C (lo1 := [some (vA G.2.2.2.2.2.1), some (vR 0), some (vR 231), some (vR 232), some (vR 233), some (vR 234), some (vR 235), some (vR 236), some (vR 237), some (vR 238), some (vI 1), some (vI (i : Int)), some (vI w), none, none]) dL_law_237 (by decide) rfl ?_
            refine gw_iinc C (lo1 := [some (vA G.2.2.2.2.2.1), some (vR 0), some (vR 231), some (vR 232), some (vR 233), some (vR 234), some (vR 235), some (vR 236), some (vR 237), some (vR 238), some (vI 1), some (vI ((i : Int) + 1)), some (vI w), none, none]) dL_law_239 rfl (by decide) rfl ?_
            refine gw_goto C (tgt := 93) dL_law_242 (by decide) ?_
            exact gw_weak (lo' := [some (vA G.2.2.2.2.2.1), some (vR 0), some (vR 231), some (vR 232), some (vR 233), some (vR 234), some (vR 235), some (vR 236), some (vR 237), some (vR 238), some (vI 1), some (vI (((i + 1) : Nat) : Int)), none, none, none]) ⟨rfl, rfl, rfl, rfl, rfl, rfl, rfl, rfl, rfl, rfl, rfl, congrArg (fun q => some (vI q)) (by omega), trivial⟩ (ih_93 (i + 1) I_179 z_179_2 (a1 + 4) (a2 + 24) (by omega) (by exact hL) (by omega) (by omega))
        · skip
          refine gw_aload_n C 1 dL_law_128 rfl rfl ?_
          refine gw_aload_n C 2 dL_law_129 rfl rfl ?_
          refine gw_aload_n C 3 dL_law_130 rfl rfl ?_
          refine gw_aload C dL_law_131 rfl ?_
          refine gw_aload C dL_law_133 rfl ?_
          refine gw_aload C dL_law_135 rfl ?_
          refine gw_iload C dL_law_137 rfl ?_
          refine gw_iconst C dL_law_139 ?_
          refine gw_callS C (as := [vR 0, vR 231, vR 232, vR 233, vR 234, vR 235, vI w, vI 0]) (st := []) (c_L_lays0 hl0 G K z0I hLI w (by omega)) dL_law_140 kL_170 qL_lays hdL_lays ⟨Nat.le_of_ble_eq_true rfl, Nat.le_of_ble_eq_true rfl⟩ ⟨(show _ ≤ 672096 from by omega), (show _ ≤ 7085481 from by omega)⟩ (Nat.le_of_ble_eq_true rfl) rfl (fun _ _ _ _ h => h.elim) ?_
          intro v_140 z_140_2 I_140 J_140 hv_140
          obtain ⟨ev, hL, eJ⟩ := hv_140
          rw [ev, eJ]
          show GW G p l e room_1 s m args below meth c 15 z_140_2 N0 SH RR I_140 z0I (a1 + 4) (a2 + 24) Q 143 [some (vA G.2.2.2.2.2.1), some (vR 0), some (vR 231), some (vR 232), some (vR 233), some (vR 234), some (vR 235), some (vR 236), some (vR 237), some (vR 238), some (vI 1), some (vI (i : Int)), some (vI w), none, none] [vI 1]
          refine gw_goto C (tgt := 237) dL_law_143 (by decide) ?_
          refine gw_istore C (lo1 := [some (vA G.2.2.2.2.2.1), some (vR 0), some (vR 231), some (vR 232), some (vR 233), some (vR 234), some (vR 235), some (vR 236), some (vR 237), some (vR 238), some (vI 1), some (vI (i : Int)), some (vI w), none, none]) dL_law_237 (by decide) rfl ?_
          refine gw_iinc C (lo1 := [some (vA G.2.2.2.2.2.1), some (vR 0), some (vR 231), some (vR 232), some (vR 233), some (vR 234), some (vR 235), some (vR 236), some (vR 237), some (vR 238), some (vI 1), some (vI ((i : Int) + 1)), some (vI w), none, none]) dL_law_239 rfl (by decide) rfl ?_
          refine gw_goto C (tgt := 93) dL_law_242 (by decide) ?_
          exact gw_weak (lo' := [some (vA G.2.2.2.2.2.1), some (vR 0), some (vR 231), some (vR 232), some (vR 233), some (vR 234), some (vR 235), some (vR 236), some (vR 237), some (vR 238), some (vI 1), some (vI (((i + 1) : Nat) : Int)), none, none, none]) ⟨rfl, rfl, rfl, rfl, rfl, rfl, rfl, rfl, rfl, rfl, rfl, congrArg (fun q => some (vI q)) (by omega), trivial⟩ (ih_93 (i + 1) I_140 z_140_2 (a1 + 4) (a2 + 24) (by omega) (by exact hL) (by omega) (by omega))
  exact gw_weak (lo' := [some (vA G.2.2.2.2.2.1), some (vR 0), some (vR 231), some (vR 232), some (vR 233), some (vR 234), some (vR 235), some (vR 236), some (vR 237), some (vR 238), some (vI 1), some (vI (0 : Int)), none, none, none]) ⟨rfl, rfl, rfl, rfl, rfl, rfl, rfl, rfl, rfl, rfl, rfl, congrArg (fun q => some (vI q)) (by omega), trivial⟩ (loop_93 _ 0 II0 z_85 681 5314 (by omega) (by exact hLI) (by omega) (Nat.lt_succ_self _))
set_option maxHeartbeats 4000000 in
set_option maxRecDepth 100000 in
theorem law_all {l : Launch} (hl0 : l.stackTraces = false) {G : GG} {p : Program} {e : Env} {s : State} {m : MethodId} {args : Array Value} {below : List Frame} {meth : Method} {c : Code} {Q : State → Prop} {nm9 : String} (C : gC G p l s m args meth c cL_law 15 RL (some .boolean) nm9) (hQ : ∀ (z : Nat) (I J : GI) (k1 k2 : Nat) (lo : List (Option GV)), k1 ≤ 672096 → k2 ≤ 7085481 → GW G p l e room_1 s m args below meth c 15 z N0 SH RR I J k1 k2 Q 532 lo [vI 1]) : GW G p l e room_1 s m args below meth c 15 0 0 z0S z0R z0I z0I 0 0 Q 0 [some (vA G.2.2.2.2.2.1), none, none, none, none, none, none, none, none, none, none, none, none, none, none] [] := by
  have fr0 : gFr 0 z0R z0I z0I := fun _ _ _ => ⟨rfl, rfl, rfl⟩
  refine gw_new C (ci := 6) (Cn := RX7) (T0 := TX7) (N := 3) tyX7 tyX7_ok (by intro j hj; match j, hj with | 0, _ => rfl | 1, _ => rfl | 2, _ => rfl) fX7 rfl rfl kL_10 mX7 nX7 dL_law_0 rfl fr0 (Nat.le_of_ble_eq_true rfl) (Nat.le_of_ble_eq_true rfl) ?_
  have fr1 : gFr 1 z0R z0I z0I := fr0.mono (by omega)
  refine gw_dupR C dL_law_3 ?_
  refine gw_callI C (as := []) (st := [vR 0]) (c_X7_init hl0 G rfl fr1 (by rw [upS_eq]) (by omega)) dL_law_4 kL_238 rfl qX7_init hdX7_init ⟨(Nat.le_of_ble_eq_true rfl), (Nat.le_of_ble_eq_true rfl)⟩ ⟨(Nat.le_of_ble_eq_true rfl), (Nat.le_of_ble_eq_true rfl)⟩ (Nat.le_of_ble_eq_true rfl) rfl ?_
  rintro z1 n1 sh1 R1 I1 J1 ⟨e1, e2, e3, e4, e5, e6⟩
  subst z1 n1 sh1 R1 I1 J1
  show GW G p l e room_1 s m args below meth c 15 231 231 (plumbS (upS z0S 0 (.inl 6)) 1) RR (plumbI z0I 1) z0I 231 2448 Q 7 [some (vA G.2.2.2.2.2.1), none, none, none, none, none, none, none, none, none, none, none, none, none, none] [vR 0]
  have fr2 : gFr 231 RR (plumbI z0I 1) z0I := c_fr_X7_init fr1 (by omega)
  refine gw_astore_n C (lo1 := [some (vA G.2.2.2.2.2.1), some (vR 0), none, none, none, none, none, none, none, none, none, none, none, none, none]) 1 dL_law_7 rfl (by decide) rfl ?_
  refine gw_bipush C dL_law_8 rfl ?_
  have fr0_ : gFr 231 RR (plumbI z0I 1) z0I := fr2.mono (by omega)
  refine gw_newarr C (len := 6) (t := 0) (ty := .int) rfl a_int rfl rfl (fun _ => rfl) dL_law_10 (by decide) (by decide) rfl fr0_ (Nat.le_of_ble_eq_true rfl) (Nat.le_of_ble_eq_true rfl) ?_
  refine gw_astore_n C (lo1 := [some (vA G.2.2.2.2.2.1), some (vR 0), some (vR 231), none, none, none, none, none, none, none, none, none, none, none, none]) 2 dL_law_12 rfl (by decide) rfl ?_
  refine gw_bipush C dL_law_13 rfl ?_
  have fr1_ : gFr 232 RR (plumbI z0I 1) z0I := fr2.mono (by omega)
  refine gw_newarr C (len := 12) (t := 0) (ty := .int) rfl a_int rfl rfl (fun _ => rfl) dL_law_15 (by decide) (by decide) rfl fr1_ (Nat.le_of_ble_eq_true rfl) (Nat.le_of_ble_eq_true rfl) ?_
  refine gw_astore_n C (lo1 := [some (vA G.2.2.2.2.2.1), some (vR 0), some (vR 231), some (vR 232), none, none, none, none, none, none, none, none, none, none, none]) 3 dL_law_17 rfl (by decide) rfl ?_
  refine gw_bipush C dL_law_18 rfl ?_
  have fr2_ : gFr 233 RR (plumbI z0I 1) z0I := fr2.mono (by omega)
  refine gw_newarr C (len := 6) (t := 0) (ty := .int) rfl a_int rfl rfl (fun _ => rfl) dL_law_20 (by decide) (by decide) rfl fr2_ (Nat.le_of_ble_eq_true rfl) (Nat.le_of_ble_eq_true rfl) ?_
  refine gw_astore C (lo1 := [some (vA G.2.2.2.2.2.1), some (vR 0), some (vR 231), some (vR 232), some (vR 233), none, none, none, none, none, none, none, none, none, none]) dL_law_22 (by decide) rfl ?_
  refine gw_bipush C dL_law_24 rfl ?_
  have fr3_ : gFr 234 RR (plumbI z0I 1) z0I := fr2.mono (by omega)
  refine gw_newarr C (len := 54) (t := 0) (ty := .int) rfl a_int rfl rfl (fun _ => rfl) dL_law_26 (by decide) (by decide) rfl fr3_ (Nat.le_of_ble_eq_true rfl) (Nat.le_of_ble_eq_true rfl) ?_
  refine gw_astore C (lo1 := [some (vA G.2.2.2.2.2.1), some (vR 0), some (vR 231), some (vR 232), some (vR 233), some (vR 234), none, none, none, none, none, none, none, none, none]) dL_law_28 (by decide) rfl ?_
  refine gw_bipush C dL_law_30 rfl ?_
  have fr4_ : gFr 235 RR (plumbI z0I 1) z0I := fr2.mono (by omega)
  refine gw_newarr C (len := 24) (t := 0) (ty := .int) rfl a_int rfl rfl (fun _ => rfl) dL_law_32 (by decide) (by decide) rfl fr4_ (Nat.le_of_ble_eq_true rfl) (Nat.le_of_ble_eq_true rfl) ?_
  refine gw_astore C (lo1 := [some (vA G.2.2.2.2.2.1), some (vR 0), some (vR 231), some (vR 232), some (vR 233), some (vR 234), some (vR 235), none, none, none, none, none, none, none, none]) dL_law_34 (by decide) rfl ?_
  refine gw_bipush C dL_law_36 rfl ?_
  have fr5_ : gFr 236 RR (plumbI z0I 1) z0I := fr2.mono (by omega)
  refine gw_newarr C (len := 16) (t := 0) (ty := .int) rfl a_int rfl rfl (fun _ => rfl) dL_law_38 (by decide) (by decide) rfl fr5_ (Nat.le_of_ble_eq_true rfl) (Nat.le_of_ble_eq_true rfl) ?_
  refine gw_astore C (lo1 := [some (vA G.2.2.2.2.2.1), some (vR 0), some (vR 231), some (vR 232), some (vR 233), some (vR 234), some (vR 235), some (vR 236), none, none, none, none, none, none, none]) dL_law_40 (by decide) rfl ?_
  refine gw_bipush C dL_law_42 rfl ?_
  have fr6_ : gFr 237 RR (plumbI z0I 1) z0I := fr2.mono (by omega)
  refine gw_newarr C (len := 48) (t := 0) (ty := .int) rfl a_int rfl rfl (fun _ => rfl) dL_law_44 (by decide) (by decide) rfl fr6_ (Nat.le_of_ble_eq_true rfl) (Nat.le_of_ble_eq_true rfl) ?_
  refine gw_astore C (lo1 := [some (vA G.2.2.2.2.2.1), some (vR 0), some (vR 231), some (vR 232), some (vR 233), some (vR 234), some (vR 235), some (vR 236), some (vR 237), none, none, none, none, none, none]) dL_law_46 (by decide) rfl ?_
  refine gw_bipush C dL_law_48 rfl ?_
  have fr7_ : gFr 238 RR (plumbI z0I 1) z0I := fr2.mono (by omega)
  refine gw_newarr C (len := 48) (t := 0) (ty := .int) rfl a_int rfl rfl (fun _ => rfl) dL_law_50 (by decide) (by decide) rfl fr7_ (Nat.le_of_ble_eq_true rfl) (Nat.le_of_ble_eq_true rfl) ?_
  refine gw_astore C (lo1 := [some (vA G.2.2.2.2.2.1), some (vR 0), some (vR 231), some (vR 232), some (vR 233), some (vR 234), some (vR 235), some (vR 236), some (vR 237), some (vR 238), none, none, none, none, none]) dL_law_52 (by decide) rfl ?_
  show GW G p l e room_1 s m args below meth c 15 239 N0 SH RR (plumbI z0I 1) z0I 239 2662 Q 54 [some (vA G.2.2.2.2.2.1), some (vR 0), some (vR 231), some (vR 232), some (vR 233), some (vR 234), some (vR 235), some (vR 236), some (vR 237), some (vR 238), none, none, none, none, none] []
  refine gw_aload_n C 2 dL_law_54 rfl rfl ?_
  refine gw_iconst C dL_law_55 ?_
  refine gw_bipush C dL_law_56 rfl ?_
  refine gw_iast C 0 dL_law_58 xs_231 xn_231 rfl (by decide) (by decide) ⟨by decide, by decide⟩ ?_
  refine gw_aload_n C 2 dL_law_59 rfl rfl ?_
  refine gw_iconst C dL_law_60 ?_
  refine gw_bipush C dL_law_61 rfl ?_
  refine gw_iast C 1 dL_law_63 xs_231 xn_231 rfl (by decide) (by decide) ⟨by decide, by decide⟩ ?_
  refine gw_aload_n C 2 dL_law_64 rfl rfl ?_
  refine gw_iconst C dL_law_65 ?_
  refine gw_sipush C dL_law_66 rfl ?_
  refine gw_iast C 2 dL_law_69 xs_231 xn_231 rfl (by decide) (by decide) ⟨by decide, by decide⟩ ?_
  exact law_body hl0 C hQ
