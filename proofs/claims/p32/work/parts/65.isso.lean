theorem rJo_i {S : Nat → Int} {k i : Nat} (hi : i < 6) : rJoinOf S k (i : Int) = S (78 + 6 * k + i) := by
  rcases (show i = 0 ∨ i = 1 ∨ i = 2 ∨ i = 3 ∨ i = 4 ∨ i = 5 by omega) with h | h | h | h | h | h <;> subst h
  · unfold rJoinOf; rw [if_pos (by decide)]; rfl
  · unfold rJoinOf; rw [if_neg (by decide), if_pos (by decide)]; congr 1; omega
  · unfold rJoinOf; rw [if_neg (by decide), if_neg (by decide), if_pos (by decide)]; congr 1; omega
  · unfold rJoinOf; rw [if_neg (by decide), if_neg (by decide), if_neg (by decide), if_pos (by decide)]; congr 1; omega
  · unfold rJoinOf; rw [if_neg (by decide), if_neg (by decide), if_neg (by decide), if_neg (by decide), if_pos (by decide)]; congr 1; omega
  · unfold rJoinOf; rw [if_neg (by decide), if_neg (by decide), if_neg (by decide), if_neg (by decide), if_neg (by decide), if_pos (by decide)]; congr 1; omega
theorem rJo_6 {S : Nat → Int} {k : Nat} : rJoinOf S k 6 = sJ S k ∧ (sJ S k ≠ 0 → rJoinOf S k 7 = -2000000000) ∧ (sJ S k = 0 → rJoinOf S k 7 = sS0 S k) := by
  refine ⟨?_, fun h => ?_, fun h => ?_⟩ <;> unfold rJoinOf
  · (repeat rw [if_neg (by decide)]); rw [if_pos rfl]
  · (repeat rw [if_neg (by decide)]); rw [if_pos h]
  · (repeat rw [if_neg (by decide)]); rw [if_neg (fun q => q h)]
theorem rIn_q {S : Nat → Int} {q : Nat} (h : q < 6) : rInfo S (q : Int) = S q := by
  rcases (show q = 0 ∨ q = 1 ∨ q = 2 ∨ q = 3 ∨ q = 4 ∨ q = 5 by omega) with h | h | h | h | h | h <;> subst h <;> unfold rInfo
  · (repeat rw [if_neg (by decide)]); rfl
  · (repeat rw [if_neg (by decide)]); rfl
  · (repeat rw [if_neg (by decide)]); rfl
  · rw [if_pos (by decide)]
  · rw [if_neg (by decide), if_pos (by decide)]
  · rw [if_neg (by decide), if_neg (by decide), if_pos (by decide)]
set_option maxHeartbeats 4000000 in
set_option maxRecDepth 100000 in
theorem c_L_isSo {l : Launch} (hl0 : l.stackTraces = false) (G : GG) (I J : GI) {z : Nat} {S : Nat → Int} {D9 : Nat → Nat → Int} {c9 : Nat} (hCI : CI I S D9 c9) (hR : rowL I = S) : GM l yL_isSo (.code yL_isSo cL_isSo 15 (some .boolean)) 10 213 442 2652 G N0 SH RR [vR 0, vR 231, vR 232, vR 233, vR 234, vR 235, vR 236, vR 237, vR 238] z I J (memQ (some (vI 1)) I J) gNo := by
  refine gm_of (lo0 := [some (vR 0), some (vR 231), some (vR 232), some (vR 233), some (vR 234), some (vR 235), some (vR 236), some (vR 237), some (vR 238), none, none, none, none, none, none]) hl0 (by decide) rfl (Nat.le_of_ble_eq_true rfl) ?_
  intro p e s m args below meth c C ht hgi
  have C : gC G p l s m args meth c cL_isSo 15 RL (some .boolean) "isSo" := C
  have ho := hCI.1.1.2.1
  have h0 := ho.1
  have h3 := ho.2.1
  refine gw_iconst C dL_isSo_0 ?_
  refine gw_istore C (lo1 := [some (vR 0), some (vR 231), some (vR 232), some (vR 233), some (vR 234), some (vR 235), some (vR 236), some (vR 237), some (vR 238), some (vI 0), none, none, none, none, none]) dL_isSo_1 (by decide) rfl ?_
  refine gw_iconst C dL_isSo_3 ?_
  refine gw_istore C (lo1 := [some (vR 0), some (vR 231), some (vR 232), some (vR 233), some (vR 234), some (vR 235), some (vR 236), some (vR 237), some (vR 238), some (vI 0), some (vI 0), none, none, none, none]) dL_isSo_4 (by decide) rfl ?_
  refine gw_iconst C dL_isSo_6 ?_
  refine gw_istore C (lo1 := [some (vR 0), some (vR 231), some (vR 232), some (vR 233), some (vR 234), some (vR 235), some (vR 236), some (vR 237), some (vR 238), some (vI 0), some (vI 0), some (vI 1), none, none, none]) dL_isSo_7 (by decide) rfl ?_
  refine gw_iconst C dL_isSo_9 ?_
  refine gw_istore C (lo1 := [some (vR 0), some (vR 231), some (vR 232), some (vR 233), some (vR 234), some (vR 235), some (vR 236), some (vR 237), some (vR 238), some (vI 0), some (vI 0), some (vI 1), some (vI 0), none, none]) dL_isSo_10 (by decide) rfl ?_
  have loop_12 : ∀ (fuel : Nat) (pt : Int) (w : Nat) (zw : Nat) (a1 : Nat) (a2 : Nat), ((w : Int) ≤ S 3) → (pt = smF w (fun k => S (8 + 12 * k))) → (a1 ≤ 7 * w ∧ a2 ≤ 42 * w) → (S 3).toNat + 1 - w < fuel → GW G p l e ({ frames := 10, cells := 442, slots := 2652, locals := 213 } : Room) s m args below meth c 15 zw N0 SH RR I J a1 a2 (vx_MQ below (GQ G N0 SH RR (memQ (some (vI 1)) I J)) (GX G N0 SH RR gNo) args s 442 2652 (ge G)) 12 [some (vR 0), some (vR 231), some (vR 232), some (vR 233), some (vR 234), some (vR 235), some (vR 236), some (vR 237), some (vR 238), some (vI pt), some (vI 0), some (vI 1), some (vI (w : Int)), none, none] [] := by
    intro fuel
    induction fuel with
    | zero => intro pt w zw a1 a2 hwb hpt ha hf_12; exact absurd hf_12 (Nat.not_lt_zero _)
    | succ fuel ih_12 =>
      intro pt w zw a1 a2 hwb hpt ha hf_12
      refine gw_iload C dL_isSo_12 rfl ?_
      refine gw_aload_n C 1 dL_isSo_14 rfl rfl ?_
      refine gw_iconst C dL_isSo_15 ?_
      refine gw_iald C 3 dL_isSo_16 xs_231 xn_231 (by omega) (by omega) (by decide) (fun hI_16 => ?_)
      rw [show (I 231 3) = (((S 3).toNat : Nat) : Int) from by have e9 := lr_g (I := I) (k := 3) (by omega); rw [hR] at e9; omega] at hI_16 ⊢
      refine gw_icmp_ge C (tgt := 163) dL_isSo_17 (by decide) (by first | omega | assumption | exact hgi _ _) hI_16 (fun h_17 => ?_) (fun h_17 => ?_)
      · skip
        refine gw_iconst C dL_isSo_163 ?_
        refine gw_istore C (lo1 := [some (vR 0), some (vR 231), some (vR 232), some (vR 233), some (vR 234), some (vR 235), some (vR 236), some (vR 237), some (vR 238), some (vI pt), some (vI 0), some (vI 1), some (vI 0), none, none]) dL_isSo_164 (by decide) rfl ?_
        have loop_166 : ∀ (fuel : Nat) (k : Nat) (zk : Nat) (b1 : Nat) (b2 : Nat), ((k : Int) ≤ S 4) → (b1 ≤ 42 + 9 * k ∧ b2 ≤ 252 + 54 * k) → (S 4).toNat + 1 - k < fuel → GW G p l e ({ frames := 10, cells := 442, slots := 2652, locals := 213 } : Room) s m args below meth c 15 zk N0 SH RR I J b1 b2 (vx_MQ below (GQ G N0 SH RR (memQ (some (vI 1)) I J)) (GX G N0 SH RR gNo) args s 442 2652 (ge G)) 166 [some (vR 0), some (vR 231), some (vR 232), some (vR 233), some (vR 234), some (vR 235), some (vR 236), some (vR 237), some (vR 238), some (vI pt), some (vI 0), some (vI 1), some (vI (k : Int)), none, none] [] := by
          intro fuel
          induction fuel with
          | zero => intro k zk b1 b2 hkb hb hf_166; exact absurd hf_166 (Nat.not_lt_zero _)
          | succ fuel ih_166 =>
            intro k zk b1 b2 hkb hb hf_166
            refine gw_iload C dL_isSo_166 rfl ?_
            refine gw_aload_n C 1 dL_isSo_168 rfl rfl ?_
            refine gw_iconst C dL_isSo_169 ?_
            refine gw_iald C 4 dL_isSo_170 xs_231 xn_231 (by omega) (by omega) (by decide) (fun hI_170 => ?_)
            rw [show (I 231 4) = (((S 4).toNat : Nat) : Int) from by have e9 := lr_g (I := I) (k := 4) (by omega); rw [hR] at e9; omega] at hI_170 ⊢
            refine gw_icmp_ge C (tgt := 312) dL_isSo_171 (by decide) (by first | omega | assumption | exact hgi _ _) hI_170 (fun h_171 => ?_) (fun h_171 => ?_)
            · skip
              refine gw_iconst C dL_isSo_312 ?_
              refine gw_istore C (lo1 := [some (vR 0), some (vR 231), some (vR 232), some (vR 233), some (vR 234), some (vR 235), some (vR 236), some (vR 237), some (vR 238), some (vI pt), some (vI 0), some (vI 1), some (vI 0), none, none]) dL_isSo_313 (by decide) rfl ?_
              have loop_315 : ∀ (fuel : Nat) (lg : Int) (t : Nat) (zt : Nat) (e1 : Nat) (e2 : Nat), ((t : Int) ≤ S 5) → (lg = smF t (fun k => S (103 + 28 * k))) → (e1 ≤ 78 + 89 * t ∧ e2 ≤ 468 + 534 * t) → (S 5).toNat + 1 - t < fuel → GW G p l e ({ frames := 10, cells := 442, slots := 2652, locals := 213 } : Room) s m args below meth c 15 zt N0 SH RR I J e1 e2 (vx_MQ below (GQ G N0 SH RR (memQ (some (vI 1)) I J)) (GX G N0 SH RR gNo) args s 442 2652 (ge G)) 315 [some (vR 0), some (vR 231), some (vR 232), some (vR 233), some (vR 234), some (vR 235), some (vR 236), some (vR 237), some (vR 238), some (vI pt), some (vI lg), some (vI 1), some (vI (t : Int)), none, none] [] := by
                intro fuel
                induction fuel with
                | zero => intro lg t zt e1 e2 htb hlg he hf_315; exact absurd hf_315 (Nat.not_lt_zero _)
                | succ fuel ih_315 =>
                  intro lg t zt e1 e2 htb hlg he hf_315
                  refine gw_iload C dL_isSo_315 rfl ?_
                  refine gw_aload_n C 1 dL_isSo_317 rfl rfl ?_
                  refine gw_iconst C dL_isSo_318 ?_
                  refine gw_iald C 5 dL_isSo_319 xs_231 xn_231 (by omega) (by omega) (by decide) (fun hI_319 => ?_)
                  rw [show (I 231 5) = (((S 5).toNat : Nat) : Int) from by have e9 := lr_g (I := I) (k := 5) (by omega); rw [hR] at e9; omega] at hI_319 ⊢
                  refine gw_icmp_ge C (tgt := 369) dL_isSo_320 (by decide) (by first | omega | assumption | exact hgi _ _) hI_319 (fun h_320 => ?_) (fun h_320 => ?_)
                  · skip
                    refine gw_iconst C dL_isSo_369 ?_
                    refine gw_istore C (lo1 := [some (vR 0), some (vR 231), some (vR 232), some (vR 233), some (vR 234), some (vR 235), some (vR 236), some (vR 237), some (vR 238), some (vI pt), some (vI lg), some (vI 1), some (vI 0), none, none]) dL_isSo_370 (by decide) rfl ?_
                    have loop_372 : ∀ (fuel : Nat) (q : Nat) (zq : Nat) (f1 : Nat) (f2 : Nat), (q ≤ 6) → (f1 ≤ 434 + q ∧ f2 ≤ 2604 + 6 * q) → 7 - q < fuel → GW G p l e ({ frames := 10, cells := 442, slots := 2652, locals := 213 } : Room) s m args below meth c 15 zq N0 SH RR I J f1 f2 (vx_MQ below (GQ G N0 SH RR (memQ (some (vI 1)) I J)) (GX G N0 SH RR gNo) args s 442 2652 (ge G)) 372 [some (vR 0), some (vR 231), some (vR 232), some (vR 233), some (vR 234), some (vR 235), some (vR 236), some (vR 237), some (vR 238), some (vI pt), some (vI lg), some (vI 1), some (vI (q : Int)), none, none] [] := by
                      intro fuel
                      induction fuel with
                      | zero => intro q zq f1 f2 hqb hf hf_372; exact absurd hf_372 (Nat.not_lt_zero _)
                      | succ fuel ih_372 =>
                        intro q zq f1 f2 hqb hf hf_372
                        refine gw_iload C dL_isSo_372 rfl ?_
                        refine gw_bipush C dL_isSo_374 rfl ?_
                        refine gw_icmp_ge C (tgt := 410) dL_isSo_376 (by decide) (by first | omega | assumption | exact hgi _ _) ⟨by decide, by decide⟩ (fun h_376 => ?_) (fun h_376 => ?_)
                        · skip
                          have hlb := smF_b (m := t) (M := 12) (t := fun k => S (103 + 28 * k)) (fun j hj => (okT ho (t := j) (by omega)).1.2.1) t (Nat.le_refl _)
                          have hpb := smF_b (m := w) (M := 9) (t := fun k => S (8 + 12 * k)) (fun j hj => (okW ho (i := j) (by omega)).1) w (Nat.le_refl _)
                          refine gw_iload C dL_isSo_410 rfl ?_
                          refine gw_if_eq C (tgt := 441) dL_isSo_412 (by decide) ⟨by decide, by decide⟩ (fun h => absurd h (by decide)) (fun _ => ?_)
                          refine gw_aload_n C 0 dL_isSo_415 rfl rfl ?_
                          refine gw_bipush C dL_isSo_416 rfl ?_
                          refine gw_callSHm C (as := [vR 0, vI 6]) (st := []) (c_L_infoOf hl0 G I J hCI 6 ⟨by decide, by decide⟩) dL_isSo_418 kL_235 qL_infoOf hdL_infoOf ⟨Nat.le_of_ble_eq_true rfl, Nat.le_of_ble_eq_true rfl⟩ ⟨(show _ ≤ 442 from by omega), (show _ ≤ 2652 from by omega)⟩ (Nat.le_of_ble_eq_true rfl) rfl (fun z_418 => ?_)
                          rw [show cdV (kInfo 6) (rInfo S 6) (-2000002) 0 0 = lg from (w_in (by decide)).trans (by show smF (S 5).toNat (fun k => S (103 + 28 * k)) = lg; rw [hlg, show (S 5).toNat = t by omega])]
                          refine gw_iload C dL_isSo_421 rfl ?_
                          refine gw_icmp_ne C (tgt := 441) dL_isSo_423 (by decide) (by first | omega | assumption | exact hgi _ _) (by first | omega | assumption | exact hgi _ _) (fun h => absurd h (by exact fun q => q rfl)) (fun _ => ?_)
                          refine gw_aload_n C 0 dL_isSo_426 rfl rfl ?_
                          refine gw_bipush C dL_isSo_427 rfl ?_
                          refine gw_callSHm C (as := [vR 0, vI 7]) (st := []) (c_L_infoOf hl0 G I J hCI 7 ⟨by decide, by decide⟩) dL_isSo_429 kL_235 qL_infoOf hdL_infoOf ⟨Nat.le_of_ble_eq_true rfl, Nat.le_of_ble_eq_true rfl⟩ ⟨(show _ ≤ 442 from by omega), (show _ ≤ 2652 from by omega)⟩ (Nat.le_of_ble_eq_true rfl) rfl (fun z_429 => ?_)
                          rw [show cdV (kInfo 7) (rInfo S 7) (-2000002) 0 0 = pt from (w_in (by decide)).trans (by show smF (S 3).toNat (fun k => S (8 + 12 * k)) = pt; rw [hpt, show (S 3).toNat = w by omega])]
                          refine gw_iload C dL_isSo_432 rfl ?_
                          refine gw_icmp_ne C (tgt := 441) dL_isSo_434 (by decide) (by first | omega | assumption | exact hgi _ _) (by first | omega | assumption | exact hgi _ _) (fun h => absurd h (by exact fun q => q rfl)) (fun _ => ?_)
                          refine gw_iconst C dL_isSo_437 ?_
                          refine gw_goto C (tgt := 442) dL_isSo_438 (by decide) ?_
                          exact gw_zret C (by omega) (by omega) dL_isSo_442 (Or.inr rfl) (⟨rfl, rfl, rfl⟩)
                        · skip
                          refine gw_iload C dL_isSo_379 rfl ?_
                          refine gw_if_eq C (tgt := 410) dL_isSo_381 (by decide) ⟨by decide, by decide⟩ (fun h => absurd h (by decide)) (fun _ => ?_)
                          refine gw_aload_n C 0 dL_isSo_384 rfl rfl ?_
                          refine gw_iload C dL_isSo_385 rfl ?_
                          refine gw_callSHm C (as := [vR 0, vI (q : Int)]) (st := []) (c_L_infoOf hl0 G I J hCI (q : Int) (by first | omega | assumption | exact hgi _ _)) dL_isSo_387 kL_235 qL_infoOf hdL_infoOf ⟨Nat.le_of_ble_eq_true rfl, Nat.le_of_ble_eq_true rfl⟩ ⟨(show _ ≤ 442 from by omega), (show _ ≤ 2652 from by omega)⟩ (Nat.le_of_ble_eq_true rfl) rfl (fun z_387 => ?_)
                          rw [show cdV (kInfo (q : Int)) (rInfo S (q : Int)) (-2000002) 0 0 = (S q) from (w_in (by omega)).trans (rIn_q (by omega))]
                          refine gw_aload_n C 1 dL_isSo_390 rfl rfl ?_
                          refine gw_iload C dL_isSo_391 rfl ?_
                          refine gw_iald C q dL_isSo_393 xs_231 xn_231 (by omega) (by omega) (by decide) (fun hI_393 => ?_)
                          rw [show (I 231 q) = (S q) from by have e9 := lr_g (I := I) (k := q) (by omega); rw [hR] at e9; exact e9] at hI_393 ⊢
                          refine gw_icmp_ne C (tgt := 401) dL_isSo_394 (by decide) (by first | omega | assumption | exact hgi _ _) hI_393 (fun h => absurd h (by exact fun q => q rfl)) (fun _ => ?_)
                          refine gw_iconst C dL_isSo_397 ?_
                          refine gw_goto C (tgt := 402) dL_isSo_398 (by decide) ?_
                          refine gw_istore C (lo1 := [some (vR 0), some (vR 231), some (vR 232), some (vR 233), some (vR 234), some (vR 235), some (vR 236), some (vR 237), some (vR 238), some (vI pt), some (vI lg), some (vI 1), some (vI (q : Int)), none, none]) dL_isSo_402 (by decide) rfl ?_
                          refine gw_iinc C (lo1 := [some (vR 0), some (vR 231), some (vR 232), some (vR 233), some (vR 234), some (vR 235), some (vR 236), some (vR 237), some (vR 238), some (vI pt), some (vI lg), some (vI 1), some (vI ((q : Int) + 1)), none, none]) dL_isSo_404 rfl (by decide) rfl ?_
                          refine gw_goto C (tgt := 372) dL_isSo_407 (by decide) ?_
                          exact gw_weak (lo' := [some (vR 0), some (vR 231), some (vR 232), some (vR 233), some (vR 234), some (vR 235), some (vR 236), some (vR 237), some (vR 238), some (vI pt), some (vI lg), some (vI 1), some (vI (((q + 1) : Nat) : Int)), none, none]) ⟨rfl, rfl, rfl, rfl, rfl, rfl, rfl, rfl, rfl, rfl, rfl, rfl, congrArg (fun q => some (vI q)) (by omega), trivial⟩ (ih_372 (q + 1) z_387 (f1 + 1) (f2 + 6) (by omega) (by omega) (by omega))
                    exact gw_weak (lo' := [some (vR 0), some (vR 231), some (vR 232), some (vR 233), some (vR 234), some (vR 235), some (vR 236), some (vR 237), some (vR 238), some (vI pt), some (vI lg), some (vI 1), some (vI (0 : Int)), none, none]) ⟨rfl, rfl, rfl, rfl, rfl, rfl, rfl, rfl, rfl, rfl, rfl, rfl, congrArg (fun q => some (vI q)) (by omega), trivial⟩ (loop_372 _ 0 zt e1 e2 (by omega) (by omega) (Nat.lt_succ_self _))
                  · skip
                    refine gw_iload C dL_isSo_323 rfl ?_
                    refine gw_if_eq C (tgt := 369) dL_isSo_325 (by decide) ⟨by decide, by decide⟩ (fun h => absurd h (by decide)) (fun _ => ?_)
                    have ht9 := okT ho (t := t) (by omega)
                    refine gw_iload C dL_isSo_328 rfl ?_
                    refine gw_aload C dL_isSo_330 rfl ?_
                    refine gw_iconst C dL_isSo_332 ?_
                    refine gw_iload C dL_isSo_333 rfl ?_
                    refine gw_imul C dL_isSo_335 ?_
                    refine gw_iconst C dL_isSo_336 ?_
                    refine gw_iadd C dL_isSo_337 ?_
                    refine gw_iald C ((4 * t) + 1) dL_isSo_338 xs_236 xn_236 (by omega) (by omega) (by decide) (fun hI_338 => ?_)
                    rw [show (I 236 ((4 * t) + 1)) = (((S (103 + 28 * t)).toNat : Nat) : Int) from by have e9 := lr_h1 (I := I) (t := t) (by omega); rw [hR] at e9; omega] at hI_338 ⊢
                    refine gw_iadd C dL_isSo_339 ?_
                    refine gw_istore C (lo1 := [some (vR 0), some (vR 231), some (vR 232), some (vR 233), some (vR 234), some (vR 235), some (vR 236), some (vR 237), some (vR 238), some (vI pt), some (vI (lg + (((S (103 + 28 * t)).toNat : Nat) : Int))), some (vI 1), some (vI (t : Int)), none, none]) dL_isSo_340 (by decide) rfl ?_
                    refine gw_aload_n C 0 dL_isSo_342 rfl rfl ?_
                    refine gw_aload_n C 1 dL_isSo_343 rfl rfl ?_
                    refine gw_aload_n C 2 dL_isSo_344 rfl rfl ?_
                    refine gw_aload_n C 3 dL_isSo_345 rfl rfl ?_
                    refine gw_aload C dL_isSo_346 rfl ?_
                    refine gw_aload C dL_isSo_348 rfl ?_
                    refine gw_aload C dL_isSo_350 rfl ?_
                    refine gw_aload C dL_isSo_352 rfl ?_
                    refine gw_aload C dL_isSo_354 rfl ?_
                    refine gw_iload C dL_isSo_356 rfl ?_
                    refine gw_callSm C (as := [vR 0, vR 231, vR 232, vR 233, vR 234, vR 235, vR 236, vR 237, vR 238, vI (t : Int)]) (st := []) (c_L_isTraverse hl0 G I J hCI hR t (by omega)) dL_isSo_358 kL_231 qL_isTraverse hdL_isTraverse ⟨Nat.le_of_ble_eq_true rfl, Nat.le_of_ble_eq_true rfl⟩ ⟨(show _ ≤ 442 from by omega), (show _ ≤ 2652 from by omega)⟩ (Nat.le_of_ble_eq_true rfl) rfl (fun z_358 => ?_)
                    refine gw_istore C (lo1 := [some (vR 0), some (vR 231), some (vR 232), some (vR 233), some (vR 234), some (vR 235), some (vR 236), some (vR 237), some (vR 238), some (vI pt), some (vI (lg + (((S (103 + 28 * t)).toNat : Nat) : Int))), some (vI 1), some (vI (t : Int)), none, none]) dL_isSo_361 (by decide) rfl ?_
                    refine gw_iinc C (lo1 := [some (vR 0), some (vR 231), some (vR 232), some (vR 233), some (vR 234), some (vR 235), some (vR 236), some (vR 237), some (vR 238), some (vI pt), some (vI (lg + (((S (103 + 28 * t)).toNat : Nat) : Int))), some (vI 1), some (vI ((t : Int) + 1)), none, none]) dL_isSo_363 rfl (by decide) rfl ?_
                    refine gw_goto C (tgt := 315) dL_isSo_366 (by decide) ?_
                    exact gw_weak (lo' := [some (vR 0), some (vR 231), some (vR 232), some (vR 233), some (vR 234), some (vR 235), some (vR 236), some (vR 237), some (vR 238), some (vI pt), some (vI (lg + (((S (103 + 28 * t)).toNat : Nat) : Int))), some (vI 1), some (vI (((t + 1) : Nat) : Int)), none, none]) ⟨rfl, rfl, rfl, rfl, rfl, rfl, rfl, rfl, rfl, rfl, rfl, rfl, congrArg (fun q => some (vI q)) (by omega), trivial⟩ (ih_315 (lg + (((S (103 + 28 * t)).toNat : Nat) : Int)) (t + 1) z_358 (e1 + 89) (e2 + 534) (by omega) (by rw [smF_s, ← hlg]; show _ = lg + S (103 + 28 * t); omega) (by omega) (by omega))
              exact gw_weak (lo' := [some (vR 0), some (vR 231), some (vR 232), some (vR 233), some (vR 234), some (vR 235), some (vR 236), some (vR 237), some (vR 238), some (vI pt), some (vI 0), some (vI 1), some (vI (0 : Int)), none, none]) ⟨rfl, rfl, rfl, rfl, rfl, rfl, rfl, rfl, rfl, rfl, rfl, rfl, congrArg (fun q => some (vI q)) (by omega), trivial⟩ (loop_315 _ 0 0 zk b1 b2 (by omega) (by rfl) (by omega) (Nat.lt_succ_self _))
            · skip
              refine gw_iload C dL_isSo_174 rfl ?_
              refine gw_if_eq C (tgt := 312) dL_isSo_176 (by decide) ⟨by decide, by decide⟩ (fun h => absurd h (by decide)) (fun _ => ?_)
              have hk9 : (k : Int) < S 4 := by omega
              refine gw_aload_n C 1 dL_isSo_179 rfl rfl ?_
              refine gw_aload_n C 3 dL_isSo_180 rfl rfl ?_
              refine gw_aload C dL_isSo_181 rfl ?_
              refine gw_aload C dL_isSo_183 rfl ?_
              refine gw_iload C dL_isSo_185 rfl ?_
              refine gw_callSm C (as := [vR 231, vR 233, vR 234, vR 235, vI (k : Int)]) (st := []) (c_L_joint hl0 G I J hR ho k (by omega)) dL_isSo_187 kL_105 qL_joint hdL_joint ⟨Nat.le_of_ble_eq_true rfl, Nat.le_of_ble_eq_true rfl⟩ ⟨(show _ ≤ 442 from by omega), (show _ ≤ 2652 from by omega)⟩ (Nat.le_of_ble_eq_true rfl) rfl (fun z_187 => ?_)
              have hr_187 := sJ_v S k
              refine gw_istore C (lo1 := [some (vR 0), some (vR 231), some (vR 232), some (vR 233), some (vR 234), some (vR 235), some (vR 236), some (vR 237), some (vR 238), some (vI pt), some (vI 0), some (vI 1), some (vI (k : Int)), some (vI (sJ S k)), none]) dL_isSo_190 (by decide) rfl ?_
              refine gw_aload_n C 0 dL_isSo_192 rfl rfl ?_
              refine gw_iload C dL_isSo_193 rfl ?_
              refine gw_bipush C dL_isSo_195 rfl ?_
              refine gw_callSHm C (as := [vR 0, vI (k : Int), vI 6]) (st := []) (c_L_joinOf hl0 G I J hCI (k : Int) 6 (by first | omega | assumption | exact hgi _ _) ⟨by decide, by decide⟩) dL_isSo_197 kL_229 qL_joinOf hdL_joinOf ⟨Nat.le_of_ble_eq_true rfl, Nat.le_of_ble_eq_true rfl⟩ ⟨(show _ ≤ 442 from by omega), (show _ ≤ 2652 from by omega)⟩ (Nat.le_of_ble_eq_true rfl) rfl (fun z_197 => ?_)
              rw [show cdV (kJoinOf S (k : Int) 6) (rJoinOf S (k : Int).toNat 6) (-2000001) (-2000002) 0 = (sJ S k) from (w_jo hk9 (by decide)).trans rJo_6.1]
              refine gw_iload C dL_isSo_200 rfl ?_
              refine gw_icmp_ne C (tgt := 253) dL_isSo_202 (by decide) (by first | omega | assumption | exact hgi _ _) (by first | omega | assumption | exact hgi _ _) (fun h => absurd h (by exact fun q => q rfl)) (fun _ => ?_)
              rcases (show sJ S k = 0 ∨ sJ S k ≠ 0 by omega) with hj0 | hj0
              · skip
                refine gw_aload_n C 0 dL_isSo_205 rfl rfl ?_
                refine gw_iload C dL_isSo_206 rfl ?_
                refine gw_bipush C dL_isSo_208 rfl ?_
                refine gw_callSHm C (as := [vR 0, vI (k : Int), vI 7]) (st := []) (c_L_joinOf hl0 G I J hCI (k : Int) 7 (by first | omega | assumption | exact hgi _ _) ⟨by decide, by decide⟩) dL_isSo_210 kL_229 qL_joinOf hdL_joinOf ⟨Nat.le_of_ble_eq_true rfl, Nat.le_of_ble_eq_true rfl⟩ ⟨(show _ ≤ 442 from by omega), (show _ ≤ 2652 from by omega)⟩ (Nat.le_of_ble_eq_true rfl) rfl (fun z_210 => ?_)
                rw [show cdV (kJoinOf S (k : Int) 7) (rJoinOf S (k : Int).toNat 7) (-2000001) (-2000002) 0 = (sS0 S k) from (w_jo hk9 (by decide)).trans (rJo_6.2.2 hj0)]
                refine gw_iload C dL_isSo_213 rfl ?_
                refine gw_if_le C (tgt := 223) dL_isSo_215 (by decide) (by first | omega | assumption | exact hgi _ _) (fun _ => ?_) (fun h => absurd h (by omega))
                refine gw_aload_n C 3 dL_isSo_223 rfl rfl ?_
                refine gw_aload C dL_isSo_224 rfl ?_
                refine gw_aload C dL_isSo_226 rfl ?_
                refine gw_iload C dL_isSo_228 rfl ?_
                refine gw_callSm C (as := [vR 233, vR 234, vR 235, vI (k : Int)]) (st := [vI (sS0 S k)]) (c_L_start hl0 G I J hR ho k (by omega)) dL_isSo_230 kL_95 qL_start hdL_start ⟨Nat.le_of_ble_eq_true rfl, Nat.le_of_ble_eq_true rfl⟩ ⟨(show _ ≤ 442 from by omega), (show _ ≤ 2652 from by omega)⟩ (Nat.le_of_ble_eq_true rfl) rfl (fun z_230 => ?_)
                have hr_230 := sS0_b S k
                refine gw_icmp_ne C (tgt := 253) dL_isSo_233 (by decide) (by first | omega | assumption | exact hgi _ _) (by first | omega | assumption | exact hgi _ _) (fun h => absurd h (by exact fun q => q rfl)) (fun _ => ?_)
                refine gw_aload_n C 0 dL_isSo_236 rfl rfl ?_
                refine gw_iload C dL_isSo_237 rfl ?_
                refine gw_bipush C dL_isSo_239 rfl ?_
                refine gw_callSHm C (as := [vR 0, vI (k : Int), vI 8]) (st := []) (c_L_joinOf hl0 G I J hCI (k : Int) 8 (by first | omega | assumption | exact hgi _ _) ⟨by decide, by decide⟩) dL_isSo_241 kL_229 qL_joinOf hdL_joinOf ⟨Nat.le_of_ble_eq_true rfl, Nat.le_of_ble_eq_true rfl⟩ ⟨(show _ ≤ 442 from by omega), (show _ ≤ 2652 from by omega)⟩ (Nat.le_of_ble_eq_true rfl) rfl (fun z_241 => ?_)
                rw [show cdV (kJoinOf S (k : Int) 8) (rJoinOf S (k : Int).toNat 8) (-2000001) (-2000002) 0 = (-2000002) from w_jo2 hk9 rfl]
                refine gw_ldc C (x := (-2000002)) dL_isSo_244 kL_17 (by decide) ?_
                refine gw_icmp_ne C (tgt := 253) dL_isSo_246 (by decide) ⟨by decide, by decide⟩ ⟨by decide, by decide⟩ (fun h => absurd h (by decide)) (fun _ => ?_)
                refine gw_iconst C dL_isSo_249 ?_
                refine gw_goto C (tgt := 254) dL_isSo_250 (by decide) ?_
                refine gw_istore C (lo1 := [some (vR 0), some (vR 231), some (vR 232), some (vR 233), some (vR 234), some (vR 235), some (vR 236), some (vR 237), some (vR 238), some (vI pt), some (vI 0), some (vI 1), some (vI (k : Int)), some (vI (sJ S k)), none]) dL_isSo_254 (by decide) rfl ?_
                refine gw_iconst C dL_isSo_256 ?_
                refine gw_istore C (lo1 := [some (vR 0), some (vR 231), some (vR 232), some (vR 233), some (vR 234), some (vR 235), some (vR 236), some (vR 237), some (vR 238), some (vI pt), some (vI 0), some (vI 1), some (vI (k : Int)), some (vI (sJ S k)), some (vI 0)]) dL_isSo_257 (by decide) rfl ?_
                have loop_259 : ∀ (fuel : Nat) (i : Nat) (zi : Nat) (d1 : Nat) (d2 : Nat), (i ≤ 6) → (d1 ≤ 45 + 9 * k + i ∧ d2 ≤ 270 + 54 * k + 6 * i) → 7 - i < fuel → GW G p l e ({ frames := 10, cells := 442, slots := 2652, locals := 213 } : Room) s m args below meth c 15 zi N0 SH RR I J d1 d2 (vx_MQ below (GQ G N0 SH RR (memQ (some (vI 1)) I J)) (GX G N0 SH RR gNo) args s 442 2652 (ge G)) 259 [some (vR 0), some (vR 231), some (vR 232), some (vR 233), some (vR 234), some (vR 235), some (vR 236), some (vR 237), some (vR 238), some (vI pt), some (vI 0), some (vI 1), some (vI (k : Int)), some (vI (sJ S k)), some (vI (i : Int))] [] := by
                  intro fuel
                  induction fuel with
                  | zero => intro i zi d1 d2 hib hd hf_259; exact absurd hf_259 (Nat.not_lt_zero _)
                  | succ fuel ih_259 =>
                    intro i zi d1 d2 hib hd hf_259
                    refine gw_iload C dL_isSo_259 rfl ?_
                    refine gw_bipush C dL_isSo_261 rfl ?_
                    refine gw_icmp_ge C (tgt := 306) dL_isSo_263 (by decide) (by first | omega | assumption | exact hgi _ _) ⟨by decide, by decide⟩ (fun h_263 => ?_) (fun h_263 => ?_)
                    · skip
                      refine gw_iinc C (lo1 := [some (vR 0), some (vR 231), some (vR 232), some (vR 233), some (vR 234), some (vR 235), some (vR 236), some (vR 237), some (vR 238), some (vI pt), some (vI 0), some (vI 1), some (vI ((k : Int) + 1)), some (vI (sJ S k)), some (vI (i : Int))]) dL_isSo_306 rfl (by decide) rfl ?_
                      refine gw_goto C (tgt := 166) dL_isSo_309 (by decide) ?_
                      exact gw_weak (lo' := [some (vR 0), some (vR 231), some (vR 232), some (vR 233), some (vR 234), some (vR 235), some (vR 236), some (vR 237), some (vR 238), some (vI pt), some (vI 0), some (vI 1), some (vI (((k + 1) : Nat) : Int)), none, none]) ⟨rfl, rfl, rfl, rfl, rfl, rfl, rfl, rfl, rfl, rfl, rfl, rfl, congrArg (fun q => some (vI q)) (by omega), trivial⟩ (ih_166 (k + 1) zi d1 d2 (by omega) (by omega) (by omega))
                    · skip
                      refine gw_iload C dL_isSo_266 rfl ?_
                      refine gw_if_eq C (tgt := 306) dL_isSo_268 (by decide) ⟨by decide, by decide⟩ (fun h => absurd h (by decide)) (fun _ => ?_)
                      refine gw_aload_n C 0 dL_isSo_271 rfl rfl ?_
                      refine gw_iload C dL_isSo_272 rfl ?_
                      refine gw_iload C dL_isSo_274 rfl ?_
                      refine gw_callSHm C (as := [vR 0, vI (k : Int), vI (i : Int)]) (st := []) (c_L_joinOf hl0 G I J hCI (k : Int) (i : Int) (by first | omega | assumption | exact hgi _ _) (by first | omega | assumption | exact hgi _ _)) dL_isSo_276 kL_229 qL_joinOf hdL_joinOf ⟨Nat.le_of_ble_eq_true rfl, Nat.le_of_ble_eq_true rfl⟩ ⟨(show _ ≤ 442 from by omega), (show _ ≤ 2652 from by omega)⟩ (Nat.le_of_ble_eq_true rfl) rfl (fun z_276 => ?_)
                      rw [show cdV (kJoinOf S (k : Int) (i : Int)) (rJoinOf S (k : Int).toNat (i : Int)) (-2000001) (-2000002) 0 = (S (78 + 6 * k + i)) from (w_jo hk9 (by omega)).trans (rJo_i (by omega))]
                      refine gw_aload C dL_isSo_279 rfl ?_
                      refine gw_bipush C dL_isSo_281 rfl ?_
                      refine gw_iload C dL_isSo_283 rfl ?_
                      refine gw_imul C dL_isSo_285 ?_
                      refine gw_iload C dL_isSo_286 rfl ?_
                      refine gw_iadd C dL_isSo_288 ?_
                      refine gw_iald C ((6 * k) + i) dL_isSo_289 xs_235 xn_235 (by omega) (by omega) (by decide) (fun hI_289 => ?_)
                      rw [show (I 235 ((6 * k) + i)) = (S (78 + 6 * k + i)) from by have e9 := lr_ji (I := I) (i := k) (k := i) (by omega) (by omega); rw [hR] at e9; exact e9] at hI_289 ⊢
                      refine gw_icmp_ne C (tgt := 297) dL_isSo_290 (by decide) (by first | omega | assumption | exact hgi _ _) hI_289 (fun h => absurd h (by exact fun q => q rfl)) (fun _ => ?_)
                      refine gw_iconst C dL_isSo_293 ?_
                      refine gw_goto C (tgt := 298) dL_isSo_294 (by decide) ?_
                      refine gw_istore C (lo1 := [some (vR 0), some (vR 231), some (vR 232), some (vR 233), some (vR 234), some (vR 235), some (vR 236), some (vR 237), some (vR 238), some (vI pt), some (vI 0), some (vI 1), some (vI (k : Int)), some (vI (sJ S k)), some (vI (i : Int))]) dL_isSo_298 (by decide) rfl ?_
                      refine gw_iinc C (lo1 := [some (vR 0), some (vR 231), some (vR 232), some (vR 233), some (vR 234), some (vR 235), some (vR 236), some (vR 237), some (vR 238), some (vI pt), some (vI 0), some (vI 1), some (vI (k : Int)), some (vI (sJ S k)), some (vI ((i : Int) + 1))]) dL_isSo_300 rfl (by decide) rfl ?_
                      refine gw_goto C (tgt := 259) dL_isSo_303 (by decide) ?_
                      exact gw_weak (lo' := [some (vR 0), some (vR 231), some (vR 232), some (vR 233), some (vR 234), some (vR 235), some (vR 236), some (vR 237), some (vR 238), some (vI pt), some (vI 0), some (vI 1), some (vI (k : Int)), some (vI (sJ S k)), some (vI (((i + 1) : Nat) : Int))]) ⟨rfl, rfl, rfl, rfl, rfl, rfl, rfl, rfl, rfl, rfl, rfl, rfl, rfl, rfl, congrArg (fun q => some (vI q)) (by omega), trivial⟩ (ih_259 (i + 1) z_276 (d1 + 1) (d2 + 6) (by omega) (by omega) (by omega))
                exact gw_weak (lo' := [some (vR 0), some (vR 231), some (vR 232), some (vR 233), some (vR 234), some (vR 235), some (vR 236), some (vR 237), some (vR 238), some (vI pt), some (vI 0), some (vI 1), some (vI (k : Int)), some (vI (sJ S k)), some (vI (0 : Int))]) ⟨rfl, rfl, rfl, rfl, rfl, rfl, rfl, rfl, rfl, rfl, rfl, rfl, rfl, rfl, congrArg (fun q => some (vI q)) (by omega), trivial⟩ (loop_259 _ 0 z_241 (((b1 + 1) + 1) + 1) (((b2 + 6) + 6) + 6) (by omega) (by omega) (Nat.lt_succ_self _))
              · skip
                refine gw_aload_n C 0 dL_isSo_205 rfl rfl ?_
                refine gw_iload C dL_isSo_206 rfl ?_
                refine gw_bipush C dL_isSo_208 rfl ?_
                refine gw_callSHm C (as := [vR 0, vI (k : Int), vI 7]) (st := []) (c_L_joinOf hl0 G I J hCI (k : Int) 7 (by first | omega | assumption | exact hgi _ _) ⟨by decide, by decide⟩) dL_isSo_210 kL_229 qL_joinOf hdL_joinOf ⟨Nat.le_of_ble_eq_true rfl, Nat.le_of_ble_eq_true rfl⟩ ⟨(show _ ≤ 442 from by omega), (show _ ≤ 2652 from by omega)⟩ (Nat.le_of_ble_eq_true rfl) rfl (fun z_210_2 => ?_)
                rw [show cdV (kJoinOf S (k : Int) 7) (rJoinOf S (k : Int).toNat 7) (-2000001) (-2000002) 0 = (-2000000000) from (w_jo hk9 (by decide)).trans (rJo_6.2.1 hj0)]
                refine gw_iload C dL_isSo_213 rfl ?_
                refine gw_if_le C (tgt := 223) dL_isSo_215 (by decide) (by first | omega | assumption | exact hgi _ _) (fun h => absurd h (by omega)) (fun _ => ?_)
                refine gw_ldc C (x := (-2000000000)) dL_isSo_218 kL_81 (by decide) ?_
                refine gw_goto C (tgt := 233) dL_isSo_220 (by decide) ?_
                refine gw_icmp_ne C (tgt := 253) dL_isSo_233 (by decide) ⟨by decide, by decide⟩ ⟨by decide, by decide⟩ (fun h => absurd h (by decide)) (fun _ => ?_)
                refine gw_aload_n C 0 dL_isSo_236 rfl rfl ?_
                refine gw_iload C dL_isSo_237 rfl ?_
                refine gw_bipush C dL_isSo_239 rfl ?_
                refine gw_callSHm C (as := [vR 0, vI (k : Int), vI 8]) (st := []) (c_L_joinOf hl0 G I J hCI (k : Int) 8 (by first | omega | assumption | exact hgi _ _) ⟨by decide, by decide⟩) dL_isSo_241 kL_229 qL_joinOf hdL_joinOf ⟨Nat.le_of_ble_eq_true rfl, Nat.le_of_ble_eq_true rfl⟩ ⟨(show _ ≤ 442 from by omega), (show _ ≤ 2652 from by omega)⟩ (Nat.le_of_ble_eq_true rfl) rfl (fun z_241_2 => ?_)
                rw [show cdV (kJoinOf S (k : Int) 8) (rJoinOf S (k : Int).toNat 8) (-2000001) (-2000002) 0 = (-2000002) from w_jo2 hk9 rfl]
                refine gw_ldc C (x := (-2000002)) dL_isSo_244 kL_17 (by decide) ?_
                refine gw_icmp_ne C (tgt := 253) dL_isSo_246 (by decide) ⟨by decide, by decide⟩ ⟨by decide, by decide⟩ (fun h => absurd h (by decide)) (fun _ => ?_)
                refine gw_iconst C dL_isSo_249 ?_
                refine gw_goto C (tgt := 254) dL_isSo_250 (by decide) ?_
                refine gw_istore C (lo1 := [some (vR 0), some (vR 231), some (vR 232), some (vR 233), some (vR 234), some (vR 235), some (vR 236), some (vR 237), some (vR 238), some (vI pt), some (vI 0), some (vI 1), some (vI (k : Int)), some (vI (sJ S k)), none]) dL_isSo_254 (by decide) rfl ?_
                refine gw_iconst C dL_isSo_256 ?_
                refine gw_istore C (lo1 := [some (vR 0), some (vR 231), some (vR 232), some (vR 233), some (vR 234), some (vR 235), some (vR 236), some (vR 237), some (vR 238), some (vI pt), some (vI 0), some (vI 1), some (vI (k : Int)), some (vI (sJ S k)), some (vI 0)]) dL_isSo_257 (by decide) rfl ?_
                have loop_259 : ∀ (fuel : Nat) (i : Nat) (zi : Nat) (d1 : Nat) (d2 : Nat), (i ≤ 6) → (d1 ≤ 45 + 9 * k + i ∧ d2 ≤ 270 + 54 * k + 6 * i) → 7 - i < fuel → GW G p l e ({ frames := 10, cells := 442, slots := 2652, locals := 213 } : Room) s m args below meth c 15 zi N0 SH RR I J d1 d2 (vx_MQ below (GQ G N0 SH RR (memQ (some (vI 1)) I J)) (GX G N0 SH RR gNo) args s 442 2652 (ge G)) 259 [some (vR 0), some (vR 231), some (vR 232), some (vR 233), some (vR 234), some (vR 235), some (vR 236), some (vR 237), some (vR 238), some (vI pt), some (vI 0), some (vI 1), some (vI (k : Int)), some (vI (sJ S k)), some (vI (i : Int))] [] := by
                  intro fuel
                  induction fuel with
                  | zero => intro i zi d1 d2 hib hd hf_259; exact absurd hf_259 (Nat.not_lt_zero _)
                  | succ fuel ih_259 =>
                    intro i zi d1 d2 hib hd hf_259
                    refine gw_iload C dL_isSo_259 rfl ?_
                    refine gw_bipush C dL_isSo_261 rfl ?_
                    refine gw_icmp_ge C (tgt := 306) dL_isSo_263 (by decide) (by first | omega | assumption | exact hgi _ _) ⟨by decide, by decide⟩ (fun h_263_2 => ?_) (fun h_263_2 => ?_)
                    · skip
                      refine gw_iinc C (lo1 := [some (vR 0), some (vR 231), some (vR 232), some (vR 233), some (vR 234), some (vR 235), some (vR 236), some (vR 237), some (vR 238), some (vI pt), some (vI 0), some (vI 1), some (vI ((k : Int) + 1)), some (vI (sJ S k)), some (vI (i : Int))]) dL_isSo_306 rfl (by decide) rfl ?_
                      refine gw_goto C (tgt := 166) dL_isSo_309 (by decide) ?_
                      exact gw_weak (lo' := [some (vR 0), some (vR 231), some (vR 232), some (vR 233), some (vR 234), some (vR 235), some (vR 236), some (vR 237), some (vR 238), some (vI pt), some (vI 0), some (vI 1), some (vI (((k + 1) : Nat) : Int)), none, none]) ⟨rfl, rfl, rfl, rfl, rfl, rfl, rfl, rfl, rfl, rfl, rfl, rfl, congrArg (fun q => some (vI q)) (by omega), trivial⟩ (ih_166 (k + 1) zi d1 d2 (by omega) (by omega) (by omega))
                    · skip
                      refine gw_iload C dL_isSo_266 rfl ?_
                      refine gw_if_eq C (tgt := 306) dL_isSo_268 (by decide) ⟨by decide, by decide⟩ (fun h => absurd h (by decide)) (fun _ => ?_)
                      refine gw_aload_n C 0 dL_isSo_271 rfl rfl ?_
                      refine gw_iload C dL_isSo_272 rfl ?_
                      refine gw_iload C dL_isSo_274 rfl ?_
                      refine gw_callSHm C (as := [vR 0, vI (k : Int), vI (i : Int)]) (st := []) (c_L_joinOf hl0 G I J hCI (k : Int) (i : Int) (by first | omega | assumption | exact hgi _ _) (by first | omega | assumption | exact hgi _ _)) dL_isSo_276 kL_229 qL_joinOf hdL_joinOf ⟨Nat.le_of_ble_eq_true rfl, Nat.le_of_ble_eq_true rfl⟩ ⟨(show _ ≤ 442 from by omega), (show _ ≤ 2652 from by omega)⟩ (Nat.le_of_ble_eq_true rfl) rfl (fun z_276_2 => ?_)
                      rw [show cdV (kJoinOf S (k : Int) (i : Int)) (rJoinOf S (k : Int).toNat (i : Int)) (-2000001) (-2000002) 0 = (S (78 + 6 * k + i)) from (w_jo hk9 (by omega)).trans (rJo_i (by omega))]
                      refine gw_aload C dL_isSo_279 rfl ?_
                      refine gw_bipush C dL_isSo_281 rfl ?_
                      refine gw_iload C dL_isSo_283 rfl ?_
                      refine gw_imul C dL_isSo_285 ?_
                      refine gw_iload C dL_isSo_286 rfl ?_
                      refine gw_iadd C dL_isSo_288 ?_
                      refine gw_iald C ((6 * k) + i) dL_isSo_289 xs_235 xn_235 (by omega) (by omega) (by decide) (fun hI_289_2 => ?_)
                      rw [show (I 235 ((6 * k) + i)) = (S (78 + 6 * k + i)) from by have e9 := lr_ji (I := I) (i := k) (k := i) (by omega) (by omega); rw [hR] at e9; exact e9] at hI_289_2 ⊢
                      refine gw_icmp_ne C (tgt := 297) dL_isSo_290 (by decide) (by first | omega | assumption | exact hgi _ _) hI_289_2 (fun h => absurd h (by exact fun q => q rfl)) (fun _ => ?_)
                      refine gw_iconst C dL_isSo_293 ?_
                      refine gw_goto C (tgt := 298) dL_isSo_294 (by decide) ?_
                      refine gw_istore C (lo1 := [some (vR 0), some (vR 231), some (vR 232), some (vR 233), some (vR 234), some (vR 235), some (vR 236), some (vR 237), some (vR 238), some (vI pt), some (vI 0), some (vI 1), some (vI (k : Int)), some (vI (sJ S k)), some (vI (i : Int))]) dL_isSo_298 (by decide) rfl ?_
                      refine gw_iinc C (lo1 := [some (vR 0), some (vR 231), some (vR 232), some (vR 233), some (vR 234), some (vR 235), some (vR 236), some (vR 237), some (vR 238), some (vI pt), some (vI 0), some (vI 1), some (vI (k : Int)), some (vI (sJ S k)), some (vI ((i : Int) + 1))]) dL_isSo_300 rfl (by decide) rfl ?_
                      refine gw_goto C (tgt := 259) dL_isSo_303 (by decide) ?_
                      exact gw_weak (lo' := [some (vR 0), some (vR 231), some (vR 232), some (vR 233), some (vR 234), some (vR 235), some (vR 236), some (vR 237), some (vR 238), some (vI pt), some (vI 0), some (vI 1), some (vI (k : Int)), some (vI (sJ S k)), some (vI (((i + 1) : Nat) : Int))]) ⟨rfl, rfl, rfl, rfl, rfl, rfl, rfl, rfl, rfl, rfl, rfl, rfl, rfl, rfl, congrArg (fun q => some (vI q)) (by omega), trivial⟩ (ih_259 (i + 1) z_276_2 (d1 + 1) (d2 + 6) (by omega) (by omega) (by omega))
                exact gw_weak (lo' := [some (vR 0), some (vR 231), some (vR 232), some (vR 233), some (vR 234), some (vR 235), some (vR 236), some (vR 237), some (vR 238), some (vI pt), some (vI 0), some (vI 1), some (vI (k : Int)), some (vI (sJ S k)), some (vI (0 : Int))]) ⟨rfl, rfl, rfl, rfl, rfl, rfl, rfl, rfl, rfl, rfl, rfl, rfl, rfl, rfl, congrArg (fun q => some (vI q)) (by omega), trivial⟩ (loop_259 _ 0 z_241_2 (((b1 + 1) + 1) + 1) (((b2 + 6) + 6) + 6) (by omega) (by omega) (Nat.lt_succ_self _))
        exact gw_weak (lo' := [some (vR 0), some (vR 231), some (vR 232), some (vR 233), some (vR 234), some (vR 235), some (vR 236), some (vR 237), some (vR 238), some (vI pt), some (vI 0), some (vI 1), some (vI (0 : Int)), none, none]) ⟨rfl, rfl, rfl, rfl, rfl, rfl, rfl, rfl, rfl, rfl, rfl, rfl, congrArg (fun q => some (vI q)) (by omega), trivial⟩ (loop_166 _ 0 zw a1 a2 (by omega) (by omega) (Nat.lt_succ_self _))
      · skip
        refine gw_iload C dL_isSo_20 rfl ?_
        refine gw_if_eq C (tgt := 163) dL_isSo_22 (by decide) ⟨by decide, by decide⟩ (fun h => absurd h (by decide)) (fun _ => ?_)
        have hw : (w : Int) < S 3 := by omega
        have hw9 := okW ho (i := w) hw
        refine gw_iload C dL_isSo_25 rfl ?_
        refine gw_aload_n C 3 dL_isSo_27 rfl rfl ?_
        refine gw_iload C dL_isSo_28 rfl ?_
        refine gw_iald C w dL_isSo_30 xs_233 xn_233 (by omega) (by omega) (by decide) (fun hI_30 => ?_)
        rw [show (I 233 w) = (((S (8 + 12 * w)).toNat : Nat) : Int) from by have e9 := lr_m (I := I) (i := w) (by omega); rw [hR] at e9; omega] at hI_30 ⊢
        refine gw_iadd C dL_isSo_31 ?_
        refine gw_istore C (lo1 := [some (vR 0), some (vR 231), some (vR 232), some (vR 233), some (vR 234), some (vR 235), some (vR 236), some (vR 237), some (vR 238), some (vI (pt + (((S (8 + 12 * w)).toNat : Nat) : Int))), some (vI 0), some (vI 1), some (vI (w : Int)), none, none]) dL_isSo_32 (by decide) rfl ?_
        refine gw_aload_n C 0 dL_isSo_34 rfl rfl ?_
        refine gw_iload C dL_isSo_35 rfl ?_
        refine gw_iconst C dL_isSo_37 ?_
        refine gw_callSHm C (as := [vR 0, vI (w : Int), vI 0]) (st := []) (c_L_wireOf hl0 G I J hCI (w : Int) 0 (by first | omega | assumption | exact hgi _ _) ⟨by decide, by decide⟩) dL_isSo_38 kL_226 qL_wireOf hdL_wireOf ⟨Nat.le_of_ble_eq_true rfl, Nat.le_of_ble_eq_true rfl⟩ ⟨(show _ ≤ 442 from by omega), (show _ ≤ 2652 from by omega)⟩ (Nat.le_of_ble_eq_true rfl) rfl (fun z_38 => ?_)
        rw [show cdV (kWire S (w : Int) 0) (rWire S (w : Int).toNat 0) (-2000001) (-2000002) 0 = (S (6 + 12 * w)) from (w_wi hw (by decide))]
        refine gw_aload_n C 2 dL_isSo_41 rfl rfl ?_
        refine gw_iconst C dL_isSo_42 ?_
        refine gw_iload C dL_isSo_43 rfl ?_
        refine gw_imul C dL_isSo_45 ?_
        refine gw_iald C (2 * w) dL_isSo_46 xs_232 xn_232 (by omega) (by omega) (by decide) (fun hI_46 => ?_)
        rw [show (I 232 (2 * w)) = (S (6 + 12 * w)) from by have e9 := lr_x (I := I) (i := w) (by omega); rw [hR] at e9; exact e9] at hI_46 ⊢
        refine gw_icmp_ne C (tgt := 154) dL_isSo_47 (by decide) (by first | omega | assumption | exact hgi _ _) hI_46 (fun h => absurd h (by exact fun q => q rfl)) (fun _ => ?_)
        refine gw_aload_n C 0 dL_isSo_50 rfl rfl ?_
        refine gw_iload C dL_isSo_51 rfl ?_
        refine gw_iconst C dL_isSo_53 ?_
        refine gw_callSHm C (as := [vR 0, vI (w : Int), vI 1]) (st := []) (c_L_wireOf hl0 G I J hCI (w : Int) 1 (by first | omega | assumption | exact hgi _ _) ⟨by decide, by decide⟩) dL_isSo_54 kL_226 qL_wireOf hdL_wireOf ⟨Nat.le_of_ble_eq_true rfl, Nat.le_of_ble_eq_true rfl⟩ ⟨(show _ ≤ 442 from by omega), (show _ ≤ 2652 from by omega)⟩ (Nat.le_of_ble_eq_true rfl) rfl (fun z_54 => ?_)
        rw [show cdV (kWire S (w : Int) 1) (rWire S (w : Int).toNat 1) (-2000001) (-2000002) 0 = (S (7 + 12 * w)) from (w_wi hw (by decide))]
        refine gw_aload_n C 2 dL_isSo_57 rfl rfl ?_
        refine gw_iconst C dL_isSo_58 ?_
        refine gw_iload C dL_isSo_59 rfl ?_
        refine gw_imul C dL_isSo_61 ?_
        refine gw_iconst C dL_isSo_62 ?_
        refine gw_iadd C dL_isSo_63 ?_
        refine gw_iald C ((2 * w) + 1) dL_isSo_64 xs_232 xn_232 (by omega) (by omega) (by decide) (fun hI_64 => ?_)
        rw [show (I 232 ((2 * w) + 1)) = (S (7 + 12 * w)) from by have e9 := lr_y (I := I) (i := w) (by omega); rw [hR] at e9; exact e9] at hI_64 ⊢
        refine gw_icmp_ne C (tgt := 154) dL_isSo_65 (by decide) (by first | omega | assumption | exact hgi _ _) hI_64 (fun h => absurd h (by exact fun q => q rfl)) (fun _ => ?_)
        refine gw_aload_n C 0 dL_isSo_68 rfl rfl ?_
        refine gw_iload C dL_isSo_69 rfl ?_
        refine gw_iconst C dL_isSo_71 ?_
        refine gw_callSHm C (as := [vR 0, vI (w : Int), vI 2]) (st := []) (c_L_wireOf hl0 G I J hCI (w : Int) 2 (by first | omega | assumption | exact hgi _ _) ⟨by decide, by decide⟩) dL_isSo_72 kL_226 qL_wireOf hdL_wireOf ⟨Nat.le_of_ble_eq_true rfl, Nat.le_of_ble_eq_true rfl⟩ ⟨(show _ ≤ 442 from by omega), (show _ ≤ 2652 from by omega)⟩ (Nat.le_of_ble_eq_true rfl) rfl (fun z_72 => ?_)
        rw [show cdV (kWire S (w : Int) 2) (rWire S (w : Int).toNat 2) (-2000001) (-2000002) 0 = (((S (8 + 12 * w)).toNat : Nat) : Int) from (w_wi hw (by decide)).trans (by show S (8 + 12 * w) = _; omega)]
        refine gw_aload_n C 3 dL_isSo_75 rfl rfl ?_
        refine gw_iload C dL_isSo_76 rfl ?_
        refine gw_iald C w dL_isSo_78 xs_233 xn_233 (by omega) (by omega) (by decide) (fun hI_78 => ?_)
        rw [show (I 233 w) = (((S (8 + 12 * w)).toNat : Nat) : Int) from by have e9 := lr_m (I := I) (i := w) (by omega); rw [hR] at e9; omega] at hI_78 ⊢
        refine gw_icmp_ne C (tgt := 154) dL_isSo_79 (by decide) (by first | omega | assumption | exact hgi _ _) hI_78 (fun h => absurd h (by exact fun q => q rfl)) (fun _ => ?_)
        refine gw_aload_n C 0 dL_isSo_82 rfl rfl ?_
        refine gw_iload C dL_isSo_83 rfl ?_
        refine gw_iconst C dL_isSo_85 ?_
        refine gw_callSHm C (as := [vR 0, vI (w : Int), vI 3]) (st := []) (c_L_wireOf hl0 G I J hCI (w : Int) 3 (by first | omega | assumption | exact hgi _ _) ⟨by decide, by decide⟩) dL_isSo_86 kL_226 qL_wireOf hdL_wireOf ⟨Nat.le_of_ble_eq_true rfl, Nat.le_of_ble_eq_true rfl⟩ ⟨(show _ ≤ 442 from by omega), (show _ ≤ 2652 from by omega)⟩ (Nat.le_of_ble_eq_true rfl) rfl (fun z_86 => ?_)
        rw [show cdV (kWire S (w : Int) 3) (rWire S (w : Int).toNat 3) (-2000001) (-2000002) 0 = (sR S w) from (w_wi hw (by decide))]
        refine gw_aload_n C 3 dL_isSo_89 rfl rfl ?_
        refine gw_aload C dL_isSo_90 rfl ?_
        refine gw_iload C dL_isSo_92 rfl ?_
        refine gw_callSm C (as := [vR 233, vR 234, vI (w : Int)]) (st := [vI (sR S w)]) (c_L_rest hl0 G I J hR ho w (by omega)) dL_isSo_94 kL_90 qL_rest hdL_rest ⟨Nat.le_of_ble_eq_true rfl, Nat.le_of_ble_eq_true rfl⟩ ⟨(show _ ≤ 442 from by omega), (show _ ≤ 2652 from by omega)⟩ (Nat.le_of_ble_eq_true rfl) rfl (fun z_94 => ?_)
        have hr_94 := sR_9 ho (i := w) (by omega)
        refine gw_icmp_ne C (tgt := 154) dL_isSo_97 (by decide) (by first | omega | assumption | exact hgi _ _) (by first | omega | assumption | exact hgi _ _) (fun h => absurd h (by exact fun q => q rfl)) (fun _ => ?_)
        refine gw_aload_n C 0 dL_isSo_100 rfl rfl ?_
        refine gw_iload C dL_isSo_101 rfl ?_
        refine gw_iconst C dL_isSo_103 ?_
        refine gw_callSHm C (as := [vR 0, vI (w : Int), vI 4]) (st := []) (c_L_wireOf hl0 G I J hCI (w : Int) 4 (by first | omega | assumption | exact hgi _ _) ⟨by decide, by decide⟩) dL_isSo_104 kL_226 qL_wireOf hdL_wireOf ⟨Nat.le_of_ble_eq_true rfl, Nat.le_of_ble_eq_true rfl⟩ ⟨(show _ ≤ 442 from by omega), (show _ ≤ 2652 from by omega)⟩ (Nat.le_of_ble_eq_true rfl) rfl (fun z_104 => ?_)
        rw [show cdV (kWire S (w : Int) 4) (rWire S (w : Int).toNat 4) (-2000001) (-2000002) 0 = (sT S w) from (w_wi hw (by decide))]
        refine gw_aload_n C 1 dL_isSo_107 rfl rfl ?_
        refine gw_aload_n C 3 dL_isSo_108 rfl rfl ?_
        refine gw_aload C dL_isSo_109 rfl ?_
        refine gw_iload C dL_isSo_111 rfl ?_
        refine gw_callSm C (as := [vR 231, vR 233, vR 234, vI (w : Int)]) (st := [vI (sT S w)]) (c_L_wrong hl0 G I J hR ho w (by omega)) dL_isSo_113 kL_82 qL_wrong hdL_wrong ⟨Nat.le_of_ble_eq_true rfl, Nat.le_of_ble_eq_true rfl⟩ ⟨(show _ ≤ 442 from by omega), (show _ ≤ 2652 from by omega)⟩ (Nat.le_of_ble_eq_true rfl) rfl (fun z_113 => ?_)
        have hr_113 := sT_v S w
        refine gw_icmp_ne C (tgt := 154) dL_isSo_116 (by decide) (by first | omega | assumption | exact hgi _ _) (by first | omega | assumption | exact hgi _ _) (fun h => absurd h (by exact fun q => q rfl)) (fun _ => ?_)
        refine gw_aload_n C 0 dL_isSo_119 rfl rfl ?_
        refine gw_iload C dL_isSo_120 rfl ?_
        refine gw_iconst C dL_isSo_122 ?_
        refine gw_callSHm C (as := [vR 0, vI (w : Int), vI 5]) (st := []) (c_L_wireOf hl0 G I J hCI (w : Int) 5 (by first | omega | assumption | exact hgi _ _) ⟨by decide, by decide⟩) dL_isSo_123 kL_226 qL_wireOf hdL_wireOf ⟨Nat.le_of_ble_eq_true rfl, Nat.le_of_ble_eq_true rfl⟩ ⟨(show _ ≤ 442 from by omega), (show _ ≤ 2652 from by omega)⟩ (Nat.le_of_ble_eq_true rfl) rfl (fun z_123 => ?_)
        rw [show cdV (kWire S (w : Int) 5) (rWire S (w : Int).toNat 5) (-2000001) (-2000002) 0 = (sD S w) from (w_wi hw (by decide))]
        refine gw_aload_n C 3 dL_isSo_126 rfl rfl ?_
        refine gw_aload C dL_isSo_127 rfl ?_
        refine gw_iload C dL_isSo_129 rfl ?_
        refine gw_callSm C (as := [vR 233, vR 234, vI (w : Int)]) (st := [vI (sD S w)]) (c_L_drift hl0 G I J hR ho w (by omega)) dL_isSo_131 kL_77 qL_drift hdL_drift ⟨Nat.le_of_ble_eq_true rfl, Nat.le_of_ble_eq_true rfl⟩ ⟨(show _ ≤ 442 from by omega), (show _ ≤ 2652 from by omega)⟩ (Nat.le_of_ble_eq_true rfl) rfl (fun z_131 => ?_)
        have hr_131 := sD_b ho (i := w) (by omega)
        refine gw_icmp_ne C (tgt := 154) dL_isSo_134 (by decide) (by first | omega | assumption | exact hgi _ _) (by first | omega | assumption | exact hgi _ _) (fun h => absurd h (by exact fun q => q rfl)) (fun _ => ?_)
        refine gw_aload_n C 0 dL_isSo_137 rfl rfl ?_
        refine gw_iload C dL_isSo_138 rfl ?_
        refine gw_bipush C dL_isSo_140 rfl ?_
        refine gw_callSHm C (as := [vR 0, vI (w : Int), vI 6]) (st := []) (c_L_wireOf hl0 G I J hCI (w : Int) 6 (by first | omega | assumption | exact hgi _ _) ⟨by decide, by decide⟩) dL_isSo_142 kL_226 qL_wireOf hdL_wireOf ⟨Nat.le_of_ble_eq_true rfl, Nat.le_of_ble_eq_true rfl⟩ ⟨(show _ ≤ 442 from by omega), (show _ ≤ 2652 from by omega)⟩ (Nat.le_of_ble_eq_true rfl) rfl (fun z_142 => ?_)
        rw [show cdV (kWire S (w : Int) 6) (rWire S (w : Int).toNat 6) (-2000001) (-2000002) 0 = (-2000002) from w_wi2 hw rfl]
        refine gw_ldc C (x := (-2000002)) dL_isSo_145 kL_17 (by decide) ?_
        refine gw_icmp_ne C (tgt := 154) dL_isSo_147 (by decide) ⟨by decide, by decide⟩ ⟨by decide, by decide⟩ (fun h => absurd h (by decide)) (fun _ => ?_)
        refine gw_iconst C dL_isSo_150 ?_
        refine gw_goto C (tgt := 155) dL_isSo_151 (by decide) ?_
        refine gw_istore C (lo1 := [some (vR 0), some (vR 231), some (vR 232), some (vR 233), some (vR 234), some (vR 235), some (vR 236), some (vR 237), some (vR 238), some (vI (pt + (((S (8 + 12 * w)).toNat : Nat) : Int))), some (vI 0), some (vI 1), some (vI (w : Int)), none, none]) dL_isSo_155 (by decide) rfl ?_
        refine gw_iinc C (lo1 := [some (vR 0), some (vR 231), some (vR 232), some (vR 233), some (vR 234), some (vR 235), some (vR 236), some (vR 237), some (vR 238), some (vI (pt + (((S (8 + 12 * w)).toNat : Nat) : Int))), some (vI 0), some (vI 1), some (vI ((w : Int) + 1)), none, none]) dL_isSo_157 rfl (by decide) rfl ?_
        refine gw_goto C (tgt := 12) dL_isSo_160 (by decide) ?_
        exact gw_weak (lo' := [some (vR 0), some (vR 231), some (vR 232), some (vR 233), some (vR 234), some (vR 235), some (vR 236), some (vR 237), some (vR 238), some (vI (pt + (((S (8 + 12 * w)).toNat : Nat) : Int))), some (vI 0), some (vI 1), some (vI (((w + 1) : Nat) : Int)), none, none]) ⟨rfl, rfl, rfl, rfl, rfl, rfl, rfl, rfl, rfl, rfl, rfl, rfl, congrArg (fun q => some (vI q)) (by omega), trivial⟩ (ih_12 (pt + (((S (8 + 12 * w)).toNat : Nat) : Int)) (w + 1) z_142 (((((((a1 + 1) + 1) + 1) + 1) + 1) + 1) + 1) (((((((a2 + 6) + 6) + 6) + 6) + 6) + 6) + 6) (by omega) (by rw [smF_s, ← hpt]; show _ = pt + S (8 + 12 * w); omega) (by omega) (by omega))
  exact gw_weak (lo' := [some (vR 0), some (vR 231), some (vR 232), some (vR 233), some (vR 234), some (vR 235), some (vR 236), some (vR 237), some (vR 238), some (vI 0), some (vI 0), some (vI 1), some (vI (0 : Int)), none, none]) ⟨rfl, rfl, rfl, rfl, rfl, rfl, rfl, rfl, rfl, rfl, rfl, rfl, congrArg (fun q => some (vI q)) (by omega), trivial⟩ (loop_12 _ 0 0 z 0 0 (by omega) (by rfl) (by omega) (Nat.lt_succ_self _))
