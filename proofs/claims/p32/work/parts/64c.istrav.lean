set_option maxHeartbeats 4000000 in
set_option maxRecDepth 100000 in
theorem c_L_isTraverse {l : Launch} (hl0 : l.stackTraces = false) (G : GG) (I J : GI) {z : Nat} {S : Nat → Int} {D9 : Nat → Nat → Int} {c9 : Nat} (hCI : CI I S D9 c9) (hR : rowL I = S) (t : Nat) (htt : (t : Int) < S 5) : GM l yL_isTraverse (.code yL_isTraverse cL_isTraverse 23 (some .boolean)) 9 171 89 534 G N0 SH RR [vR 0, vR 231, vR 232, vR 233, vR 234, vR 235, vR 236, vR 237, vR 238, vI (t : Int)] z I J (memQ (some (vI 1)) I J) gNo := by
  refine gm_of (lo0 := [some (vR 0), some (vR 231), some (vR 232), some (vR 233), some (vR 234), some (vR 235), some (vR 236), some (vR 237), some (vR 238), some (vI (t : Int)), none, none, none, none, none, none, none, none, none, none, none, none, none]) hl0 (by decide) rfl (Nat.le_of_ble_eq_true rfl) ?_
  intro p e s m args below meth c C ht hgi
  have C : gC G p l s m args meth c cL_isTraverse 23 RL (some .boolean) "isTraverse" := C
  have ho := hCI.1.1.2.1
  have h0 := ho.1
  have h3 := ho.2.1
  have ht9 := okT ho htt
  have hf9 := ho.2.2.2.1 (S (102 + 28 * t)).toNat (by omega)
  refine gw_ldc C (x := (-2000000000)) dL_isTraverse_0 kL_81 (by decide) ?_
  refine gw_istore C (lo1 := [some (vR 0), some (vR 231), some (vR 232), some (vR 233), some (vR 234), some (vR 235), some (vR 236), some (vR 237), some (vR 238), some (vI (t : Int)), some (vI (-2000000000)), none, none, none, none, none, none, none, none, none, none, none, none]) dL_isTraverse_2 (by decide) rfl ?_
  refine gw_iconst C dL_isTraverse_4 ?_
  refine gw_istore C (lo1 := [some (vR 0), some (vR 231), some (vR 232), some (vR 233), some (vR 234), some (vR 235), some (vR 236), some (vR 237), some (vR 238), some (vI (t : Int)), some (vI (-2000000000)), some (vI 0), none, none, none, none, none, none, none, none, none, none, none]) dL_isTraverse_5 (by decide) rfl ?_
  refine gw_iconst C dL_isTraverse_7 ?_
  refine gw_istore C (lo1 := [some (vR 0), some (vR 231), some (vR 232), some (vR 233), some (vR 234), some (vR 235), some (vR 236), some (vR 237), some (vR 238), some (vI (t : Int)), some (vI (-2000000000)), some (vI 0), some (vI 1), none, none, none, none, none, none, none, none, none, none]) dL_isTraverse_8 (by decide) rfl ?_
  refine gw_iconst C dL_isTraverse_10 ?_
  refine gw_istore C (lo1 := [some (vR 0), some (vR 231), some (vR 232), some (vR 233), some (vR 234), some (vR 235), some (vR 236), some (vR 237), some (vR 238), some (vI (t : Int)), some (vI (-2000000000)), some (vI 0), some (vI 1), some (vI 0), none, none, none, none, none, none, none, none, none]) dL_isTraverse_11 (by decide) rfl ?_
  have loop_13 : ∀ (fuel : Nat) (u : Int) (k : Nat) (zz : Nat) (a1 : Nat) (a2 : Nat), (k ≤ (S (103 + 28 * t)).toNat) → (u = smF k (sLe S t)) → (a1 ≤ 6 * k ∧ a2 ≤ 36 * k) → (S (103 + 28 * t)).toNat + 1 - k < fuel → GW G p l e ({ frames := 9, cells := 89, slots := 534, locals := 171 } : Room) s m args below meth c 23 zz N0 SH RR I J a1 a2 (vx_MQ below (GQ G N0 SH RR (memQ (some (vI 1)) I J)) (GX G N0 SH RR gNo) args s 89 534 (ge G)) 13 [some (vR 0), some (vR 231), some (vR 232), some (vR 233), some (vR 234), some (vR 235), some (vR 236), some (vR 237), some (vR 238), some (vI (t : Int)), some (vI (-2000000000)), some (vI u), some (vI 1), some (vI (k : Int)), none, none, none, none, none, none, none, none, none] [] := by
    intro fuel
    induction fuel with
    | zero => intro u k zz a1 a2 hk hu ha hf_13; exact absurd hf_13 (Nat.not_lt_zero _)
    | succ fuel ih_13 =>
      intro u k zz a1 a2 hk hu ha hf_13
      refine gw_iload C dL_isTraverse_13 rfl ?_
      refine gw_aload C dL_isTraverse_15 rfl ?_
      refine gw_iconst C dL_isTraverse_17 ?_
      refine gw_iload C dL_isTraverse_18 rfl ?_
      refine gw_imul C dL_isTraverse_20 ?_
      refine gw_iconst C dL_isTraverse_21 ?_
      refine gw_iadd C dL_isTraverse_22 ?_
      refine gw_iald C ((4 * t) + 1) dL_isTraverse_23 xs_236 xn_236 (by omega) (by omega) (by decide) (fun hI_23 => ?_)
      rw [show (I 236 ((4 * t) + 1)) = (((S (103 + 28 * t)).toNat : Nat) : Int) from by have e9 := lr_h1 (I := I) (t := t) (by omega); rw [hR] at e9; omega] at hI_23 ⊢
      refine gw_icmp_ge C (tgt := 77) dL_isTraverse_24 (by decide) (by first | omega | assumption | exact hgi _ _) hI_23 (fun h_24 => ?_) (fun h_24 => ?_)
      · skip
        have hub := smF_b (m := (S (103 + 28 * t)).toNat) (M := 200000) (t := sLe S t) (fun j hj => by have h9 := (ht9.2.2 j (by omega)).2; show 0 ≤ S (107 + 28 * t + 2 * j) ∧ S (107 + 28 * t + 2 * j) ≤ 200000; omega) k (by omega)
        refine gw_aload_n C 1 dL_isTraverse_77 rfl rfl ?_
        refine gw_aload_n C 3 dL_isTraverse_78 rfl rfl ?_
        refine gw_aload C dL_isTraverse_79 rfl ?_
        refine gw_aload C dL_isTraverse_81 rfl ?_
        refine gw_aload C dL_isTraverse_83 rfl ?_
        refine gw_aload C dL_isTraverse_85 rfl ?_
        refine gw_iload C dL_isTraverse_87 rfl ?_
        refine gw_callSm C (as := [vR 231, vR 233, vR 234, vR 235, vR 236, vR 237, vI (t : Int)]) (st := []) (c_L_trouble hl0 G I J hR ho t (by omega)) dL_isTraverse_89 kL_123 qL_trouble hdL_trouble ⟨Nat.le_of_ble_eq_true rfl, Nat.le_of_ble_eq_true rfl⟩ ⟨(show _ ≤ 89 from by omega), (show _ ≤ 534 from by omega)⟩ (Nat.le_of_ble_eq_true rfl) rfl (fun z_89 => ?_)
        have hr_89 := sTT_v S t
        rcases tr_cases ho htt with ⟨hT, hcl⟩ | ⟨hT, hcl, hjx⟩ | ⟨hT, hcl, hjx⟩ | ⟨hT, hcl, hjx⟩ | ⟨hT, hcl⟩ | ⟨hT, hcl⟩ | ⟨hT, hcl⟩
        · skip
          rw [hT]
          exact isT_c0 hl0 G I J hCI hR t htt C ht hgi u k z_89 a1 a2 (by omega) hu hub (by omega) hT hcl
        · skip
          rw [hT]
          exact isT_c1 hl0 G I J hCI hR t htt C ht hgi u k z_89 a1 a2 (by omega) hu hub (by omega) hT hcl hjx
        · skip
          rw [hT]
          exact isT_c2 hl0 G I J hCI hR t htt C ht hgi u k z_89 a1 a2 (by omega) hu hub (by omega) hT hcl hjx
        · skip
          rw [hT]
          exact isT_c3 hl0 G I J hCI hR t htt C ht hgi u k z_89 a1 a2 (by omega) hu hub (by omega) hT hcl hjx
        · skip
          rw [hT]
          exact isT_c4 hl0 G I J hCI hR t htt C ht hgi u k z_89 a1 a2 (by omega) hu hub (by omega) hT hcl
        · skip
          rw [hT]
          exact isT_c5 hl0 G I J hCI hR t htt C ht hgi u k z_89 a1 a2 (by omega) hu hub (by omega) hT hcl
        · skip
          rw [hT]
          exact isT_c6 hl0 G I J hCI hR t htt C ht hgi u k z_89 a1 a2 (by omega) hu hub (by omega) hT hcl
      · skip
        refine gw_iload C dL_isTraverse_27 rfl ?_
        refine gw_if_eq C (tgt := 77) dL_isTraverse_29 (by decide) ⟨by decide, by decide⟩ (fun h => absurd h (by decide)) (fun _ => ?_)
        refine gw_iload C dL_isTraverse_32 rfl ?_
        refine gw_aload C dL_isTraverse_34 rfl ?_
        refine gw_bipush C dL_isTraverse_36 rfl ?_
        refine gw_iload C dL_isTraverse_38 rfl ?_
        refine gw_imul C dL_isTraverse_40 ?_
        refine gw_iload C dL_isTraverse_41 rfl ?_
        refine gw_iadd C dL_isTraverse_43 ?_
        refine gw_iald C ((12 * t) + k) dL_isTraverse_44 xs_238 xn_238 (by omega) (by omega) (by decide) (fun hI_44 => ?_)
        rw [show (I 238 ((12 * t) + k)) = (S (107 + 28 * t + 2 * k)) from by have e9 := lr_b (I := I) (t := t) (k := k) (by omega) (by omega); rw [hR] at e9; exact e9] at hI_44 ⊢
        refine gw_iadd C dL_isTraverse_45 ?_
        refine gw_istore C (lo1 := [some (vR 0), some (vR 231), some (vR 232), some (vR 233), some (vR 234), some (vR 235), some (vR 236), some (vR 237), some (vR 238), some (vI (t : Int)), some (vI (-2000000000)), some (vI (u + (S (107 + 28 * t + 2 * k)))), some (vI 1), some (vI (k : Int)), none, none, none, none, none, none, none, none, none]) dL_isTraverse_46 (by decide) rfl ?_
        refine gw_aload_n C 0 dL_isTraverse_48 rfl rfl ?_
        refine gw_aload_n C 1 dL_isTraverse_49 rfl rfl ?_
        refine gw_aload_n C 2 dL_isTraverse_50 rfl rfl ?_
        refine gw_aload_n C 3 dL_isTraverse_51 rfl rfl ?_
        refine gw_aload C dL_isTraverse_52 rfl ?_
        refine gw_aload C dL_isTraverse_54 rfl ?_
        refine gw_aload C dL_isTraverse_56 rfl ?_
        refine gw_aload C dL_isTraverse_58 rfl ?_
        refine gw_aload C dL_isTraverse_60 rfl ?_
        refine gw_iload C dL_isTraverse_62 rfl ?_
        refine gw_iload C dL_isTraverse_64 rfl ?_
        refine gw_callSm C (as := [vR 0, vR 231, vR 232, vR 233, vR 234, vR 235, vR 236, vR 237, vR 238, vI (t : Int), vI (k : Int)]) (st := []) (c_L_isLeg hl0 G I J hCI hR t (by omega) k (by omega)) dL_isTraverse_66 kL_208 qL_isLeg hdL_isLeg ⟨Nat.le_of_ble_eq_true rfl, Nat.le_of_ble_eq_true rfl⟩ ⟨(show _ ≤ 89 from by omega), (show _ ≤ 534 from by omega)⟩ (Nat.le_of_ble_eq_true rfl) rfl (fun z_66 => ?_)
        refine gw_istore C (lo1 := [some (vR 0), some (vR 231), some (vR 232), some (vR 233), some (vR 234), some (vR 235), some (vR 236), some (vR 237), some (vR 238), some (vI (t : Int)), some (vI (-2000000000)), some (vI (u + (S (107 + 28 * t + 2 * k)))), some (vI 1), some (vI (k : Int)), none, none, none, none, none, none, none, none, none]) dL_isTraverse_69 (by decide) rfl ?_
        refine gw_iinc C (lo1 := [some (vR 0), some (vR 231), some (vR 232), some (vR 233), some (vR 234), some (vR 235), some (vR 236), some (vR 237), some (vR 238), some (vI (t : Int)), some (vI (-2000000000)), some (vI (u + (S (107 + 28 * t + 2 * k)))), some (vI 1), some (vI ((k : Int) + 1)), none, none, none, none, none, none, none, none, none]) dL_isTraverse_71 rfl (by decide) rfl ?_
        refine gw_goto C (tgt := 13) dL_isTraverse_74 (by decide) ?_
        exact gw_weak (lo' := [some (vR 0), some (vR 231), some (vR 232), some (vR 233), some (vR 234), some (vR 235), some (vR 236), some (vR 237), some (vR 238), some (vI (t : Int)), some (vI (-2000000000)), some (vI (u + (S (107 + 28 * t + 2 * k)))), some (vI 1), some (vI (((k + 1) : Nat) : Int)), none, none, none, none, none, none, none, none, none]) ⟨rfl, rfl, rfl, rfl, rfl, rfl, rfl, rfl, rfl, rfl, rfl, rfl, rfl, congrArg (fun q => some (vI q)) (by omega), trivial⟩ (ih_13 (u + (S (107 + 28 * t + 2 * k))) (k + 1) z_66 (a1 + 6) (a2 + 36) (by omega) (by rw [smF_s, ← hu]; rfl) (by omega) (by omega))
  exact gw_weak (lo' := [some (vR 0), some (vR 231), some (vR 232), some (vR 233), some (vR 234), some (vR 235), some (vR 236), some (vR 237), some (vR 238), some (vI (t : Int)), some (vI (-2000000000)), some (vI 0), some (vI 1), some (vI (0 : Int)), none, none, none, none, none, none, none, none, none]) ⟨rfl, rfl, rfl, rfl, rfl, rfl, rfl, rfl, rfl, rfl, rfl, rfl, rfl, congrArg (fun q => some (vI q)) (by omega), trivial⟩ (loop_13 _ 0 0 z 0 0 (by omega) (by rfl) (by omega) (Nat.lt_succ_self _))
