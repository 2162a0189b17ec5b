theorem exC_b (S : Nat → Int) (l a b c : Int) : exC S l a b c = 0 ∨ exC S l a b c = 1 := by unfold exC; split <;> omega
theorem ff_b {T : Nat → Int} : ∀ (r i : Nat) (d g : Int), ffF T r i d g = -2000000000 ∨ (0 ≤ ffF T r i d g ∧ ffF T r i d g ≤ (i : Int) + (r : Int)) := by
  intro r
  induction r with
  | zero => intro i d g; rw [ffF_0]; split <;> omega
  | succ r ih =>
    intro i d g
    have h1 := ih (i + 1) (numZ (T i)) g
    have h2 := ih (i + 1) d (g + 1)
    have h3 := ih (i + 1) (d + (-1)) 0
    rw [ffF_s]
    (repeat' split) <;> omega
theorem ff_i {T : Nat → Int} {r : Nat} (h : r ≤ 90) : inI (ffF T r 0 0 0) := by
  have := ff_b (T := T) r 0 0 0
  exact ⟨by omega, by omega⟩
def obQ (I J : GI) (S : Nat → Int) (D : Nat → Nat → Int) (c : Nat) (x : Int) : Option GV → Nat → GI → GI → Prop := fun v _ I' J' => v = some (vI (exC S x (I 229 0) (I 229 1) (I 229 2))) ∧ (CI I' (exS S x (I 229 0) (I 229 1) (I 229 2)) D c ∧ frC I I') ∧ J' = J
set_option maxHeartbeats 4000000 in
set_option maxRecDepth 100000 in
theorem c_X7_obey {l : Launch} (hl0 : l.stackTraces = false) (G : GG) (I J : GI) {z : Nat} {S : Nat → Int} {D9 : Nat → Nat → Int} {c9 : Nat} (hCI : CI I S D9 c9) (x1 : Int) (hx1 : inI x1) : GM l yX7_obey (.code yX7_obey cX7_obey 3 (some .boolean)) 5 119 0 0 G N0 SH RR [vR 0, vI x1, vR 229] z I J (obQ I J S D9 c9 x1) gNo := by
  refine gm_of (lo0 := [some (vR 0), some (vI x1), some (vR 229)]) hl0 (by decide) rfl (Nat.le_of_ble_eq_true rfl) ?_
  intro p e s m args below meth c C ht hgi
  have C : gC G p l s m args meth c cX7_obey 3 RX7 (some .boolean) "obey" := C
  have hR := hCI.1.1.1
  have ho := hCI.1.1.2.1
  have hw := hCI.1.1.2.2
  have hj := hCI.2
  have hcnt := hR.2.1
  have hobd := ho.2.1
  have hrb := rfZ_b S x1 (I 229 0) (I 229 1) (I 229 2)
  refine gw_aload_n C 2 dX7_obey_0 rfl rfl ?_
  refine gw_alen C (t := 0) dX7_obey_1 rfl xs_229 xn_229 ?_
  refine gw_iconst C dX7_obey_2 ?_
  refine gw_icmp_lt C (tgt := 23) dX7_obey_3 (by decide) ⟨by decide, by decide⟩ ⟨by decide, by decide⟩ (fun h => absurd h (by decide)) (fun _ => ?_)
  refine gw_aload_n C 0 dX7_obey_6 rfl rfl ?_
  refine gw_iload_n C 1 dX7_obey_7 rfl rfl ?_
  refine gw_aload_n C 2 dX7_obey_8 rfl rfl ?_
  refine gw_iconst C dX7_obey_9 ?_
  refine gw_iald C 0 dX7_obey_10 xs_229 xn_229 (by omega) (by omega) (by decide) (fun hI_10 => ?_)
  refine gw_aload_n C 2 dX7_obey_11 rfl rfl ?_
  refine gw_iconst C dX7_obey_12 ?_
  refine gw_iald C 1 dX7_obey_13 xs_229 xn_229 (by omega) (by omega) (by decide) (fun hI_13 => ?_)
  refine gw_aload_n C 2 dX7_obey_14 rfl rfl ?_
  refine gw_iconst C dX7_obey_15 ?_
  refine gw_iald C 2 dX7_obey_16 xs_229 xn_229 (by omega) (by omega) (by decide) (fun hI_16 => ?_)
  refine gw_callVm C (as := [vI x1, vI (I 229 0), vI (I 229 1), vI (I 229 2)]) (st := []) (ci := 6) (T0 := TX7) (N := 3) (c_X7_refusalOf hl0 G I J hR ho hj x1 (I 229 0) (I 229 1) (I 229 2) hx1 hI_10 hI_13 hI_16) dX7_obey_17 kX7_275 qX7_refusalOf hdX7_refusalOf ⟨Nat.le_of_ble_eq_true rfl, Nat.le_of_ble_eq_true rfl⟩ ⟨Nat.le_of_ble_eq_true rfl, Nat.le_of_ble_eq_true rfl⟩ (Nat.le_of_ble_eq_true rfl) rfl xs_0 xn_0 rfl (fun z_17 => ?_)
  refine gw_if_eq C (tgt := 25) dX7_obey_20 (by decide) (by omega) (fun h_20 => ?_) (fun h_20 => ?_)
  · skip
    refine gw_aload_n C 0 dX7_obey_25 rfl rfl ?_
    refine gw_iload_n C 1 dX7_obey_26 rfl rfl ?_
    refine gw_aload_n C 2 dX7_obey_27 rfl rfl ?_
    refine gw_iconst C dX7_obey_28 ?_
    refine gw_iald C 0 dX7_obey_29 xs_229 xn_229 (by omega) (by omega) (by decide) (fun hI_29 => ?_)
    refine gw_aload_n C 2 dX7_obey_30 rfl rfl ?_
    refine gw_iconst C dX7_obey_31 ?_
    refine gw_iald C 1 dX7_obey_32 xs_229 xn_229 (by omega) (by omega) (by decide) (fun hI_32 => ?_)
    refine gw_aload_n C 2 dX7_obey_33 rfl rfl ?_
    refine gw_iconst C dX7_obey_34 ?_
    refine gw_iald C 2 dX7_obey_35 xs_229 xn_229 (by omega) (by omega) (by decide) (fun hI_35 => ?_)
    refine gw_callV C (as := [vI x1, vI (I 229 0), vI (I 229 1), vI (I 229 2)]) (st := []) (ci := 6) (T0 := TX7) (N := 3) (c_X7_carryOut hl0 G I J hR ho hj hw x1 (I 229 0) (I 229 1) (I 229 2) hx1 hI_29 hI_32 hI_35 (by omega)) dX7_obey_36 kX7_284 qX7_carryOut hdX7_carryOut ⟨Nat.le_of_ble_eq_true rfl, Nat.le_of_ble_eq_true rfl⟩ ⟨Nat.le_of_ble_eq_true rfl, Nat.le_of_ble_eq_true rfl⟩ (Nat.le_of_ble_eq_true rfl) rfl xs_0 xn_0 rfl (fun _ _ _ _ h => h.elim) ?_
    intro v_36 z_36_2 Kc J_36 hv_36
    obtain ⟨ev_36, ⟨hc1, hc2, hc3, hc4⟩, eJ_36⟩ := hv_36
    rw [ev_36, eJ_36]
    have hop := ck_op hCI.1 hc1 hc2 hc3 hc4
    show GW G p l e ({ frames := 5, cells := 0, slots := 0, locals := 119 } : Room) s m args below meth c 3 z_36_2 N0 SH RR Kc J 0 0 (vx_MQ below (GQ G N0 SH RR (obQ I J S D9 c9 x1)) (GX G N0 SH RR gNo) args s 0 0 (ge G)) 39 [some (vR 0), some (vI x1), some (vR 229)] [vI (coR S x1 (I 229 0))]
    refine gw_popI C dX7_obey_39 ?_
    refine gw_aload_n C 0 dX7_obey_40 rfl rfl ?_
    refine gw_getRs (ci := 6) (Cn := RX7) (T0 := TX7) (N := 3) C 1 0 kX7_10 fX7 rfl (by decide) rfl rfl dX7_obey_41 xs_0 xn_0 xr_0_0 ?_
    refine gw_callV C (as := []) (st := []) (ci := 2) (T0 := TX2) (N := 7) (c_X2_judge hl0 G Kc J mineQ_live hop.1.1.1 hop.1.1.2.1 hop.1.1.2.2) dX7_obey_44 kX7_49 qX2_judge hdX2_judge ⟨Nat.le_of_ble_eq_true rfl, Nat.le_of_ble_eq_true rfl⟩ ⟨Nat.le_of_ble_eq_true rfl, Nat.le_of_ble_eq_true rfl⟩ (Nat.le_of_ble_eq_true rfl) rfl (mq_s mineQ_live) (mq_n mineQ_live) rfl (fun _ _ _ _ h => h.elim) ?_
    intro v_44 z_44_2 Kj J_44 hv_44
    obtain ⟨ev_44, ⟨hf9, hj9⟩, eJ_44⟩ := hv_44
    rw [ev_44, eJ_44]
    have hjd := ck_judge hop.1 hf9 hj9
    show GW G p l e ({ frames := 5, cells := 0, slots := 0, locals := 119 } : Room) s m args below meth c 3 z_44_2 N0 SH RR Kj J 0 0 (vx_MQ below (GQ G N0 SH RR (obQ I J S D9 c9 x1)) (GX G N0 SH RR gNo) args s 0 0 (ge G)) 47 [some (vR 0), some (vI x1), some (vR 229)] []
    refine gw_iconst C dX7_obey_47 ?_
    exact gw_zret C (Nat.le_of_ble_eq_true rfl) (Nat.le_of_ble_eq_true rfl) dX7_obey_48 (Or.inr rfl) (⟨congrArg (fun q => some (vI q)) (by unfold exC; rw [if_pos (by omega)]), ⟨(by unfold exS; rw [if_pos (by omega)]; exact hjd.1), frC_trans hop.2 hjd.2⟩, rfl⟩)
  · skip
    refine gw_iconst C dX7_obey_23 ?_
    exact gw_zret C (Nat.le_of_ble_eq_true rfl) (Nat.le_of_ble_eq_true rfl) dX7_obey_24 (Or.inl rfl) (⟨congrArg (fun q => some (vI q)) (by unfold exC; rw [if_neg (by omega)]), ⟨(by unfold exS; rw [if_neg (by omega)]; exact hCI), frC_refl I⟩, rfl⟩)
def kRun (T : Nat → Int) (n : Nat) : Int := if ffF T n 0 0 0 = -2000000000 then 0 else 1
def scR (I K : GI) : Prop := (∀ q f, 230 ≤ q → K q f = I q f) ∧ K 228 0 = I 228 0 ∧ (∀ j, j < 3 → 0 ≤ K 229 j ∧ K 229 j ≤ 9999999) ∧ 0 ≤ K 228 3 ∧ K 228 3 ≤ 3
def rnI (I K : GI) (S0 S : Nat → Int) (D : Nat → Nat → Int) (c i : Nat) (dn : Int) : Prop := CI K S D c ∧ (∀ q f, 230 ≤ q → K q f = I q f) ∧ K 228 0 = I 228 0 ∧ (0 ≤ K 228 3 ∧ K 228 3 ≤ 3) ∧ crF (I 230) ((I 228 0).toNat - i) i (K 228 1) (K 228 3).toNat (K 229) S dn = crF (I 230) (I 228 0).toNat 0 (I 228 1) (I 228 3).toNat (I 229) S0 0 ∧ ∃ d g, bdI (I 230) (I 228 0).toNat i (K 228 3).toNat (K 229) d g
theorem rn_0 {I K : GI} {S : Nat → Int} {D : Nat → Nat → Int} {c : Nat} (hC : CI K S D c) (hf : frC I K) (hk : ffF (I 230) (I 228 0).toNat 0 0 0 = -2000000000) (hb : ∀ j, j < 3 → 0 ≤ I 229 j ∧ I 229 j ≤ 9999999) (ha : 0 ≤ I 228 3 ∧ I 228 3 ≤ 3) : rnI I K S S D c 0 0 := by
  have e229 : K 229 = I 229 := funext (fun f => hf 229 f (by decide))
  have e3 := hf 228 3 (by decide)
  have e1 := hf 228 1 (by decide)
  refine ⟨hC, fun q f hq => hf q f (by omega), hf 228 0 (by decide), by rw [e3]; exact ha, by rw [e229, e3, e1]; rfl, 0, 0, ?_⟩
  rw [e229, e3]
  exact ⟨hk, ⟨by omega, by omega, by omega, by omega, fun _ => rfl⟩, hb, fun q => by omega⟩
theorem rn_e {I K : GI} {S0 S : Nat → Int} {D : Nat → Nat → Int} {c i : Nat} {dn : Int} (h : rnI I K S0 S D c i dn) (hi : i < (I 228 0).toNat) (hT : 32 ≤ I 230 i ∧ I 230 i ≤ 126) (h59 : K 230 i ≠ 59) : rnI I (ecF K i) S0 S D c (i + 1) dn := by
  obtain ⟨hC, hF, h0, h3, hc, d, g, hb⟩ := h
  have eT : K 230 i = I 230 i := hF 230 i (by decide)
  rw [eT] at h59
  rw [show (I 228 0).toNat - i = (I 228 0).toNat - (i + 1) + 1 by omega, crF_s] at hc
  unfold ecF
  rw [eT]
  by_cases c1 : I 230 i = 44
  · rw [if_pos c1] at hc ⊢
    have b1 := bd_1 hb hi c1
    have e229 : up K 228 3 (K 228 3 + 1) 229 = K 229 := up_ne (by decide)
    refine ⟨ci_eq hC (fun q f hq => up_nn (by omega)), fun q f hq => by rw [up_nn (by omega)]; exact hF q f hq, by rw [up_ne2 (by decide)]; exact h0, ?_, ?_, d + (-1), 0, ?_⟩
    · have := b1.2.1; rw [up_eq]; omega
    · rw [up_eq, up_ne2 (by decide), e229, show (K 228 3 + 1).toNat = (K 228 3).toNat + 1 by omega]; exact hc
    · rw [up_eq, e229, show (K 228 3 + 1).toNat = (K 228 3).toNat + 1 by omega]; exact b1
  · rw [if_neg c1] at hc ⊢
    by_cases c2 : 48 ≤ I 230 i ∧ I 230 i ≤ 57
    · rw [if_pos c2] at hc ⊢
      have b2 := bd_2 hb hi c2
      rw [if_pos (by omega)]
      have e3 : up K 229 (K 228 3).toNat (10 * K 229 (K 228 3).toNat + (I 230 i - 48)) 228 = K 228 := up_ne (by decide)
      refine ⟨ci_eq hC (fun q f hq => up_nn (by omega)), fun q f hq => by rw [up_nn (by omega)]; exact hF q f hq, by rw [e3]; exact h0, by rw [e3]; exact h3, ?_, d, g + 1, ?_⟩
      · rw [e3, up_us]; exact hc
      · rw [e3, up_us]; exact b2.2
    · rw [if_neg c2, if_neg h59] at hc
      rw [if_neg c2, if_pos h59]
      have b4 := bd_4 hb hi c1 c2 h59
      unfold stF
      have e228 : ∀ x y z w v : Int, up (up (up (up (up K 228 1 x) 228 3 y) 229 0 z) 229 1 w) 229 2 v 228 = up (up K 228 1 x) 228 3 y 228 := fun x y z w v => by rw [up_ne (by decide), up_ne (by decide), up_ne (by decide)]
      have e229 : up (up (up (up (up K 228 1 (I 230 i)) 228 3 0) 229 0 0) 229 1 0) 229 2 0 229 = us (us (us (K 229) 0 0) 1 0) 2 0 := by rw [up_us, up_us, up_us, up_ne (by decide), up_ne (by decide)]
      refine ⟨ci_eq hC (fun q f hq => by rw [up_nn (by omega), up_nn (by omega), up_nn (by omega), up_nn (by omega), up_nn (by omega)]), fun q f hq => by rw [up_nn (by omega), up_nn (by omega), up_nn (by omega), up_nn (by omega), up_nn (by omega)]; exact hF q f hq, ?_, ?_, ?_, numZ (I 230 i), 0, ?_⟩
      · rw [e228, up_ne2 (by decide), up_ne2 (by decide)]; exact h0
      · rw [e228, up_eq]; exact ⟨by decide, by decide⟩
      · rw [e228, up_eq, up_ne2 (by decide), up_eq, e229]; exact hc
      · rw [e228, up_eq, e229]; exact b4
theorem rn_x {I K K' : GI} {S0 S S' : Nat → Int} {D : Nat → Nat → Int} {c i : Nat} {dn x : Int} (h : rnI I K S0 S D c i dn) (hi : i < (I 228 0).toNat) (h59 : K 230 i = 59) (hS : S' = exS S (K 228 1) (K 229 0) (K 229 1) (K 229 2)) (hx : x = exC S (K 228 1) (K 229 0) (K 229 1) (K 229 2)) (hC : CI K' S' D c) (hf : frC K K') : rnI I K' S0 S' D c (i + 1) (dn + x) := by
  subst hS hx
  obtain ⟨_, hF, h0, h3, hc, d, g, hb⟩ := h
  have eT : K 230 i = I 230 i := hF 230 i (by decide)
  rw [eT] at h59
  rw [show (I 228 0).toNat - i = (I 228 0).toNat - (i + 1) + 1 by omega, crF_s, if_neg (by omega), if_neg (by omega), if_pos h59] at hc
  have e229 : K' 229 = K 229 := funext (fun f => hf 229 f (by decide))
  have e3 := hf 228 3 (by decide)
  have e1 := hf 228 1 (by decide)
  refine ⟨hC, fun q f hq => by rw [hf q f (by omega)]; exact hF q f hq, by rw [hf 228 0 (by decide)]; exact h0, by rw [e3]; exact h3, by rw [e229, e3, e1]; exact hc, 0, 0, ?_⟩
  rw [e229, e3]
  exact bd_3 hb hi h59
theorem ec_59 {K : GI} {i : Nat} (h : K 230 i = 59) : ecF K i = K := by
  unfold ecF
  rw [if_neg (by omega), if_neg (by omega), if_neg (by omega)]
theorem rn_z {I K : GI} {S0 S : Nat → Int} {D : Nat → Nat → Int} {c i : Nat} {dn : Int} (h : rnI I K S0 S D c i dn) (hi : i = (I 228 0).toNat) : (S, dn) = crF (I 230) (I 228 0).toNat 0 (I 228 1) (I 228 3).toNat (I 229) S0 0 ∧ scR I K := by
  obtain ⟨_, hF, h0, h3, hc, d, g, hb⟩ := h
  rw [hi, Nat.sub_self] at hc
  exact ⟨hc, hF, h0, hb.2.2.1, h3⟩
def ruQ (I J : GI) (S : Nat → Int) (D' : Nat → Nat → Int) (c' : Nat) : Option GV → Nat → GI → GI → Prop := fun v _ I' J' => (kRun (I 230) (I 228 0).toNat = 0 ∧ v = some (vI (crF (I 230) (I 228 0).toNat 0 (I 228 1) (I 228 3).toNat (I 229) S 0).2)) ∧ (CI I' (crF (I 230) (I 228 0).toNat 0 (I 228 1) (I 228 3).toNat (I 229) S 0).1 D' c' ∧ scR I I') ∧ J' = J
theorem ru_of {I J K : GI} {S0 S : Nat → Int} {D : Nat → Nat → Int} {c i z : Nat} {dn : Int} (h : rnI I K S0 S D c i dn) (hi : i = (I 228 0).toNat) (hk : ffF (I 230) (I 228 0).toNat 0 0 0 = -2000000000) : ruQ I J S0 D c (some (vI dn)) z K J := by
  have e := rn_z h hi
  refine ⟨⟨by unfold kRun; rw [if_pos hk], ?_⟩, ⟨?_, e.2⟩, rfl⟩
  · rw [← e.1]
  · rw [← e.1]; exact h.1
set_option maxHeartbeats 4000000 in
set_option maxRecDepth 100000 in
theorem c_X7_run {l : Launch} (hl0 : l.stackTraces = false) (G : GG) (I J : GI) {z : Nat} {S : Nat → Int} {D9 : Nat → Nat → Int} {c9 : Nat} (hCI : CI I S D9 c9) (hn : 0 ≤ I 228 0 ∧ I 228 0 ≤ 90) (hT : ∀ k : Nat, (k : Int) < I 228 0 → 32 ≤ I 230 k ∧ I 230 k ≤ 126) (hb9 : ∀ j, j < 3 → 0 ≤ I 229 j ∧ I 229 j ≤ 9999999) (ha9 : 0 ≤ I 228 3 ∧ I 228 3 ≤ 3) : GM l yX7_run (.code yX7_run cX7_run 3 (some .int)) 6 141 1 6 G N0 SH RR [vR 0] z I J (ruQ I J S (psh S D9) (cN c9)) (xcQ (kRun (I 230) (I 228 0).toNat) nIA nIA nIA I J) := by
  refine gm_of (lo0 := [some (vR 0), none, none]) hl0 (by decide) rfl (Nat.le_of_ble_eq_true rfl) ?_
  intro p e s m args below meth c C ht hgi
  have C : gC G p l s m args meth c cX7_run 3 RX7 (some .int) "run" := C
  have hR := hCI.1.1.1
  have ho := hCI.1.1.2.1
  have hw := hCI.1.1.2.2
  have hj := hCI.2
  have hcnt := hR.2.1
  have hobd := ho.2.1
  have hfi := ff_i (T := I 230) (r := (I 228 0).toNat) (by omega)
  refine gw_aload_n C 0 dX7_run_0 rfl rfl ?_
  refine gw_getRs (ci := 6) (Cn := RX7) (T0 := TX7) (N := 3) C 228 2 kX7_26 fX7 rfl (by decide) rfl rfl dX7_run_1 xs_0 xn_0 xr_0_2 ?_
  refine gw_callVm C (as := []) (st := []) (ci := 3) (T0 := TX4) (N := 5) (c_X4_firstFault hl0 G I J (by omega)) dX7_run_4 kX7_232 qX4_firstFault hdX4_firstFault ⟨Nat.le_of_ble_eq_true rfl, Nat.le_of_ble_eq_true rfl⟩ ⟨Nat.le_of_ble_eq_true rfl, Nat.le_of_ble_eq_true rfl⟩ (Nat.le_of_ble_eq_true rfl) rfl xs_228 xn_228 rfl (fun z_4 => ?_)
  refine gw_ldc C (x := (-2000000000)) dX7_run_7 kX7_189 (by decide) ?_
  refine gw_icmp_eq C (tgt := 22) dX7_run_9 (by decide) hfi ⟨by decide, by decide⟩ (fun h_9 => ?_) (fun h_9 => ?_)
  · skip
    refine gw_aload_n C 0 dX7_run_22 rfl rfl ?_
    refine gw_getRs (ci := 6) (Cn := RX7) (T0 := TX7) (N := 3) C 46 1 kX7_19 fX7 rfl (by decide) rfl rfl dX7_run_23 xs_0 xn_0 xr_0_1 ?_
    refine gw_aload_n C 0 dX7_run_26 rfl rfl ?_
    refine gw_getRs (ci := 6) (Cn := RX7) (T0 := TX7) (N := 3) C 1 0 kX7_10 fX7 rfl (by decide) rfl rfl dX7_run_27 xs_0 xn_0 xr_0_0 ?_
    refine gw_callV C (as := [vR 1]) (st := []) (ci := 0) (T0 := TX0) (N := 3) (c_X0_keep hl0 G I J hCI.1.2.1.1 (by have := hCI.1.2.1.2; omega)) dX7_run_30 kX7_41 qX0_keep hdX0_keep ⟨Nat.le_of_ble_eq_true rfl, Nat.le_of_ble_eq_true rfl⟩ ⟨Nat.le_of_ble_eq_true rfl, Nat.le_of_ble_eq_true rfl⟩ (Nat.le_of_ble_eq_true rfl) rfl xs_46 xn_46 rfl (fun _ _ _ _ h => h.elim) ?_
    intro v_30 z_30_2 Kk J_30 hv_30
    obtain ⟨ev_30, hkp_30, eJ_30⟩ := hv_30
    rw [ev_30, eJ_30]
    have hk9 := ck_keep hCI hkp_30
    have hR2 := hk9.1.1.1.1
    have hw2 := hk9.1.1.1.2.2
    have hj2 := hk9.1.2
    have hcn2 := hR2.2.1
    show GW G p l e ({ frames := 6, cells := 1, slots := 6, locals := 141 } : Room) s m args below meth c 3 z_30_2 N0 SH RR Kk J 0 0 (vx_MQ below (GQ G N0 SH RR (ruQ I J S (psh S D9) (cN c9))) (GX G N0 SH RR (xcQ (kRun (I 230) (I 228 0).toNat) nIA nIA nIA I J)) args s 1 6 (ge G)) 33 [some (vR 0), none, none] []
    refine gw_iconst C dX7_run_33 ?_
    refine gw_istore_n C (lo1 := [some (vR 0), some (vI 0), none]) 1 dX7_run_34 rfl (by decide) rfl ?_
    refine gw_iconst C dX7_run_35 ?_
    refine gw_istore_n C (lo1 := [some (vR 0), some (vI 0), some (vI 0)]) 2 dX7_run_36 rfl (by decide) rfl ?_
    have loop_37 : ∀ (fuel : Nat) (dn : Int) (i : Nat) (Kr : GI) (Sg : (Nat → Int)) (z1 : Nat), ((i : Int) ≤ I 228 0) → (rnI I Kr S Sg (psh S D9) (cN c9) i dn) → (0 ≤ dn ∧ dn ≤ (i : Int)) → 91 - i < fuel → GW G p l e ({ frames := 6, cells := 1, slots := 6, locals := 141 } : Room) s m args below meth c 3 z1 N0 SH RR Kr J 0 0 (vx_MQ below (GQ G N0 SH RR (ruQ I J S (psh S D9) (cN c9))) (GX G N0 SH RR (xcQ (kRun (I 230) (I 228 0).toNat) nIA nIA nIA I J)) args s 1 6 (ge G)) 37 [some (vR 0), some (vI dn), some (vI (i : Int))] [] := by
      intro fuel
      induction fuel with
      | zero => intro dn i Kr Sg z1 hi hrn hdn hf_37; exact absurd hf_37 (Nat.not_lt_zero _)
      | succ fuel ih_37 =>
        intro dn i Kr Sg z1 hi hrn hdn hf_37
        have hFr := hrn.2.1
        have ha8 := hrn.2.2.2.1
        obtain ⟨d9, g9, hbd⟩ := hrn.2.2.2.2.2
        refine gw_iload_n C 2 dX7_run_37 rfl rfl ?_
        refine gw_aload_n C 0 dX7_run_38 rfl rfl ?_
        refine gw_getRs (ci := 6) (Cn := RX7) (T0 := TX7) (N := 3) C 228 2 kX7_26 fX7 rfl (by decide) rfl rfl dX7_run_39 xs_0 xn_0 xr_0_2 ?_
        refine gw_getI (ci := 3) (Cn := RX4) (T0 := TX4) (N := 5) C 0 kX7_220 fX4 rfl (by decide) rfl rfl dX7_run_42 xs_228 xn_228 (fun hI_42 => ?_)
        rw [show (Kr 228 0) = I 228 0 from hrn.2.2.1] at hI_42 ⊢
        refine gw_icmp_ge C (tgt := 89) dX7_run_45 (by decide) (by omega) hI_42 (fun h_45 => ?_) (fun h_45 => ?_)
        · skip
          refine gw_iload_n C 1 dX7_run_89 rfl rfl ?_
          exact gw_iret C (Nat.le_of_ble_eq_true rfl) (Nat.le_of_ble_eq_true rfl) dX7_run_90 (ru_of hrn (by omega) (by omega))
        · skip
          refine gw_aload_n C 0 dX7_run_48 rfl rfl ?_
          refine gw_getRs (ci := 6) (Cn := RX7) (T0 := TX7) (N := 3) C 228 2 kX7_26 fX7 rfl (by decide) rfl rfl dX7_run_49 xs_0 xn_0 xr_0_2 ?_
          refine gw_iload_n C 2 dX7_run_52 rfl rfl ?_
          refine gw_callVb C (as := [vI (i : Int)]) (st := []) (ci := 3) (T0 := TX4) (N := 5) (c_X4_endsCommand hl0 G Kr J i (by omega) (by rw [hFr 230 i (by decide)]; exact hT i (by omega)) (fun j hj => by have := hbd.2.2.1 j hj; omega) (by omega)) dX7_run_53 kX7_237 qX4_endsCommand hdX4_endsCommand ⟨Nat.le_of_ble_eq_true rfl, Nat.le_of_ble_eq_true rfl⟩ ⟨Nat.le_of_ble_eq_true rfl, Nat.le_of_ble_eq_true rfl⟩ (Nat.le_of_ble_eq_true rfl) rfl xs_228 xn_228 rfl (fun h_53 z_53 => ?_) (fun h_53 z_53 => ?_)
          · skip
            have h59 := h_53
            rw [ec_59 h59]
            refine gw_if_eq C (tgt := 83) dX7_run_56 (by decide) ⟨by decide, by decide⟩ (fun h => absurd h (by decide)) (fun _ => ?_)
            refine gw_aload_n C 0 dX7_run_59 rfl rfl ?_
            refine gw_aload_n C 0 dX7_run_60 rfl rfl ?_
            refine gw_getRs (ci := 6) (Cn := RX7) (T0 := TX7) (N := 3) C 228 2 kX7_26 fX7 rfl (by decide) rfl rfl dX7_run_61 xs_0 xn_0 xr_0_2 ?_
            refine gw_getI (ci := 3) (Cn := RX4) (T0 := TX4) (N := 5) C 1 kX7_240 fX4 rfl (by decide) rfl rfl dX7_run_64 xs_228 xn_228 (fun hI_64 => ?_)
            refine gw_aload_n C 0 dX7_run_67 rfl rfl ?_
            refine gw_getRs (ci := 6) (Cn := RX7) (T0 := TX7) (N := 3) C 228 2 kX7_26 fX7 rfl (by decide) rfl rfl dX7_run_68 xs_0 xn_0 xr_0_2 ?_
            refine gw_getRs (ci := 3) (Cn := RX4) (T0 := TX4) (N := 5) C 229 2 kX7_244 fX4 rfl (by decide) rfl rfl dX7_run_71 xs_228 xn_228 xr_228_2 ?_
            refine gw_callV C (as := [vI (Kr 228 1), vR 229]) (st := []) (ci := 6) (T0 := TX7) (N := 3) (c_X7_obey hl0 G Kr J hrn.1 (Kr 228 1) hI_64) dX7_run_74 kX7_247 qX7_obey hdX7_obey ⟨Nat.le_of_ble_eq_true rfl, Nat.le_of_ble_eq_true rfl⟩ ⟨Nat.le_of_ble_eq_true rfl, Nat.le_of_ble_eq_true rfl⟩ (Nat.le_of_ble_eq_true rfl) rfl xs_0 xn_0 rfl (fun _ _ _ _ h => h.elim) ?_
            intro v_74 z_74_2 Ky J_74 hv_74
            obtain ⟨ev_74, ⟨hy1, hy2⟩, eJ_74⟩ := hv_74
            rw [ev_74, eJ_74]
            have hxb := exC_b Sg (Kr 228 1) (Kr 229 0) (Kr 229 1) (Kr 229 2)
            have hrx := rn_x hrn (by omega) h59 rfl rfl hy1 hy2
            show GW G p l e ({ frames := 6, cells := 1, slots := 6, locals := 141 } : Room) s m args below meth c 3 z_74_2 N0 SH RR Ky J 0 0 (vx_MQ below (GQ G N0 SH RR (ruQ I J S (psh S D9) (cN c9))) (GX G N0 SH RR (xcQ (kRun (I 230) (I 228 0).toNat) nIA nIA nIA I J)) args s 1 6 (ge G)) 77 [some (vR 0), some (vI dn), some (vI (i : Int))] [vI (exC Sg (Kr 228 1) (Kr 229 0) (Kr 229 1) (Kr 229 2))]
            refine gw_if_eq C (tgt := 83) dX7_run_77 (by decide) (by omega) (fun h_77 => ?_) (fun h_77 => ?_)
            · skip
              refine gw_iinc C (lo1 := [some (vR 0), some (vI dn), some (vI ((i : Int) + 1))]) dX7_run_83 rfl (by decide) rfl ?_
              refine gw_goto C (tgt := 37) dX7_run_86 (by decide) ?_
              exact gw_weak (lo' := [some (vR 0), some (vI dn), some (vI (((i + 1) : Nat) : Int))]) ⟨rfl, rfl, congrArg (fun q => some (vI q)) (by omega), trivial⟩ (ih_37 dn (i + 1) Ky (exS Sg (Kr 228 1) (Kr 229 0) (Kr 229 1) (Kr 229 2)) z_74_2 (by omega) (by first | (rw [show dn = dn + exC Sg (Kr 228 1) (Kr 229 0) (Kr 229 1) (Kr 229 2) by omega]; exact hrx) | (rw [show dn + 1 = dn + exC Sg (Kr 228 1) (Kr 229 0) (Kr 229 1) (Kr 229 2) by omega]; exact hrx)) (by omega) (by omega))
            · skip
              refine gw_iinc C (lo1 := [some (vR 0), some (vI (dn + 1)), some (vI (i : Int))]) dX7_run_80 rfl (by decide) rfl ?_
              refine gw_iinc C (lo1 := [some (vR 0), some (vI (dn + 1)), some (vI ((i : Int) + 1))]) dX7_run_83 rfl (by decide) rfl ?_
              refine gw_goto C (tgt := 37) dX7_run_86 (by decide) ?_
              exact gw_weak (lo' := [some (vR 0), some (vI (dn + 1)), some (vI (((i + 1) : Nat) : Int))]) ⟨rfl, rfl, congrArg (fun q => some (vI q)) (by omega), trivial⟩ (ih_37 (dn + 1) (i + 1) Ky (exS Sg (Kr 228 1) (Kr 229 0) (Kr 229 1) (Kr 229 2)) z_74_2 (by omega) (by first | (rw [show dn = dn + exC Sg (Kr 228 1) (Kr 229 0) (Kr 229 1) (Kr 229 2) by omega]; exact hrx) | (rw [show dn + 1 = dn + exC Sg (Kr 228 1) (Kr 229 0) (Kr 229 1) (Kr 229 2) by omega]; exact hrx)) (by omega) (by omega))
          · skip
            have hre := rn_e hrn (by omega) (hT i (by omega)) h_53
            refine gw_if_eq C (tgt := 83) dX7_run_56 (by decide) ⟨by decide, by decide⟩ (fun _ => ?_) (fun h => absurd h (by decide))
            refine gw_iinc C (lo1 := [some (vR 0), some (vI dn), some (vI ((i : Int) + 1))]) dX7_run_83 rfl (by decide) rfl ?_
            refine gw_goto C (tgt := 37) dX7_run_86 (by decide) ?_
            exact gw_weak (lo' := [some (vR 0), some (vI dn), some (vI (((i + 1) : Nat) : Int))]) ⟨rfl, rfl, congrArg (fun q => some (vI q)) (by omega), trivial⟩ (ih_37 dn (i + 1) (ecF Kr i) Sg z_53 (by omega) (by exact hre) (by omega) (by omega))
    exact gw_weak (lo' := [some (vR 0), some (vI 0), some (vI (0 : Int))]) ⟨rfl, rfl, congrArg (fun q => some (vI q)) (by omega), trivial⟩ (loop_37 _ 0 0 Kk S z_30_2 (by omega) (by exact rn_0 hk9.1 hk9.2 (by omega) hb9 ha9) (by omega) (Nat.lt_succ_self _))
  · skip
    exact gw_throw C (cls := "java/lang/IllegalArgumentException") (text := "the text has a fault") (ik := 34) (is := 235) (ic := 38) ht (by decide) (by decide) kX7_34 n_IllegalArgumentException (List.mem_of_getElem? (i := 26) rfl) gt_IA_38_1 gt_IA_38_2 (by decide) gt_IA_38_3 dX7_run_12 dX7_run_15 dX7_run_16 dX7_run_18 dX7_run_21 (Nat.le_of_ble_eq_true rfl) (Nat.le_of_ble_eq_true rfl) (Nat.le_of_ble_eq_true rfl) (Nat.le_of_ble_eq_true rfl) (Nat.le_of_ble_eq_true rfl) (Nat.le_of_ble_eq_true rfl) (fun _ => ⟨Or.inl ⟨(by unfold kRun; rw [if_neg (by omega)]), rfl⟩, rfl, rfl⟩)
