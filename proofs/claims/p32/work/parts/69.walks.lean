def gpO (I : GI) (v : Int) : Prop := 0 < rowL I 5 → ∀ t : Nat, v.tmod (rowL I 5) = (t : Int) → (rowL I (104 + 28 * t) < 0 ∨ sTT (rowL I) t ≠ 0 ∨ sG (rowL I) t = 0)
def wkQ (v : Int) (J : GI) : Option GV → Nat → GI → GI → Prop := fun r _ I' J' => r = some (vI 1) ∧ (LI I' ∧ gpO I' v) ∧ J' = J
def acQ (x : Int) (J : GI) : Option GV → Nat → GI → GI → Prop := fun r _ I' J' => r = some (vI 1) ∧ (LI I' ∧ (26 ≤ lowZ x 28 → gpO I' (lowZ (sh5 x) 60000000))) ∧ J' = J
theorem gp_1 {I : GI} {S : Nat → Int} {v : Int} {t : Nat} (hR : rowL I = S) (h5 : 0 < S 5) (et : v.tmod (((S 5).toNat : Nat) : Int) = (t : Int)) (h : S (104 + 28 * t) < 0 ∨ sTT S t ≠ 0) : gpO I v := by
  intro _ q e
  rw [hR] at e ⊢
  rw [show (((S 5).toNat : Nat) : Int) = S 5 by omega, e] at et
  have eq : q = t := by omega
  subst eq
  exact h.elim Or.inl (fun g => Or.inr (Or.inl g))
theorem gp_2 {I : GI} {S : Nat → Int} {v : Int} {t : Nat} (hR : rowL I = oAdj S t) (ho : Oks S) (htt : (t : Int) < S 5) (hc : 0 ≤ S (104 + 28 * t)) (et : v.tmod (((S 5).toNat : Nat) : Int) = (t : Int)) : gpO I v := by
  have h12 := (okT ho htt).1.2.1.2
  intro _ q e
  rw [hR] at e ⊢
  rw [show oAdj S t 5 = S 5 from adj_o h12 (by omega)] at e
  rw [show (((S 5).toNat : Nat) : Int) = S 5 by omega, e] at et
  have eq : q = t := by omega
  subst eq
  exact Or.inr (Or.inr (adj_gap ho htt hc))
theorem gp_0 {I : GI} {v : Int} (h : ¬ 0 < rowL I 5) : gpO I v := fun q => absurd q h
theorem no_tr {S : Nat → Int} (ho : Oks S) (h4 : S 4 = 0) : ¬ 0 < S 5 := fun h => by
  have := (okT ho (t := 0) h).1.1
  omega
theorem ocl {S : Nat → Int} {t : Nat} {j a : Int} : oClose S t j a 4 = S 4 ∧ oClose S t j a 5 = S 5 ∧ oClose S t j a (102 + 28 * t) = S (102 + 28 * t) ∧ oClose S t j a (103 + 28 * t) = S (103 + 28 * t) ∧ oClose S t j a (104 + 28 * t) = j := by
  unfold oClose
  refine ⟨?_, ?_, ?_, ?_, ?_⟩
  · rw [us_ne (by omega), us_ne (by omega)]
  · rw [us_ne (by omega), us_ne (by omega)]
  · rw [us_ne (by omega), us_ne (by omega)]
  · rw [us_ne (by omega), us_ne (by omega)]
  · rw [us_ne (by omega), us_at rfl]
set_option maxHeartbeats 4000000 in
set_option maxRecDepth 100000 in
theorem c_L_walks0 {l : Launch} (hl0 : l.stackTraces = false) (G : GG) (I J : GI) {z : Nat} (hLI : LI I) (v : Int) (h5 : 0 < rowL I 5) (hv : 0 ≤ v ∧ v < 100000000) : GM l yL_walks (.code yL_walks cL_walks 14 (some .boolean)) 9 192 1 6 G N0 SH RR [vR 0, vR 231, vR 233, vR 234, vR 235, vR 236, vR 237, vR 238, vI v, vI 0] z I J (liQ J) gNo := by
  refine gm_of (lo0 := [some (vR 0), some (vR 231), some (vR 233), some (vR 234), some (vR 235), some (vR 236), some (vR 237), some (vR 238), some (vI v), some (vI 0), none, none, none, none]) hl0 (by decide) rfl (Nat.le_of_ble_eq_true rfl) ?_
  intro p e s m args below meth c C ht hgi
  have C : gC G p l s m args meth c cL_walks 14 RL (some .boolean) "walks" := C
  obtain ⟨D9, c9, hCI⟩ := hLI
  obtain ⟨S, hR⟩ : ∃ S, rowL I = S := ⟨_, rfl⟩
  rw [hR] at hCI
  rw [hR] at h5
  have ho := hCI.1.1.2.1
  have h0 := ho.1
  have h3 := ho.2.1
  refine gw_iload C dL_walks_0 rfl ?_
  refine gw_aload_n C 1 dL_walks_2 rfl rfl ?_
  refine gw_iconst C dL_walks_3 ?_
  refine gw_iald C 5 dL_walks_4 xs_231 xn_231 (by omega) (by omega) (by decide) (fun hI_4 => ?_)
  rw [show (I 231 5) = (((S 5).toNat : Nat) : Int) from by have e9 := lr_g (I := I) (k := 5) (by omega); rw [hR] at e9; omega] at hI_4 ⊢
  refine gw_irem C dL_walks_5 (by first | omega | assumption | exact hgi _ _) hI_4 (by omega) ?_
  obtain ⟨t, et_t, hb_t⟩ := tm_nat (v := v) (n := (((S 5).toNat : Nat) : Int)) (by omega) (by omega)
  rw [show (v).tmod (((S 5).toNat : Nat) : Int) = (t : Int) from et_t]
  refine gw_istore C (lo1 := [some (vR 0), some (vR 231), some (vR 233), some (vR 234), some (vR 235), some (vR 236), some (vR 237), some (vR 238), some (vI v), some (vI 0), some (vI (t : Int)), none, none, none]) dL_walks_6 (by decide) rfl ?_
  refine gw_iload C dL_walks_8 rfl ?_
  refine gw_iconst C dL_walks_10 ?_
  refine gw_idiv C dL_walks_11 (by first | omega | assumption | exact hgi _ _) ⟨by decide, by decide⟩ (by decide) ?_
  rw [show (v).tdiv 4 = (v / 4) from Int.tdiv_eq_ediv_of_nonneg (by omega)]
  refine gw_ldc C (x := 1296000) dL_walks_12 kL_147 (by decide) ?_
  refine gw_irem C dL_walks_14 (by first | omega | assumption | exact hgi _ _) ⟨by decide, by decide⟩ (by decide) ?_
  rw [show ((v / 4)).tmod 1296000 = ((v / 4) % 1296000) from Int.tmod_eq_emod_of_nonneg (by omega)]
  refine gw_istore C (lo1 := [some (vR 0), some (vR 231), some (vR 233), some (vR 234), some (vR 235), some (vR 236), some (vR 237), some (vR 238), some (vI v), some (vI 0), some (vI (t : Int)), some (vI ((v / 4) % 1296000)), none, none]) dL_walks_15 (by decide) rfl ?_
  have htt : (t : Int) < S 5 := by omega
  have ht9 := okT ho htt
  have hf9 := ho.2.2.2.1 (S (102 + 28 * t)).toNat (by omega)
  refine gw_aload C dL_walks_17 rfl ?_
  refine gw_iconst C dL_walks_19 ?_
  refine gw_iload C dL_walks_20 rfl ?_
  refine gw_imul C dL_walks_22 ?_
  refine gw_iconst C dL_walks_23 ?_
  refine gw_iadd C dL_walks_24 ?_
  refine gw_iald C ((4 * t) + 1) dL_walks_25 xs_236 xn_236 (by omega) (by omega) (by decide) (fun hI_25 => ?_)
  rw [show (I 236 ((4 * t) + 1)) = (((S (103 + 28 * t)).toNat : Nat) : Int) from by have e9 := lr_h1 (I := I) (t := t) (by omega); rw [hR] at e9; omega] at hI_25 ⊢
  refine gw_istore C (lo1 := [some (vR 0), some (vR 231), some (vR 233), some (vR 234), some (vR 235), some (vR 236), some (vR 237), some (vR 238), some (vI v), some (vI 0), some (vI (t : Int)), some (vI ((v / 4) % 1296000)), some (vI (((S (103 + 28 * t)).toNat : Nat) : Int)), none]) dL_walks_26 (by decide) rfl ?_
  refine gw_iload C dL_walks_28 rfl ?_
  refine gw_if_ne C (tgt := 144) dL_walks_30 (by decide) ⟨by decide, by decide⟩ (fun h => absurd h (by decide)) (fun _ => ?_)
  refine gw_iconst C dL_walks_33 ?_
  refine gw_iload C dL_walks_34 rfl ?_
  refine gw_iconst C dL_walks_36 ?_
  refine gw_idiv C dL_walks_37 (by first | omega | assumption | exact hgi _ _) ⟨by decide, by decide⟩ (by decide) ?_
  rw [show (v).tdiv 3 = (v / 3) from Int.tdiv_eq_ediv_of_nonneg (by omega)]
  refine gw_ldc C (x := 200000) dL_walks_38 kL_148 (by decide) ?_
  refine gw_irem C dL_walks_40 (by first | omega | assumption | exact hgi _ _) ⟨by decide, by decide⟩ (by decide) ?_
  rw [show ((v / 3)).tmod 200000 = ((v / 3) % 200000) from Int.tmod_eq_emod_of_nonneg (by omega)]
  refine gw_iadd C dL_walks_41 ?_
  refine gw_istore C (lo1 := [some (vR 0), some (vR 231), some (vR 233), some (vR 234), some (vR 235), some (vR 236), some (vR 237), some (vR 238), some (vI v), some (vI 0), some (vI (t : Int)), some (vI ((v / 4) % 1296000)), some (vI (((S (103 + 28 * t)).toNat : Nat) : Int)), some (vI (1 + ((v / 3) % 200000)))]) dL_walks_42 (by decide) rfl ?_
  refine gw_iload C dL_walks_44 rfl ?_
  refine gw_bipush C dL_walks_46 rfl ?_
  refine gw_icmp_eq C (tgt := 63) dL_walks_48 (by decide) hI_25 ⟨by decide, by decide⟩ (fun h_48 => ?_) (fun h_48 => ?_)
  · skip
    refine gw_aload_n C 0 dL_walks_63 rfl rfl ?_
    refine gw_iload C dL_walks_64 rfl ?_
    refine gw_iload C dL_walks_66 rfl ?_
    refine gw_iload C dL_walks_68 rfl ?_
    refine gw_callSH C (as := [vR 0, vI (t : Int), vI ((v / 4) % 1296000), vI (1 + ((v / 3) % 200000))]) (st := []) (c_L_adds hl0 G I J hCI (t : Int) ((v / 4) % 1296000) (1 + ((v / 3) % 200000)) (by first | omega | assumption | exact hgi _ _) (by first | omega | assumption | exact hgi _ _) (by first | omega | assumption | exact hgi _ _)) dL_walks_70 kL_149 qL_adds hdL_adds ⟨Nat.le_of_ble_eq_true rfl, Nat.le_of_ble_eq_true rfl⟩ ⟨Nat.le_of_ble_eq_true rfl, Nat.le_of_ble_eq_true rfl⟩ (Nat.le_of_ble_eq_true rfl) rfl (fun _ _ _ _ h => h.elim) ?_
    intro v_70 z_70_2 I_70 J_9 hv_70
    obtain ⟨ev, ⟨hm, hn⟩, eJ⟩ := hv_70
    have hk_70 : rfL S (t : Int) ((v / 4) % 1296000) (1 + ((v / 3) % 200000)) = 3 := by unfold rfL; rw [show ((t : Nat) : Int).toNat = t from rfl]; rw [if_neg (by omega), if_neg (by omega), if_pos (by omega)]
    rw [ev, eJ, hn (by omega), cdV_3 hk_70]
    show GW G p l e ({ frames := 9, cells := 1, slots := 6, locals := 192 } : Room) s m args below meth c 14 z_70_2 N0 SH RR I J 1 6 (vx_MQ below (GQ G N0 SH RR (liQ J)) (GX G N0 SH RR gNo) args s 1 6 (ge G)) 73 [some (vR 0), some (vR 231), some (vR 233), some (vR 234), some (vR 235), some (vR 236), some (vR 237), some (vR 238), some (vI v), some (vI 0), some (vI (t : Int)), some (vI ((v / 4) % 1296000)), some (vI (((S (103 + 28 * t)).toNat : Nat) : Int)), some (vI (1 + ((v / 3) % 200000)))] [vI (-2000003)]
    refine gw_ldc C (x := (-2000003)) dL_walks_73 kL_23 (by decide) ?_
    refine gw_icmp_ne C (tgt := 82) dL_walks_75 (by decide) ⟨by decide, by decide⟩ ⟨by decide, by decide⟩ (fun h => absurd h (by decide)) (fun _ => ?_)
    refine gw_iconst C dL_walks_78 ?_
    refine gw_goto C (tgt := 83) dL_walks_79 (by decide) ?_
    exact gw_zret C (Nat.le_of_ble_eq_true rfl) (Nat.le_of_ble_eq_true rfl) dL_walks_83 (Or.inr rfl) (⟨rfl, ⟨_, _, by rw [hR]; exact hCI⟩, rfl⟩)
  · skip
    refine gw_aload C dL_walks_51 rfl ?_
    refine gw_iconst C dL_walks_53 ?_
    refine gw_iload C dL_walks_54 rfl ?_
    refine gw_imul C dL_walks_56 ?_
    refine gw_iconst C dL_walks_57 ?_
    refine gw_iadd C dL_walks_58 ?_
    refine gw_iald C ((4 * t) + 2) dL_walks_59 xs_236 xn_236 (by omega) (by omega) (by decide) (fun hI_59 => ?_)
    rw [show (I 236 ((4 * t) + 2)) = (S (104 + 28 * t)) from by have e9 := lr_h2 (I := I) (t := t) (by omega); rw [hR] at e9; exact e9] at hI_59 ⊢
    refine gw_if_lt C (tgt := 84) dL_walks_60 (by decide) hI_59 (fun h_60 => ?_) (fun h_60 => ?_)
    · skip
      refine gw_aload C dL_walks_84 rfl ?_
      refine gw_bipush C dL_walks_86 rfl ?_
      refine gw_iload C dL_walks_88 rfl ?_
      refine gw_imul C dL_walks_90 ?_
      refine gw_iload C dL_walks_91 rfl ?_
      refine gw_iadd C dL_walks_93 ?_
      refine gw_iload C dL_walks_94 rfl ?_
      refine gw_iast C ((12 * t) + (S (103 + 28 * t)).toNat) dL_walks_96 xs_237 xn_237 (by omega) (by omega) (by decide) (by first | omega | assumption | exact hgi _ _) ?_
      have hR_96 : rowL (up I 237 ((12 * t) + (S (103 + 28 * t)).toNat) ((v / 4) % 1296000)) = (us S (106 + 28 * t + 2 * ((S (103 + 28 * t)).toNat)) ((v / 4) % 1296000)) := (lu_a (I := I) (x := ((v / 4) % 1296000)) (t := t) (k := (S (103 + 28 * t)).toNat) (by omega) (by omega)).trans (by rw [hR])
      refine gw_aload C dL_walks_97 rfl ?_
      refine gw_bipush C dL_walks_99 rfl ?_
      refine gw_iload C dL_walks_101 rfl ?_
      refine gw_imul C dL_walks_103 ?_
      refine gw_iload C dL_walks_104 rfl ?_
      refine gw_iadd C dL_walks_106 ?_
      refine gw_iload C dL_walks_107 rfl ?_
      refine gw_iast C ((12 * t) + (S (103 + 28 * t)).toNat) dL_walks_109 xs_238 xn_238 (by omega) (by omega) (by decide) (by first | omega | assumption | exact hgi _ _) ?_
      have hR_109 : rowL (up (up I 237 ((12 * t) + (S (103 + 28 * t)).toNat) ((v / 4) % 1296000)) 238 ((12 * t) + (S (103 + 28 * t)).toNat) (1 + ((v / 3) % 200000))) = (us (us S (106 + 28 * t + 2 * ((S (103 + 28 * t)).toNat)) ((v / 4) % 1296000)) (107 + 28 * t + 2 * ((S (103 + 28 * t)).toNat)) (1 + ((v / 3) % 200000))) := (lu_b (I := (up I 237 ((12 * t) + (S (103 + 28 * t)).toNat) ((v / 4) % 1296000))) (x := (1 + ((v / 3) % 200000))) (t := t) (k := (S (103 + 28 * t)).toNat) (by omega) (by omega)).trans (by rw [hR_96])
      refine gw_aload C dL_walks_110 rfl ?_
      refine gw_iconst C dL_walks_112 ?_
      refine gw_iload C dL_walks_113 rfl ?_
      refine gw_imul C dL_walks_115 ?_
      refine gw_iconst C dL_walks_116 ?_
      refine gw_iadd C dL_walks_117 ?_
      refine gw_dup2IR C dL_walks_118 ?_
      refine gw_iald C ((4 * t) + 1) dL_walks_119 xs_236 xn_236 (by omega) (by omega) (by decide) (fun hI_119 => ?_)
      rw [show ((up (up I 237 ((12 * t) + (S (103 + 28 * t)).toNat) ((v / 4) % 1296000)) 238 ((12 * t) + (S (103 + 28 * t)).toNat) (1 + ((v / 3) % 200000))) 236 ((4 * t) + 1)) = (((S (103 + 28 * t)).toNat : Nat) : Int) from by have e9 := lr_h1 (I := (up (up I 237 ((12 * t) + (S (103 + 28 * t)).toNat) ((v / 4) % 1296000)) 238 ((12 * t) + (S (103 + 28 * t)).toNat) (1 + ((v / 3) % 200000)))) (t := t) (by omega); rw [hR_109, us_ne (by omega), us_ne (by omega)] at e9; omega] at hI_119 ⊢
      refine gw_iconst C dL_walks_120 ?_
      refine gw_iadd C dL_walks_121 ?_
      refine gw_iast C ((4 * t) + 1) dL_walks_122 xs_236 xn_236 (by omega) (by omega) (by decide) (by first | omega | assumption | exact hgi _ _) ?_
      have hR_122 : rowL (up (up (up I 237 ((12 * t) + (S (103 + 28 * t)).toNat) ((v / 4) % 1296000)) 238 ((12 * t) + (S (103 + 28 * t)).toNat) (1 + ((v / 3) % 200000))) 236 ((4 * t) + 1) ((((S (103 + 28 * t)).toNat : Nat) : Int) + 1)) = (us (us (us S (106 + 28 * t + 2 * ((S (103 + 28 * t)).toNat)) ((v / 4) % 1296000)) (107 + 28 * t + 2 * ((S (103 + 28 * t)).toNat)) (1 + ((v / 3) % 200000))) (103 + 28 * t) ((((S (103 + 28 * t)).toNat : Nat) : Int) + 1)) := (lu_h1 (I := (up (up I 237 ((12 * t) + (S (103 + 28 * t)).toNat) ((v / 4) % 1296000)) 238 ((12 * t) + (S (103 + 28 * t)).toNat) (1 + ((v / 3) % 200000)))) (x := ((((S (103 + 28 * t)).toNat : Nat) : Int) + 1)) (t := t) (by omega)).trans (by rw [hR_109])
      refine gw_aload_n C 0 dL_walks_123 rfl rfl ?_
      refine gw_iload C dL_walks_124 rfl ?_
      refine gw_iload C dL_walks_126 rfl ?_
      refine gw_iload C dL_walks_128 rfl ?_
      have hC_130 : CI (up (up (up I 237 ((12 * t) + (S (103 + 28 * t)).toNat) ((v / 4) % 1296000)) 238 ((12 * t) + (S (103 + 28 * t)).toNat) (1 + ((v / 3) % 200000))) 236 ((4 * t) + 1) ((((S (103 + 28 * t)).toNat : Nat) : Int) + 1)) S D9 c9 := ci_eq hCI (fun q f hq => by (repeat rw [up_nn (by omega)]))
      refine gw_callSH C (as := [vR 0, vI (t : Int), vI ((v / 4) % 1296000), vI (1 + ((v / 3) % 200000))]) (st := []) (c_L_adds hl0 G (up (up (up I 237 ((12 * t) + (S (103 + 28 * t)).toNat) ((v / 4) % 1296000)) 238 ((12 * t) + (S (103 + 28 * t)).toNat) (1 + ((v / 3) % 200000))) 236 ((4 * t) + 1) ((((S (103 + 28 * t)).toNat : Nat) : Int) + 1)) J hC_130 (t : Int) ((v / 4) % 1296000) (1 + ((v / 3) % 200000)) (by first | omega | assumption | exact hgi _ _) (by first | omega | assumption | exact hgi _ _) (by first | omega | assumption | exact hgi _ _)) dL_walks_130 kL_149 qL_adds hdL_adds ⟨Nat.le_of_ble_eq_true rfl, Nat.le_of_ble_eq_true rfl⟩ ⟨Nat.le_of_ble_eq_true rfl, Nat.le_of_ble_eq_true rfl⟩ (Nat.le_of_ble_eq_true rfl) rfl (fun _ _ _ _ h => h.elim) ?_
      intro v_130 z_130_2 I_130 J_9 hv_130
      obtain ⟨ev, ⟨hm, hn⟩, eJ⟩ := hv_130
      have hk_130 : rfL S (t : Int) ((v / 4) % 1296000) (1 + ((v / 3) % 200000)) = 0 := by unfold rfL; rw [show ((t : Nat) : Int).toNat = t from rfl]; rw [if_neg (by omega), if_neg (by omega), if_neg (by omega)]
      rw [ev, eJ, cdV_0 hk_130]
      obtain ⟨hX_130, hF_130⟩ := hm hk_130
      have hfin : rowL I_130 = (oAdd S t (S (103 + 28 * t)).toNat ((v / 4) % 1296000) (1 + ((v / 3) % 200000))) := (row_fr hF_130).trans (hR_122.trans (by unfold oAdd; congr 1; omega))
      have hCf : CI I_130 (rowL I_130) (psh S D9) (cN c9) := by rw [hfin]; exact hX_130
      have hox : Oks (oAdd S t (S (103 + 28 * t)).toNat ((v / 4) % 1296000) (1 + ((v / 3) % 200000))) := hX_130.1.1.2.1
      have hrow := (row_fr hF_130).trans hR_122
      show GW G p l e ({ frames := 9, cells := 1, slots := 6, locals := 192 } : Room) s m args below meth c 14 z_130_2 N0 SH RR I_130 J 1 6 (vx_MQ below (GQ G N0 SH RR (liQ J)) (GX G N0 SH RR gNo) args s 1 6 (ge G)) 133 [some (vR 0), some (vR 231), some (vR 233), some (vR 234), some (vR 235), some (vR 236), some (vR 237), some (vR 238), some (vI v), some (vI 0), some (vI (t : Int)), some (vI ((v / 4) % 1296000)), some (vI (((S (103 + 28 * t)).toNat : Nat) : Int)), some (vI (1 + ((v / 3) % 200000)))] [vI (S (103 + 28 * t))]
      refine gw_iload C dL_walks_133 rfl ?_
      refine gw_icmp_ne C (tgt := 142) dL_walks_135 (by decide) (by first | omega | assumption | exact hgi _ _) hI_25 (fun h => absurd h (by omega)) (fun _ => ?_)
      refine gw_iconst C dL_walks_138 ?_
      refine gw_goto C (tgt := 143) dL_walks_139 (by decide) ?_
      exact gw_zret C (Nat.le_of_ble_eq_true rfl) (Nat.le_of_ble_eq_true rfl) dL_walks_143 (Or.inr rfl) (⟨rfl, ⟨_, _, hCf⟩, rfl⟩)
    · skip
      refine gw_aload_n C 0 dL_walks_63 rfl rfl ?_
      refine gw_iload C dL_walks_64 rfl ?_
      refine gw_iload C dL_walks_66 rfl ?_
      refine gw_iload C dL_walks_68 rfl ?_
      refine gw_callSH C (as := [vR 0, vI (t : Int), vI ((v / 4) % 1296000), vI (1 + ((v / 3) % 200000))]) (st := []) (c_L_adds hl0 G I J hCI (t : Int) ((v / 4) % 1296000) (1 + ((v / 3) % 200000)) (by first | omega | assumption | exact hgi _ _) (by first | omega | assumption | exact hgi _ _) (by first | omega | assumption | exact hgi _ _)) dL_walks_70 kL_149 qL_adds hdL_adds ⟨Nat.le_of_ble_eq_true rfl, Nat.le_of_ble_eq_true rfl⟩ ⟨Nat.le_of_ble_eq_true rfl, Nat.le_of_ble_eq_true rfl⟩ (Nat.le_of_ble_eq_true rfl) rfl (fun _ _ _ _ h => h.elim) ?_
      intro v_70_2 z_70_4 I_70_2 J_9 hv_70_2
      obtain ⟨ev, ⟨hm, hn⟩, eJ⟩ := hv_70_2
      have hk_70_2 : rfL S (t : Int) ((v / 4) % 1296000) (1 + ((v / 3) % 200000)) = 3 := by unfold rfL; rw [show ((t : Nat) : Int).toNat = t from rfl]; rw [if_neg (by omega), if_neg (by omega), if_pos (by omega)]
      rw [ev, eJ, hn (by omega), cdV_3 hk_70_2]
      show GW G p l e ({ frames := 9, cells := 1, slots := 6, locals := 192 } : Room) s m args below meth c 14 z_70_4 N0 SH RR I J 1 6 (vx_MQ below (GQ G N0 SH RR (liQ J)) (GX G N0 SH RR gNo) args s 1 6 (ge G)) 73 [some (vR 0), some (vR 231), some (vR 233), some (vR 234), some (vR 235), some (vR 236), some (vR 237), some (vR 238), some (vI v), some (vI 0), some (vI (t : Int)), some (vI ((v / 4) % 1296000)), some (vI (((S (103 + 28 * t)).toNat : Nat) : Int)), some (vI (1 + ((v / 3) % 200000)))] [vI (-2000003)]
      refine gw_ldc C (x := (-2000003)) dL_walks_73 kL_23 (by decide) ?_
      refine gw_icmp_ne C (tgt := 82) dL_walks_75 (by decide) ⟨by decide, by decide⟩ ⟨by decide, by decide⟩ (fun h => absurd h (by decide)) (fun _ => ?_)
      refine gw_iconst C dL_walks_78 ?_
      refine gw_goto C (tgt := 83) dL_walks_79 (by decide) ?_
      exact gw_zret C (Nat.le_of_ble_eq_true rfl) (Nat.le_of_ble_eq_true rfl) dL_walks_83 (Or.inr rfl) (⟨rfl, ⟨_, _, by rw [hR]; exact hCI⟩, rfl⟩)
set_option maxHeartbeats 4000000 in
set_option maxRecDepth 100000 in
theorem c_L_walks1 {l : Launch} (hl0 : l.stackTraces = false) (G : GG) (I J : GI) {z : Nat} (hLI : LI I) (v : Int) (h5 : 0 < rowL I 5) (hv : 0 ≤ v ∧ v < 100000000) : GM l yL_walks (.code yL_walks cL_walks 14 (some .boolean)) 9 192 1 6 G N0 SH RR [vR 0, vR 231, vR 233, vR 234, vR 235, vR 236, vR 237, vR 238, vI v, vI 1] z I J (liQ J) gNo := by
  refine gm_of (lo0 := [some (vR 0), some (vR 231), some (vR 233), some (vR 234), some (vR 235), some (vR 236), some (vR 237), some (vR 238), some (vI v), some (vI 1), none, none, none, none]) hl0 (by decide) rfl (Nat.le_of_ble_eq_true rfl) ?_
  intro p e s m args below meth c C ht hgi
  have C : gC G p l s m args meth c cL_walks 14 RL (some .boolean) "walks" := C
  obtain ⟨D9, c9, hCI⟩ := hLI
  obtain ⟨S, hR⟩ : ∃ S, rowL I = S := ⟨_, rfl⟩
  rw [hR] at hCI
  rw [hR] at h5
  have ho := hCI.1.1.2.1
  have h0 := ho.1
  have h3 := ho.2.1
  refine gw_iload C dL_walks_0 rfl ?_
  refine gw_aload_n C 1 dL_walks_2 rfl rfl ?_
  refine gw_iconst C dL_walks_3 ?_
  refine gw_iald C 5 dL_walks_4 xs_231 xn_231 (by omega) (by omega) (by decide) (fun hI_4 => ?_)
  rw [show (I 231 5) = (((S 5).toNat : Nat) : Int) from by have e9 := lr_g (I := I) (k := 5) (by omega); rw [hR] at e9; omega] at hI_4 ⊢
  refine gw_irem C dL_walks_5 (by first | omega | assumption | exact hgi _ _) hI_4 (by omega) ?_
  obtain ⟨t, et_t, hb_t⟩ := tm_nat (v := v) (n := (((S 5).toNat : Nat) : Int)) (by omega) (by omega)
  rw [show (v).tmod (((S 5).toNat : Nat) : Int) = (t : Int) from et_t]
  refine gw_istore C (lo1 := [some (vR 0), some (vR 231), some (vR 233), some (vR 234), some (vR 235), some (vR 236), some (vR 237), some (vR 238), some (vI v), some (vI 1), some (vI (t : Int)), none, none, none]) dL_walks_6 (by decide) rfl ?_
  refine gw_iload C dL_walks_8 rfl ?_
  refine gw_iconst C dL_walks_10 ?_
  refine gw_idiv C dL_walks_11 (by first | omega | assumption | exact hgi _ _) ⟨by decide, by decide⟩ (by decide) ?_
  rw [show (v).tdiv 4 = (v / 4) from Int.tdiv_eq_ediv_of_nonneg (by omega)]
  refine gw_ldc C (x := 1296000) dL_walks_12 kL_147 (by decide) ?_
  refine gw_irem C dL_walks_14 (by first | omega | assumption | exact hgi _ _) ⟨by decide, by decide⟩ (by decide) ?_
  rw [show ((v / 4)).tmod 1296000 = ((v / 4) % 1296000) from Int.tmod_eq_emod_of_nonneg (by omega)]
  refine gw_istore C (lo1 := [some (vR 0), some (vR 231), some (vR 233), some (vR 234), some (vR 235), some (vR 236), some (vR 237), some (vR 238), some (vI v), some (vI 1), some (vI (t : Int)), some (vI ((v / 4) % 1296000)), none, none]) dL_walks_15 (by decide) rfl ?_
  have htt : (t : Int) < S 5 := by omega
  have ht9 := okT ho htt
  have hf9 := ho.2.2.2.1 (S (102 + 28 * t)).toNat (by omega)
  refine gw_aload C dL_walks_17 rfl ?_
  refine gw_iconst C dL_walks_19 ?_
  refine gw_iload C dL_walks_20 rfl ?_
  refine gw_imul C dL_walks_22 ?_
  refine gw_iconst C dL_walks_23 ?_
  refine gw_iadd C dL_walks_24 ?_
  refine gw_iald C ((4 * t) + 1) dL_walks_25 xs_236 xn_236 (by omega) (by omega) (by decide) (fun hI_25 => ?_)
  rw [show (I 236 ((4 * t) + 1)) = (((S (103 + 28 * t)).toNat : Nat) : Int) from by have e9 := lr_h1 (I := I) (t := t) (by omega); rw [hR] at e9; omega] at hI_25 ⊢
  refine gw_istore C (lo1 := [some (vR 0), some (vR 231), some (vR 233), some (vR 234), some (vR 235), some (vR 236), some (vR 237), some (vR 238), some (vI v), some (vI 1), some (vI (t : Int)), some (vI ((v / 4) % 1296000)), some (vI (((S (103 + 28 * t)).toNat : Nat) : Int)), none]) dL_walks_26 (by decide) rfl ?_
  refine gw_iload C dL_walks_28 rfl ?_
  refine gw_if_ne C (tgt := 144) dL_walks_30 (by decide) ⟨by decide, by decide⟩ (fun _ => ?_) (fun h => absurd h (by decide))
  refine gw_iload C dL_walks_144 rfl ?_
  refine gw_iconst C dL_walks_146 ?_
  refine gw_icmp_ne C (tgt := 214) dL_walks_147 (by decide) ⟨by decide, by decide⟩ ⟨by decide, by decide⟩ (fun h => absurd h (by decide)) (fun _ => ?_)
  refine gw_iload C dL_walks_150 rfl ?_
  refine gw_if_ne C (tgt := 172) dL_walks_152 (by decide) hI_25 (fun h_152 => ?_) (fun h_152 => ?_)
  · skip
    refine gw_aload C dL_walks_172 rfl ?_
    refine gw_iconst C dL_walks_174 ?_
    refine gw_iload C dL_walks_175 rfl ?_
    refine gw_imul C dL_walks_177 ?_
    refine gw_iconst C dL_walks_178 ?_
    refine gw_iadd C dL_walks_179 ?_
    refine gw_dup2IR C dL_walks_180 ?_
    refine gw_iald C ((4 * t) + 1) dL_walks_181 xs_236 xn_236 (by omega) (by omega) (by decide) (fun hI_181 => ?_)
    rw [show (I 236 ((4 * t) + 1)) = (((S (103 + 28 * t)).toNat : Nat) : Int) from by have e9 := lr_h1 (I := I) (t := t) (by omega); rw [hR] at e9; omega] at hI_181 ⊢
    refine gw_iconst C dL_walks_182 ?_
    refine gw_isub C dL_walks_183 ?_
    refine gw_iast C ((4 * t) + 1) dL_walks_184 xs_236 xn_236 (by omega) (by omega) (by decide) (by first | omega | assumption | exact hgi _ _) ?_
    have hR_184 : rowL (up I 236 ((4 * t) + 1) ((((S (103 + 28 * t)).toNat : Nat) : Int) - 1)) = (us S (103 + 28 * t) ((((S (103 + 28 * t)).toNat : Nat) : Int) - 1)) := (lu_h1 (I := I) (x := ((((S (103 + 28 * t)).toNat : Nat) : Int) - 1)) (t := t) (by omega)).trans (by rw [hR])
    refine gw_aload C dL_walks_185 rfl ?_
    refine gw_iconst C dL_walks_187 ?_
    refine gw_iload C dL_walks_188 rfl ?_
    refine gw_imul C dL_walks_190 ?_
    refine gw_iconst C dL_walks_191 ?_
    refine gw_iadd C dL_walks_192 ?_
    refine gw_iconst C dL_walks_193 ?_
    refine gw_iast C ((4 * t) + 2) dL_walks_194 xs_236 xn_236 (by omega) (by omega) (by decide) ⟨by decide, by decide⟩ ?_
    have hR_194 : rowL (up (up I 236 ((4 * t) + 1) ((((S (103 + 28 * t)).toNat : Nat) : Int) - 1)) 236 ((4 * t) + 2) (-1)) = (us (us S (103 + 28 * t) ((((S (103 + 28 * t)).toNat : Nat) : Int) - 1)) (104 + 28 * t) (-1)) := (lu_h2 (I := (up I 236 ((4 * t) + 1) ((((S (103 + 28 * t)).toNat : Nat) : Int) - 1))) (x := (-1)) (t := t) (by omega)).trans (by rw [hR_184])
    refine gw_aload_n C 0 dL_walks_195 rfl rfl ?_
    refine gw_iload C dL_walks_196 rfl ?_
    have hC_198 : CI (up (up I 236 ((4 * t) + 1) ((((S (103 + 28 * t)).toNat : Nat) : Int) - 1)) 236 ((4 * t) + 2) (-1)) S D9 c9 := ci_eq hCI (fun q f hq => by (repeat rw [up_nn (by omega)]))
    refine gw_callSH C (as := [vR 0, vI (t : Int)]) (st := []) (c_L_drops hl0 G (up (up I 236 ((4 * t) + 1) ((((S (103 + 28 * t)).toNat : Nat) : Int) - 1)) 236 ((4 * t) + 2) (-1)) J hC_198 (t : Int) (by first | omega | assumption | exact hgi _ _)) dL_walks_198 kL_153 qL_drops hdL_drops ⟨Nat.le_of_ble_eq_true rfl, Nat.le_of_ble_eq_true rfl⟩ ⟨Nat.le_of_ble_eq_true rfl, Nat.le_of_ble_eq_true rfl⟩ (Nat.le_of_ble_eq_true rfl) rfl (fun _ _ _ _ h => h.elim) ?_
    intro v_198 z_198_2 I_198 J_9 hv_198
    obtain ⟨ev, ⟨hm, hn⟩, eJ⟩ := hv_198
    have hk_198 : kDrop S (t : Int) = 0 := by unfold kDrop; rw [show ((t : Nat) : Int).toNat = t from rfl]; rw [if_neg (by omega), if_neg (by omega)]
    rw [ev, eJ, cdV_0 hk_198]
    obtain ⟨hX_198, hF_198⟩ := hm hk_198
    have hfin : rowL I_198 = (oDrop S t) := (row_fr hF_198).trans (hR_194.trans (by unfold oDrop; congr 2; omega))
    have hCf : CI I_198 (rowL I_198) (psh S D9) (cN c9) := by rw [hfin]; exact hX_198
    have hox : Oks (oDrop S t) := hX_198.1.1.2.1
    have hrow := (row_fr hF_198).trans hR_194
    show GW G p l e ({ frames := 9, cells := 1, slots := 6, locals := 192 } : Room) s m args below meth c 14 z_198_2 N0 SH RR I_198 J 1 6 (vx_MQ below (GQ G N0 SH RR (liQ J)) (GX G N0 SH RR gNo) args s 1 6 (ge G)) 201 [some (vR 0), some (vR 231), some (vR 233), some (vR 234), some (vR 235), some (vR 236), some (vR 237), some (vR 238), some (vI v), some (vI 1), some (vI (t : Int)), some (vI ((v / 4) % 1296000)), some (vI (((S (103 + 28 * t)).toNat : Nat) : Int)), none] [vI (S (103 + 28 * t) - 1)]
    refine gw_iload C dL_walks_201 rfl ?_
    refine gw_iconst C dL_walks_203 ?_
    refine gw_isub C dL_walks_204 ?_
    refine gw_icmp_ne C (tgt := 212) dL_walks_205 (by decide) (by first | omega | assumption | exact hgi _ _) (by first | omega | assumption | exact hgi _ _) (fun h => absurd h (by omega)) (fun _ => ?_)
    refine gw_iconst C dL_walks_208 ?_
    refine gw_goto C (tgt := 213) dL_walks_209 (by decide) ?_
    exact gw_zret C (Nat.le_of_ble_eq_true rfl) (Nat.le_of_ble_eq_true rfl) dL_walks_213 (Or.inr rfl) (⟨rfl, ⟨_, _, hCf⟩, rfl⟩)
  · skip
    refine gw_aload_n C 0 dL_walks_155 rfl rfl ?_
    refine gw_iload C dL_walks_156 rfl ?_
    refine gw_callSH C (as := [vR 0, vI (t : Int)]) (st := []) (c_L_drops hl0 G I J hCI (t : Int) (by first | omega | assumption | exact hgi _ _)) dL_walks_158 kL_153 qL_drops hdL_drops ⟨Nat.le_of_ble_eq_true rfl, Nat.le_of_ble_eq_true rfl⟩ ⟨Nat.le_of_ble_eq_true rfl, Nat.le_of_ble_eq_true rfl⟩ (Nat.le_of_ble_eq_true rfl) rfl (fun _ _ _ _ h => h.elim) ?_
    intro v_158 z_158_2 I_158 J_9 hv_158
    obtain ⟨ev, ⟨hm, hn⟩, eJ⟩ := hv_158
    have hk_158 : kDrop S (t : Int) = 2 := by unfold kDrop; rw [show ((t : Nat) : Int).toNat = t from rfl]; rw [if_neg (by omega), if_pos (by omega)]
    rw [ev, eJ, hn (by omega), cdV_2 hk_158]
    show GW G p l e ({ frames := 9, cells := 1, slots := 6, locals := 192 } : Room) s m args below meth c 14 z_158_2 N0 SH RR I J 1 6 (vx_MQ below (GQ G N0 SH RR (liQ J)) (GX G N0 SH RR gNo) args s 1 6 (ge G)) 161 [some (vR 0), some (vR 231), some (vR 233), some (vR 234), some (vR 235), some (vR 236), some (vR 237), some (vR 238), some (vI v), some (vI 1), some (vI (t : Int)), some (vI ((v / 4) % 1296000)), some (vI (((S (103 + 28 * t)).toNat : Nat) : Int)), none] [vI (-2000003)]
    refine gw_ldc C (x := (-2000003)) dL_walks_161 kL_23 (by decide) ?_
    refine gw_icmp_ne C (tgt := 170) dL_walks_163 (by decide) ⟨by decide, by decide⟩ ⟨by decide, by decide⟩ (fun h => absurd h (by decide)) (fun _ => ?_)
    refine gw_iconst C dL_walks_166 ?_
    refine gw_goto C (tgt := 171) dL_walks_167 (by decide) ?_
    exact gw_zret C (Nat.le_of_ble_eq_true rfl) (Nat.le_of_ble_eq_true rfl) dL_walks_171 (Or.inr rfl) (⟨rfl, ⟨_, _, by rw [hR]; exact hCI⟩, rfl⟩)
set_option maxHeartbeats 4000000 in
set_option maxRecDepth 100000 in
theorem c_L_walks2 {l : Launch} (hl0 : l.stackTraces = false) (G : GG) (I J : GI) {z : Nat} (hLI : LI I) (v : Int) (h5 : 0 < rowL I 5) (hv : 0 ≤ v ∧ v < 100000000) : GM l yL_walks (.code yL_walks cL_walks 14 (some .boolean)) 9 192 1 6 G N0 SH RR [vR 0, vR 231, vR 233, vR 234, vR 235, vR 236, vR 237, vR 238, vI v, vI 2] z I J (liQ J) gNo := by
  refine gm_of (lo0 := [some (vR 0), some (vR 231), some (vR 233), some (vR 234), some (vR 235), some (vR 236), some (vR 237), some (vR 238), some (vI v), some (vI 2), none, none, none, none]) hl0 (by decide) rfl (Nat.le_of_ble_eq_true rfl) ?_
  intro p e s m args below meth c C ht hgi
  have C : gC G p l s m args meth c cL_walks 14 RL (some .boolean) "walks" := C
  obtain ⟨D9, c9, hCI⟩ := hLI
  obtain ⟨S, hR⟩ : ∃ S, rowL I = S := ⟨_, rfl⟩
  rw [hR] at hCI
  rw [hR] at h5
  have ho := hCI.1.1.2.1
  have h0 := ho.1
  have h3 := ho.2.1
  refine gw_iload C dL_walks_0 rfl ?_
  refine gw_aload_n C 1 dL_walks_2 rfl rfl ?_
  refine gw_iconst C dL_walks_3 ?_
  refine gw_iald C 5 dL_walks_4 xs_231 xn_231 (by omega) (by omega) (by decide) (fun hI_4 => ?_)
  rw [show (I 231 5) = (((S 5).toNat : Nat) : Int) from by have e9 := lr_g (I := I) (k := 5) (by omega); rw [hR] at e9; omega] at hI_4 ⊢
  refine gw_irem C dL_walks_5 (by first | omega | assumption | exact hgi _ _) hI_4 (by omega) ?_
  obtain ⟨t, et_t, hb_t⟩ := tm_nat (v := v) (n := (((S 5).toNat : Nat) : Int)) (by omega) (by omega)
  rw [show (v).tmod (((S 5).toNat : Nat) : Int) = (t : Int) from et_t]
  refine gw_istore C (lo1 := [some (vR 0), some (vR 231), some (vR 233), some (vR 234), some (vR 235), some (vR 236), some (vR 237), some (vR 238), some (vI v), some (vI 2), some (vI (t : Int)), none, none, none]) dL_walks_6 (by decide) rfl ?_
  refine gw_iload C dL_walks_8 rfl ?_
  refine gw_iconst C dL_walks_10 ?_
  refine gw_idiv C dL_walks_11 (by first | omega | assumption | exact hgi _ _) ⟨by decide, by decide⟩ (by decide) ?_
  rw [show (v).tdiv 4 = (v / 4) from Int.tdiv_eq_ediv_of_nonneg (by omega)]
  refine gw_ldc C (x := 1296000) dL_walks_12 kL_147 (by decide) ?_
  refine gw_irem C dL_walks_14 (by first | omega | assumption | exact hgi _ _) ⟨by decide, by decide⟩ (by decide) ?_
  rw [show ((v / 4)).tmod 1296000 = ((v / 4) % 1296000) from Int.tmod_eq_emod_of_nonneg (by omega)]
  refine gw_istore C (lo1 := [some (vR 0), some (vR 231), some (vR 233), some (vR 234), some (vR 235), some (vR 236), some (vR 237), some (vR 238), some (vI v), some (vI 2), some (vI (t : Int)), some (vI ((v / 4) % 1296000)), none, none]) dL_walks_15 (by decide) rfl ?_
  have htt : (t : Int) < S 5 := by omega
  have ht9 := okT ho htt
  have hf9 := ho.2.2.2.1 (S (102 + 28 * t)).toNat (by omega)
  refine gw_aload C dL_walks_17 rfl ?_
  refine gw_iconst C dL_walks_19 ?_
  refine gw_iload C dL_walks_20 rfl ?_
  refine gw_imul C dL_walks_22 ?_
  refine gw_iconst C dL_walks_23 ?_
  refine gw_iadd C dL_walks_24 ?_
  refine gw_iald C ((4 * t) + 1) dL_walks_25 xs_236 xn_236 (by omega) (by omega) (by decide) (fun hI_25 => ?_)
  rw [show (I 236 ((4 * t) + 1)) = (((S (103 + 28 * t)).toNat : Nat) : Int) from by have e9 := lr_h1 (I := I) (t := t) (by omega); rw [hR] at e9; omega] at hI_25 ⊢
  refine gw_istore C (lo1 := [some (vR 0), some (vR 231), some (vR 233), some (vR 234), some (vR 235), some (vR 236), some (vR 237), some (vR 238), some (vI v), some (vI 2), some (vI (t : Int)), some (vI ((v / 4) % 1296000)), some (vI (((S (103 + 28 * t)).toNat : Nat) : Int)), none]) dL_walks_26 (by decide) rfl ?_
  refine gw_iload C dL_walks_28 rfl ?_
  refine gw_if_ne C (tgt := 144) dL_walks_30 (by decide) ⟨by decide, by decide⟩ (fun _ => ?_) (fun h => absurd h (by decide))
  refine gw_iload C dL_walks_144 rfl ?_
  refine gw_iconst C dL_walks_146 ?_
  refine gw_icmp_ne C (tgt := 214) dL_walks_147 (by decide) ⟨by decide, by decide⟩ ⟨by decide, by decide⟩ (fun _ => ?_) (fun h => absurd h (by decide))
  refine gw_iload C dL_walks_214 rfl ?_
  refine gw_iconst C dL_walks_216 ?_
  refine gw_icmp_ne C (tgt := 421) dL_walks_217 (by decide) ⟨by decide, by decide⟩ ⟨by decide, by decide⟩ (fun h => absurd h (by decide)) (fun _ => ?_)
  refine gw_iload C dL_walks_220 rfl ?_
  refine gw_iconst C dL_walks_222 ?_
  refine gw_idiv C dL_walks_223 (by first | omega | assumption | exact hgi _ _) ⟨by decide, by decide⟩ (by decide) ?_
  rw [show (v).tdiv 4 = (v / 4) from Int.tdiv_eq_ediv_of_nonneg (by omega)]
  refine gw_aload_n C 1 dL_walks_224 rfl rfl ?_
  refine gw_iconst C dL_walks_225 ?_
  refine gw_iald C 4 dL_walks_226 xs_231 xn_231 (by omega) (by omega) (by decide) (fun hI_226 => ?_)
  rw [show (I 231 4) = (((S 4).toNat : Nat) : Int) from by have e9 := lr_g (I := I) (k := 4) (by omega); rw [hR] at e9; omega] at hI_226 ⊢
  refine gw_irem C dL_walks_227 (by first | omega | assumption | exact hgi _ _) hI_226 (by omega) ?_
  obtain ⟨jn, et_jn, hb_jn⟩ := tm_nat (v := (v / 4)) (n := (((S 4).toNat : Nat) : Int)) (by omega) (by omega)
  rw [show ((v / 4)).tmod (((S 4).toNat : Nat) : Int) = (jn : Int) from et_jn]
  refine gw_istore C (lo1 := [some (vR 0), some (vR 231), some (vR 233), some (vR 234), some (vR 235), some (vR 236), some (vR 237), some (vR 238), some (vI v), some (vI 2), some (vI (t : Int)), some (vI ((v / 4) % 1296000)), some (vI (((S (103 + 28 * t)).toNat : Nat) : Int)), some (vI (jn : Int))]) dL_walks_228 (by decide) rfl ?_
  refine gw_iload C dL_walks_230 rfl ?_
  refine gw_aload C dL_walks_232 rfl ?_
  refine gw_iconst C dL_walks_234 ?_
  refine gw_iload C dL_walks_235 rfl ?_
  refine gw_imul C dL_walks_237 ?_
  refine gw_iald C (4 * t) dL_walks_238 xs_236 xn_236 (by omega) (by omega) (by decide) (fun hI_238 => ?_)
  rw [show (I 236 (4 * t)) = (((S (102 + 28 * t)).toNat : Nat) : Int) from by have e9 := lr_h0 (I := I) (t := t) (by omega); rw [hR] at e9; omega] at hI_238 ⊢
  refine gw_icmp_eq C (tgt := 247) dL_walks_239 (by decide) (by first | omega | assumption | exact hgi _ _) hI_238 (fun h_239 => ?_) (fun h_239 => ?_)
  · skip
    skip
    refine gw_aload_n C 0 dL_walks_247 rfl rfl ?_
    refine gw_iload C dL_walks_248 rfl ?_
    refine gw_iload C dL_walks_250 rfl ?_
    refine gw_iload C dL_walks_252 rfl ?_
    refine gw_callSH C (as := [vR 0, vI (t : Int), vI (jn : Int), vI ((v / 4) % 1296000)]) (st := []) (c_L_closes hl0 G I J hCI (t : Int) (jn : Int) ((v / 4) % 1296000) (by first | omega | assumption | exact hgi _ _) (by first | omega | assumption | exact hgi _ _) (by first | omega | assumption | exact hgi _ _)) dL_walks_254 kL_156 qL_closes hdL_closes ⟨Nat.le_of_ble_eq_true rfl, Nat.le_of_ble_eq_true rfl⟩ ⟨Nat.le_of_ble_eq_true rfl, Nat.le_of_ble_eq_true rfl⟩ (Nat.le_of_ble_eq_true rfl) rfl (fun _ _ _ _ h => h.elim) ?_
    intro v_254 z_254_2 I_254 J_9 hv_254
    obtain ⟨ev, ⟨hm, hn⟩, eJ⟩ := hv_254
    have hk_254 : kClose S (t : Int) (jn : Int) ((v / 4) % 1296000) = 2 := by unfold kClose; rw [show ((t : Nat) : Int).toNat = t from rfl]; rw [if_neg (by omega), if_pos (by omega)]
    rw [ev, eJ, hn (by omega), cdV_2 hk_254]
    show GW G p l e ({ frames := 9, cells := 1, slots := 6, locals := 192 } : Room) s m args below meth c 14 z_254_2 N0 SH RR I J 1 6 (vx_MQ below (GQ G N0 SH RR (liQ J)) (GX G N0 SH RR gNo) args s 1 6 (ge G)) 257 [some (vR 0), some (vR 231), some (vR 233), some (vR 234), some (vR 235), some (vR 236), some (vR 237), some (vR 238), some (vI v), some (vI 2), some (vI (t : Int)), some (vI ((v / 4) % 1296000)), some (vI (((S (103 + 28 * t)).toNat : Nat) : Int)), some (vI (jn : Int))] [vI (-2000002)]
    refine gw_iload C dL_walks_257 rfl ?_
    refine gw_aload C dL_walks_259 rfl ?_
    refine gw_iconst C dL_walks_261 ?_
    refine gw_iload C dL_walks_262 rfl ?_
    refine gw_imul C dL_walks_264 ?_
    refine gw_iald C (4 * t) dL_walks_265 xs_236 xn_236 (by omega) (by omega) (by decide) (fun hI_265 => ?_)
    rw [show (I 236 (4 * t)) = (((S (102 + 28 * t)).toNat : Nat) : Int) from by have e9 := lr_h0 (I := I) (t := t) (by omega); rw [hR] at e9; omega] at hI_265 ⊢
    refine gw_icmp_ne C (tgt := 274) dL_walks_266 (by decide) (by first | omega | assumption | exact hgi _ _) hI_265 (fun h => absurd h (by omega)) (fun _ => ?_)
    refine gw_ldc C (x := (-2000002)) dL_walks_269 kL_17 (by decide) ?_
    refine gw_goto C (tgt := 276) dL_walks_271 (by decide) ?_
    refine gw_icmp_ne C (tgt := 283) dL_walks_276 (by decide) ⟨by decide, by decide⟩ ⟨by decide, by decide⟩ (fun h => absurd h (by decide)) (fun _ => ?_)
    refine gw_iconst C dL_walks_279 ?_
    refine gw_goto C (tgt := 284) dL_walks_280 (by decide) ?_
    exact gw_zret C (Nat.le_of_ble_eq_true rfl) (Nat.le_of_ble_eq_true rfl) dL_walks_284 (Or.inr rfl) (⟨rfl, ⟨_, _, by rw [hR]; exact hCI⟩, rfl⟩)
  · skip
    refine gw_iload C dL_walks_242 rfl ?_
    refine gw_if_ne C (tgt := 285) dL_walks_244 (by decide) hI_25 (fun h_244 => ?_) (fun h_244 => ?_)
    · skip
      refine gw_aload C dL_walks_285 rfl ?_
      refine gw_iconst C dL_walks_287 ?_
      refine gw_iload C dL_walks_288 rfl ?_
      refine gw_imul C dL_walks_290 ?_
      refine gw_iconst C dL_walks_291 ?_
      refine gw_iadd C dL_walks_292 ?_
      refine gw_iload C dL_walks_293 rfl ?_
      refine gw_iast C ((4 * t) + 2) dL_walks_295 xs_236 xn_236 (by omega) (by omega) (by decide) (by first | omega | assumption | exact hgi _ _) ?_
      have hR_295 : rowL (up I 236 ((4 * t) + 2) (jn : Int)) = (us S (104 + 28 * t) (jn : Int)) := (lu_h2 (I := I) (x := (jn : Int)) (t := t) (by omega)).trans (by rw [hR])
      refine gw_aload C dL_walks_296 rfl ?_
      refine gw_iconst C dL_walks_298 ?_
      refine gw_iload C dL_walks_299 rfl ?_
      refine gw_imul C dL_walks_301 ?_
      refine gw_iconst C dL_walks_302 ?_
      refine gw_iadd C dL_walks_303 ?_
      refine gw_iload C dL_walks_304 rfl ?_
      refine gw_iast C ((4 * t) + 3) dL_walks_306 xs_236 xn_236 (by omega) (by omega) (by decide) (by first | omega | assumption | exact hgi _ _) ?_
      have hR_306 : rowL (up (up I 236 ((4 * t) + 2) (jn : Int)) 236 ((4 * t) + 3) ((v / 4) % 1296000)) = (us (us S (104 + 28 * t) (jn : Int)) (105 + 28 * t) ((v / 4) % 1296000)) := (lu_h3 (I := (up I 236 ((4 * t) + 2) (jn : Int))) (x := ((v / 4) % 1296000)) (t := t) (by omega)).trans (by rw [hR_295])
      refine gw_iload C dL_walks_307 rfl ?_
      refine gw_iconst C dL_walks_309 ?_
      refine gw_irem C dL_walks_310 (by first | omega | assumption | exact hgi _ _) ⟨by decide, by decide⟩ (by decide) ?_
      rw [show (v).tmod 3 = (v % 3) from Int.tmod_eq_emod_of_nonneg (by omega)]
      refine gw_if_le C (tgt := 388) dL_walks_311 (by decide) (by first | omega | assumption | exact hgi _ _) (fun h_311 => ?_) (fun h_311 => ?_)
      · skip
        refine gw_aload_n C 0 dL_walks_388 rfl rfl ?_
        refine gw_iload C dL_walks_389 rfl ?_
        refine gw_iload C dL_walks_391 rfl ?_
        refine gw_iload C dL_walks_393 rfl ?_
        have hC_395 : CI (up (up I 236 ((4 * t) + 2) (jn : Int)) 236 ((4 * t) + 3) ((v / 4) % 1296000)) S D9 c9 := ci_eq hCI (fun q f hq => by (repeat rw [up_nn (by omega)]))
        refine gw_callSH C (as := [vR 0, vI (t : Int), vI (jn : Int), vI ((v / 4) % 1296000)]) (st := []) (c_L_closes hl0 G (up (up I 236 ((4 * t) + 2) (jn : Int)) 236 ((4 * t) + 3) ((v / 4) % 1296000)) J hC_395 (t : Int) (jn : Int) ((v / 4) % 1296000) (by first | omega | assumption | exact hgi _ _) (by first | omega | assumption | exact hgi _ _) (by first | omega | assumption | exact hgi _ _)) dL_walks_395 kL_156 qL_closes hdL_closes ⟨Nat.le_of_ble_eq_true rfl, Nat.le_of_ble_eq_true rfl⟩ ⟨Nat.le_of_ble_eq_true rfl, Nat.le_of_ble_eq_true rfl⟩ (Nat.le_of_ble_eq_true rfl) rfl (fun _ _ _ _ h => h.elim) ?_
        intro v_395 z_395_2 I_395 J_9 hv_395
        obtain ⟨ev, ⟨hm, hn⟩, eJ⟩ := hv_395
        have hk_395 : kClose S (t : Int) (jn : Int) ((v / 4) % 1296000) = 0 := by unfold kClose; rw [show ((t : Nat) : Int).toNat = t from rfl]; rw [if_neg (by omega), if_neg (by omega), if_neg (by omega)]
        rw [ev, eJ, cdV_0 hk_395]
        obtain ⟨hX_395, hF_395⟩ := hm hk_395
        have hfin : rowL I_395 = (oClose S t (jn : Int) ((v / 4) % 1296000)) := (row_fr hF_395).trans (hR_306.trans (by first | rfl | (unfold oClose; exact us_us)))
        have hCf : CI I_395 (rowL I_395) (psh S D9) (cN c9) := by rw [hfin]; exact hX_395
        have hox : Oks (oClose S t (jn : Int) ((v / 4) % 1296000)) := hX_395.1.1.2.1
        have hrow := (row_fr hF_395).trans hR_306
        show GW G p l e ({ frames := 9, cells := 1, slots := 6, locals := 192 } : Room) s m args below meth c 14 z_395_2 N0 SH RR I_395 J 1 6 (vx_MQ below (GQ G N0 SH RR (liQ J)) (GX G N0 SH RR gNo) args s 1 6 (ge G)) 398 [some (vR 0), some (vR 231), some (vR 233), some (vR 234), some (vR 235), some (vR 236), some (vR 237), some (vR 238), some (vI v), some (vI 2), some (vI (t : Int)), some (vI ((v / 4) % 1296000)), some (vI (((S (103 + 28 * t)).toNat : Nat) : Int)), some (vI (jn : Int))] [vI (sTT (oClose S t (jn : Int) ((v / 4) % 1296000)) t)]
        have hocl2 := ocl (S := S) (t := t) (j := (jn : Int)) (a := ((v / 4) % 1296000))
        refine gw_aload_n C 1 dL_walks_398 rfl rfl ?_
        refine gw_aload_n C 2 dL_walks_399 rfl rfl ?_
        refine gw_aload_n C 3 dL_walks_400 rfl rfl ?_
        refine gw_aload C dL_walks_401 rfl ?_
        refine gw_aload C dL_walks_403 rfl ?_
        refine gw_aload C dL_walks_405 rfl ?_
        refine gw_iload C dL_walks_407 rfl ?_
        refine gw_callSm C (as := [vR 231, vR 233, vR 234, vR 235, vR 236, vR 237, vI (t : Int)]) (st := [vI (sTT (oClose S t (jn : Int) ((v / 4) % 1296000)) t)]) (c_L_trouble hl0 G I_395 J hfin hox t (by omega)) dL_walks_409 kL_123 qL_trouble hdL_trouble ⟨Nat.le_of_ble_eq_true rfl, Nat.le_of_ble_eq_true rfl⟩ ⟨Nat.le_of_ble_eq_true rfl, Nat.le_of_ble_eq_true rfl⟩ (Nat.le_of_ble_eq_true rfl) rfl (fun z_409 => ?_)
        have hr_409 := sTT_v (oClose S t (jn : Int) ((v / 4) % 1296000)) t
        refine gw_icmp_ne C (tgt := 419) dL_walks_412 (by decide) (by first | omega | assumption | exact hgi _ _) (by first | omega | assumption | exact hgi _ _) (fun h => absurd h (by exact fun q => q rfl)) (fun _ => ?_)
        refine gw_iconst C dL_walks_415 ?_
        refine gw_goto C (tgt := 420) dL_walks_416 (by decide) ?_
        exact gw_zret C (Nat.le_of_ble_eq_true rfl) (Nat.le_of_ble_eq_true rfl) dL_walks_420 (Or.inr rfl) (⟨rfl, ⟨_, _, hCf⟩, rfl⟩)
      · skip
        have hS1 : rowL (up (up I 236 ((4 * t) + 2) (jn : Int)) 236 ((4 * t) + 3) ((v / 4) % 1296000)) = (oClose S t (jn : Int) ((v / 4) % 1296000)) := hR_306
        have hoc : Oks (oClose S t (jn : Int) ((v / 4) % 1296000)) := oks_close ho htt (by omega) ⟨by omega, by omega, by omega⟩ ⟨by omega, by omega⟩
        have hocl := ocl (S := S) (t := t) (j := (jn : Int)) (a := (v / 4) % 1296000)
        refine gw_aload_n C 1 dL_walks_314 rfl rfl ?_
        refine gw_aload_n C 2 dL_walks_315 rfl rfl ?_
        refine gw_aload_n C 3 dL_walks_316 rfl rfl ?_
        refine gw_aload C dL_walks_317 rfl ?_
        refine gw_aload C dL_walks_319 rfl ?_
        refine gw_iconst C dL_walks_321 ?_
        refine gw_iload C dL_walks_322 rfl ?_
        refine gw_imul C dL_walks_324 ?_
        refine gw_iald C (4 * t) dL_walks_325 xs_236 xn_236 (by omega) (by omega) (by decide) (fun hI_325 => ?_)
        rw [show ((up (up I 236 ((4 * t) + 2) (jn : Int)) 236 ((4 * t) + 3) ((v / 4) % 1296000)) 236 (4 * t)) = (((S (102 + 28 * t)).toNat : Nat) : Int) from by have e9 := lr_h0 (I := (up (up I 236 ((4 * t) + 2) (jn : Int)) 236 ((4 * t) + 3) ((v / 4) % 1296000))) (t := t) (by omega); rw [hR_306, us_ne (by omega), us_ne (by omega)] at e9; omega] at hI_325 ⊢
        refine gw_callSm C (as := [vR 231, vR 233, vR 234, vR 235, vI (((S (102 + 28 * t)).toNat : Nat) : Int)]) (st := []) (c_L_joint hl0 G (up (up I 236 ((4 * t) + 2) (jn : Int)) 236 ((4 * t) + 3) ((v / 4) % 1296000)) J hS1 hoc ((S (102 + 28 * t)).toNat) (by omega)) dL_walks_326 kL_105 qL_joint hdL_joint ⟨Nat.le_of_ble_eq_true rfl, Nat.le_of_ble_eq_true rfl⟩ ⟨Nat.le_of_ble_eq_true rfl, Nat.le_of_ble_eq_true rfl⟩ (Nat.le_of_ble_eq_true rfl) rfl (fun z_326 => ?_)
        have hr_326 := sJ_v (oClose S t (jn : Int) ((v / 4) % 1296000)) ((S (102 + 28 * t)).toNat)
        refine gw_aload_n C 1 dL_walks_329 rfl rfl ?_
        refine gw_aload_n C 2 dL_walks_330 rfl rfl ?_
        refine gw_aload_n C 3 dL_walks_331 rfl rfl ?_
        refine gw_aload C dL_walks_332 rfl ?_
        refine gw_iload C dL_walks_334 rfl ?_
        refine gw_callSm C (as := [vR 231, vR 233, vR 234, vR 235, vI (jn : Int)]) (st := [vI (sJ (oClose S t (jn : Int) ((v / 4) % 1296000)) ((S (102 + 28 * t)).toNat))]) (c_L_joint hl0 G (up (up I 236 ((4 * t) + 2) (jn : Int)) 236 ((4 * t) + 3) ((v / 4) % 1296000)) J hS1 hoc jn (by omega)) dL_walks_336 kL_105 qL_joint hdL_joint ⟨Nat.le_of_ble_eq_true rfl, Nat.le_of_ble_eq_true rfl⟩ ⟨Nat.le_of_ble_eq_true rfl, Nat.le_of_ble_eq_true rfl⟩ (Nat.le_of_ble_eq_true rfl) rfl (fun z_336 => ?_)
        have hr_336 := sJ_v (oClose S t (jn : Int) ((v / 4) % 1296000)) jn
        refine gw_iadd C dL_walks_339 ?_
        refine gw_if_ne C (tgt := 388) dL_walks_340 (by decide) (by first | omega | assumption | exact hgi _ _) (fun h_340 => ?_) (fun h_340 => ?_)
        · skip
          refine gw_aload_n C 0 dL_walks_388 rfl rfl ?_
          refine gw_iload C dL_walks_389 rfl ?_
          refine gw_iload C dL_walks_391 rfl ?_
          refine gw_iload C dL_walks_393 rfl ?_
          have hC_395_2 : CI (up (up I 236 ((4 * t) + 2) (jn : Int)) 236 ((4 * t) + 3) ((v / 4) % 1296000)) S D9 c9 := ci_eq hCI (fun q f hq => by (repeat rw [up_nn (by omega)]))
          refine gw_callSH C (as := [vR 0, vI (t : Int), vI (jn : Int), vI ((v / 4) % 1296000)]) (st := []) (c_L_closes hl0 G (up (up I 236 ((4 * t) + 2) (jn : Int)) 236 ((4 * t) + 3) ((v / 4) % 1296000)) J hC_395_2 (t : Int) (jn : Int) ((v / 4) % 1296000) (by first | omega | assumption | exact hgi _ _) (by first | omega | assumption | exact hgi _ _) (by first | omega | assumption | exact hgi _ _)) dL_walks_395 kL_156 qL_closes hdL_closes ⟨Nat.le_of_ble_eq_true rfl, Nat.le_of_ble_eq_true rfl⟩ ⟨Nat.le_of_ble_eq_true rfl, Nat.le_of_ble_eq_true rfl⟩ (Nat.le_of_ble_eq_true rfl) rfl (fun _ _ _ _ h => h.elim) ?_
          intro v_395_2 z_395_4 I_395_2 J_9 hv_395_2
          obtain ⟨ev, ⟨hm, hn⟩, eJ⟩ := hv_395_2
          have hk_395_2 : kClose S (t : Int) (jn : Int) ((v / 4) % 1296000) = 0 := by unfold kClose; rw [show ((t : Nat) : Int).toNat = t from rfl]; rw [if_neg (by omega), if_neg (by omega), if_neg (by omega)]
          rw [ev, eJ, cdV_0 hk_395_2]
          obtain ⟨hX_395_2, hF_395_2⟩ := hm hk_395_2
          have hfin : rowL I_395_2 = (oClose S t (jn : Int) ((v / 4) % 1296000)) := (row_fr hF_395_2).trans (hR_306.trans (by first | rfl | (unfold oClose; exact us_us)))
          have hCf : CI I_395_2 (rowL I_395_2) (psh S D9) (cN c9) := by rw [hfin]; exact hX_395_2
          have hox : Oks (oClose S t (jn : Int) ((v / 4) % 1296000)) := hX_395_2.1.1.2.1
          have hrow := (row_fr hF_395_2).trans hR_306
          show GW G p l e ({ frames := 9, cells := 1, slots := 6, locals := 192 } : Room) s m args below meth c 14 z_395_4 N0 SH RR I_395_2 J 1 6 (vx_MQ below (GQ G N0 SH RR (liQ J)) (GX G N0 SH RR gNo) args s 1 6 (ge G)) 398 [some (vR 0), some (vR 231), some (vR 233), some (vR 234), some (vR 235), some (vR 236), some (vR 237), some (vR 238), some (vI v), some (vI 2), some (vI (t : Int)), some (vI ((v / 4) % 1296000)), some (vI (((S (103 + 28 * t)).toNat : Nat) : Int)), some (vI (jn : Int))] [vI (sTT (oClose S t (jn : Int) ((v / 4) % 1296000)) t)]
          have hocl2 := ocl (S := S) (t := t) (j := (jn : Int)) (a := ((v / 4) % 1296000))
          refine gw_aload_n C 1 dL_walks_398 rfl rfl ?_
          refine gw_aload_n C 2 dL_walks_399 rfl rfl ?_
          refine gw_aload_n C 3 dL_walks_400 rfl rfl ?_
          refine gw_aload C dL_walks_401 rfl ?_
          refine gw_aload C dL_walks_403 rfl ?_
          refine gw_aload C dL_walks_405 rfl ?_
          refine gw_iload C dL_walks_407 rfl ?_
          refine gw_callSm C (as := [vR 231, vR 233, vR 234, vR 235, vR 236, vR 237, vI (t : Int)]) (st := [vI (sTT (oClose S t (jn : Int) ((v / 4) % 1296000)) t)]) (c_L_trouble hl0 G I_395_2 J hfin hox t (by omega)) dL_walks_409 kL_123 qL_trouble hdL_trouble ⟨Nat.le_of_ble_eq_true rfl, Nat.le_of_ble_eq_true rfl⟩ ⟨Nat.le_of_ble_eq_true rfl, Nat.le_of_ble_eq_true rfl⟩ (Nat.le_of_ble_eq_true rfl) rfl (fun z_409_2 => ?_)
          have hr_409_2 := sTT_v (oClose S t (jn : Int) ((v / 4) % 1296000)) t
          refine gw_icmp_ne C (tgt := 419) dL_walks_412 (by decide) (by first | omega | assumption | exact hgi _ _) (by first | omega | assumption | exact hgi _ _) (fun h => absurd h (by exact fun q => q rfl)) (fun _ => ?_)
          refine gw_iconst C dL_walks_415 ?_
          refine gw_goto C (tgt := 420) dL_walks_416 (by decide) ?_
          exact gw_zret C (Nat.le_of_ble_eq_true rfl) (Nat.le_of_ble_eq_true rfl) dL_walks_420 (Or.inr rfl) (⟨rfl, ⟨_, _, hCf⟩, rfl⟩)
        · skip
          refine gw_iload C dL_walks_343 rfl ?_
          refine gw_aload_n C 2 dL_walks_345 rfl rfl ?_
          refine gw_aload_n C 3 dL_walks_346 rfl rfl ?_
          refine gw_aload C dL_walks_347 rfl ?_
          refine gw_aload C dL_walks_349 rfl ?_
          refine gw_aload C dL_walks_351 rfl ?_
          refine gw_iload C dL_walks_353 rfl ?_
          refine gw_callSm C (as := [vR 233, vR 234, vR 235, vR 236, vR 237, vI (t : Int)]) (st := [vI ((v / 4) % 1296000)]) (c_L_gap hl0 G (up (up I 236 ((4 * t) + 2) (jn : Int)) 236 ((4 * t) + 3) ((v / 4) % 1296000)) J hS1 hoc t (by omega) (by omega)) dL_walks_355 kL_108 qL_gap hdL_gap ⟨Nat.le_of_ble_eq_true rfl, Nat.le_of_ble_eq_true rfl⟩ ⟨Nat.le_of_ble_eq_true rfl, Nat.le_of_ble_eq_true rfl⟩ (Nat.le_of_ble_eq_true rfl) rfl (fun z_355 => ?_)
          have hr_355 := sG_b (oClose S t (jn : Int) ((v / 4) % 1296000)) t
          refine gw_isub C dL_walks_358 ?_
          refine gw_iload C dL_walks_359 rfl ?_
          refine gw_iconst C dL_walks_361 ?_
          refine gw_idiv C dL_walks_362 (by first | omega | assumption | exact hgi _ _) ⟨by decide, by decide⟩ (by decide) ?_
          rw [show (v).tdiv 5 = (v / 5) from Int.tdiv_eq_ediv_of_nonneg (by omega)]
          refine gw_bipush C dL_walks_363 rfl ?_
          refine gw_irem C dL_walks_365 (by first | omega | assumption | exact hgi _ _) ⟨by decide, by decide⟩ (by decide) ?_
          rw [show ((v / 5)).tmod 120 = ((v / 5) % 120) from Int.tmod_eq_emod_of_nonneg (by omega)]
          refine gw_iadd C dL_walks_366 ?_
          refine gw_i2l C dL_walks_367 (by first | omega | assumption | exact hgi _ _) ?_
          refine gw_ldc2 C (x := 60) dL_walks_368 kL_159 (by decide) ?_
          refine gw_lsub C dL_walks_371 ?_
          refine gw_callSm C (as := [vL (((((v / 4) % 1296000) - (sG (oClose S t (jn : Int) ((v / 4) % 1296000)) t)) + ((v / 5) % 120)) - 60)]) (st := []) (c_L_norm hl0 G (((((v / 4) % 1296000) - (sG (oClose S t (jn : Int) ((v / 4) % 1296000)) t)) + ((v / 5) % 120)) - 60) (by omega)) dL_walks_372 kL_61 qL_norm hdL_norm ⟨Nat.le_of_ble_eq_true rfl, Nat.le_of_ble_eq_true rfl⟩ ⟨Nat.le_of_ble_eq_true rfl, Nat.le_of_ble_eq_true rfl⟩ (Nat.le_of_ble_eq_true rfl) rfl (fun z_372 => ?_)
          have hr_372 := normZ_b (((((v / 4) % 1296000) - (sG (oClose S t (jn : Int) ((v / 4) % 1296000)) t)) + ((v / 5) % 120)) - 60)
          refine gw_istore C (lo1 := [some (vR 0), some (vR 231), some (vR 233), some (vR 234), some (vR 235), some (vR 236), some (vR 237), some (vR 238), some (vI v), some (vI 2), some (vI (t : Int)), some (vI (normZ (((((v / 4) % 1296000) - (sG (oClose S t (jn : Int) ((v / 4) % 1296000)) t)) + ((v / 5) % 120)) - 60))), some (vI (((S (103 + 28 * t)).toNat : Nat) : Int)), some (vI (jn : Int))]) dL_walks_375 (by decide) rfl ?_
          refine gw_aload C dL_walks_377 rfl ?_
          refine gw_iconst C dL_walks_379 ?_
          refine gw_iload C dL_walks_380 rfl ?_
          refine gw_imul C dL_walks_382 ?_
          refine gw_iconst C dL_walks_383 ?_
          refine gw_iadd C dL_walks_384 ?_
          refine gw_iload C dL_walks_385 rfl ?_
          refine gw_iast C ((4 * t) + 3) dL_walks_387 xs_236 xn_236 (by omega) (by omega) (by decide) (by first | omega | assumption | exact hgi _ _) ?_
          have hR_387 : rowL (up (up (up I 236 ((4 * t) + 2) (jn : Int)) 236 ((4 * t) + 3) ((v / 4) % 1296000)) 236 ((4 * t) + 3) (normZ (((((v / 4) % 1296000) - (sG (oClose S t (jn : Int) ((v / 4) % 1296000)) t)) + ((v / 5) % 120)) - 60))) = (us (us (us S (104 + 28 * t) (jn : Int)) (105 + 28 * t) ((v / 4) % 1296000)) (105 + 28 * t) (normZ (((((v / 4) % 1296000) - (sG (oClose S t (jn : Int) ((v / 4) % 1296000)) t)) + ((v / 5) % 120)) - 60))) := (lu_h3 (I := (up (up I 236 ((4 * t) + 2) (jn : Int)) 236 ((4 * t) + 3) ((v / 4) % 1296000))) (x := (normZ (((((v / 4) % 1296000) - (sG (oClose S t (jn : Int) ((v / 4) % 1296000)) t)) + ((v / 5) % 120)) - 60))) (t := t) (by omega)).trans (by rw [hR_306])
          refine gw_aload_n C 0 dL_walks_388 rfl rfl ?_
          refine gw_iload C dL_walks_389 rfl ?_
          refine gw_iload C dL_walks_391 rfl ?_
          refine gw_iload C dL_walks_393 rfl ?_
          have hC_395_3 : CI (up (up (up I 236 ((4 * t) + 2) (jn : Int)) 236 ((4 * t) + 3) ((v / 4) % 1296000)) 236 ((4 * t) + 3) (normZ (((((v / 4) % 1296000) - (sG (oClose S t (jn : Int) ((v / 4) % 1296000)) t)) + ((v / 5) % 120)) - 60))) S D9 c9 := ci_eq hCI (fun q f hq => by (repeat rw [up_nn (by omega)]))
          refine gw_callSH C (as := [vR 0, vI (t : Int), vI (jn : Int), vI (normZ (((((v / 4) % 1296000) - (sG (oClose S t (jn : Int) ((v / 4) % 1296000)) t)) + ((v / 5) % 120)) - 60))]) (st := []) (c_L_closes hl0 G (up (up (up I 236 ((4 * t) + 2) (jn : Int)) 236 ((4 * t) + 3) ((v / 4) % 1296000)) 236 ((4 * t) + 3) (normZ (((((v / 4) % 1296000) - (sG (oClose S t (jn : Int) ((v / 4) % 1296000)) t)) + ((v / 5) % 120)) - 60))) J hC_395_3 (t : Int) (jn : Int) (normZ (((((v / 4) % 1296000) - (sG (oClose S t (jn : Int) ((v / 4) % 1296000)) t)) + ((v / 5) % 120)) - 60)) (by first | omega | assumption | exact hgi _ _) (by first | omega | assumption | exact hgi _ _) (by first | omega | assumption | exact hgi _ _)) dL_walks_395 kL_156 qL_closes hdL_closes ⟨Nat.le_of_ble_eq_true rfl, Nat.le_of_ble_eq_true rfl⟩ ⟨Nat.le_of_ble_eq_true rfl, Nat.le_of_ble_eq_true rfl⟩ (Nat.le_of_ble_eq_true rfl) rfl (fun _ _ _ _ h => h.elim) ?_
          intro v_395_3 z_395_6 I_395_3 J_9 hv_395_3
          obtain ⟨ev, ⟨hm, hn⟩, eJ⟩ := hv_395_3
          have hk_395_3 : kClose S (t : Int) (jn : Int) (normZ (((((v / 4) % 1296000) - (sG (oClose S t (jn : Int) ((v / 4) % 1296000)) t)) + ((v / 5) % 120)) - 60)) = 0 := by unfold kClose; rw [show ((t : Nat) : Int).toNat = t from rfl]; rw [if_neg (by omega), if_neg (by omega), if_neg (by omega)]
          rw [ev, eJ, cdV_0 hk_395_3]
          obtain ⟨hX_395_3, hF_395_3⟩ := hm hk_395_3
          have hfin : rowL I_395_3 = (oClose S t (jn : Int) (normZ (((((v / 4) % 1296000) - (sG (oClose S t (jn : Int) ((v / 4) % 1296000)) t)) + ((v / 5) % 120)) - 60))) := (row_fr hF_395_3).trans (hR_387.trans (by first | rfl | (unfold oClose; exact us_us)))
          have hCf : CI I_395_3 (rowL I_395_3) (psh S D9) (cN c9) := by rw [hfin]; exact hX_395_3
          have hox : Oks (oClose S t (jn : Int) (normZ (((((v / 4) % 1296000) - (sG (oClose S t (jn : Int) ((v / 4) % 1296000)) t)) + ((v / 5) % 120)) - 60))) := hX_395_3.1.1.2.1
          have hrow := (row_fr hF_395_3).trans hR_387
          show GW G p l e ({ frames := 9, cells := 1, slots := 6, locals := 192 } : Room) s m args below meth c 14 z_395_6 N0 SH RR I_395_3 J 1 6 (vx_MQ below (GQ G N0 SH RR (liQ J)) (GX G N0 SH RR gNo) args s 1 6 (ge G)) 398 [some (vR 0), some (vR 231), some (vR 233), some (vR 234), some (vR 235), some (vR 236), some (vR 237), some (vR 238), some (vI v), some (vI 2), some (vI (t : Int)), some (vI (normZ (((((v / 4) % 1296000) - (sG (oClose S t (jn : Int) ((v / 4) % 1296000)) t)) + ((v / 5) % 120)) - 60))), some (vI (((S (103 + 28 * t)).toNat : Nat) : Int)), some (vI (jn : Int))] [vI (sTT (oClose S t (jn : Int) (normZ (((((v / 4) % 1296000) - (sG (oClose S t (jn : Int) ((v / 4) % 1296000)) t)) + ((v / 5) % 120)) - 60))) t)]
          have hocl2 := ocl (S := S) (t := t) (j := (jn : Int)) (a := (normZ (((((v / 4) % 1296000) - (sG (oClose S t (jn : Int) ((v / 4) % 1296000)) t)) + ((v / 5) % 120)) - 60)))
          refine gw_aload_n C 1 dL_walks_398 rfl rfl ?_
          refine gw_aload_n C 2 dL_walks_399 rfl rfl ?_
          refine gw_aload_n C 3 dL_walks_400 rfl rfl ?_
          refine gw_aload C dL_walks_401 rfl ?_
          refine gw_aload C dL_walks_403 rfl ?_
          refine gw_aload C dL_walks_405 rfl ?_
          refine gw_iload C dL_walks_407 rfl ?_
          refine gw_callSm C (as := [vR 231, vR 233, vR 234, vR 235, vR 236, vR 237, vI (t : Int)]) (st := [vI (sTT (oClose S t (jn : Int) (normZ (((((v / 4) % 1296000) - (sG (oClose S t (jn : Int) ((v / 4) % 1296000)) t)) + ((v / 5) % 120)) - 60))) t)]) (c_L_trouble hl0 G I_395_3 J hfin hox t (by omega)) dL_walks_409 kL_123 qL_trouble hdL_trouble ⟨Nat.le_of_ble_eq_true rfl, Nat.le_of_ble_eq_true rfl⟩ ⟨Nat.le_of_ble_eq_true rfl, Nat.le_of_ble_eq_true rfl⟩ (Nat.le_of_ble_eq_true rfl) rfl (fun z_409_3 => ?_)
          have hr_409_3 := sTT_v (oClose S t (jn : Int) (normZ (((((v / 4) % 1296000) - (sG (oClose S t (jn : Int) ((v / 4) % 1296000)) t)) + ((v / 5) % 120)) - 60))) t
          refine gw_icmp_ne C (tgt := 419) dL_walks_412 (by decide) (by first | omega | assumption | exact hgi _ _) (by first | omega | assumption | exact hgi _ _) (fun h => absurd h (by exact fun q => q rfl)) (fun _ => ?_)
          refine gw_iconst C dL_walks_415 ?_
          refine gw_goto C (tgt := 420) dL_walks_416 (by decide) ?_
          exact gw_zret C (Nat.le_of_ble_eq_true rfl) (Nat.le_of_ble_eq_true rfl) dL_walks_420 (Or.inr rfl) (⟨rfl, ⟨_, _, hCf⟩, rfl⟩)
    · skip
      skip
      refine gw_aload_n C 0 dL_walks_247 rfl rfl ?_
      refine gw_iload C dL_walks_248 rfl ?_
      refine gw_iload C dL_walks_250 rfl ?_
      refine gw_iload C dL_walks_252 rfl ?_
      refine gw_callSH C (as := [vR 0, vI (t : Int), vI (jn : Int), vI ((v / 4) % 1296000)]) (st := []) (c_L_closes hl0 G I J hCI (t : Int) (jn : Int) ((v / 4) % 1296000) (by first | omega | assumption | exact hgi _ _) (by first | omega | assumption | exact hgi _ _) (by first | omega | assumption | exact hgi _ _)) dL_walks_254 kL_156 qL_closes hdL_closes ⟨Nat.le_of_ble_eq_true rfl, Nat.le_of_ble_eq_true rfl⟩ ⟨Nat.le_of_ble_eq_true rfl, Nat.le_of_ble_eq_true rfl⟩ (Nat.le_of_ble_eq_true rfl) rfl (fun _ _ _ _ h => h.elim) ?_
      intro v_254_2 z_254_4 I_254_2 J_9 hv_254_2
      obtain ⟨ev, ⟨hm, hn⟩, eJ⟩ := hv_254_2
      have hk_254_2 : kClose S (t : Int) (jn : Int) ((v / 4) % 1296000) = 3 := by unfold kClose; rw [show ((t : Nat) : Int).toNat = t from rfl]; rw [if_neg (by omega), if_neg (by omega), if_pos (by omega)]
      rw [ev, eJ, hn (by omega), cdV_3 hk_254_2]
      show GW G p l e ({ frames := 9, cells := 1, slots := 6, locals := 192 } : Room) s m args below meth c 14 z_254_4 N0 SH RR I J 1 6 (vx_MQ below (GQ G N0 SH RR (liQ J)) (GX G N0 SH RR gNo) args s 1 6 (ge G)) 257 [some (vR 0), some (vR 231), some (vR 233), some (vR 234), some (vR 235), some (vR 236), some (vR 237), some (vR 238), some (vI v), some (vI 2), some (vI (t : Int)), some (vI ((v / 4) % 1296000)), some (vI (((S (103 + 28 * t)).toNat : Nat) : Int)), some (vI (jn : Int))] [vI (-2000003)]
      refine gw_iload C dL_walks_257 rfl ?_
      refine gw_aload C dL_walks_259 rfl ?_
      refine gw_iconst C dL_walks_261 ?_
      refine gw_iload C dL_walks_262 rfl ?_
      refine gw_imul C dL_walks_264 ?_
      refine gw_iald C (4 * t) dL_walks_265 xs_236 xn_236 (by omega) (by omega) (by decide) (fun hI_265_2 => ?_)
      rw [show (I 236 (4 * t)) = (((S (102 + 28 * t)).toNat : Nat) : Int) from by have e9 := lr_h0 (I := I) (t := t) (by omega); rw [hR] at e9; omega] at hI_265_2 ⊢
      refine gw_icmp_ne C (tgt := 274) dL_walks_266 (by decide) (by first | omega | assumption | exact hgi _ _) hI_265_2 (fun _ => ?_) (fun h => absurd h (by omega))
      refine gw_ldc C (x := (-2000003)) dL_walks_274 kL_23 (by decide) ?_
      refine gw_icmp_ne C (tgt := 283) dL_walks_276 (by decide) ⟨by decide, by decide⟩ ⟨by decide, by decide⟩ (fun h => absurd h (by decide)) (fun _ => ?_)
      refine gw_iconst C dL_walks_279 ?_
      refine gw_goto C (tgt := 284) dL_walks_280 (by decide) ?_
      exact gw_zret C (Nat.le_of_ble_eq_true rfl) (Nat.le_of_ble_eq_true rfl) dL_walks_284 (Or.inr rfl) (⟨rfl, ⟨_, _, by rw [hR]; exact hCI⟩, rfl⟩)
set_option maxHeartbeats 4000000 in
set_option maxRecDepth 100000 in
theorem c_L_walks3 {l : Launch} (hl0 : l.stackTraces = false) (G : GG) (I J : GI) {z : Nat} (hLI : LI I) (v : Int) (h5 : 0 < rowL I 5) (hv : 0 ≤ v ∧ v < 100000000) : GM l yL_walks (.code yL_walks cL_walks 14 (some .boolean)) 9 192 1 6 G N0 SH RR [vR 0, vR 231, vR 233, vR 234, vR 235, vR 236, vR 237, vR 238, vI v, vI 3] z I J (wkQ v J) gNo := by
  refine gm_of (lo0 := [some (vR 0), some (vR 231), some (vR 233), some (vR 234), some (vR 235), some (vR 236), some (vR 237), some (vR 238), some (vI v), some (vI 3), none, none, none, none]) hl0 (by decide) rfl (Nat.le_of_ble_eq_true rfl) ?_
  intro p e s m args below meth c C ht hgi
  have C : gC G p l s m args meth c cL_walks 14 RL (some .boolean) "walks" := C
  obtain ⟨D9, c9, hCI⟩ := hLI
  obtain ⟨S, hR⟩ : ∃ S, rowL I = S := ⟨_, rfl⟩
  rw [hR] at hCI
  rw [hR] at h5
  have ho := hCI.1.1.2.1
  have h0 := ho.1
  have h3 := ho.2.1
  refine gw_iload C dL_walks_0 rfl ?_
  refine gw_aload_n C 1 dL_walks_2 rfl rfl ?_
  refine gw_iconst C dL_walks_3 ?_
  refine gw_iald C 5 dL_walks_4 xs_231 xn_231 (by omega) (by omega) (by decide) (fun hI_4 => ?_)
  rw [show (I 231 5) = (((S 5).toNat : Nat) : Int) from by have e9 := lr_g (I := I) (k := 5) (by omega); rw [hR] at e9; omega] at hI_4 ⊢
  refine gw_irem C dL_walks_5 (by first | omega | assumption | exact hgi _ _) hI_4 (by omega) ?_
  obtain ⟨t, et_t, hb_t⟩ := tm_nat (v := v) (n := (((S 5).toNat : Nat) : Int)) (by omega) (by omega)
  rw [show (v).tmod (((S 5).toNat : Nat) : Int) = (t : Int) from et_t]
  refine gw_istore C (lo1 := [some (vR 0), some (vR 231), some (vR 233), some (vR 234), some (vR 235), some (vR 236), some (vR 237), some (vR 238), some (vI v), some (vI 3), some (vI (t : Int)), none, none, none]) dL_walks_6 (by decide) rfl ?_
  refine gw_iload C dL_walks_8 rfl ?_
  refine gw_iconst C dL_walks_10 ?_
  refine gw_idiv C dL_walks_11 (by first | omega | assumption | exact hgi _ _) ⟨by decide, by decide⟩ (by decide) ?_
  rw [show (v).tdiv 4 = (v / 4) from Int.tdiv_eq_ediv_of_nonneg (by omega)]
  refine gw_ldc C (x := 1296000) dL_walks_12 kL_147 (by decide) ?_
  refine gw_irem C dL_walks_14 (by first | omega | assumption | exact hgi _ _) ⟨by decide, by decide⟩ (by decide) ?_
  rw [show ((v / 4)).tmod 1296000 = ((v / 4) % 1296000) from Int.tmod_eq_emod_of_nonneg (by omega)]
  refine gw_istore C (lo1 := [some (vR 0), some (vR 231), some (vR 233), some (vR 234), some (vR 235), some (vR 236), some (vR 237), some (vR 238), some (vI v), some (vI 3), some (vI (t : Int)), some (vI ((v / 4) % 1296000)), none, none]) dL_walks_15 (by decide) rfl ?_
  have htt : (t : Int) < S 5 := by omega
  have ht9 := okT ho htt
  have hf9 := ho.2.2.2.1 (S (102 + 28 * t)).toNat (by omega)
  refine gw_aload C dL_walks_17 rfl ?_
  refine gw_iconst C dL_walks_19 ?_
  refine gw_iload C dL_walks_20 rfl ?_
  refine gw_imul C dL_walks_22 ?_
  refine gw_iconst C dL_walks_23 ?_
  refine gw_iadd C dL_walks_24 ?_
  refine gw_iald C ((4 * t) + 1) dL_walks_25 xs_236 xn_236 (by omega) (by omega) (by decide) (fun hI_25 => ?_)
  rw [show (I 236 ((4 * t) + 1)) = (((S (103 + 28 * t)).toNat : Nat) : Int) from by have e9 := lr_h1 (I := I) (t := t) (by omega); rw [hR] at e9; omega] at hI_25 ⊢
  refine gw_istore C (lo1 := [some (vR 0), some (vR 231), some (vR 233), some (vR 234), some (vR 235), some (vR 236), some (vR 237), some (vR 238), some (vI v), some (vI 3), some (vI (t : Int)), some (vI ((v / 4) % 1296000)), some (vI (((S (103 + 28 * t)).toNat : Nat) : Int)), none]) dL_walks_26 (by decide) rfl ?_
  refine gw_iload C dL_walks_28 rfl ?_
  refine gw_if_ne C (tgt := 144) dL_walks_30 (by decide) ⟨by decide, by decide⟩ (fun _ => ?_) (fun h => absurd h (by decide))
  refine gw_iload C dL_walks_144 rfl ?_
  refine gw_iconst C dL_walks_146 ?_
  refine gw_icmp_ne C (tgt := 214) dL_walks_147 (by decide) ⟨by decide, by decide⟩ ⟨by decide, by decide⟩ (fun _ => ?_) (fun h => absurd h (by decide))
  refine gw_iload C dL_walks_214 rfl ?_
  refine gw_iconst C dL_walks_216 ?_
  refine gw_icmp_ne C (tgt := 421) dL_walks_217 (by decide) ⟨by decide, by decide⟩ ⟨by decide, by decide⟩ (fun _ => ?_) (fun h => absurd h (by decide))
  refine gw_aload C dL_walks_421 rfl ?_
  refine gw_iconst C dL_walks_423 ?_
  refine gw_iload C dL_walks_424 rfl ?_
  refine gw_imul C dL_walks_426 ?_
  refine gw_iconst C dL_walks_427 ?_
  refine gw_iadd C dL_walks_428 ?_
  refine gw_iald C ((4 * t) + 2) dL_walks_429 xs_236 xn_236 (by omega) (by omega) (by decide) (fun hI_429 => ?_)
  rw [show (I 236 ((4 * t) + 2)) = (S (104 + 28 * t)) from by have e9 := lr_h2 (I := I) (t := t) (by omega); rw [hR] at e9; exact e9] at hI_429 ⊢
  refine gw_if_lt C (tgt := 450) dL_walks_430 (by decide) hI_429 (fun h_430 => ?_) (fun h_430 => ?_)
  · skip
    refine gw_aload_n C 0 dL_walks_450 rfl rfl ?_
    refine gw_iload C dL_walks_451 rfl ?_
    refine gw_callSH C (as := [vR 0, vI (t : Int)]) (st := []) (c_L_adjusts hl0 G I J hCI (t : Int) (by first | omega | assumption | exact hgi _ _)) dL_walks_453 kL_161 qL_adjusts hdL_adjusts ⟨Nat.le_of_ble_eq_true rfl, Nat.le_of_ble_eq_true rfl⟩ ⟨Nat.le_of_ble_eq_true rfl, Nat.le_of_ble_eq_true rfl⟩ (Nat.le_of_ble_eq_true rfl) rfl (fun _ _ _ _ h => h.elim) ?_
    intro v_453 z_453_2 I_453 J_9 hv_453
    obtain ⟨ev, ⟨hm, hn⟩, eJ⟩ := hv_453
    have hk_453 : kAdj S (t : Int) = 2 := by unfold kAdj; rw [show ((t : Nat) : Int).toNat = t from rfl]; rw [if_neg (by omega), if_pos (by omega)]
    rw [ev, eJ, hn (by omega), cdV_2 hk_453]
    show GW G p l e ({ frames := 9, cells := 1, slots := 6, locals := 192 } : Room) s m args below meth c 14 z_453_2 N0 SH RR I J 1 6 (vx_MQ below (GQ G N0 SH RR (wkQ v J)) (GX G N0 SH RR gNo) args s 1 6 (ge G)) 456 [some (vR 0), some (vR 231), some (vR 233), some (vR 234), some (vR 235), some (vR 236), some (vR 237), some (vR 238), some (vI v), some (vI 3), some (vI (t : Int)), some (vI ((v / 4) % 1296000)), some (vI (((S (103 + 28 * t)).toNat : Nat) : Int)), none] [vI (-2000003)]
    refine gw_ldc C (x := (-2000003)) dL_walks_456 kL_23 (by decide) ?_
    refine gw_icmp_ne C (tgt := 465) dL_walks_458 (by decide) ⟨by decide, by decide⟩ ⟨by decide, by decide⟩ (fun h => absurd h (by decide)) (fun _ => ?_)
    refine gw_iconst C dL_walks_461 ?_
    refine gw_goto C (tgt := 466) dL_walks_462 (by decide) ?_
    exact gw_zret C (Nat.le_of_ble_eq_true rfl) (Nat.le_of_ble_eq_true rfl) dL_walks_466 (Or.inr rfl) (⟨rfl, ⟨⟨_, _, by rw [hR]; exact hCI⟩, gp_1 hR h5 et_t (by omega)⟩, rfl⟩)
  · skip
    refine gw_aload_n C 1 dL_walks_433 rfl rfl ?_
    refine gw_aload_n C 2 dL_walks_434 rfl rfl ?_
    refine gw_aload_n C 3 dL_walks_435 rfl rfl ?_
    refine gw_aload C dL_walks_436 rfl ?_
    refine gw_aload C dL_walks_438 rfl ?_
    refine gw_aload C dL_walks_440 rfl ?_
    refine gw_iload C dL_walks_442 rfl ?_
    refine gw_callSm C (as := [vR 231, vR 233, vR 234, vR 235, vR 236, vR 237, vI (t : Int)]) (st := []) (c_L_trouble hl0 G I J hR ho t (by omega)) dL_walks_444 kL_123 qL_trouble hdL_trouble ⟨Nat.le_of_ble_eq_true rfl, Nat.le_of_ble_eq_true rfl⟩ ⟨Nat.le_of_ble_eq_true rfl, Nat.le_of_ble_eq_true rfl⟩ (Nat.le_of_ble_eq_true rfl) rfl (fun z_444 => ?_)
    have hr_444 := sTT_v S t
    refine gw_if_le C (tgt := 467) dL_walks_447 (by decide) (by first | omega | assumption | exact hgi _ _) (fun h_447 => ?_) (fun h_447 => ?_)
    · skip
      refine gw_aload_n C 0 dL_walks_467 rfl rfl ?_
      refine gw_iload C dL_walks_468 rfl ?_
      refine gw_callSH C (as := [vR 0, vI (t : Int)]) (st := []) (c_L_adjusts hl0 G I J hCI (t : Int) (by first | omega | assumption | exact hgi _ _)) dL_walks_470 kL_161 qL_adjusts hdL_adjusts ⟨Nat.le_of_ble_eq_true rfl, Nat.le_of_ble_eq_true rfl⟩ ⟨Nat.le_of_ble_eq_true rfl, Nat.le_of_ble_eq_true rfl⟩ (Nat.le_of_ble_eq_true rfl) rfl (fun _ _ _ _ h => h.elim) ?_
      intro v_470 z_470_2 I_470 J_9 hv_470
      obtain ⟨ev, ⟨hm, hn⟩, eJ⟩ := hv_470
      have hk_470 : kAdj S (t : Int) = 0 := by unfold kAdj; rw [show ((t : Nat) : Int).toNat = t from rfl]; rw [if_neg (by omega), if_neg (by omega)]
      rw [ev, eJ, cdV_0 hk_470]
      obtain ⟨hX_470, hF_470⟩ := hm hk_470
      have hrow := (row_fr hF_470).trans hR
      show GW G p l e ({ frames := 9, cells := 1, slots := 6, locals := 192 } : Room) s m args below meth c 14 z_470_2 N0 SH RR I_470 J 1 6 (vx_MQ below (GQ G N0 SH RR (wkQ v J)) (GX G N0 SH RR gNo) args s 1 6 (ge G)) 473 [some (vR 0), some (vR 231), some (vR 233), some (vR 234), some (vR 235), some (vR 236), some (vR 237), some (vR 238), some (vI v), some (vI 3), some (vI (t : Int)), some (vI ((v / 4) % 1296000)), some (vI (((S (103 + 28 * t)).toNat : Nat) : Int)), none] [vI (sG S t)]
      refine gw_aload_n C 2 dL_walks_473 rfl rfl ?_
      refine gw_aload_n C 3 dL_walks_474 rfl rfl ?_
      refine gw_aload C dL_walks_475 rfl ?_
      refine gw_aload C dL_walks_477 rfl ?_
      refine gw_aload C dL_walks_479 rfl ?_
      refine gw_aload C dL_walks_481 rfl ?_
      refine gw_iload C dL_walks_483 rfl ?_
      refine gw_callS C (as := [vR 233, vR 234, vR 235, vR 236, vR 237, vR 238, vI (t : Int)]) (st := [vI (sG S t)]) (c_L_adjust hl0 G I_470 J hrow ho t htt (by omega)) dL_walks_485 kL_164 qL_adjust hdL_adjust ⟨Nat.le_of_ble_eq_true rfl, Nat.le_of_ble_eq_true rfl⟩ ⟨Nat.le_of_ble_eq_true rfl, Nat.le_of_ble_eq_true rfl⟩ (Nat.le_of_ble_eq_true rfl) rfl (fun _ _ _ _ h => h.elim) ?_
      intro v_a z_a I_a J_a hv_a
      obtain ⟨ev, ⟨hA, hB⟩, eJ⟩ := hv_a
      rw [ev, eJ]
      have hCa : CI I_a (rowL I_a) (psh S D9) (cN c9) := by rw [hA]; exact ci_eq hX_470 (fun q f hq => hB q f (by omega) (by omega))
      have hgb := sG_b S t
      show GW G p l e ({ frames := 9, cells := 1, slots := 6, locals := 192 } : Room) s m args below meth c 14 z_a N0 SH RR I_a J 1 6 (vx_MQ below (GQ G N0 SH RR (wkQ v J)) (GX G N0 SH RR gNo) args s 1 6 (ge G)) 488 [some (vR 0), some (vR 231), some (vR 233), some (vR 234), some (vR 235), some (vR 236), some (vR 237), some (vR 238), some (vI v), some (vI 3), some (vI (t : Int)), some (vI ((v / 4) % 1296000)), some (vI (((S (103 + 28 * t)).toNat : Nat) : Int)), none] [vI (sG S t), vI (sG S t)]
      refine gw_icmp_ne C (tgt := 495) dL_walks_488 (by decide) (by first | omega | assumption | exact hgi _ _) (by first | omega | assumption | exact hgi _ _) (fun h => absurd h (by exact fun q => q rfl)) (fun _ => ?_)
      refine gw_iconst C dL_walks_491 ?_
      refine gw_goto C (tgt := 496) dL_walks_492 (by decide) ?_
      exact gw_zret C (Nat.le_of_ble_eq_true rfl) (Nat.le_of_ble_eq_true rfl) dL_walks_496 (Or.inr rfl) (⟨rfl, ⟨⟨_, _, hCa⟩, gp_2 hA ho htt (by omega) et_t⟩, rfl⟩)
    · skip
      refine gw_aload_n C 0 dL_walks_450 rfl rfl ?_
      refine gw_iload C dL_walks_451 rfl ?_
      refine gw_callSH C (as := [vR 0, vI (t : Int)]) (st := []) (c_L_adjusts hl0 G I J hCI (t : Int) (by first | omega | assumption | exact hgi _ _)) dL_walks_453 kL_161 qL_adjusts hdL_adjusts ⟨Nat.le_of_ble_eq_true rfl, Nat.le_of_ble_eq_true rfl⟩ ⟨Nat.le_of_ble_eq_true rfl, Nat.le_of_ble_eq_true rfl⟩ (Nat.le_of_ble_eq_true rfl) rfl (fun _ _ _ _ h => h.elim) ?_
      intro v_453_2 z_453_4 I_453_2 J_9 hv_453_2
      obtain ⟨ev, ⟨hm, hn⟩, eJ⟩ := hv_453_2
      have hk_453_2 : kAdj S (t : Int) = 2 := by unfold kAdj; rw [show ((t : Nat) : Int).toNat = t from rfl]; rw [if_neg (by omega), if_pos (by omega)]
      rw [ev, eJ, hn (by omega), cdV_2 hk_453_2]
      show GW G p l e ({ frames := 9, cells := 1, slots := 6, locals := 192 } : Room) s m args below meth c 14 z_453_4 N0 SH RR I J 1 6 (vx_MQ below (GQ G N0 SH RR (wkQ v J)) (GX G N0 SH RR gNo) args s 1 6 (ge G)) 456 [some (vR 0), some (vR 231), some (vR 233), some (vR 234), some (vR 235), some (vR 236), some (vR 237), some (vR 238), some (vI v), some (vI 3), some (vI (t : Int)), some (vI ((v / 4) % 1296000)), some (vI (((S (103 + 28 * t)).toNat : Nat) : Int)), none] [vI (-2000003)]
      refine gw_ldc C (x := (-2000003)) dL_walks_456 kL_23 (by decide) ?_
      refine gw_icmp_ne C (tgt := 465) dL_walks_458 (by decide) ⟨by decide, by decide⟩ ⟨by decide, by decide⟩ (fun h => absurd h (by decide)) (fun _ => ?_)
      refine gw_iconst C dL_walks_461 ?_
      refine gw_goto C (tgt := 466) dL_walks_462 (by decide) ?_
      exact gw_zret C (Nat.le_of_ble_eq_true rfl) (Nat.le_of_ble_eq_true rfl) dL_walks_466 (Or.inr rfl) (⟨rfl, ⟨⟨_, _, by rw [hR]; exact hCI⟩, gp_1 hR h5 et_t (by omega)⟩, rfl⟩)
