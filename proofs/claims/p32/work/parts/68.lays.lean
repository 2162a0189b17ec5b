set_option maxHeartbeats 4000000 in
set_option maxRecDepth 100000 in
theorem c_L_lays0 {l : Launch} (hl0 : l.stackTraces = false) (G : GG) (I J : GI) {z : Nat} (hLI : LI I) (v : Int) (hv : 0 ≤ v ∧ v < 100000000) : GM l yL_lays (.code yL_lays cL_lays 16 (some .boolean)) 9 190 4 24 G N0 SH RR [vR 0, vR 231, vR 232, vR 233, vR 234, vR 235, vI v, vI 0] z I J (liQ J) gNo := by
  refine gm_of (lo0 := [some (vR 0), some (vR 231), some (vR 232), some (vR 233), some (vR 234), some (vR 235), some (vI v), some (vI 0), none, none, none, none, none, none, none, none]) hl0 (by decide) rfl (Nat.le_of_ble_eq_true rfl) ?_
  intro p e s m args below meth c C ht hgi
  have C : gC G p l s m args meth c cL_lays 16 RL (some .boolean) "lays" := C
  obtain ⟨D9, c9, hCI⟩ := hLI
  obtain ⟨S, hR⟩ : ∃ S, rowL I = S := ⟨_, rfl⟩
  rw [hR] at hCI
  have ho := hCI.1.1.2.1
  have h0 := ho.1
  have h3 := ho.2.1
  refine gw_iload C dL_lays_0 rfl ?_
  refine gw_if_ne C (tgt := 132) dL_lays_2 (by decide) ⟨by decide, by decide⟩ (fun h => absurd h (by decide)) (fun _ => ?_)
  refine gw_iload C dL_lays_5 rfl ?_
  refine gw_sipush C dL_lays_7 rfl ?_
  refine gw_irem C dL_lays_10 (by first | omega | assumption | exact hgi _ _) ⟨by decide, by decide⟩ (by decide) ?_
  rw [show (v).tmod 4001 = (v % 4001) from Int.tmod_eq_emod_of_nonneg (by omega)]
  refine gw_sipush C dL_lays_11 rfl ?_
  refine gw_isub C dL_lays_14 ?_
  refine gw_bipush C dL_lays_15 rfl ?_
  refine gw_imul C dL_lays_17 ?_
  refine gw_istore C (lo1 := [some (vR 0), some (vR 231), some (vR 232), some (vR 233), some (vR 234), some (vR 235), some (vI v), some (vI 0), some (vI (((v % 4001) - 2000) * 50)), none, none, none, none, none, none, none]) dL_lays_18 (by decide) rfl ?_
  refine gw_iload C dL_lays_20 rfl ?_
  refine gw_bipush C dL_lays_22 rfl ?_
  refine gw_idiv C dL_lays_24 (by first | omega | assumption | exact hgi _ _) ⟨by decide, by decide⟩ (by decide) ?_
  rw [show (v).tdiv 7 = (v / 7) from Int.tdiv_eq_ediv_of_nonneg (by omega)]
  refine gw_sipush C dL_lays_25 rfl ?_
  refine gw_irem C dL_lays_28 (by first | omega | assumption | exact hgi _ _) ⟨by decide, by decide⟩ (by decide) ?_
  rw [show ((v / 7)).tmod 4001 = ((v / 7) % 4001) from Int.tmod_eq_emod_of_nonneg (by omega)]
  refine gw_sipush C dL_lays_29 rfl ?_
  refine gw_isub C dL_lays_32 ?_
  refine gw_bipush C dL_lays_33 rfl ?_
  refine gw_imul C dL_lays_35 ?_
  refine gw_istore C (lo1 := [some (vR 0), some (vR 231), some (vR 232), some (vR 233), some (vR 234), some (vR 235), some (vI v), some (vI 0), some (vI (((v % 4001) - 2000) * 50)), some (vI ((((v / 7) % 4001) - 2000) * 50)), none, none, none, none, none, none]) dL_lays_36 (by decide) rfl ?_
  refine gw_aload_n C 1 dL_lays_38 rfl rfl ?_
  refine gw_iconst C dL_lays_39 ?_
  refine gw_iald C 3 dL_lays_40 xs_231 xn_231 (by omega) (by omega) (by decide) (fun hI_40 => ?_)
  rw [show (I 231 3) = (((S 3).toNat : Nat) : Int) from by have e9 := lr_g (I := I) (k := 3) (by omega); rw [hR] at e9; omega] at hI_40 ⊢
  refine gw_bipush C dL_lays_41 rfl ?_
  refine gw_icmp_ne C (tgt := 77) dL_lays_43 (by decide) hI_40 ⟨by decide, by decide⟩ (fun h_43 => ?_) (fun h_43 => ?_)
  · skip
    refine gw_aload_n C 2 dL_lays_77 rfl rfl ?_
    refine gw_iconst C dL_lays_78 ?_
    refine gw_aload_n C 1 dL_lays_79 rfl rfl ?_
    refine gw_iconst C dL_lays_80 ?_
    refine gw_iald C 3 dL_lays_81 xs_231 xn_231 (by omega) (by omega) (by decide) (fun hI_81 => ?_)
    rw [show (I 231 3) = (((S 3).toNat : Nat) : Int) from by have e9 := lr_g (I := I) (k := 3) (by omega); rw [hR] at e9; omega] at hI_81 ⊢
    refine gw_imul C dL_lays_82 ?_
    refine gw_iload C dL_lays_83 rfl ?_
    refine gw_iast C (2 * (S 3).toNat) dL_lays_85 xs_232 xn_232 (by omega) (by omega) (by decide) (by first | omega | assumption | exact hgi _ _) ?_
    have hR_85 : rowL (up I 232 (2 * (S 3).toNat) (((v % 4001) - 2000) * 50)) = (us S (6 + 12 * ((S 3).toNat)) (((v % 4001) - 2000) * 50)) := (lu_x (I := I) (x := (((v % 4001) - 2000) * 50)) (i := (S 3).toNat) (by omega)).trans (by rw [hR])
    refine gw_aload_n C 2 dL_lays_86 rfl rfl ?_
    refine gw_iconst C dL_lays_87 ?_
    refine gw_aload_n C 1 dL_lays_88 rfl rfl ?_
    refine gw_iconst C dL_lays_89 ?_
    refine gw_iald C 3 dL_lays_90 xs_231 xn_231 (by omega) (by omega) (by decide) (fun hI_90 => ?_)
    rw [show ((up I 232 (2 * (S 3).toNat) (((v % 4001) - 2000) * 50)) 231 3) = (((S 3).toNat : Nat) : Int) from by have e9 := lr_g (I := (up I 232 (2 * (S 3).toNat) (((v % 4001) - 2000) * 50))) (k := 3) (by omega); rw [hR_85, us_ne (by omega)] at e9; omega] at hI_90 ⊢
    refine gw_imul C dL_lays_91 ?_
    refine gw_iconst C dL_lays_92 ?_
    refine gw_iadd C dL_lays_93 ?_
    refine gw_iload C dL_lays_94 rfl ?_
    refine gw_iast C ((2 * (S 3).toNat) + 1) dL_lays_96 xs_232 xn_232 (by omega) (by omega) (by decide) (by first | omega | assumption | exact hgi _ _) ?_
    have hR_96 : rowL (up (up I 232 (2 * (S 3).toNat) (((v % 4001) - 2000) * 50)) 232 ((2 * (S 3).toNat) + 1) ((((v / 7) % 4001) - 2000) * 50)) = (us (us S (6 + 12 * ((S 3).toNat)) (((v % 4001) - 2000) * 50)) (7 + 12 * ((S 3).toNat)) ((((v / 7) % 4001) - 2000) * 50)) := (lu_y (I := (up I 232 (2 * (S 3).toNat) (((v % 4001) - 2000) * 50))) (x := ((((v / 7) % 4001) - 2000) * 50)) (i := (S 3).toNat) (by omega)).trans (by rw [hR_85])
    refine gw_aload_n C 3 dL_lays_97 rfl rfl ?_
    refine gw_aload_n C 1 dL_lays_98 rfl rfl ?_
    refine gw_iconst C dL_lays_99 ?_
    refine gw_iald C 3 dL_lays_100 xs_231 xn_231 (by omega) (by omega) (by decide) (fun hI_100 => ?_)
    rw [show ((up (up I 232 (2 * (S 3).toNat) (((v % 4001) - 2000) * 50)) 232 ((2 * (S 3).toNat) + 1) ((((v / 7) % 4001) - 2000) * 50)) 231 3) = (((S 3).toNat : Nat) : Int) from by have e9 := lr_g (I := (up (up I 232 (2 * (S 3).toNat) (((v % 4001) - 2000) * 50)) 232 ((2 * (S 3).toNat) + 1) ((((v / 7) % 4001) - 2000) * 50))) (k := 3) (by omega); rw [hR_96, us_ne (by omega), us_ne (by omega)] at e9; omega] at hI_100 ⊢
    refine gw_iconst C dL_lays_101 ?_
    refine gw_iast C ((S 3).toNat) dL_lays_102 xs_233 xn_233 (by omega) (by omega) (by decide) ⟨by decide, by decide⟩ ?_
    have hR_102 : rowL (up (up (up I 232 (2 * (S 3).toNat) (((v % 4001) - 2000) * 50)) 232 ((2 * (S 3).toNat) + 1) ((((v / 7) % 4001) - 2000) * 50)) 233 ((S 3).toNat) 0) = (us (us (us S (6 + 12 * ((S 3).toNat)) (((v % 4001) - 2000) * 50)) (7 + 12 * ((S 3).toNat)) ((((v / 7) % 4001) - 2000) * 50)) (8 + 12 * ((S 3).toNat)) 0) := (lu_m (I := (up (up I 232 (2 * (S 3).toNat) (((v % 4001) - 2000) * 50)) 232 ((2 * (S 3).toNat) + 1) ((((v / 7) % 4001) - 2000) * 50))) (x := 0) (i := ((S 3).toNat)) (by omega)).trans (by rw [hR_96])
    refine gw_aload_n C 1 dL_lays_103 rfl rfl ?_
    refine gw_iconst C dL_lays_104 ?_
    refine gw_dup2IR C dL_lays_105 ?_
    refine gw_iald C 3 dL_lays_106 xs_231 xn_231 (by omega) (by omega) (by decide) (fun hI_106 => ?_)
    rw [show ((up (up (up I 232 (2 * (S 3).toNat) (((v % 4001) - 2000) * 50)) 232 ((2 * (S 3).toNat) + 1) ((((v / 7) % 4001) - 2000) * 50)) 233 ((S 3).toNat) 0) 231 3) = (((S 3).toNat : Nat) : Int) from by have e9 := lr_g (I := (up (up (up I 232 (2 * (S 3).toNat) (((v % 4001) - 2000) * 50)) 232 ((2 * (S 3).toNat) + 1) ((((v / 7) % 4001) - 2000) * 50)) 233 ((S 3).toNat) 0)) (k := 3) (by omega); rw [hR_102, us_ne (by omega), us_ne (by omega), us_ne (by omega)] at e9; omega] at hI_106 ⊢
    refine gw_iconst C dL_lays_107 ?_
    refine gw_iadd C dL_lays_108 ?_
    refine gw_iast C 3 dL_lays_109 xs_231 xn_231 (by omega) (by omega) (by decide) (by first | omega | assumption | exact hgi _ _) ?_
    have hR_109 : rowL (up (up (up (up I 232 (2 * (S 3).toNat) (((v % 4001) - 2000) * 50)) 232 ((2 * (S 3).toNat) + 1) ((((v / 7) % 4001) - 2000) * 50)) 233 ((S 3).toNat) 0) 231 3 ((((S 3).toNat : Nat) : Int) + 1)) = (us (us (us (us S (6 + 12 * ((S 3).toNat)) (((v % 4001) - 2000) * 50)) (7 + 12 * ((S 3).toNat)) ((((v / 7) % 4001) - 2000) * 50)) (8 + 12 * ((S 3).toNat)) 0) 3 ((((S 3).toNat : Nat) : Int) + 1)) := (lu_g (I := (up (up (up I 232 (2 * (S 3).toNat) (((v % 4001) - 2000) * 50)) 232 ((2 * (S 3).toNat) + 1) ((((v / 7) % 4001) - 2000) * 50)) 233 ((S 3).toNat) 0)) (x := ((((S 3).toNat : Nat) : Int) + 1)) (k := 3) (by omega)).trans (by rw [hR_102])
    refine gw_aload_n C 0 dL_lays_110 rfl rfl ?_
    refine gw_iload C dL_lays_111 rfl ?_
    refine gw_iload C dL_lays_113 rfl ?_
    have hC_115 : CI (up (up (up (up I 232 (2 * (S 3).toNat) (((v % 4001) - 2000) * 50)) 232 ((2 * (S 3).toNat) + 1) ((((v / 7) % 4001) - 2000) * 50)) 233 ((S 3).toNat) 0) 231 3 ((((S 3).toNat : Nat) : Int) + 1)) S D9 c9 := ci_eq hCI (fun q f hq => by (repeat rw [up_nn (by omega)]))
    refine gw_callSH C (as := [vR 0, vI (((v % 4001) - 2000) * 50), vI ((((v / 7) % 4001) - 2000) * 50)]) (st := []) (c_L_hangs hl0 G (up (up (up (up I 232 (2 * (S 3).toNat) (((v % 4001) - 2000) * 50)) 232 ((2 * (S 3).toNat) + 1) ((((v / 7) % 4001) - 2000) * 50)) 233 ((S 3).toNat) 0) 231 3 ((((S 3).toNat : Nat) : Int) + 1)) J hC_115 (((v % 4001) - 2000) * 50) ((((v / 7) % 4001) - 2000) * 50) (by first | omega | assumption | exact hgi _ _) (by first | omega | assumption | exact hgi _ _)) dL_lays_115 kL_131 qL_hangs hdL_hangs ⟨Nat.le_of_ble_eq_true rfl, Nat.le_of_ble_eq_true rfl⟩ ⟨Nat.le_of_ble_eq_true rfl, Nat.le_of_ble_eq_true rfl⟩ (Nat.le_of_ble_eq_true rfl) rfl (fun _ _ _ _ h => h.elim) ?_
    intro v_115 z_115_2 I_115 J_9 hv_115
    obtain ⟨ev, ⟨hm, hn⟩, eJ⟩ := hv_115
    have hk_115 : kHang S (((v % 4001) - 2000) * 50) ((((v / 7) % 4001) - 2000) * 50) = 0 := by unfold kHang; rw [if_neg (by omega), if_neg (by omega)]
    rw [ev, eJ, cdV_0 hk_115]
    obtain ⟨hX_115, hF_115⟩ := hm hk_115
    have hfin : rowL I_115 = (oHang S (S 3).toNat (((v % 4001) - 2000) * 50) ((((v / 7) % 4001) - 2000) * 50)) := (row_fr hF_115).trans (hR_109.trans (by unfold oHang; congr 1; omega))
    have hCf : CI I_115 (rowL I_115) (psh S D9) (cN c9) := by rw [hfin]; exact hX_115
    have hox : Oks (oHang S (S 3).toNat (((v % 4001) - 2000) * 50) ((((v / 7) % 4001) - 2000) * 50)) := hX_115.1.1.2.1
    have hrow := (row_fr hF_115).trans hR_109
    show GW G p l e ({ frames := 9, cells := 4, slots := 24, locals := 190 } : Room) s m args below meth c 16 z_115_2 N0 SH RR I_115 J 1 6 (vx_MQ below (GQ G N0 SH RR (liQ J)) (GX G N0 SH RR gNo) args s 4 24 (ge G)) 118 [some (vR 0), some (vR 231), some (vR 232), some (vR 233), some (vR 234), some (vR 235), some (vI v), some (vI 0), some (vI (((v % 4001) - 2000) * 50)), some (vI ((((v / 7) % 4001) - 2000) * 50)), none, none, none, none, none, none] [vI (S 3)]
    refine gw_aload_n C 1 dL_lays_118 rfl rfl ?_
    refine gw_iconst C dL_lays_119 ?_
    refine gw_iald C 3 dL_lays_120 xs_231 xn_231 (by omega) (by omega) (by decide) (fun hI_120 => ?_)
    rw [show (I_115 231 3) = ((((S 3).toNat : Nat) : Int) + 1) from by have e9 := lr_g (I := I_115) (k := 3) (by omega); rw [hrow, us_at rfl] at e9; exact e9] at hI_120 ⊢
    refine gw_iconst C dL_lays_121 ?_
    refine gw_isub C dL_lays_122 ?_
    refine gw_icmp_ne C (tgt := 130) dL_lays_123 (by decide) (by first | omega | assumption | exact hgi _ _) (by first | omega | assumption | exact hgi _ _) (fun h => absurd h (by omega)) (fun _ => ?_)
    refine gw_iconst C dL_lays_126 ?_
    refine gw_goto C (tgt := 131) dL_lays_127 (by decide) ?_
    exact gw_zret C (Nat.le_of_ble_eq_true rfl) (Nat.le_of_ble_eq_true rfl) dL_lays_131 (Or.inr rfl) (⟨rfl, ⟨_, _, hCf⟩, rfl⟩)
  · skip
    refine gw_aload_n C 0 dL_lays_46 rfl rfl ?_
    refine gw_iload C dL_lays_47 rfl ?_
    refine gw_iload C dL_lays_49 rfl ?_
    refine gw_callSH C (as := [vR 0, vI (((v % 4001) - 2000) * 50), vI ((((v / 7) % 4001) - 2000) * 50)]) (st := []) (c_L_hangs hl0 G I J hCI (((v % 4001) - 2000) * 50) ((((v / 7) % 4001) - 2000) * 50) (by first | omega | assumption | exact hgi _ _) (by first | omega | assumption | exact hgi _ _)) dL_lays_51 kL_131 qL_hangs hdL_hangs ⟨Nat.le_of_ble_eq_true rfl, Nat.le_of_ble_eq_true rfl⟩ ⟨Nat.le_of_ble_eq_true rfl, Nat.le_of_ble_eq_true rfl⟩ (Nat.le_of_ble_eq_true rfl) rfl (fun _ _ _ _ h => h.elim) ?_
    intro v_51 z_51_2 I_51 J_9 hv_51
    obtain ⟨ev, ⟨hm, hn⟩, eJ⟩ := hv_51
    have hk_51 : kHang S (((v % 4001) - 2000) * 50) ((((v / 7) % 4001) - 2000) * 50) = 2 := by unfold kHang; rw [if_neg (by omega), if_pos (by omega)]
    rw [ev, eJ, hn (by omega), cdV_2 hk_51]
    show GW G p l e ({ frames := 9, cells := 4, slots := 24, locals := 190 } : Room) s m args below meth c 16 z_51_2 N0 SH RR I J 1 6 (vx_MQ below (GQ G N0 SH RR (liQ J)) (GX G N0 SH RR gNo) args s 4 24 (ge G)) 54 [some (vR 0), some (vR 231), some (vR 232), some (vR 233), some (vR 234), some (vR 235), some (vI v), some (vI 0), some (vI (((v % 4001) - 2000) * 50)), some (vI ((((v / 7) % 4001) - 2000) * 50)), none, none, none, none, none, none] [vI (-2000003)]
    refine gw_ldc C (x := (-2000003)) dL_lays_54 kL_23 (by decide) ?_
    refine gw_icmp_ne C (tgt := 75) dL_lays_56 (by decide) ⟨by decide, by decide⟩ ⟨by decide, by decide⟩ (fun h => absurd h (by decide)) (fun _ => ?_)
    refine gw_aload_n C 0 dL_lays_59 rfl rfl ?_
    refine gw_ldc C (x := 1000001) dL_lays_60 kL_135 (by decide) ?_
    refine gw_iconst C dL_lays_62 ?_
    refine gw_callSH C (as := [vR 0, vI 1000001, vI 0]) (st := []) (c_L_hangs hl0 G I J hCI 1000001 0 ⟨by decide, by decide⟩ ⟨by decide, by decide⟩) dL_lays_63 kL_131 qL_hangs hdL_hangs ⟨Nat.le_of_ble_eq_true rfl, Nat.le_of_ble_eq_true rfl⟩ ⟨Nat.le_of_ble_eq_true rfl, Nat.le_of_ble_eq_true rfl⟩ (Nat.le_of_ble_eq_true rfl) rfl (fun _ _ _ _ h => h.elim) ?_
    intro v_63 z_63_2 I_63 J_9 hv_63
    obtain ⟨ev, ⟨hm, hn⟩, eJ⟩ := hv_63
    have hk_63 : kHang S 1000001 0 = 1 := by unfold kHang; rw [if_pos (by omega)]
    rw [ev, eJ, hn (by omega), cdV_1 hk_63]
    show GW G p l e ({ frames := 9, cells := 4, slots := 24, locals := 190 } : Room) s m args below meth c 16 z_63_2 N0 SH RR I J 2 12 (vx_MQ below (GQ G N0 SH RR (liQ J)) (GX G N0 SH RR gNo) args s 4 24 (ge G)) 66 [some (vR 0), some (vR 231), some (vR 232), some (vR 233), some (vR 234), some (vR 235), some (vI v), some (vI 0), some (vI (((v % 4001) - 2000) * 50)), some (vI ((((v / 7) % 4001) - 2000) * 50)), none, none, none, none, none, none] [vI (-2000002)]
    refine gw_ldc C (x := (-2000002)) dL_lays_66 kL_17 (by decide) ?_
    refine gw_icmp_ne C (tgt := 75) dL_lays_68 (by decide) ⟨by decide, by decide⟩ ⟨by decide, by decide⟩ (fun h => absurd h (by decide)) (fun _ => ?_)
    refine gw_iconst C dL_lays_71 ?_
    refine gw_goto C (tgt := 76) dL_lays_72 (by decide) ?_
    exact gw_zret C (Nat.le_of_ble_eq_true rfl) (Nat.le_of_ble_eq_true rfl) dL_lays_76 (Or.inr rfl) (⟨rfl, ⟨_, _, by rw [hR]; exact hCI⟩, rfl⟩)
set_option maxHeartbeats 4000000 in
set_option maxRecDepth 100000 in
theorem c_L_lays1 {l : Launch} (hl0 : l.stackTraces = false) (G : GG) (I J : GI) {z : Nat} (hLI : LI I) (v : Int) (hv : 0 ≤ v ∧ v < 100000000) : GM l yL_lays (.code yL_lays cL_lays 16 (some .boolean)) 9 190 4 24 G N0 SH RR [vR 0, vR 231, vR 232, vR 233, vR 234, vR 235, vI v, vI 1] z I J (liQ J) gNo := by
  refine gm_of (lo0 := [some (vR 0), some (vR 231), some (vR 232), some (vR 233), some (vR 234), some (vR 235), some (vI v), some (vI 1), none, none, none, none, none, none, none, none]) hl0 (by decide) rfl (Nat.le_of_ble_eq_true rfl) ?_
  intro p e s m args below meth c C ht hgi
  have C : gC G p l s m args meth c cL_lays 16 RL (some .boolean) "lays" := C
  obtain ⟨D9, c9, hCI⟩ := hLI
  obtain ⟨S, hR⟩ : ∃ S, rowL I = S := ⟨_, rfl⟩
  rw [hR] at hCI
  have ho := hCI.1.1.2.1
  have h0 := ho.1
  have h3 := ho.2.1
  refine gw_iload C dL_lays_0 rfl ?_
  refine gw_if_ne C (tgt := 132) dL_lays_2 (by decide) ⟨by decide, by decide⟩ (fun _ => ?_) (fun h => absurd h (by decide))
  refine gw_aload_n C 1 dL_lays_132 rfl rfl ?_
  refine gw_iconst C dL_lays_133 ?_
  refine gw_iald C 3 dL_lays_134 xs_231 xn_231 (by omega) (by omega) (by decide) (fun hI_134 => ?_)
  rw [show (I 231 3) = (((S 3).toNat : Nat) : Int) from by have e9 := lr_g (I := I) (k := 3) (by omega); rw [hR] at e9; omega] at hI_134 ⊢
  refine gw_if_ne C (tgt := 180) dL_lays_135 (by decide) hI_134 (fun h_135 => ?_) (fun h_135 => ?_)
  · skip
    refine gw_iload C dL_lays_180 rfl ?_
    refine gw_aload_n C 1 dL_lays_182 rfl rfl ?_
    refine gw_iconst C dL_lays_183 ?_
    refine gw_iald C 3 dL_lays_184 xs_231 xn_231 (by omega) (by omega) (by decide) (fun hI_184 => ?_)
    rw [show (I 231 3) = (((S 3).toNat : Nat) : Int) from by have e9 := lr_g (I := I) (k := 3) (by omega); rw [hR] at e9; omega] at hI_184 ⊢
    refine gw_irem C dL_lays_185 (by first | omega | assumption | exact hgi _ _) hI_184 (by omega) ?_
    obtain ⟨w, et_w, hb_w⟩ := tm_nat (v := v) (n := (((S 3).toNat : Nat) : Int)) (by omega) (by omega)
    rw [show (v).tmod (((S 3).toNat : Nat) : Int) = (w : Int) from et_w]
    refine gw_istore C (lo1 := [some (vR 0), some (vR 231), some (vR 232), some (vR 233), some (vR 234), some (vR 235), some (vI v), some (vI 1), some (vI (w : Int)), none, none, none, none, none, none, none]) dL_lays_186 (by decide) rfl ?_
    have hw9 := okW ho (i := w) (by omega)
    refine gw_iload C dL_lays_188 rfl ?_
    refine gw_iconst C dL_lays_190 ?_
    refine gw_icmp_ne C (tgt := 290) dL_lays_191 (by decide) ⟨by decide, by decide⟩ ⟨by decide, by decide⟩ (fun h => absurd h (by decide)) (fun _ => ?_)
    refine gw_iload C dL_lays_194 rfl ?_
    refine gw_bipush C dL_lays_196 rfl ?_
    refine gw_idiv C dL_lays_198 (by first | omega | assumption | exact hgi _ _) ⟨by decide, by decide⟩ (by decide) ?_
    rw [show (v).tdiv 6 = (v / 6) from Int.tdiv_eq_ediv_of_nonneg (by omega)]
    refine gw_iload C dL_lays_199 rfl ?_
    refine gw_bipush C dL_lays_201 rfl ?_
    refine gw_irem C dL_lays_203 (by first | omega | assumption | exact hgi _ _) ⟨by decide, by decide⟩ (by decide) ?_
    rw [show (v).tmod 11 = (v % 11) from Int.tmod_eq_emod_of_nonneg (by omega)]
    refine gw_if_ne C (tgt := 213) dL_lays_204 (by decide) (by first | omega | assumption | exact hgi _ _) (fun h_204 => ?_) (fun h_204 => ?_)
    · skip
      refine gw_bipush C dL_lays_213 rfl ?_
      refine gw_irem C dL_lays_215 (by first | omega | assumption | exact hgi _ _) ⟨by decide, by decide⟩ (by decide) ?_
      rw [show ((v / 6)).tmod 30 = ((v / 6) % 30) from Int.tmod_eq_emod_of_nonneg (by omega)]
      refine gw_istore C (lo1 := [some (vR 0), some (vR 231), some (vR 232), some (vR 233), some (vR 234), some (vR 235), some (vI v), some (vI 1), some (vI (w : Int)), some (vI ((v / 6) % 30)), none, none, none, none, none, none]) dL_lays_216 (by decide) rfl ?_
      refine gw_aload_n C 3 dL_lays_218 rfl rfl ?_
      refine gw_iload C dL_lays_219 rfl ?_
      refine gw_iald C w dL_lays_221 xs_233 xn_233 (by omega) (by omega) (by decide) (fun hI_221 => ?_)
      rw [show (I 233 w) = (((S (8 + 12 * w)).toNat : Nat) : Int) from by have e9 := lr_m (I := I) (i := w) (by omega); rw [hR] at e9; omega] at hI_221 ⊢
      refine gw_bipush C dL_lays_222 rfl ?_
      refine gw_icmp_ne C (tgt := 246) dL_lays_224 (by decide) hI_221 ⟨by decide, by decide⟩ (fun h_224 => ?_) (fun h_224 => ?_)
      · skip
        refine gw_aload C dL_lays_246 rfl ?_
        refine gw_bipush C dL_lays_248 rfl ?_
        refine gw_iload C dL_lays_250 rfl ?_
        refine gw_imul C dL_lays_252 ?_
        refine gw_aload_n C 3 dL_lays_253 rfl rfl ?_
        refine gw_iload C dL_lays_254 rfl ?_
        refine gw_iald C w dL_lays_256 xs_233 xn_233 (by omega) (by omega) (by decide) (fun hI_256 => ?_)
        rw [show (I 233 w) = (((S (8 + 12 * w)).toNat : Nat) : Int) from by have e9 := lr_m (I := I) (i := w) (by omega); rw [hR] at e9; omega] at hI_256 ⊢
        refine gw_iadd C dL_lays_257 ?_
        refine gw_iload C dL_lays_258 rfl ?_
        refine gw_iast C ((9 * w) + (S (8 + 12 * w)).toNat) dL_lays_260 xs_234 xn_234 (by omega) (by omega) (by decide) (by first | omega | assumption | exact hgi _ _) ?_
        have hR_260 : rowL (up I 234 ((9 * w) + (S (8 + 12 * w)).toNat) ((v / 6) % 30)) = (us S (9 + 12 * w + ((S (8 + 12 * w)).toNat)) ((v / 6) % 30)) := (lu_r (I := I) (x := ((v / 6) % 30)) (i := w) (k := (S (8 + 12 * w)).toNat) (by omega) (by omega)).trans (by rw [hR])
        refine gw_aload_n C 3 dL_lays_261 rfl rfl ?_
        refine gw_iload C dL_lays_262 rfl ?_
        refine gw_dup2IR C dL_lays_264 ?_
        refine gw_iald C w dL_lays_265 xs_233 xn_233 (by omega) (by omega) (by decide) (fun hI_265 => ?_)
        rw [show ((up I 234 ((9 * w) + (S (8 + 12 * w)).toNat) ((v / 6) % 30)) 233 w) = (((S (8 + 12 * w)).toNat : Nat) : Int) from by have e9 := lr_m (I := (up I 234 ((9 * w) + (S (8 + 12 * w)).toNat) ((v / 6) % 30))) (i := w) (by omega); rw [hR_260, us_ne (by omega)] at e9; omega] at hI_265 ⊢
        refine gw_iconst C dL_lays_266 ?_
        refine gw_iadd C dL_lays_267 ?_
        refine gw_iast C w dL_lays_268 xs_233 xn_233 (by omega) (by omega) (by decide) (by first | omega | assumption | exact hgi _ _) ?_
        have hR_268 : rowL (up (up I 234 ((9 * w) + (S (8 + 12 * w)).toNat) ((v / 6) % 30)) 233 w ((((S (8 + 12 * w)).toNat : Nat) : Int) + 1)) = (us (us S (9 + 12 * w + ((S (8 + 12 * w)).toNat)) ((v / 6) % 30)) (8 + 12 * w) ((((S (8 + 12 * w)).toNat : Nat) : Int) + 1)) := (lu_m (I := (up I 234 ((9 * w) + (S (8 + 12 * w)).toNat) ((v / 6) % 30))) (x := ((((S (8 + 12 * w)).toNat : Nat) : Int) + 1)) (i := w) (by omega)).trans (by rw [hR_260])
        refine gw_aload_n C 0 dL_lays_269 rfl rfl ?_
        refine gw_iload C dL_lays_270 rfl ?_
        refine gw_iload C dL_lays_272 rfl ?_
        have hC_274 : CI (up (up I 234 ((9 * w) + (S (8 + 12 * w)).toNat) ((v / 6) % 30)) 233 w ((((S (8 + 12 * w)).toNat : Nat) : Int) + 1)) S D9 c9 := ci_eq hCI (fun q f hq => by (repeat rw [up_nn (by omega)]))
        refine gw_callSH C (as := [vR 0, vI (w : Int), vI ((v / 6) % 30)]) (st := []) (c_L_swings hl0 G (up (up I 234 ((9 * w) + (S (8 + 12 * w)).toNat) ((v / 6) % 30)) 233 w ((((S (8 + 12 * w)).toNat : Nat) : Int) + 1)) J hC_274 (w : Int) ((v / 6) % 30) (by first | omega | assumption | exact hgi _ _) (by first | omega | assumption | exact hgi _ _)) dL_lays_274 kL_136 qL_swings hdL_swings ⟨Nat.le_of_ble_eq_true rfl, Nat.le_of_ble_eq_true rfl⟩ ⟨Nat.le_of_ble_eq_true rfl, Nat.le_of_ble_eq_true rfl⟩ (Nat.le_of_ble_eq_true rfl) rfl (fun _ _ _ _ h => h.elim) ?_
        intro v_274 z_274_2 I_274 J_9 hv_274
        obtain ⟨ev, ⟨hm, hn⟩, eJ⟩ := hv_274
        have hk_274 : rfT S (w : Int) ((v / 6) % 30) = 0 := by unfold rfT; rw [show ((w : Nat) : Int).toNat = w from rfl]; rw [if_neg (by omega), if_neg (by omega), if_neg (by omega)]
        rw [ev, eJ, cdV_0 hk_274]
        obtain ⟨hX_274, hF_274⟩ := hm hk_274
        have hfin : rowL I_274 = (oSwing S w (S (8 + 12 * w)).toNat ((v / 6) % 30)) := (row_fr hF_274).trans (hR_268.trans (by unfold oSwing; congr 1; omega))
        have hCf : CI I_274 (rowL I_274) (psh S D9) (cN c9) := by rw [hfin]; exact hX_274
        have hox : Oks (oSwing S w (S (8 + 12 * w)).toNat ((v / 6) % 30)) := hX_274.1.1.2.1
        have hrow := (row_fr hF_274).trans hR_268
        show GW G p l e ({ frames := 9, cells := 4, slots := 24, locals := 190 } : Room) s m args below meth c 16 z_274_2 N0 SH RR I_274 J 1 6 (vx_MQ below (GQ G N0 SH RR (liQ J)) (GX G N0 SH RR gNo) args s 4 24 (ge G)) 277 [some (vR 0), some (vR 231), some (vR 232), some (vR 233), some (vR 234), some (vR 235), some (vI v), some (vI 1), some (vI (w : Int)), some (vI ((v / 6) % 30)), none, none, none, none, none, none] [vI (S (8 + 12 * w) + 1)]
        refine gw_aload_n C 3 dL_lays_277 rfl rfl ?_
        refine gw_iload C dL_lays_278 rfl ?_
        refine gw_iald C w dL_lays_280 xs_233 xn_233 (by omega) (by omega) (by decide) (fun hI_280 => ?_)
        rw [show (I_274 233 w) = ((((S (8 + 12 * w)).toNat : Nat) : Int) + 1) from by have e9 := lr_m (I := I_274) (i := w) (by omega); rw [hrow, us_at rfl] at e9; exact e9] at hI_280 ⊢
        refine gw_icmp_ne C (tgt := 288) dL_lays_281 (by decide) (by first | omega | assumption | exact hgi _ _) hI_280 (fun h => absurd h (by omega)) (fun _ => ?_)
        refine gw_iconst C dL_lays_284 ?_
        refine gw_goto C (tgt := 289) dL_lays_285 (by decide) ?_
        exact gw_zret C (Nat.le_of_ble_eq_true rfl) (Nat.le_of_ble_eq_true rfl) dL_lays_289 (Or.inr rfl) (⟨rfl, ⟨_, _, hCf⟩, rfl⟩)
      · skip
        refine gw_aload_n C 0 dL_lays_227 rfl rfl ?_
        refine gw_iload C dL_lays_228 rfl ?_
        refine gw_iload C dL_lays_230 rfl ?_
        refine gw_callSH C (as := [vR 0, vI (w : Int), vI ((v / 6) % 30)]) (st := []) (c_L_swings hl0 G I J hCI (w : Int) ((v / 6) % 30) (by first | omega | assumption | exact hgi _ _) (by first | omega | assumption | exact hgi _ _)) dL_lays_232 kL_136 qL_swings hdL_swings ⟨Nat.le_of_ble_eq_true rfl, Nat.le_of_ble_eq_true rfl⟩ ⟨Nat.le_of_ble_eq_true rfl, Nat.le_of_ble_eq_true rfl⟩ (Nat.le_of_ble_eq_true rfl) rfl (fun _ _ _ _ h => h.elim) ?_
        intro v_232 z_232_2 I_232 J_9 hv_232
        obtain ⟨ev, ⟨hm, hn⟩, eJ⟩ := hv_232
        have hk_232 : rfT S (w : Int) ((v / 6) % 30) = 3 := by unfold rfT; rw [show ((w : Nat) : Int).toNat = w from rfl]; rw [if_neg (by omega), if_neg (by omega), if_pos (by omega)]
        rw [ev, eJ, hn (by omega), cdV_3 hk_232]
        show GW G p l e ({ frames := 9, cells := 4, slots := 24, locals := 190 } : Room) s m args below meth c 16 z_232_2 N0 SH RR I J 1 6 (vx_MQ below (GQ G N0 SH RR (liQ J)) (GX G N0 SH RR gNo) args s 4 24 (ge G)) 235 [some (vR 0), some (vR 231), some (vR 232), some (vR 233), some (vR 234), some (vR 235), some (vI v), some (vI 1), some (vI (w : Int)), some (vI ((v / 6) % 30)), none, none, none, none, none, none] [vI (-2000003)]
        refine gw_ldc C (x := (-2000003)) dL_lays_235 kL_23 (by decide) ?_
        refine gw_icmp_ne C (tgt := 244) dL_lays_237 (by decide) ⟨by decide, by decide⟩ ⟨by decide, by decide⟩ (fun h => absurd h (by decide)) (fun _ => ?_)
        refine gw_iconst C dL_lays_240 ?_
        refine gw_goto C (tgt := 245) dL_lays_241 (by decide) ?_
        exact gw_zret C (Nat.le_of_ble_eq_true rfl) (Nat.le_of_ble_eq_true rfl) dL_lays_245 (Or.inr rfl) (⟨rfl, ⟨_, _, by rw [hR]; exact hCI⟩, rfl⟩)
    · skip
      refine gw_sipush C dL_lays_207 rfl ?_
      refine gw_goto C (tgt := 215) dL_lays_210 (by decide) ?_
      refine gw_irem C dL_lays_215 (by first | omega | assumption | exact hgi _ _) ⟨by decide, by decide⟩ (by decide) ?_
      rw [show ((v / 6)).tmod 1000 = ((v / 6) % 1000) from Int.tmod_eq_emod_of_nonneg (by omega)]
      refine gw_istore C (lo1 := [some (vR 0), some (vR 231), some (vR 232), some (vR 233), some (vR 234), some (vR 235), some (vI v), some (vI 1), some (vI (w : Int)), some (vI ((v / 6) % 1000)), none, none, none, none, none, none]) dL_lays_216 (by decide) rfl ?_
      refine gw_aload_n C 3 dL_lays_218 rfl rfl ?_
      refine gw_iload C dL_lays_219 rfl ?_
      refine gw_iald C w dL_lays_221 xs_233 xn_233 (by omega) (by omega) (by decide) (fun hI_221_2 => ?_)
      rw [show (I 233 w) = (((S (8 + 12 * w)).toNat : Nat) : Int) from by have e9 := lr_m (I := I) (i := w) (by omega); rw [hR] at e9; omega] at hI_221_2 ⊢
      refine gw_bipush C dL_lays_222 rfl ?_
      refine gw_icmp_ne C (tgt := 246) dL_lays_224 (by decide) hI_221_2 ⟨by decide, by decide⟩ (fun h_224_2 => ?_) (fun h_224_2 => ?_)
      · skip
        refine gw_aload C dL_lays_246 rfl ?_
        refine gw_bipush C dL_lays_248 rfl ?_
        refine gw_iload C dL_lays_250 rfl ?_
        refine gw_imul C dL_lays_252 ?_
        refine gw_aload_n C 3 dL_lays_253 rfl rfl ?_
        refine gw_iload C dL_lays_254 rfl ?_
        refine gw_iald C w dL_lays_256 xs_233 xn_233 (by omega) (by omega) (by decide) (fun hI_256_2 => ?_)
        rw [show (I 233 w) = (((S (8 + 12 * w)).toNat : Nat) : Int) from by have e9 := lr_m (I := I) (i := w) (by omega); rw [hR] at e9; omega] at hI_256_2 ⊢
        refine gw_iadd C dL_lays_257 ?_
        refine gw_iload C dL_lays_258 rfl ?_
        refine gw_iast C ((9 * w) + (S (8 + 12 * w)).toNat) dL_lays_260 xs_234 xn_234 (by omega) (by omega) (by decide) (by first | omega | assumption | exact hgi _ _) ?_
        have hR_260_2 : rowL (up I 234 ((9 * w) + (S (8 + 12 * w)).toNat) ((v / 6) % 1000)) = (us S (9 + 12 * w + ((S (8 + 12 * w)).toNat)) ((v / 6) % 1000)) := (lu_r (I := I) (x := ((v / 6) % 1000)) (i := w) (k := (S (8 + 12 * w)).toNat) (by omega) (by omega)).trans (by rw [hR])
        refine gw_aload_n C 3 dL_lays_261 rfl rfl ?_
        refine gw_iload C dL_lays_262 rfl ?_
        refine gw_dup2IR C dL_lays_264 ?_
        refine gw_iald C w dL_lays_265 xs_233 xn_233 (by omega) (by omega) (by decide) (fun hI_265_2 => ?_)
        rw [show ((up I 234 ((9 * w) + (S (8 + 12 * w)).toNat) ((v / 6) % 1000)) 233 w) = (((S (8 + 12 * w)).toNat : Nat) : Int) from by have e9 := lr_m (I := (up I 234 ((9 * w) + (S (8 + 12 * w)).toNat) ((v / 6) % 1000))) (i := w) (by omega); rw [hR_260_2, us_ne (by omega)] at e9; omega] at hI_265_2 ⊢
        refine gw_iconst C dL_lays_266 ?_
        refine gw_iadd C dL_lays_267 ?_
        refine gw_iast C w dL_lays_268 xs_233 xn_233 (by omega) (by omega) (by decide) (by first | omega | assumption | exact hgi _ _) ?_
        have hR_268_2 : rowL (up (up I 234 ((9 * w) + (S (8 + 12 * w)).toNat) ((v / 6) % 1000)) 233 w ((((S (8 + 12 * w)).toNat : Nat) : Int) + 1)) = (us (us S (9 + 12 * w + ((S (8 + 12 * w)).toNat)) ((v / 6) % 1000)) (8 + 12 * w) ((((S (8 + 12 * w)).toNat : Nat) : Int) + 1)) := (lu_m (I := (up I 234 ((9 * w) + (S (8 + 12 * w)).toNat) ((v / 6) % 1000))) (x := ((((S (8 + 12 * w)).toNat : Nat) : Int) + 1)) (i := w) (by omega)).trans (by rw [hR_260_2])
        refine gw_aload_n C 0 dL_lays_269 rfl rfl ?_
        refine gw_iload C dL_lays_270 rfl ?_
        refine gw_iload C dL_lays_272 rfl ?_
        have hC_274_2 : CI (up (up I 234 ((9 * w) + (S (8 + 12 * w)).toNat) ((v / 6) % 1000)) 233 w ((((S (8 + 12 * w)).toNat : Nat) : Int) + 1)) S D9 c9 := ci_eq hCI (fun q f hq => by (repeat rw [up_nn (by omega)]))
        refine gw_callSH C (as := [vR 0, vI (w : Int), vI ((v / 6) % 1000)]) (st := []) (c_L_swings hl0 G (up (up I 234 ((9 * w) + (S (8 + 12 * w)).toNat) ((v / 6) % 1000)) 233 w ((((S (8 + 12 * w)).toNat : Nat) : Int) + 1)) J hC_274_2 (w : Int) ((v / 6) % 1000) (by first | omega | assumption | exact hgi _ _) (by first | omega | assumption | exact hgi _ _)) dL_lays_274 kL_136 qL_swings hdL_swings ⟨Nat.le_of_ble_eq_true rfl, Nat.le_of_ble_eq_true rfl⟩ ⟨Nat.le_of_ble_eq_true rfl, Nat.le_of_ble_eq_true rfl⟩ (Nat.le_of_ble_eq_true rfl) rfl (fun _ _ _ _ h => h.elim) ?_
        intro v_274_2 z_274_4 I_274_2 J_9 hv_274_2
        obtain ⟨ev, ⟨hm, hn⟩, eJ⟩ := hv_274_2
        have hk_274_2 : rfT S (w : Int) ((v / 6) % 1000) = 0 := by unfold rfT; rw [show ((w : Nat) : Int).toNat = w from rfl]; rw [if_neg (by omega), if_neg (by omega), if_neg (by omega)]
        rw [ev, eJ, cdV_0 hk_274_2]
        obtain ⟨hX_274_2, hF_274_2⟩ := hm hk_274_2
        have hfin : rowL I_274_2 = (oSwing S w (S (8 + 12 * w)).toNat ((v / 6) % 1000)) := (row_fr hF_274_2).trans (hR_268_2.trans (by unfold oSwing; congr 1; omega))
        have hCf : CI I_274_2 (rowL I_274_2) (psh S D9) (cN c9) := by rw [hfin]; exact hX_274_2
        have hox : Oks (oSwing S w (S (8 + 12 * w)).toNat ((v / 6) % 1000)) := hX_274_2.1.1.2.1
        have hrow := (row_fr hF_274_2).trans hR_268_2
        show GW G p l e ({ frames := 9, cells := 4, slots := 24, locals := 190 } : Room) s m args below meth c 16 z_274_4 N0 SH RR I_274_2 J 1 6 (vx_MQ below (GQ G N0 SH RR (liQ J)) (GX G N0 SH RR gNo) args s 4 24 (ge G)) 277 [some (vR 0), some (vR 231), some (vR 232), some (vR 233), some (vR 234), some (vR 235), some (vI v), some (vI 1), some (vI (w : Int)), some (vI ((v / 6) % 1000)), none, none, none, none, none, none] [vI (S (8 + 12 * w) + 1)]
        refine gw_aload_n C 3 dL_lays_277 rfl rfl ?_
        refine gw_iload C dL_lays_278 rfl ?_
        refine gw_iald C w dL_lays_280 xs_233 xn_233 (by omega) (by omega) (by decide) (fun hI_280_2 => ?_)
        rw [show (I_274_2 233 w) = ((((S (8 + 12 * w)).toNat : Nat) : Int) + 1) from by have e9 := lr_m (I := I_274_2) (i := w) (by omega); rw [hrow, us_at rfl] at e9; exact e9] at hI_280_2 ⊢
        refine gw_icmp_ne C (tgt := 288) dL_lays_281 (by decide) (by first | omega | assumption | exact hgi _ _) hI_280_2 (fun h => absurd h (by omega)) (fun _ => ?_)
        refine gw_iconst C dL_lays_284 ?_
        refine gw_goto C (tgt := 289) dL_lays_285 (by decide) ?_
        exact gw_zret C (Nat.le_of_ble_eq_true rfl) (Nat.le_of_ble_eq_true rfl) dL_lays_289 (Or.inr rfl) (⟨rfl, ⟨_, _, hCf⟩, rfl⟩)
      · skip
        refine gw_aload_n C 0 dL_lays_227 rfl rfl ?_
        refine gw_iload C dL_lays_228 rfl ?_
        refine gw_iload C dL_lays_230 rfl ?_
        refine gw_callSH C (as := [vR 0, vI (w : Int), vI ((v / 6) % 1000)]) (st := []) (c_L_swings hl0 G I J hCI (w : Int) ((v / 6) % 1000) (by first | omega | assumption | exact hgi _ _) (by first | omega | assumption | exact hgi _ _)) dL_lays_232 kL_136 qL_swings hdL_swings ⟨Nat.le_of_ble_eq_true rfl, Nat.le_of_ble_eq_true rfl⟩ ⟨Nat.le_of_ble_eq_true rfl, Nat.le_of_ble_eq_true rfl⟩ (Nat.le_of_ble_eq_true rfl) rfl (fun _ _ _ _ h => h.elim) ?_
        intro v_232_2 z_232_4 I_232_2 J_9 hv_232_2
        obtain ⟨ev, ⟨hm, hn⟩, eJ⟩ := hv_232_2
        have hk_232_2 : rfT S (w : Int) ((v / 6) % 1000) = 3 := by unfold rfT; rw [show ((w : Nat) : Int).toNat = w from rfl]; rw [if_neg (by omega), if_neg (by omega), if_pos (by omega)]
        rw [ev, eJ, hn (by omega), cdV_3 hk_232_2]
        show GW G p l e ({ frames := 9, cells := 4, slots := 24, locals := 190 } : Room) s m args below meth c 16 z_232_4 N0 SH RR I J 1 6 (vx_MQ below (GQ G N0 SH RR (liQ J)) (GX G N0 SH RR gNo) args s 4 24 (ge G)) 235 [some (vR 0), some (vR 231), some (vR 232), some (vR 233), some (vR 234), some (vR 235), some (vI v), some (vI 1), some (vI (w : Int)), some (vI ((v / 6) % 1000)), none, none, none, none, none, none] [vI (-2000003)]
        refine gw_ldc C (x := (-2000003)) dL_lays_235 kL_23 (by decide) ?_
        refine gw_icmp_ne C (tgt := 244) dL_lays_237 (by decide) ⟨by decide, by decide⟩ ⟨by decide, by decide⟩ (fun h => absurd h (by decide)) (fun _ => ?_)
        refine gw_iconst C dL_lays_240 ?_
        refine gw_goto C (tgt := 245) dL_lays_241 (by decide) ?_
        exact gw_zret C (Nat.le_of_ble_eq_true rfl) (Nat.le_of_ble_eq_true rfl) dL_lays_245 (Or.inr rfl) (⟨rfl, ⟨_, _, by rw [hR]; exact hCI⟩, rfl⟩)
  · skip
    refine gw_aload_n C 0 dL_lays_138 rfl rfl ?_
    refine gw_iconst C dL_lays_139 ?_
    refine gw_iconst C dL_lays_140 ?_
    refine gw_callSH C (as := [vR 0, vI 0, vI 0]) (st := []) (c_L_swings hl0 G I J hCI 0 0 ⟨by decide, by decide⟩ ⟨by decide, by decide⟩) dL_lays_141 kL_136 qL_swings hdL_swings ⟨Nat.le_of_ble_eq_true rfl, Nat.le_of_ble_eq_true rfl⟩ ⟨Nat.le_of_ble_eq_true rfl, Nat.le_of_ble_eq_true rfl⟩ (Nat.le_of_ble_eq_true rfl) rfl (fun _ _ _ _ h => h.elim) ?_
    intro v_141 z_141_2 I_141 J_9 hv_141
    obtain ⟨ev, ⟨hm, hn⟩, eJ⟩ := hv_141
    have hk_141 : rfT S 0 0 = 1 := by unfold rfT; rw [if_pos (by omega)]
    rw [ev, eJ, hn (by omega), cdV_1 hk_141]
    show GW G p l e ({ frames := 9, cells := 4, slots := 24, locals := 190 } : Room) s m args below meth c 16 z_141_2 N0 SH RR I J 1 6 (vx_MQ below (GQ G N0 SH RR (liQ J)) (GX G N0 SH RR gNo) args s 4 24 (ge G)) 144 [some (vR 0), some (vR 231), some (vR 232), some (vR 233), some (vR 234), some (vR 235), some (vI v), some (vI 1), none, none, none, none, none, none, none, none] [vI (-2000001)]
    refine gw_ldc C (x := (-2000001)) dL_lays_144 kL_29 (by decide) ?_
    refine gw_icmp_ne C (tgt := 178) dL_lays_146 (by decide) ⟨by decide, by decide⟩ ⟨by decide, by decide⟩ (fun h => absurd h (by decide)) (fun _ => ?_)
    refine gw_aload_n C 0 dL_lays_149 rfl rfl ?_
    refine gw_iconst C dL_lays_150 ?_
    refine gw_callSH C (as := [vR 0, vI 0]) (st := []) (c_L_stills hl0 G I J hCI 0 ⟨by decide, by decide⟩) dL_lays_151 kL_139 qL_stills hdL_stills ⟨Nat.le_of_ble_eq_true rfl, Nat.le_of_ble_eq_true rfl⟩ ⟨Nat.le_of_ble_eq_true rfl, Nat.le_of_ble_eq_true rfl⟩ (Nat.le_of_ble_eq_true rfl) rfl (fun _ _ _ _ h => h.elim) ?_
    intro v_151 z_151_2 I_151 J_9 hv_151
    obtain ⟨ev, ⟨hm, hn⟩, eJ⟩ := hv_151
    have hk_151 : kStill S 0 = 1 := by unfold kStill; rw [if_pos (by omega)]
    rw [ev, eJ, hn (by omega), cdV_1 hk_151]
    show GW G p l e ({ frames := 9, cells := 4, slots := 24, locals := 190 } : Room) s m args below meth c 16 z_151_2 N0 SH RR I J 2 12 (vx_MQ below (GQ G N0 SH RR (liQ J)) (GX G N0 SH RR gNo) args s 4 24 (ge G)) 154 [some (vR 0), some (vR 231), some (vR 232), some (vR 233), some (vR 234), some (vR 235), some (vI v), some (vI 1), none, none, none, none, none, none, none, none] [vI (-2000001)]
    refine gw_ldc C (x := (-2000001)) dL_lays_154 kL_29 (by decide) ?_
    refine gw_icmp_ne C (tgt := 178) dL_lays_156 (by decide) ⟨by decide, by decide⟩ ⟨by decide, by decide⟩ (fun h => absurd h (by decide)) (fun _ => ?_)
    refine gw_aload_n C 0 dL_lays_159 rfl rfl ?_
    refine gw_iconst C dL_lays_160 ?_
    refine gw_iconst C dL_lays_161 ?_
    refine gw_iconst C dL_lays_162 ?_
    refine gw_iconst C dL_lays_163 ?_
    refine gw_iconst C dL_lays_164 ?_
    refine gw_iconst C dL_lays_165 ?_
    refine gw_callSH C (as := [vR 0, vI 0, vI 0, vI 0, vI 0, vI 0, vI 0]) (st := []) (c_L_joins hl0 G I J hCI 0 0 0 0 0 0 ⟨by decide, by decide⟩ ⟨by decide, by decide⟩ ⟨by decide, by decide⟩ ⟨by decide, by decide⟩ ⟨by decide, by decide⟩ ⟨by decide, by decide⟩) dL_lays_166 kL_143 qL_joins hdL_joins ⟨Nat.le_of_ble_eq_true rfl, Nat.le_of_ble_eq_true rfl⟩ ⟨Nat.le_of_ble_eq_true rfl, Nat.le_of_ble_eq_true rfl⟩ (Nat.le_of_ble_eq_true rfl) rfl (fun _ _ _ _ h => h.elim) ?_
    intro v_166 z_166_2 I_166 J_9 hv_166
    obtain ⟨ev, ⟨hm, hn⟩, eJ⟩ := hv_166
    have hk_166 : kJoin S 0 0 0 0 0 0 = 1 := by unfold kJoin; rw [if_pos (by omega)]
    rw [ev, eJ, hn (by omega), cdV_1 hk_166]
    show GW G p l e ({ frames := 9, cells := 4, slots := 24, locals := 190 } : Room) s m args below meth c 16 z_166_2 N0 SH RR I J 3 18 (vx_MQ below (GQ G N0 SH RR (liQ J)) (GX G N0 SH RR gNo) args s 4 24 (ge G)) 169 [some (vR 0), some (vR 231), some (vR 232), some (vR 233), some (vR 234), some (vR 235), some (vI v), some (vI 1), none, none, none, none, none, none, none, none] [vI (-2000001)]
    refine gw_ldc C (x := (-2000001)) dL_lays_169 kL_29 (by decide) ?_
    refine gw_icmp_ne C (tgt := 178) dL_lays_171 (by decide) ⟨by decide, by decide⟩ ⟨by decide, by decide⟩ (fun h => absurd h (by decide)) (fun _ => ?_)
    refine gw_iconst C dL_lays_174 ?_
    refine gw_goto C (tgt := 179) dL_lays_175 (by decide) ?_
    exact gw_zret C (Nat.le_of_ble_eq_true rfl) (Nat.le_of_ble_eq_true rfl) dL_lays_179 (Or.inr rfl) (⟨rfl, ⟨_, _, by rw [hR]; exact hCI⟩, rfl⟩)
set_option maxHeartbeats 4000000 in
set_option maxRecDepth 100000 in
theorem c_L_lays2 {l : Launch} (hl0 : l.stackTraces = false) (G : GG) (I J : GI) {z : Nat} (hLI : LI I) (v : Int) (hv : 0 ≤ v ∧ v < 100000000) : GM l yL_lays (.code yL_lays cL_lays 16 (some .boolean)) 9 190 4 24 G N0 SH RR [vR 0, vR 231, vR 232, vR 233, vR 234, vR 235, vI v, vI 2] z I J (liQ J) gNo := by
  refine gm_of (lo0 := [some (vR 0), some (vR 231), some (vR 232), some (vR 233), some (vR 234), some (vR 235), some (vI v), some (vI 2), none, none, none, none, none, none, none, none]) hl0 (by decide) rfl (Nat.le_of_ble_eq_true rfl) ?_
  intro p e s m args below meth c C ht hgi
  have C : gC G p l s m args meth c cL_lays 16 RL (some .boolean) "lays" := C
  obtain ⟨D9, c9, hCI⟩ := hLI
  obtain ⟨S, hR⟩ : ∃ S, rowL I = S := ⟨_, rfl⟩
  rw [hR] at hCI
  have ho := hCI.1.1.2.1
  have h0 := ho.1
  have h3 := ho.2.1
  refine gw_iload C dL_lays_0 rfl ?_
  refine gw_if_ne C (tgt := 132) dL_lays_2 (by decide) ⟨by decide, by decide⟩ (fun _ => ?_) (fun h => absurd h (by decide))
  refine gw_aload_n C 1 dL_lays_132 rfl rfl ?_
  refine gw_iconst C dL_lays_133 ?_
  refine gw_iald C 3 dL_lays_134 xs_231 xn_231 (by omega) (by omega) (by decide) (fun hI_134 => ?_)
  rw [show (I 231 3) = (((S 3).toNat : Nat) : Int) from by have e9 := lr_g (I := I) (k := 3) (by omega); rw [hR] at e9; omega] at hI_134 ⊢
  refine gw_if_ne C (tgt := 180) dL_lays_135 (by decide) hI_134 (fun h_135 => ?_) (fun h_135 => ?_)
  · skip
    refine gw_iload C dL_lays_180 rfl ?_
    refine gw_aload_n C 1 dL_lays_182 rfl rfl ?_
    refine gw_iconst C dL_lays_183 ?_
    refine gw_iald C 3 dL_lays_184 xs_231 xn_231 (by omega) (by omega) (by decide) (fun hI_184 => ?_)
    rw [show (I 231 3) = (((S 3).toNat : Nat) : Int) from by have e9 := lr_g (I := I) (k := 3) (by omega); rw [hR] at e9; omega] at hI_184 ⊢
    refine gw_irem C dL_lays_185 (by first | omega | assumption | exact hgi _ _) hI_184 (by omega) ?_
    obtain ⟨w, et_w, hb_w⟩ := tm_nat (v := v) (n := (((S 3).toNat : Nat) : Int)) (by omega) (by omega)
    rw [show (v).tmod (((S 3).toNat : Nat) : Int) = (w : Int) from et_w]
    refine gw_istore C (lo1 := [some (vR 0), some (vR 231), some (vR 232), some (vR 233), some (vR 234), some (vR 235), some (vI v), some (vI 2), some (vI (w : Int)), none, none, none, none, none, none, none]) dL_lays_186 (by decide) rfl ?_
    have hw9 := okW ho (i := w) (by omega)
    refine gw_iload C dL_lays_188 rfl ?_
    refine gw_iconst C dL_lays_190 ?_
    refine gw_icmp_ne C (tgt := 290) dL_lays_191 (by decide) ⟨by decide, by decide⟩ ⟨by decide, by decide⟩ (fun _ => ?_) (fun h => absurd h (by decide))
    refine gw_iload C dL_lays_290 rfl ?_
    refine gw_iconst C dL_lays_292 ?_
    refine gw_icmp_ne C (tgt := 324) dL_lays_293 (by decide) ⟨by decide, by decide⟩ ⟨by decide, by decide⟩ (fun h => absurd h (by decide)) (fun _ => ?_)
    refine gw_aload_n C 3 dL_lays_296 rfl rfl ?_
    refine gw_iload C dL_lays_297 rfl ?_
    refine gw_iald C w dL_lays_299 xs_233 xn_233 (by omega) (by omega) (by decide) (fun hI_299 => ?_)
    rw [show (I 233 w) = (((S (8 + 12 * w)).toNat : Nat) : Int) from by have e9 := lr_m (I := I) (i := w) (by omega); rw [hR] at e9; omega] at hI_299 ⊢
    refine gw_istore C (lo1 := [some (vR 0), some (vR 231), some (vR 232), some (vR 233), some (vR 234), some (vR 235), some (vI v), some (vI 2), some (vI (w : Int)), some (vI (((S (8 + 12 * w)).toNat : Nat) : Int)), none, none, none, none, none, none]) dL_lays_300 (by decide) rfl ?_
    refine gw_aload_n C 3 dL_lays_302 rfl rfl ?_
    refine gw_iload C dL_lays_303 rfl ?_
    refine gw_iconst C dL_lays_305 ?_
    refine gw_iast C w dL_lays_306 xs_233 xn_233 (by omega) (by omega) (by decide) ⟨by decide, by decide⟩ ?_
    have hR_306 : rowL (up I 233 w 0) = (us S (8 + 12 * w) 0) := (lu_m (I := I) (x := 0) (i := w) (by omega)).trans (by rw [hR])
    refine gw_aload_n C 0 dL_lays_307 rfl rfl ?_
    refine gw_iload C dL_lays_308 rfl ?_
    have hC_310 : CI (up I 233 w 0) S D9 c9 := ci_eq hCI (fun q f hq => by (repeat rw [up_nn (by omega)]))
    refine gw_callSH C (as := [vR 0, vI (w : Int)]) (st := []) (c_L_stills hl0 G (up I 233 w 0) J hC_310 (w : Int) (by first | omega | assumption | exact hgi _ _)) dL_lays_310 kL_139 qL_stills hdL_stills ⟨Nat.le_of_ble_eq_true rfl, Nat.le_of_ble_eq_true rfl⟩ ⟨Nat.le_of_ble_eq_true rfl, Nat.le_of_ble_eq_true rfl⟩ (Nat.le_of_ble_eq_true rfl) rfl (fun _ _ _ _ h => h.elim) ?_
    intro v_310 z_310_2 I_310 J_9 hv_310
    obtain ⟨ev, ⟨hm, hn⟩, eJ⟩ := hv_310
    have hk_310 : kStill S (w : Int) = 0 := by unfold kStill; rw [if_neg (by omega)]
    rw [ev, eJ, cdV_0 hk_310]
    obtain ⟨hX_310, hF_310⟩ := hm hk_310
    have hfin : rowL I_310 = (oStill S w) := (row_fr hF_310).trans (hR_306.trans (by rfl))
    have hCf : CI I_310 (rowL I_310) (psh S D9) (cN c9) := by rw [hfin]; exact hX_310
    have hox : Oks (oStill S w) := hX_310.1.1.2.1
    have hrow := (row_fr hF_310).trans hR_306
    show GW G p l e ({ frames := 9, cells := 4, slots := 24, locals := 190 } : Room) s m args below meth c 16 z_310_2 N0 SH RR I_310 J 1 6 (vx_MQ below (GQ G N0 SH RR (liQ J)) (GX G N0 SH RR gNo) args s 4 24 (ge G)) 313 [some (vR 0), some (vR 231), some (vR 232), some (vR 233), some (vR 234), some (vR 235), some (vI v), some (vI 2), some (vI (w : Int)), some (vI (((S (8 + 12 * w)).toNat : Nat) : Int)), none, none, none, none, none, none] [vI (S (8 + 12 * w))]
    refine gw_iload C dL_lays_313 rfl ?_
    refine gw_icmp_ne C (tgt := 322) dL_lays_315 (by decide) (by first | omega | assumption | exact hgi _ _) hI_299 (fun h => absurd h (by omega)) (fun _ => ?_)
    refine gw_iconst C dL_lays_318 ?_
    refine gw_goto C (tgt := 323) dL_lays_319 (by decide) ?_
    exact gw_zret C (Nat.le_of_ble_eq_true rfl) (Nat.le_of_ble_eq_true rfl) dL_lays_323 (Or.inr rfl) (⟨rfl, ⟨_, _, hCf⟩, rfl⟩)
  · skip
    refine gw_aload_n C 0 dL_lays_138 rfl rfl ?_
    refine gw_iconst C dL_lays_139 ?_
    refine gw_iconst C dL_lays_140 ?_
    refine gw_callSH C (as := [vR 0, vI 0, vI 0]) (st := []) (c_L_swings hl0 G I J hCI 0 0 ⟨by decide, by decide⟩ ⟨by decide, by decide⟩) dL_lays_141 kL_136 qL_swings hdL_swings ⟨Nat.le_of_ble_eq_true rfl, Nat.le_of_ble_eq_true rfl⟩ ⟨Nat.le_of_ble_eq_true rfl, Nat.le_of_ble_eq_true rfl⟩ (Nat.le_of_ble_eq_true rfl) rfl (fun _ _ _ _ h => h.elim) ?_
    intro v_141 z_141_2 I_141 J_9 hv_141
    obtain ⟨ev, ⟨hm, hn⟩, eJ⟩ := hv_141
    have hk_141 : rfT S 0 0 = 1 := by unfold rfT; rw [if_pos (by omega)]
    rw [ev, eJ, hn (by omega), cdV_1 hk_141]
    show GW G p l e ({ frames := 9, cells := 4, slots := 24, locals := 190 } : Room) s m args below meth c 16 z_141_2 N0 SH RR I J 1 6 (vx_MQ below (GQ G N0 SH RR (liQ J)) (GX G N0 SH RR gNo) args s 4 24 (ge G)) 144 [some (vR 0), some (vR 231), some (vR 232), some (vR 233), some (vR 234), some (vR 235), some (vI v), some (vI 2), none, none, none, none, none, none, none, none] [vI (-2000001)]
    refine gw_ldc C (x := (-2000001)) dL_lays_144 kL_29 (by decide) ?_
    refine gw_icmp_ne C (tgt := 178) dL_lays_146 (by decide) ⟨by decide, by decide⟩ ⟨by decide, by decide⟩ (fun h => absurd h (by decide)) (fun _ => ?_)
    refine gw_aload_n C 0 dL_lays_149 rfl rfl ?_
    refine gw_iconst C dL_lays_150 ?_
    refine gw_callSH C (as := [vR 0, vI 0]) (st := []) (c_L_stills hl0 G I J hCI 0 ⟨by decide, by decide⟩) dL_lays_151 kL_139 qL_stills hdL_stills ⟨Nat.le_of_ble_eq_true rfl, Nat.le_of_ble_eq_true rfl⟩ ⟨Nat.le_of_ble_eq_true rfl, Nat.le_of_ble_eq_true rfl⟩ (Nat.le_of_ble_eq_true rfl) rfl (fun _ _ _ _ h => h.elim) ?_
    intro v_151 z_151_2 I_151 J_9 hv_151
    obtain ⟨ev, ⟨hm, hn⟩, eJ⟩ := hv_151
    have hk_151 : kStill S 0 = 1 := by unfold kStill; rw [if_pos (by omega)]
    rw [ev, eJ, hn (by omega), cdV_1 hk_151]
    show GW G p l e ({ frames := 9, cells := 4, slots := 24, locals := 190 } : Room) s m args below meth c 16 z_151_2 N0 SH RR I J 2 12 (vx_MQ below (GQ G N0 SH RR (liQ J)) (GX G N0 SH RR gNo) args s 4 24 (ge G)) 154 [some (vR 0), some (vR 231), some (vR 232), some (vR 233), some (vR 234), some (vR 235), some (vI v), some (vI 2), none, none, none, none, none, none, none, none] [vI (-2000001)]
    refine gw_ldc C (x := (-2000001)) dL_lays_154 kL_29 (by decide) ?_
    refine gw_icmp_ne C (tgt := 178) dL_lays_156 (by decide) ⟨by decide, by decide⟩ ⟨by decide, by decide⟩ (fun h => absurd h (by decide)) (fun _ => ?_)
    refine gw_aload_n C 0 dL_lays_159 rfl rfl ?_
    refine gw_iconst C dL_lays_160 ?_
    refine gw_iconst C dL_lays_161 ?_
    refine gw_iconst C dL_lays_162 ?_
    refine gw_iconst C dL_lays_163 ?_
    refine gw_iconst C dL_lays_164 ?_
    refine gw_iconst C dL_lays_165 ?_
    refine gw_callSH C (as := [vR 0, vI 0, vI 0, vI 0, vI 0, vI 0, vI 0]) (st := []) (c_L_joins hl0 G I J hCI 0 0 0 0 0 0 ⟨by decide, by decide⟩ ⟨by decide, by decide⟩ ⟨by decide, by decide⟩ ⟨by decide, by decide⟩ ⟨by decide, by decide⟩ ⟨by decide, by decide⟩) dL_lays_166 kL_143 qL_joins hdL_joins ⟨Nat.le_of_ble_eq_true rfl, Nat.le_of_ble_eq_true rfl⟩ ⟨Nat.le_of_ble_eq_true rfl, Nat.le_of_ble_eq_true rfl⟩ (Nat.le_of_ble_eq_true rfl) rfl (fun _ _ _ _ h => h.elim) ?_
    intro v_166 z_166_2 I_166 J_9 hv_166
    obtain ⟨ev, ⟨hm, hn⟩, eJ⟩ := hv_166
    have hk_166 : kJoin S 0 0 0 0 0 0 = 1 := by unfold kJoin; rw [if_pos (by omega)]
    rw [ev, eJ, hn (by omega), cdV_1 hk_166]
    show GW G p l e ({ frames := 9, cells := 4, slots := 24, locals := 190 } : Room) s m args below meth c 16 z_166_2 N0 SH RR I J 3 18 (vx_MQ below (GQ G N0 SH RR (liQ J)) (GX G N0 SH RR gNo) args s 4 24 (ge G)) 169 [some (vR 0), some (vR 231), some (vR 232), some (vR 233), some (vR 234), some (vR 235), some (vI v), some (vI 2), none, none, none, none, none, none, none, none] [vI (-2000001)]
    refine gw_ldc C (x := (-2000001)) dL_lays_169 kL_29 (by decide) ?_
    refine gw_icmp_ne C (tgt := 178) dL_lays_171 (by decide) ⟨by decide, by decide⟩ ⟨by decide, by decide⟩ (fun h => absurd h (by decide)) (fun _ => ?_)
    refine gw_iconst C dL_lays_174 ?_
    refine gw_goto C (tgt := 179) dL_lays_175 (by decide) ?_
    exact gw_zret C (Nat.le_of_ble_eq_true rfl) (Nat.le_of_ble_eq_true rfl) dL_lays_179 (Or.inr rfl) (⟨rfl, ⟨_, _, by rw [hR]; exact hCI⟩, rfl⟩)
set_option maxHeartbeats 4000000 in
set_option maxRecDepth 100000 in
theorem c_L_lays3 {l : Launch} (hl0 : l.stackTraces = false) (G : GG) (I J : GI) {z : Nat} (hLI : LI I) (v : Int) (hv : 0 ≤ v ∧ v < 100000000) : GM l yL_lays (.code yL_lays cL_lays 16 (some .boolean)) 9 190 4 24 G N0 SH RR [vR 0, vR 231, vR 232, vR 233, vR 234, vR 235, vI v, vI 3] z I J (liQ J) gNo := by
  refine gm_of (lo0 := [some (vR 0), some (vR 231), some (vR 232), some (vR 233), some (vR 234), some (vR 235), some (vI v), some (vI 3), none, none, none, none, none, none, none, none]) hl0 (by decide) rfl (Nat.le_of_ble_eq_true rfl) ?_
  intro p e s m args below meth c C ht hgi
  have C : gC G p l s m args meth c cL_lays 16 RL (some .boolean) "lays" := C
  obtain ⟨D9, c9, hCI⟩ := hLI
  obtain ⟨S, hR⟩ : ∃ S, rowL I = S := ⟨_, rfl⟩
  rw [hR] at hCI
  have ho := hCI.1.1.2.1
  have h0 := ho.1
  have h3 := ho.2.1
  refine gw_iload C dL_lays_0 rfl ?_
  refine gw_if_ne C (tgt := 132) dL_lays_2 (by decide) ⟨by decide, by decide⟩ (fun _ => ?_) (fun h => absurd h (by decide))
  refine gw_aload_n C 1 dL_lays_132 rfl rfl ?_
  refine gw_iconst C dL_lays_133 ?_
  refine gw_iald C 3 dL_lays_134 xs_231 xn_231 (by omega) (by omega) (by decide) (fun hI_134 => ?_)
  rw [show (I 231 3) = (((S 3).toNat : Nat) : Int) from by have e9 := lr_g (I := I) (k := 3) (by omega); rw [hR] at e9; omega] at hI_134 ⊢
  refine gw_if_ne C (tgt := 180) dL_lays_135 (by decide) hI_134 (fun h_135 => ?_) (fun h_135 => ?_)
  · skip
    refine gw_iload C dL_lays_180 rfl ?_
    refine gw_aload_n C 1 dL_lays_182 rfl rfl ?_
    refine gw_iconst C dL_lays_183 ?_
    refine gw_iald C 3 dL_lays_184 xs_231 xn_231 (by omega) (by omega) (by decide) (fun hI_184 => ?_)
    rw [show (I 231 3) = (((S 3).toNat : Nat) : Int) from by have e9 := lr_g (I := I) (k := 3) (by omega); rw [hR] at e9; omega] at hI_184 ⊢
    refine gw_irem C dL_lays_185 (by first | omega | assumption | exact hgi _ _) hI_184 (by omega) ?_
    obtain ⟨w, et_w, hb_w⟩ := tm_nat (v := v) (n := (((S 3).toNat : Nat) : Int)) (by omega) (by omega)
    rw [show (v).tmod (((S 3).toNat : Nat) : Int) = (w : Int) from et_w]
    refine gw_istore C (lo1 := [some (vR 0), some (vR 231), some (vR 232), some (vR 233), some (vR 234), some (vR 235), some (vI v), some (vI 3), some (vI (w : Int)), none, none, none, none, none, none, none]) dL_lays_186 (by decide) rfl ?_
    have hw9 := okW ho (i := w) (by omega)
    refine gw_iload C dL_lays_188 rfl ?_
    refine gw_iconst C dL_lays_190 ?_
    refine gw_icmp_ne C (tgt := 290) dL_lays_191 (by decide) ⟨by decide, by decide⟩ ⟨by decide, by decide⟩ (fun _ => ?_) (fun h => absurd h (by decide))
    refine gw_iload C dL_lays_290 rfl ?_
    refine gw_iconst C dL_lays_292 ?_
    refine gw_icmp_ne C (tgt := 324) dL_lays_293 (by decide) ⟨by decide, by decide⟩ ⟨by decide, by decide⟩ (fun _ => ?_) (fun h => absurd h (by decide))
    refine gw_iload C dL_lays_324 rfl ?_
    refine gw_bipush C dL_lays_326 rfl ?_
    refine gw_idiv C dL_lays_328 (by first | omega | assumption | exact hgi _ _) ⟨by decide, by decide⟩ (by decide) ?_
    rw [show (v).tdiv 6 = (v / 6) from Int.tdiv_eq_ediv_of_nonneg (by omega)]
    refine gw_aload_n C 1 dL_lays_329 rfl rfl ?_
    refine gw_iconst C dL_lays_330 ?_
    refine gw_iald C 3 dL_lays_331 xs_231 xn_231 (by omega) (by omega) (by decide) (fun hI_331 => ?_)
    rw [show (I 231 3) = (((S 3).toNat : Nat) : Int) from by have e9 := lr_g (I := I) (k := 3) (by omega); rw [hR] at e9; omega] at hI_331 ⊢
    refine gw_irem C dL_lays_332 (by first | omega | assumption | exact hgi _ _) hI_331 (by omega) ?_
    obtain ⟨u, et_u, hb_u⟩ := tm_nat (v := (v / 6)) (n := (((S 3).toNat : Nat) : Int)) (by omega) (by omega)
    rw [show ((v / 6)).tmod (((S 3).toNat : Nat) : Int) = (u : Int) from et_u]
    refine gw_istore C (lo1 := [some (vR 0), some (vR 231), some (vR 232), some (vR 233), some (vR 234), some (vR 235), some (vI v), some (vI 3), some (vI (w : Int)), some (vI (u : Int)), none, none, none, none, none, none]) dL_lays_333 (by decide) rfl ?_
    refine gw_iload C dL_lays_335 rfl ?_
    refine gw_bipush C dL_lays_337 rfl ?_
    refine gw_idiv C dL_lays_339 (by first | omega | assumption | exact hgi _ _) ⟨by decide, by decide⟩ (by decide) ?_
    rw [show (v).tdiv 36 = (v / 36) from Int.tdiv_eq_ediv_of_nonneg (by omega)]
    refine gw_ldc C (x := 1296000) dL_lays_340 kL_147 (by decide) ?_
    refine gw_irem C dL_lays_342 (by first | omega | assumption | exact hgi _ _) ⟨by decide, by decide⟩ (by decide) ?_
    rw [show ((v / 36)).tmod 1296000 = ((v / 36) % 1296000) from Int.tmod_eq_emod_of_nonneg (by omega)]
    refine gw_istore C (lo1 := [some (vR 0), some (vR 231), some (vR 232), some (vR 233), some (vR 234), some (vR 235), some (vI v), some (vI 3), some (vI (w : Int)), some (vI (u : Int)), some (vI ((v / 36) % 1296000)), none, none, none, none, none]) dL_lays_343 (by decide) rfl ?_
    refine gw_bipush C dL_lays_345 rfl ?_
    refine gw_iload C dL_lays_347 rfl ?_
    refine gw_iconst C dL_lays_349 ?_
    refine gw_idiv C dL_lays_350 (by first | omega | assumption | exact hgi _ _) ⟨by decide, by decide⟩ (by decide) ?_
    rw [show (v).tdiv 5 = (v / 5) from Int.tdiv_eq_ediv_of_nonneg (by omega)]
    refine gw_sipush C dL_lays_351 rfl ?_
    refine gw_irem C dL_lays_354 (by first | omega | assumption | exact hgi _ _) ⟨by decide, by decide⟩ (by decide) ?_
    rw [show ((v / 5)).tmod 9000 = ((v / 5) % 9000) from Int.tmod_eq_emod_of_nonneg (by omega)]
    refine gw_iadd C dL_lays_355 ?_
    refine gw_istore C (lo1 := [some (vR 0), some (vR 231), some (vR 232), some (vR 233), some (vR 234), some (vR 235), some (vI v), some (vI 3), some (vI (w : Int)), some (vI (u : Int)), some (vI ((v / 36) % 1296000)), some (vI (100 + ((v / 5) % 9000))), none, none, none, none]) dL_lays_356 (by decide) rfl ?_
    refine gw_bipush C dL_lays_358 rfl ?_
    refine gw_iload C dL_lays_360 rfl ?_
    refine gw_iconst C dL_lays_362 ?_
    refine gw_idiv C dL_lays_363 (by first | omega | assumption | exact hgi _ _) ⟨by decide, by decide⟩ (by decide) ?_
    rw [show (v).tdiv 3 = (v / 3) from Int.tdiv_eq_ediv_of_nonneg (by omega)]
    refine gw_sipush C dL_lays_364 rfl ?_
    refine gw_irem C dL_lays_367 (by first | omega | assumption | exact hgi _ _) ⟨by decide, by decide⟩ (by decide) ?_
    rw [show ((v / 3)).tmod 9000 = ((v / 3) % 9000) from Int.tmod_eq_emod_of_nonneg (by omega)]
    refine gw_iadd C dL_lays_368 ?_
    refine gw_istore C (lo1 := [some (vR 0), some (vR 231), some (vR 232), some (vR 233), some (vR 234), some (vR 235), some (vI v), some (vI 3), some (vI (w : Int)), some (vI (u : Int)), some (vI ((v / 36) % 1296000)), some (vI (100 + ((v / 5) % 9000))), some (vI (100 + ((v / 3) % 9000))), none, none, none]) dL_lays_369 (by decide) rfl ?_
    refine gw_iload C dL_lays_371 rfl ?_
    refine gw_sipush C dL_lays_373 rfl ?_
    refine gw_irem C dL_lays_376 (by first | omega | assumption | exact hgi _ _) ⟨by decide, by decide⟩ (by decide) ?_
    rw [show (v).tmod 7201 = (v % 7201) from Int.tmod_eq_emod_of_nonneg (by omega)]
    refine gw_sipush C dL_lays_377 rfl ?_
    refine gw_isub C dL_lays_380 ?_
    refine gw_istore C (lo1 := [some (vR 0), some (vR 231), some (vR 232), some (vR 233), some (vR 234), some (vR 235), some (vI v), some (vI 3), some (vI (w : Int)), some (vI (u : Int)), some (vI ((v / 36) % 1296000)), some (vI (100 + ((v / 5) % 9000))), some (vI (100 + ((v / 3) % 9000))), some (vI ((v % 7201) - 3600)), none, none]) dL_lays_381 (by decide) rfl ?_
    refine gw_iload C dL_lays_383 rfl ?_
    refine gw_iload C dL_lays_385 rfl ?_
    refine gw_icmp_eq C (tgt := 397) dL_lays_387 (by decide) (by first | omega | assumption | exact hgi _ _) (by first | omega | assumption | exact hgi _ _) (fun h_387 => ?_) (fun h_387 => ?_)
    · skip
      skip
      refine gw_aload_n C 0 dL_lays_397 rfl rfl ?_
      refine gw_iload C dL_lays_398 rfl ?_
      refine gw_iload C dL_lays_400 rfl ?_
      refine gw_iload C dL_lays_402 rfl ?_
      refine gw_iload C dL_lays_404 rfl ?_
      refine gw_iload C dL_lays_406 rfl ?_
      refine gw_iload C dL_lays_408 rfl ?_
      refine gw_callSH C (as := [vR 0, vI (w : Int), vI (u : Int), vI ((v / 36) % 1296000), vI (100 + ((v / 5) % 9000)), vI (100 + ((v / 3) % 9000)), vI ((v % 7201) - 3600)]) (st := []) (c_L_joins hl0 G I J hCI (w : Int) (u : Int) ((v / 36) % 1296000) (100 + ((v / 5) % 9000)) (100 + ((v / 3) % 9000)) ((v % 7201) - 3600) (by first | omega | assumption | exact hgi _ _) (by first | omega | assumption | exact hgi _ _) (by first | omega | assumption | exact hgi _ _) (by first | omega | assumption | exact hgi _ _) (by first | omega | assumption | exact hgi _ _) (by first | omega | assumption | exact hgi _ _)) dL_lays_410 kL_143 qL_joins hdL_joins ⟨Nat.le_of_ble_eq_true rfl, Nat.le_of_ble_eq_true rfl⟩ ⟨Nat.le_of_ble_eq_true rfl, Nat.le_of_ble_eq_true rfl⟩ (Nat.le_of_ble_eq_true rfl) rfl (fun _ _ _ _ h => h.elim) ?_
      intro v_410 z_410_2 I_410 J_9 hv_410
      obtain ⟨ev, ⟨hm, hn⟩, eJ⟩ := hv_410
      have hk_410 : kJoin S (w : Int) (u : Int) ((v / 36) % 1296000) (100 + ((v / 5) % 9000)) (100 + ((v / 3) % 9000)) ((v % 7201) - 3600) = 2 := by unfold kJoin; rw [if_neg (by omega), if_pos (by omega)]
      rw [ev, eJ, hn (by omega), cdV_2 hk_410]
      show GW G p l e ({ frames := 9, cells := 4, slots := 24, locals := 190 } : Room) s m args below meth c 16 z_410_2 N0 SH RR I J 1 6 (vx_MQ below (GQ G N0 SH RR (liQ J)) (GX G N0 SH RR gNo) args s 4 24 (ge G)) 413 [some (vR 0), some (vR 231), some (vR 232), some (vR 233), some (vR 234), some (vR 235), some (vI v), some (vI 3), some (vI (w : Int)), some (vI (u : Int)), some (vI ((v / 36) % 1296000)), some (vI (100 + ((v / 5) % 9000))), some (vI (100 + ((v / 3) % 9000))), some (vI ((v % 7201) - 3600)), none, none] [vI (-2000002)]
      refine gw_iload C dL_lays_413 rfl ?_
      refine gw_iload C dL_lays_415 rfl ?_
      refine gw_icmp_ne C (tgt := 425) dL_lays_417 (by decide) (by first | omega | assumption | exact hgi _ _) (by first | omega | assumption | exact hgi _ _) (fun h => absurd h (by omega)) (fun _ => ?_)
      refine gw_ldc C (x := (-2000002)) dL_lays_420 kL_17 (by decide) ?_
      refine gw_goto C (tgt := 427) dL_lays_422 (by decide) ?_
      refine gw_icmp_ne C (tgt := 434) dL_lays_427 (by decide) ⟨by decide, by decide⟩ ⟨by decide, by decide⟩ (fun h => absurd h (by decide)) (fun _ => ?_)
      refine gw_iconst C dL_lays_430 ?_
      refine gw_goto C (tgt := 435) dL_lays_431 (by decide) ?_
      exact gw_zret C (Nat.le_of_ble_eq_true rfl) (Nat.le_of_ble_eq_true rfl) dL_lays_435 (Or.inr rfl) (⟨rfl, ⟨_, _, by rw [hR]; exact hCI⟩, rfl⟩)
    · skip
      refine gw_aload_n C 1 dL_lays_390 rfl rfl ?_
      refine gw_iconst C dL_lays_391 ?_
      refine gw_iald C 4 dL_lays_392 xs_231 xn_231 (by omega) (by omega) (by decide) (fun hI_392 => ?_)
      rw [show (I 231 4) = (((S 4).toNat : Nat) : Int) from by have e9 := lr_g (I := I) (k := 4) (by omega); rw [hR] at e9; omega] at hI_392 ⊢
      refine gw_iconst C dL_lays_393 ?_
      refine gw_icmp_ne C (tgt := 436) dL_lays_394 (by decide) hI_392 ⟨by decide, by decide⟩ (fun h_394 => ?_) (fun h_394 => ?_)
      · skip
        refine gw_bipush C dL_lays_436 rfl ?_
        refine gh_new C dL_lays_438 (Nat.le_of_ble_eq_true rfl) (Nat.le_of_ble_eq_true rfl) ?_
        refine gh_astoreA C (lo1 := [some (vR 0), some (vR 231), some (vR 232), some (vR 233), some (vR 234), some (vR 235), some (vI v), some (vI 3), some (vI (w : Int)), some (vI (u : Int)), some (vI ((v / 36) % 1296000)), some (vI (100 + ((v / 5) % 9000))), some (vI (100 + ((v / 3) % 9000))), some (vI ((v % 7201) - 3600)), some (vA (G.1 + z)), none]) dL_lays_440 (by decide) rfl ?_
        refine gh_aloadA C dL_lays_442 rfl ?_
        refine gh_iconst C dL_lays_444 ?_
        refine gh_iload C dL_lays_445 rfl ?_
        refine gh_iastA C 0 dL_lays_447 (by omega) (by decide) ?_
        refine gh_aloadA C dL_lays_448 rfl ?_
        refine gh_iconst C dL_lays_450 ?_
        refine gh_iload C dL_lays_451 rfl ?_
        refine gh_iastA C 1 dL_lays_453 (by omega) (by decide) ?_
        refine gh_aloadA C dL_lays_454 rfl ?_
        refine gh_iconst C dL_lays_456 ?_
        refine gh_iload C dL_lays_457 rfl ?_
        refine gh_iastA C 2 dL_lays_459 (by omega) (by decide) ?_
        refine gh_aloadA C dL_lays_460 rfl ?_
        refine gh_iconst C dL_lays_462 ?_
        refine gh_iload C dL_lays_463 rfl ?_
        refine gh_iastA C 3 dL_lays_465 (by omega) (by decide) ?_
        refine gh_aloadA C dL_lays_466 rfl ?_
        refine gh_iconst C dL_lays_468 ?_
        refine gh_iload C dL_lays_469 rfl ?_
        refine gh_iastA C 4 dL_lays_471 (by omega) (by decide) ?_
        refine gh_aloadA C dL_lays_472 rfl ?_
        refine gh_iconst C dL_lays_474 ?_
        refine gh_iload C dL_lays_475 rfl ?_
        refine gh_iastA C 5 dL_lays_477 (by omega) (by decide) ?_
        refine gh_iconst C dL_lays_478 ?_
        refine gh_istore C (lo1 := [some (vR 0), some (vR 231), some (vR 232), some (vR 233), some (vR 234), some (vR 235), some (vI v), some (vI 3), some (vI (w : Int)), some (vI (u : Int)), some (vI ((v / 36) % 1296000)), some (vI (100 + ((v / 5) % 9000))), some (vI (100 + ((v / 3) % 9000))), some (vI ((v % 7201) - 3600)), some (vA (G.1 + z)), some (vI 0)]) dL_lays_479 (by decide) rfl ?_
        refine gh_iload C dL_lays_481 rfl ?_
        refine gh_bipush C dL_lays_483 rfl ?_
        refine gh_icmp_ge C (tgt := 511) dL_lays_485 (by decide) ⟨by decide, by decide⟩ ⟨by decide, by decide⟩ (fun h => absurd h (by decide)) (fun _ => ?_)
        refine gh_aload C dL_lays_488 rfl ?_
        refine gh_bipush C dL_lays_490 rfl ?_
        refine gh_aload_n C 1 dL_lays_492 rfl rfl ?_
        refine gh_iconst C dL_lays_493 ?_
        refine gh_iald C 4 dL_lays_494 xs_231 xn_231 (by omega) (by omega) (by decide) (fun hI_494 => ?_)
        rw [show (I 231 4) = (((S 4).toNat : Nat) : Int) from by have e9 := lr_g (I := I) (k := 4) (by omega); rw [hR] at e9; omega] at hI_494 ⊢
        refine gh_imul C dL_lays_495 ?_
        refine gh_iload C dL_lays_496 rfl ?_
        refine gh_iadd C dL_lays_498 ?_
        refine gh_aloadA C dL_lays_499 rfl ?_
        refine gh_iload C dL_lays_501 rfl ?_
        refine gh_ialdA C 0 dL_lays_503 (by omega) (by decide) ?_
        rw [show (us (us (us (us (us (us (fun _ => 0) 0 (w : Int)) 1 (u : Int)) 2 ((v / 36) % 1296000)) 3 (100 + ((v / 5) % 9000))) 4 (100 + ((v / 3) % 9000))) 5 ((v % 7201) - 3600)) 0 = (w : Int) from by rw [us_ne (by decide), us_ne (by decide), us_ne (by decide), us_ne (by decide), us_ne (by decide), us_at rfl]]
        refine gh_iast C ((6 * (S 4).toNat) + 0) dL_lays_504 xs_235 xn_235 (by omega) (by omega) (by decide) (by first | omega | assumption | exact hgi _ _) ?_
        have hR_504 : rowL (up I 235 ((6 * (S 4).toNat) + 0) (w : Int)) = (us S (78 + 6 * ((S 4).toNat)) (w : Int)) := (lu_j0 (I := I) (x := (w : Int)) (i := (S 4).toNat) (by omega)).trans (by rw [hR])
        refine gh_iinc C (lo1 := [some (vR 0), some (vR 231), some (vR 232), some (vR 233), some (vR 234), some (vR 235), some (vI v), some (vI 3), some (vI (w : Int)), some (vI (u : Int)), some (vI ((v / 36) % 1296000)), some (vI (100 + ((v / 5) % 9000))), some (vI (100 + ((v / 3) % 9000))), some (vI ((v % 7201) - 3600)), some (vA (G.1 + z)), some (vI (0 + 1))]) dL_lays_505 rfl (by decide) rfl ?_
        refine gh_goto C (tgt := 481) dL_lays_508 (by decide) ?_
        refine gh_iload C dL_lays_481 rfl ?_
        refine gh_bipush C dL_lays_483 rfl ?_
        refine gh_icmp_ge C (tgt := 511) dL_lays_485 (by decide) ⟨by decide, by decide⟩ ⟨by decide, by decide⟩ (fun h => absurd h (by decide)) (fun _ => ?_)
        refine gh_aload C dL_lays_488 rfl ?_
        refine gh_bipush C dL_lays_490 rfl ?_
        refine gh_aload_n C 1 dL_lays_492 rfl rfl ?_
        refine gh_iconst C dL_lays_493 ?_
        refine gh_iald C 4 dL_lays_494 xs_231 xn_231 (by omega) (by omega) (by decide) (fun hI_494_2 => ?_)
        rw [show ((up I 235 ((6 * (S 4).toNat) + 0) (w : Int)) 231 4) = (((S 4).toNat : Nat) : Int) from by have e9 := lr_g (I := (up I 235 ((6 * (S 4).toNat) + 0) (w : Int))) (k := 4) (by omega); rw [hR_504, us_ne (by omega)] at e9; omega] at hI_494_2 ⊢
        refine gh_imul C dL_lays_495 ?_
        refine gh_iload C dL_lays_496 rfl ?_
        refine gh_iadd C dL_lays_498 ?_
        refine gh_aloadA C dL_lays_499 rfl ?_
        refine gh_iload C dL_lays_501 rfl ?_
        refine gh_ialdA C 1 dL_lays_503 (by omega) (by decide) ?_
        rw [show (us (us (us (us (us (us (fun _ => 0) 0 (w : Int)) 1 (u : Int)) 2 ((v / 36) % 1296000)) 3 (100 + ((v / 5) % 9000))) 4 (100 + ((v / 3) % 9000))) 5 ((v % 7201) - 3600)) 1 = (u : Int) from by rw [us_ne (by decide), us_ne (by decide), us_ne (by decide), us_ne (by decide), us_at rfl]]
        refine gh_iast C ((6 * (S 4).toNat) + (0 + 1)) dL_lays_504 xs_235 xn_235 (by omega) (by omega) (by decide) (by first | omega | assumption | exact hgi _ _) ?_
        have hR_504_2 : rowL (up (up I 235 ((6 * (S 4).toNat) + 0) (w : Int)) 235 ((6 * (S 4).toNat) + (0 + 1)) (u : Int)) = (us (us S (78 + 6 * ((S 4).toNat)) (w : Int)) (79 + 6 * ((S 4).toNat)) (u : Int)) := (lu_j1 (I := (up I 235 ((6 * (S 4).toNat) + 0) (w : Int))) (x := (u : Int)) (i := (S 4).toNat) (by omega)).trans (by rw [hR_504])
        refine gh_iinc C (lo1 := [some (vR 0), some (vR 231), some (vR 232), some (vR 233), some (vR 234), some (vR 235), some (vI v), some (vI 3), some (vI (w : Int)), some (vI (u : Int)), some (vI ((v / 36) % 1296000)), some (vI (100 + ((v / 5) % 9000))), some (vI (100 + ((v / 3) % 9000))), some (vI ((v % 7201) - 3600)), some (vA (G.1 + z)), some (vI ((0 + 1) + 1))]) dL_lays_505 rfl (by decide) rfl ?_
        refine gh_goto C (tgt := 481) dL_lays_508 (by decide) ?_
        refine gh_iload C dL_lays_481 rfl ?_
        refine gh_bipush C dL_lays_483 rfl ?_
        refine gh_icmp_ge C (tgt := 511) dL_lays_485 (by decide) ⟨by decide, by decide⟩ ⟨by decide, by decide⟩ (fun h => absurd h (by decide)) (fun _ => ?_)
        refine gh_aload C dL_lays_488 rfl ?_
        refine gh_bipush C dL_lays_490 rfl ?_
        refine gh_aload_n C 1 dL_lays_492 rfl rfl ?_
        refine gh_iconst C dL_lays_493 ?_
        refine gh_iald C 4 dL_lays_494 xs_231 xn_231 (by omega) (by omega) (by decide) (fun hI_494_3 => ?_)
        rw [show ((up (up I 235 ((6 * (S 4).toNat) + 0) (w : Int)) 235 ((6 * (S 4).toNat) + (0 + 1)) (u : Int)) 231 4) = (((S 4).toNat : Nat) : Int) from by have e9 := lr_g (I := (up (up I 235 ((6 * (S 4).toNat) + 0) (w : Int)) 235 ((6 * (S 4).toNat) + (0 + 1)) (u : Int))) (k := 4) (by omega); rw [hR_504_2, us_ne (by omega), us_ne (by omega)] at e9; omega] at hI_494_3 ⊢
        refine gh_imul C dL_lays_495 ?_
        refine gh_iload C dL_lays_496 rfl ?_
        refine gh_iadd C dL_lays_498 ?_
        refine gh_aloadA C dL_lays_499 rfl ?_
        refine gh_iload C dL_lays_501 rfl ?_
        refine gh_ialdA C 2 dL_lays_503 (by omega) (by decide) ?_
        rw [show (us (us (us (us (us (us (fun _ => 0) 0 (w : Int)) 1 (u : Int)) 2 ((v / 36) % 1296000)) 3 (100 + ((v / 5) % 9000))) 4 (100 + ((v / 3) % 9000))) 5 ((v % 7201) - 3600)) 2 = ((v / 36) % 1296000) from by rw [us_ne (by decide), us_ne (by decide), us_ne (by decide), us_at rfl]]
        refine gh_iast C ((6 * (S 4).toNat) + ((0 + 1) + 1)) dL_lays_504 xs_235 xn_235 (by omega) (by omega) (by decide) (by first | omega | assumption | exact hgi _ _) ?_
        have hR_504_3 : rowL (up (up (up I 235 ((6 * (S 4).toNat) + 0) (w : Int)) 235 ((6 * (S 4).toNat) + (0 + 1)) (u : Int)) 235 ((6 * (S 4).toNat) + ((0 + 1) + 1)) ((v / 36) % 1296000)) = (us (us (us S (78 + 6 * ((S 4).toNat)) (w : Int)) (79 + 6 * ((S 4).toNat)) (u : Int)) (80 + 6 * ((S 4).toNat)) ((v / 36) % 1296000)) := (lu_j2 (I := (up (up I 235 ((6 * (S 4).toNat) + 0) (w : Int)) 235 ((6 * (S 4).toNat) + (0 + 1)) (u : Int))) (x := ((v / 36) % 1296000)) (i := (S 4).toNat) (by omega)).trans (by rw [hR_504_2])
        refine gh_iinc C (lo1 := [some (vR 0), some (vR 231), some (vR 232), some (vR 233), some (vR 234), some (vR 235), some (vI v), some (vI 3), some (vI (w : Int)), some (vI (u : Int)), some (vI ((v / 36) % 1296000)), some (vI (100 + ((v / 5) % 9000))), some (vI (100 + ((v / 3) % 9000))), some (vI ((v % 7201) - 3600)), some (vA (G.1 + z)), some (vI (((0 + 1) + 1) + 1))]) dL_lays_505 rfl (by decide) rfl ?_
        refine gh_goto C (tgt := 481) dL_lays_508 (by decide) ?_
        refine gh_iload C dL_lays_481 rfl ?_
        refine gh_bipush C dL_lays_483 rfl ?_
        refine gh_icmp_ge C (tgt := 511) dL_lays_485 (by decide) ⟨by decide, by decide⟩ ⟨by decide, by decide⟩ (fun h => absurd h (by decide)) (fun _ => ?_)
        refine gh_aload C dL_lays_488 rfl ?_
        refine gh_bipush C dL_lays_490 rfl ?_
        refine gh_aload_n C 1 dL_lays_492 rfl rfl ?_
        refine gh_iconst C dL_lays_493 ?_
        refine gh_iald C 4 dL_lays_494 xs_231 xn_231 (by omega) (by omega) (by decide) (fun hI_494_4 => ?_)
        rw [show ((up (up (up I 235 ((6 * (S 4).toNat) + 0) (w : Int)) 235 ((6 * (S 4).toNat) + (0 + 1)) (u : Int)) 235 ((6 * (S 4).toNat) + ((0 + 1) + 1)) ((v / 36) % 1296000)) 231 4) = (((S 4).toNat : Nat) : Int) from by have e9 := lr_g (I := (up (up (up I 235 ((6 * (S 4).toNat) + 0) (w : Int)) 235 ((6 * (S 4).toNat) + (0 + 1)) (u : Int)) 235 ((6 * (S 4).toNat) + ((0 + 1) + 1)) ((v / 36) % 1296000))) (k := 4) (by omega); rw [hR_504_3, us_ne (by omega), us_ne (by omega), us_ne (by omega)] at e9; omega] at hI_494_4 ⊢
        refine gh_imul C dL_lays_495 ?_
        refine gh_iload C dL_lays_496 rfl ?_
        refine gh_iadd C dL_lays_498 ?_
        refine gh_aloadA C dL_lays_499 rfl ?_
        refine gh_iload C dL_lays_501 rfl ?_
        refine gh_ialdA C 3 dL_lays_503 (by omega) (by decide) ?_
        rw [show (us (us (us (us (us (us (fun _ => 0) 0 (w : Int)) 1 (u : Int)) 2 ((v / 36) % 1296000)) 3 (100 + ((v / 5) % 9000))) 4 (100 + ((v / 3) % 9000))) 5 ((v % 7201) - 3600)) 3 = (100 + ((v / 5) % 9000)) from by rw [us_ne (by decide), us_ne (by decide), us_at rfl]]
        refine gh_iast C ((6 * (S 4).toNat) + (((0 + 1) + 1) + 1)) dL_lays_504 xs_235 xn_235 (by omega) (by omega) (by decide) (by first | omega | assumption | exact hgi _ _) ?_
        have hR_504_4 : rowL (up (up (up (up I 235 ((6 * (S 4).toNat) + 0) (w : Int)) 235 ((6 * (S 4).toNat) + (0 + 1)) (u : Int)) 235 ((6 * (S 4).toNat) + ((0 + 1) + 1)) ((v / 36) % 1296000)) 235 ((6 * (S 4).toNat) + (((0 + 1) + 1) + 1)) (100 + ((v / 5) % 9000))) = (us (us (us (us S (78 + 6 * ((S 4).toNat)) (w : Int)) (79 + 6 * ((S 4).toNat)) (u : Int)) (80 + 6 * ((S 4).toNat)) ((v / 36) % 1296000)) (81 + 6 * ((S 4).toNat)) (100 + ((v / 5) % 9000))) := (lu_j3 (I := (up (up (up I 235 ((6 * (S 4).toNat) + 0) (w : Int)) 235 ((6 * (S 4).toNat) + (0 + 1)) (u : Int)) 235 ((6 * (S 4).toNat) + ((0 + 1) + 1)) ((v / 36) % 1296000))) (x := (100 + ((v / 5) % 9000))) (i := (S 4).toNat) (by omega)).trans (by rw [hR_504_3])
        refine gh_iinc C (lo1 := [some (vR 0), some (vR 231), some (vR 232), some (vR 233), some (vR 234), some (vR 235), some (vI v), some (vI 3), some (vI (w : Int)), some (vI (u : Int)), some (vI ((v / 36) % 1296000)), some (vI (100 + ((v / 5) % 9000))), some (vI (100 + ((v / 3) % 9000))), some (vI ((v % 7201) - 3600)), some (vA (G.1 + z)), some (vI ((((0 + 1) + 1) + 1) + 1))]) dL_lays_505 rfl (by decide) rfl ?_
        refine gh_goto C (tgt := 481) dL_lays_508 (by decide) ?_
        refine gh_iload C dL_lays_481 rfl ?_
        refine gh_bipush C dL_lays_483 rfl ?_
        refine gh_icmp_ge C (tgt := 511) dL_lays_485 (by decide) ⟨by decide, by decide⟩ ⟨by decide, by decide⟩ (fun h => absurd h (by decide)) (fun _ => ?_)
        refine gh_aload C dL_lays_488 rfl ?_
        refine gh_bipush C dL_lays_490 rfl ?_
        refine gh_aload_n C 1 dL_lays_492 rfl rfl ?_
        refine gh_iconst C dL_lays_493 ?_
        refine gh_iald C 4 dL_lays_494 xs_231 xn_231 (by omega) (by omega) (by decide) (fun hI_494_5 => ?_)
        rw [show ((up (up (up (up I 235 ((6 * (S 4).toNat) + 0) (w : Int)) 235 ((6 * (S 4).toNat) + (0 + 1)) (u : Int)) 235 ((6 * (S 4).toNat) + ((0 + 1) + 1)) ((v / 36) % 1296000)) 235 ((6 * (S 4).toNat) + (((0 + 1) + 1) + 1)) (100 + ((v / 5) % 9000))) 231 4) = (((S 4).toNat : Nat) : Int) from by have e9 := lr_g (I := (up (up (up (up I 235 ((6 * (S 4).toNat) + 0) (w : Int)) 235 ((6 * (S 4).toNat) + (0 + 1)) (u : Int)) 235 ((6 * (S 4).toNat) + ((0 + 1) + 1)) ((v / 36) % 1296000)) 235 ((6 * (S 4).toNat) + (((0 + 1) + 1) + 1)) (100 + ((v / 5) % 9000)))) (k := 4) (by omega); rw [hR_504_4, us_ne (by omega), us_ne (by omega), us_ne (by omega), us_ne (by omega)] at e9; omega] at hI_494_5 ⊢
        refine gh_imul C dL_lays_495 ?_
        refine gh_iload C dL_lays_496 rfl ?_
        refine gh_iadd C dL_lays_498 ?_
        refine gh_aloadA C dL_lays_499 rfl ?_
        refine gh_iload C dL_lays_501 rfl ?_
        refine gh_ialdA C 4 dL_lays_503 (by omega) (by decide) ?_
        rw [show (us (us (us (us (us (us (fun _ => 0) 0 (w : Int)) 1 (u : Int)) 2 ((v / 36) % 1296000)) 3 (100 + ((v / 5) % 9000))) 4 (100 + ((v / 3) % 9000))) 5 ((v % 7201) - 3600)) 4 = (100 + ((v / 3) % 9000)) from by rw [us_ne (by decide), us_at rfl]]
        refine gh_iast C ((6 * (S 4).toNat) + ((((0 + 1) + 1) + 1) + 1)) dL_lays_504 xs_235 xn_235 (by omega) (by omega) (by decide) (by first | omega | assumption | exact hgi _ _) ?_
        have hR_504_5 : rowL (up (up (up (up (up I 235 ((6 * (S 4).toNat) + 0) (w : Int)) 235 ((6 * (S 4).toNat) + (0 + 1)) (u : Int)) 235 ((6 * (S 4).toNat) + ((0 + 1) + 1)) ((v / 36) % 1296000)) 235 ((6 * (S 4).toNat) + (((0 + 1) + 1) + 1)) (100 + ((v / 5) % 9000))) 235 ((6 * (S 4).toNat) + ((((0 + 1) + 1) + 1) + 1)) (100 + ((v / 3) % 9000))) = (us (us (us (us (us S (78 + 6 * ((S 4).toNat)) (w : Int)) (79 + 6 * ((S 4).toNat)) (u : Int)) (80 + 6 * ((S 4).toNat)) ((v / 36) % 1296000)) (81 + 6 * ((S 4).toNat)) (100 + ((v / 5) % 9000))) (82 + 6 * ((S 4).toNat)) (100 + ((v / 3) % 9000))) := (lu_j4 (I := (up (up (up (up I 235 ((6 * (S 4).toNat) + 0) (w : Int)) 235 ((6 * (S 4).toNat) + (0 + 1)) (u : Int)) 235 ((6 * (S 4).toNat) + ((0 + 1) + 1)) ((v / 36) % 1296000)) 235 ((6 * (S 4).toNat) + (((0 + 1) + 1) + 1)) (100 + ((v / 5) % 9000)))) (x := (100 + ((v / 3) % 9000))) (i := (S 4).toNat) (by omega)).trans (by rw [hR_504_4])
        refine gh_iinc C (lo1 := [some (vR 0), some (vR 231), some (vR 232), some (vR 233), some (vR 234), some (vR 235), some (vI v), some (vI 3), some (vI (w : Int)), some (vI (u : Int)), some (vI ((v / 36) % 1296000)), some (vI (100 + ((v / 5) % 9000))), some (vI (100 + ((v / 3) % 9000))), some (vI ((v % 7201) - 3600)), some (vA (G.1 + z)), some (vI (((((0 + 1) + 1) + 1) + 1) + 1))]) dL_lays_505 rfl (by decide) rfl ?_
        refine gh_goto C (tgt := 481) dL_lays_508 (by decide) ?_
        refine gh_iload C dL_lays_481 rfl ?_
        refine gh_bipush C dL_lays_483 rfl ?_
        refine gh_icmp_ge C (tgt := 511) dL_lays_485 (by decide) ⟨by decide, by decide⟩ ⟨by decide, by decide⟩ (fun h => absurd h (by decide)) (fun _ => ?_)
        refine gh_aload C dL_lays_488 rfl ?_
        refine gh_bipush C dL_lays_490 rfl ?_
        refine gh_aload_n C 1 dL_lays_492 rfl rfl ?_
        refine gh_iconst C dL_lays_493 ?_
        refine gh_iald C 4 dL_lays_494 xs_231 xn_231 (by omega) (by omega) (by decide) (fun hI_494_6 => ?_)
        rw [show ((up (up (up (up (up I 235 ((6 * (S 4).toNat) + 0) (w : Int)) 235 ((6 * (S 4).toNat) + (0 + 1)) (u : Int)) 235 ((6 * (S 4).toNat) + ((0 + 1) + 1)) ((v / 36) % 1296000)) 235 ((6 * (S 4).toNat) + (((0 + 1) + 1) + 1)) (100 + ((v / 5) % 9000))) 235 ((6 * (S 4).toNat) + ((((0 + 1) + 1) + 1) + 1)) (100 + ((v / 3) % 9000))) 231 4) = (((S 4).toNat : Nat) : Int) from by have e9 := lr_g (I := (up (up (up (up (up I 235 ((6 * (S 4).toNat) + 0) (w : Int)) 235 ((6 * (S 4).toNat) + (0 + 1)) (u : Int)) 235 ((6 * (S 4).toNat) + ((0 + 1) + 1)) ((v / 36) % 1296000)) 235 ((6 * (S 4).toNat) + (((0 + 1) + 1) + 1)) (100 + ((v / 5) % 9000))) 235 ((6 * (S 4).toNat) + ((((0 + 1) + 1) + 1) + 1)) (100 + ((v / 3) % 9000)))) (k := 4) (by omega); rw [hR_504_5, us_ne (by omega), us_ne (by omega), us_ne (by omega), us_ne (by omega), us_ne (by omega)] at e9; omega] at hI_494_6 ⊢
        refine gh_imul C dL_lays_495 ?_
        refine gh_iload C dL_lays_496 rfl ?_
        refine gh_iadd C dL_lays_498 ?_
        refine gh_aloadA C dL_lays_499 rfl ?_
        refine gh_iload C dL_lays_501 rfl ?_
        refine gh_ialdA C 5 dL_lays_503 (by omega) (by decide) ?_
        rw [show (us (us (us (us (us (us (fun _ => 0) 0 (w : Int)) 1 (u : Int)) 2 ((v / 36) % 1296000)) 3 (100 + ((v / 5) % 9000))) 4 (100 + ((v / 3) % 9000))) 5 ((v % 7201) - 3600)) 5 = ((v % 7201) - 3600) from by rw [us_at rfl]]
        refine gh_iast C ((6 * (S 4).toNat) + (((((0 + 1) + 1) + 1) + 1) + 1)) dL_lays_504 xs_235 xn_235 (by omega) (by omega) (by decide) (by first | omega | assumption | exact hgi _ _) ?_
        have hR_504_6 : rowL (up (up (up (up (up (up I 235 ((6 * (S 4).toNat) + 0) (w : Int)) 235 ((6 * (S 4).toNat) + (0 + 1)) (u : Int)) 235 ((6 * (S 4).toNat) + ((0 + 1) + 1)) ((v / 36) % 1296000)) 235 ((6 * (S 4).toNat) + (((0 + 1) + 1) + 1)) (100 + ((v / 5) % 9000))) 235 ((6 * (S 4).toNat) + ((((0 + 1) + 1) + 1) + 1)) (100 + ((v / 3) % 9000))) 235 ((6 * (S 4).toNat) + (((((0 + 1) + 1) + 1) + 1) + 1)) ((v % 7201) - 3600)) = (us (us (us (us (us (us S (78 + 6 * ((S 4).toNat)) (w : Int)) (79 + 6 * ((S 4).toNat)) (u : Int)) (80 + 6 * ((S 4).toNat)) ((v / 36) % 1296000)) (81 + 6 * ((S 4).toNat)) (100 + ((v / 5) % 9000))) (82 + 6 * ((S 4).toNat)) (100 + ((v / 3) % 9000))) (83 + 6 * ((S 4).toNat)) ((v % 7201) - 3600)) := (lu_j5 (I := (up (up (up (up (up I 235 ((6 * (S 4).toNat) + 0) (w : Int)) 235 ((6 * (S 4).toNat) + (0 + 1)) (u : Int)) 235 ((6 * (S 4).toNat) + ((0 + 1) + 1)) ((v / 36) % 1296000)) 235 ((6 * (S 4).toNat) + (((0 + 1) + 1) + 1)) (100 + ((v / 5) % 9000))) 235 ((6 * (S 4).toNat) + ((((0 + 1) + 1) + 1) + 1)) (100 + ((v / 3) % 9000)))) (x := ((v % 7201) - 3600)) (i := (S 4).toNat) (by omega)).trans (by rw [hR_504_5])
        refine gh_iinc C (lo1 := [some (vR 0), some (vR 231), some (vR 232), some (vR 233), some (vR 234), some (vR 235), some (vI v), some (vI 3), some (vI (w : Int)), some (vI (u : Int)), some (vI ((v / 36) % 1296000)), some (vI (100 + ((v / 5) % 9000))), some (vI (100 + ((v / 3) % 9000))), some (vI ((v % 7201) - 3600)), some (vA (G.1 + z)), some (vI ((((((0 + 1) + 1) + 1) + 1) + 1) + 1))]) dL_lays_505 rfl (by decide) rfl ?_
        refine gh_goto C (tgt := 481) dL_lays_508 (by decide) ?_
        refine gh_iload C dL_lays_481 rfl ?_
        refine gh_bipush C dL_lays_483 rfl ?_
        refine gh_icmp_ge C (tgt := 511) dL_lays_485 (by decide) ⟨by decide, by decide⟩ ⟨by decide, by decide⟩ (fun _ => ?_) (fun h => absurd h (by decide))
        refine gh_out ?_
        refine gw_aload_n C 1 dL_lays_511 rfl rfl ?_
        refine gw_iconst C dL_lays_512 ?_
        refine gw_dup2IR C dL_lays_513 ?_
        refine gw_iald C 4 dL_lays_514 xs_231 xn_231 (by omega) (by omega) (by decide) (fun hI_514 => ?_)
        rw [show ((up (up (up (up (up (up I 235 ((6 * (S 4).toNat) + 0) (w : Int)) 235 ((6 * (S 4).toNat) + (0 + 1)) (u : Int)) 235 ((6 * (S 4).toNat) + ((0 + 1) + 1)) ((v / 36) % 1296000)) 235 ((6 * (S 4).toNat) + (((0 + 1) + 1) + 1)) (100 + ((v / 5) % 9000))) 235 ((6 * (S 4).toNat) + ((((0 + 1) + 1) + 1) + 1)) (100 + ((v / 3) % 9000))) 235 ((6 * (S 4).toNat) + (((((0 + 1) + 1) + 1) + 1) + 1)) ((v % 7201) - 3600)) 231 4) = (((S 4).toNat : Nat) : Int) from by have e9 := lr_g (I := (up (up (up (up (up (up I 235 ((6 * (S 4).toNat) + 0) (w : Int)) 235 ((6 * (S 4).toNat) + (0 + 1)) (u : Int)) 235 ((6 * (S 4).toNat) + ((0 + 1) + 1)) ((v / 36) % 1296000)) 235 ((6 * (S 4).toNat) + (((0 + 1) + 1) + 1)) (100 + ((v / 5) % 9000))) 235 ((6 * (S 4).toNat) + ((((0 + 1) + 1) + 1) + 1)) (100 + ((v / 3) % 9000))) 235 ((6 * (S 4).toNat) + (((((0 + 1) + 1) + 1) + 1) + 1)) ((v % 7201) - 3600))) (k := 4) (by omega); rw [hR_504_6, us_ne (by omega), us_ne (by omega), us_ne (by omega), us_ne (by omega), us_ne (by omega), us_ne (by omega)] at e9; omega] at hI_514 ⊢
        refine gw_iconst C dL_lays_515 ?_
        refine gw_iadd C dL_lays_516 ?_
        refine gw_iast C 4 dL_lays_517 xs_231 xn_231 (by omega) (by omega) (by decide) (by first | omega | assumption | exact hgi _ _) ?_
        have hR_517 : rowL (up (up (up (up (up (up (up I 235 ((6 * (S 4).toNat) + 0) (w : Int)) 235 ((6 * (S 4).toNat) + (0 + 1)) (u : Int)) 235 ((6 * (S 4).toNat) + ((0 + 1) + 1)) ((v / 36) % 1296000)) 235 ((6 * (S 4).toNat) + (((0 + 1) + 1) + 1)) (100 + ((v / 5) % 9000))) 235 ((6 * (S 4).toNat) + ((((0 + 1) + 1) + 1) + 1)) (100 + ((v / 3) % 9000))) 235 ((6 * (S 4).toNat) + (((((0 + 1) + 1) + 1) + 1) + 1)) ((v % 7201) - 3600)) 231 4 ((((S 4).toNat : Nat) : Int) + 1)) = (us (us (us (us (us (us (us S (78 + 6 * ((S 4).toNat)) (w : Int)) (79 + 6 * ((S 4).toNat)) (u : Int)) (80 + 6 * ((S 4).toNat)) ((v / 36) % 1296000)) (81 + 6 * ((S 4).toNat)) (100 + ((v / 5) % 9000))) (82 + 6 * ((S 4).toNat)) (100 + ((v / 3) % 9000))) (83 + 6 * ((S 4).toNat)) ((v % 7201) - 3600)) 4 ((((S 4).toNat : Nat) : Int) + 1)) := (lu_g (I := (up (up (up (up (up (up I 235 ((6 * (S 4).toNat) + 0) (w : Int)) 235 ((6 * (S 4).toNat) + (0 + 1)) (u : Int)) 235 ((6 * (S 4).toNat) + ((0 + 1) + 1)) ((v / 36) % 1296000)) 235 ((6 * (S 4).toNat) + (((0 + 1) + 1) + 1)) (100 + ((v / 5) % 9000))) 235 ((6 * (S 4).toNat) + ((((0 + 1) + 1) + 1) + 1)) (100 + ((v / 3) % 9000))) 235 ((6 * (S 4).toNat) + (((((0 + 1) + 1) + 1) + 1) + 1)) ((v % 7201) - 3600))) (x := ((((S 4).toNat : Nat) : Int) + 1)) (k := 4) (by omega)).trans (by rw [hR_504_6])
        refine gw_aload_n C 0 dL_lays_518 rfl rfl ?_
        refine gw_iload C dL_lays_519 rfl ?_
        refine gw_iload C dL_lays_521 rfl ?_
        refine gw_iload C dL_lays_523 rfl ?_
        refine gw_iload C dL_lays_525 rfl ?_
        refine gw_iload C dL_lays_527 rfl ?_
        refine gw_iload C dL_lays_529 rfl ?_
        have hC_531 : CI (up (up (up (up (up (up (up I 235 ((6 * (S 4).toNat) + 0) (w : Int)) 235 ((6 * (S 4).toNat) + (0 + 1)) (u : Int)) 235 ((6 * (S 4).toNat) + ((0 + 1) + 1)) ((v / 36) % 1296000)) 235 ((6 * (S 4).toNat) + (((0 + 1) + 1) + 1)) (100 + ((v / 5) % 9000))) 235 ((6 * (S 4).toNat) + ((((0 + 1) + 1) + 1) + 1)) (100 + ((v / 3) % 9000))) 235 ((6 * (S 4).toNat) + (((((0 + 1) + 1) + 1) + 1) + 1)) ((v % 7201) - 3600)) 231 4 ((((S 4).toNat : Nat) : Int) + 1)) S D9 c9 := ci_eq hCI (fun q f hq => by (repeat rw [up_nn (by omega)]))
        refine gw_callSH C (as := [vR 0, vI (w : Int), vI (u : Int), vI ((v / 36) % 1296000), vI (100 + ((v / 5) % 9000)), vI (100 + ((v / 3) % 9000)), vI ((v % 7201) - 3600)]) (st := []) (c_L_joins hl0 G (up (up (up (up (up (up (up I 235 ((6 * (S 4).toNat) + 0) (w : Int)) 235 ((6 * (S 4).toNat) + (0 + 1)) (u : Int)) 235 ((6 * (S 4).toNat) + ((0 + 1) + 1)) ((v / 36) % 1296000)) 235 ((6 * (S 4).toNat) + (((0 + 1) + 1) + 1)) (100 + ((v / 5) % 9000))) 235 ((6 * (S 4).toNat) + ((((0 + 1) + 1) + 1) + 1)) (100 + ((v / 3) % 9000))) 235 ((6 * (S 4).toNat) + (((((0 + 1) + 1) + 1) + 1) + 1)) ((v % 7201) - 3600)) 231 4 ((((S 4).toNat : Nat) : Int) + 1)) J hC_531 (w : Int) (u : Int) ((v / 36) % 1296000) (100 + ((v / 5) % 9000)) (100 + ((v / 3) % 9000)) ((v % 7201) - 3600) (by first | omega | assumption | exact hgi _ _) (by first | omega | assumption | exact hgi _ _) (by first | omega | assumption | exact hgi _ _) (by first | omega | assumption | exact hgi _ _) (by first | omega | assumption | exact hgi _ _) (by first | omega | assumption | exact hgi _ _)) dL_lays_531 kL_143 qL_joins hdL_joins ⟨Nat.le_of_ble_eq_true rfl, Nat.le_of_ble_eq_true rfl⟩ ⟨Nat.le_of_ble_eq_true rfl, Nat.le_of_ble_eq_true rfl⟩ (Nat.le_of_ble_eq_true rfl) rfl (fun _ _ _ _ h => h.elim) ?_
        intro v_531 z_531_2 I_531 J_9 hv_531
        obtain ⟨ev, ⟨hm, hn⟩, eJ⟩ := hv_531
        have hk_531 : kJoin S (w : Int) (u : Int) ((v / 36) % 1296000) (100 + ((v / 5) % 9000)) (100 + ((v / 3) % 9000)) ((v % 7201) - 3600) = 0 := by unfold kJoin; rw [if_neg (by omega), if_neg (by omega), if_neg (by omega)]
        rw [ev, eJ, cdV_0 hk_531]
        obtain ⟨hX_531, hF_531⟩ := hm hk_531
        have hfin : rowL I_531 = (oJoin S (S 4).toNat (w : Int) (u : Int) ((v / 36) % 1296000) (100 + ((v / 5) % 9000)) (100 + ((v / 3) % 9000)) ((v % 7201) - 3600)) := (row_fr hF_531).trans (hR_517.trans (by unfold oJoin; congr 1; omega))
        have hCf : CI I_531 (rowL I_531) (psh S D9) (cN c9) := by rw [hfin]; exact hX_531
        have hox : Oks (oJoin S (S 4).toNat (w : Int) (u : Int) ((v / 36) % 1296000) (100 + ((v / 5) % 9000)) (100 + ((v / 3) % 9000)) ((v % 7201) - 3600)) := hX_531.1.1.2.1
        have hrow := (row_fr hF_531).trans hR_517
        show GW G p l e ({ frames := 9, cells := 4, slots := 24, locals := 190 } : Room) s m args below meth c 16 z_531_2 N0 SH RR I_531 J 2 12 (vx_MQ below (GQ G N0 SH RR (liQ J)) (GX G N0 SH RR gNo) args s 4 24 (ge G)) 534 [some (vR 0), some (vR 231), some (vR 232), some (vR 233), some (vR 234), some (vR 235), some (vI v), some (vI 3), some (vI (w : Int)), some (vI (u : Int)), some (vI ((v / 36) % 1296000)), some (vI (100 + ((v / 5) % 9000))), some (vI (100 + ((v / 3) % 9000))), some (vI ((v % 7201) - 3600)), some (vA (G.1 + z)), some (vI ((((((0 + 1) + 1) + 1) + 1) + 1) + 1))] [vI (S 4)]
        refine gw_aload_n C 1 dL_lays_534 rfl rfl ?_
        refine gw_iconst C dL_lays_535 ?_
        refine gw_iald C 4 dL_lays_536 xs_231 xn_231 (by omega) (by omega) (by decide) (fun hI_536 => ?_)
        rw [show (I_531 231 4) = ((((S 4).toNat : Nat) : Int) + 1) from by have e9 := lr_g (I := I_531) (k := 4) (by omega); rw [hrow, us_at rfl] at e9; exact e9] at hI_536 ⊢
        refine gw_iconst C dL_lays_537 ?_
        refine gw_isub C dL_lays_538 ?_
        refine gw_icmp_ne C (tgt := 546) dL_lays_539 (by decide) (by first | omega | assumption | exact hgi _ _) (by first | omega | assumption | exact hgi _ _) (fun h => absurd h (by omega)) (fun _ => ?_)
        refine gw_iconst C dL_lays_542 ?_
        refine gw_goto C (tgt := 547) dL_lays_543 (by decide) ?_
        exact gw_zret C (Nat.le_of_ble_eq_true rfl) (Nat.le_of_ble_eq_true rfl) dL_lays_547 (Or.inr rfl) (⟨rfl, ⟨_, _, hCf⟩, rfl⟩)
      · skip
        skip
        refine gw_aload_n C 0 dL_lays_397 rfl rfl ?_
        refine gw_iload C dL_lays_398 rfl ?_
        refine gw_iload C dL_lays_400 rfl ?_
        refine gw_iload C dL_lays_402 rfl ?_
        refine gw_iload C dL_lays_404 rfl ?_
        refine gw_iload C dL_lays_406 rfl ?_
        refine gw_iload C dL_lays_408 rfl ?_
        refine gw_callSH C (as := [vR 0, vI (w : Int), vI (u : Int), vI ((v / 36) % 1296000), vI (100 + ((v / 5) % 9000)), vI (100 + ((v / 3) % 9000)), vI ((v % 7201) - 3600)]) (st := []) (c_L_joins hl0 G I J hCI (w : Int) (u : Int) ((v / 36) % 1296000) (100 + ((v / 5) % 9000)) (100 + ((v / 3) % 9000)) ((v % 7201) - 3600) (by first | omega | assumption | exact hgi _ _) (by first | omega | assumption | exact hgi _ _) (by first | omega | assumption | exact hgi _ _) (by first | omega | assumption | exact hgi _ _) (by first | omega | assumption | exact hgi _ _) (by first | omega | assumption | exact hgi _ _)) dL_lays_410 kL_143 qL_joins hdL_joins ⟨Nat.le_of_ble_eq_true rfl, Nat.le_of_ble_eq_true rfl⟩ ⟨Nat.le_of_ble_eq_true rfl, Nat.le_of_ble_eq_true rfl⟩ (Nat.le_of_ble_eq_true rfl) rfl (fun _ _ _ _ h => h.elim) ?_
        intro v_410_2 z_410_4 I_410_2 J_9 hv_410_2
        obtain ⟨ev, ⟨hm, hn⟩, eJ⟩ := hv_410_2
        have hk_410_2 : kJoin S (w : Int) (u : Int) ((v / 36) % 1296000) (100 + ((v / 5) % 9000)) (100 + ((v / 3) % 9000)) ((v % 7201) - 3600) = 3 := by unfold kJoin; rw [if_neg (by omega), if_neg (by omega), if_pos (by omega)]
        rw [ev, eJ, hn (by omega), cdV_3 hk_410_2]
        show GW G p l e ({ frames := 9, cells := 4, slots := 24, locals := 190 } : Room) s m args below meth c 16 z_410_4 N0 SH RR I J 1 6 (vx_MQ below (GQ G N0 SH RR (liQ J)) (GX G N0 SH RR gNo) args s 4 24 (ge G)) 413 [some (vR 0), some (vR 231), some (vR 232), some (vR 233), some (vR 234), some (vR 235), some (vI v), some (vI 3), some (vI (w : Int)), some (vI (u : Int)), some (vI ((v / 36) % 1296000)), some (vI (100 + ((v / 5) % 9000))), some (vI (100 + ((v / 3) % 9000))), some (vI ((v % 7201) - 3600)), none, none] [vI (-2000003)]
        refine gw_iload C dL_lays_413 rfl ?_
        refine gw_iload C dL_lays_415 rfl ?_
        refine gw_icmp_ne C (tgt := 425) dL_lays_417 (by decide) (by first | omega | assumption | exact hgi _ _) (by first | omega | assumption | exact hgi _ _) (fun _ => ?_) (fun h => absurd h (by omega))
        refine gw_ldc C (x := (-2000003)) dL_lays_425 kL_23 (by decide) ?_
        refine gw_icmp_ne C (tgt := 434) dL_lays_427 (by decide) ⟨by decide, by decide⟩ ⟨by decide, by decide⟩ (fun h => absurd h (by decide)) (fun _ => ?_)
        refine gw_iconst C dL_lays_430 ?_
        refine gw_goto C (tgt := 435) dL_lays_431 (by decide) ?_
        exact gw_zret C (Nat.le_of_ble_eq_true rfl) (Nat.le_of_ble_eq_true rfl) dL_lays_435 (Or.inr rfl) (⟨rfl, ⟨_, _, by rw [hR]; exact hCI⟩, rfl⟩)
  · skip
    refine gw_aload_n C 0 dL_lays_138 rfl rfl ?_
    refine gw_iconst C dL_lays_139 ?_
    refine gw_iconst C dL_lays_140 ?_
    refine gw_callSH C (as := [vR 0, vI 0, vI 0]) (st := []) (c_L_swings hl0 G I J hCI 0 0 ⟨by decide, by decide⟩ ⟨by decide, by decide⟩) dL_lays_141 kL_136 qL_swings hdL_swings ⟨Nat.le_of_ble_eq_true rfl, Nat.le_of_ble_eq_true rfl⟩ ⟨Nat.le_of_ble_eq_true rfl, Nat.le_of_ble_eq_true rfl⟩ (Nat.le_of_ble_eq_true rfl) rfl (fun _ _ _ _ h => h.elim) ?_
    intro v_141 z_141_2 I_141 J_9 hv_141
    obtain ⟨ev, ⟨hm, hn⟩, eJ⟩ := hv_141
    have hk_141 : rfT S 0 0 = 1 := by unfold rfT; rw [if_pos (by omega)]
    rw [ev, eJ, hn (by omega), cdV_1 hk_141]
    show GW G p l e ({ frames := 9, cells := 4, slots := 24, locals := 190 } : Room) s m args below meth c 16 z_141_2 N0 SH RR I J 1 6 (vx_MQ below (GQ G N0 SH RR (liQ J)) (GX G N0 SH RR gNo) args s 4 24 (ge G)) 144 [some (vR 0), some (vR 231), some (vR 232), some (vR 233), some (vR 234), some (vR 235), some (vI v), some (vI 3), none, none, none, none, none, none, none, none] [vI (-2000001)]
    refine gw_ldc C (x := (-2000001)) dL_lays_144 kL_29 (by decide) ?_
    refine gw_icmp_ne C (tgt := 178) dL_lays_146 (by decide) ⟨by decide, by decide⟩ ⟨by decide, by decide⟩ (fun h => absurd h (by decide)) (fun _ => ?_)
    refine gw_aload_n C 0 dL_lays_149 rfl rfl ?_
    refine gw_iconst C dL_lays_150 ?_
    refine gw_callSH C (as := [vR 0, vI 0]) (st := []) (c_L_stills hl0 G I J hCI 0 ⟨by decide, by decide⟩) dL_lays_151 kL_139 qL_stills hdL_stills ⟨Nat.le_of_ble_eq_true rfl, Nat.le_of_ble_eq_true rfl⟩ ⟨Nat.le_of_ble_eq_true rfl, Nat.le_of_ble_eq_true rfl⟩ (Nat.le_of_ble_eq_true rfl) rfl (fun _ _ _ _ h => h.elim) ?_
    intro v_151 z_151_2 I_151 J_9 hv_151
    obtain ⟨ev, ⟨hm, hn⟩, eJ⟩ := hv_151
    have hk_151 : kStill S 0 = 1 := by unfold kStill; rw [if_pos (by omega)]
    rw [ev, eJ, hn (by omega), cdV_1 hk_151]
    show GW G p l e ({ frames := 9, cells := 4, slots := 24, locals := 190 } : Room) s m args below meth c 16 z_151_2 N0 SH RR I J 2 12 (vx_MQ below (GQ G N0 SH RR (liQ J)) (GX G N0 SH RR gNo) args s 4 24 (ge G)) 154 [some (vR 0), some (vR 231), some (vR 232), some (vR 233), some (vR 234), some (vR 235), some (vI v), some (vI 3), none, none, none, none, none, none, none, none] [vI (-2000001)]
    refine gw_ldc C (x := (-2000001)) dL_lays_154 kL_29 (by decide) ?_
    refine gw_icmp_ne C (tgt := 178) dL_lays_156 (by decide) ⟨by decide, by decide⟩ ⟨by decide, by decide⟩ (fun h => absurd h (by decide)) (fun _ => ?_)
    refine gw_aload_n C 0 dL_lays_159 rfl rfl ?_
    refine gw_iconst C dL_lays_160 ?_
    refine gw_iconst C dL_lays_161 ?_
    refine gw_iconst C dL_lays_162 ?_
    refine gw_iconst C dL_lays_163 ?_
    refine gw_iconst C dL_lays_164 ?_
    refine gw_iconst C dL_lays_165 ?_
    refine gw_callSH C (as := [vR 0, vI 0, vI 0, vI 0, vI 0, vI 0, vI 0]) (st := []) (c_L_joins hl0 G I J hCI 0 0 0 0 0 0 ⟨by decide, by decide⟩ ⟨by decide, by decide⟩ ⟨by decide, by decide⟩ ⟨by decide, by decide⟩ ⟨by decide, by decide⟩ ⟨by decide, by decide⟩) dL_lays_166 kL_143 qL_joins hdL_joins ⟨Nat.le_of_ble_eq_true rfl, Nat.le_of_ble_eq_true rfl⟩ ⟨Nat.le_of_ble_eq_true rfl, Nat.le_of_ble_eq_true rfl⟩ (Nat.le_of_ble_eq_true rfl) rfl (fun _ _ _ _ h => h.elim) ?_
    intro v_166 z_166_2 I_166 J_9 hv_166
    obtain ⟨ev, ⟨hm, hn⟩, eJ⟩ := hv_166
    have hk_166 : kJoin S 0 0 0 0 0 0 = 1 := by unfold kJoin; rw [if_pos (by omega)]
    rw [ev, eJ, hn (by omega), cdV_1 hk_166]
    show GW G p l e ({ frames := 9, cells := 4, slots := 24, locals := 190 } : Room) s m args below meth c 16 z_166_2 N0 SH RR I J 3 18 (vx_MQ below (GQ G N0 SH RR (liQ J)) (GX G N0 SH RR gNo) args s 4 24 (ge G)) 169 [some (vR 0), some (vR 231), some (vR 232), some (vR 233), some (vR 234), some (vR 235), some (vI v), some (vI 3), none, none, none, none, none, none, none, none] [vI (-2000001)]
    refine gw_ldc C (x := (-2000001)) dL_lays_169 kL_29 (by decide) ?_
    refine gw_icmp_ne C (tgt := 178) dL_lays_171 (by decide) ⟨by decide, by decide⟩ ⟨by decide, by decide⟩ (fun h => absurd h (by decide)) (fun _ => ?_)
    refine gw_iconst C dL_lays_174 ?_
    refine gw_goto C (tgt := 179) dL_lays_175 (by decide) ?_
    exact gw_zret C (Nat.le_of_ble_eq_true rfl) (Nat.le_of_ble_eq_true rfl) dL_lays_179 (Or.inr rfl) (⟨rfl, ⟨_, _, by rw [hR]; exact hCI⟩, rfl⟩)
