def cpQ (b q : Nat) (I J : GI) : Option GV → Nat → GI → GI → Prop := fun v _ I' J' => v = none ∧ cpd b q rawC I I' ∧ J' = J
theorem cpd_iff {b q : Nat} {D D' : Nat → Nat → Prop} {I K : GI} (h : cpd b q D I K) (e : ∀ k f, D' k f ↔ D k f) : cpd b q D' I K := by
  have hh : D' = D := by
    funext k f
    exact propext (e k f)
  rw [hh]
  exact h
theorem cp_12 {b q k : Nat} {I K : GI} (h : cpd b q (D1 k) I K) (hk : k = 6) : cpd b q (D2 0) I K := by
  subst hk
  exact cpd_iff h (fun k f => by unfold D2; exact ⟨fun h => h.elim id (fun x => by omega), Or.inl⟩)
theorem cp_23 {b q k : Nat} {I K : GI} (h : cpd b q (D2 k) I K) (hk : k = 4) : cpd b q (D3 0) I K := by
  subst hk
  exact cpd_iff h (fun k f => by unfold D3; exact ⟨fun h => h.elim id (fun x => by omega), Or.inl⟩)
theorem cp_3r {b q k : Nat} {I K : GI} (h : cpd b q (D3 k) I K) (hk : k = 4) : cpd b q rawC I K := by
  subst hk
  exact cpd_iff h (fun k f => (D3_raw k f).symm)
set_option maxHeartbeats 4000000 in
set_option maxRecDepth 100000 in
theorem c_X2_copyFrom {l : Launch} (hl0 : l.stackTraces = false) (G : GG) (I J : GI) {z : Nat} {b q : Nat} (hb : mineQ b) (hq : mineQ q) (hd : b + 45 ≤ q ∨ q + 45 ≤ b) : GM l yX2_copyFrom (.code yX2_copyFrom cX2_copyFrom 3 none) 2 61 0 0 G N0 SH RR [vR b, vR q] z I J (cpQ b q I J) gNo := by
  refine gm_of (lo0 := [some (vR b), some (vR q), none]) hl0 (by decide) rfl (Nat.le_of_ble_eq_true rfl) ?_
  intro p e s m args below meth c C ht hgi
  have C : gC G p l s m args meth c cX2_copyFrom 3 RX2 none "copyFrom" := C
  refine gw_aload_n C 1 dX2_copyFrom_0 rfl rfl ?_
  refine gw_getRs (ci := 2) (Cn := RX2) (T0 := TX2) (N := 7) C (q + 1) 0 kX2_9 fX2 rfl (by decide) rfl rfl dX2_copyFrom_1 (mq_s hq) (mq_n hq) (mq_R1 hq) ?_
  refine gw_iconst C dX2_copyFrom_4 ?_
  refine gw_aload_n C 0 dX2_copyFrom_5 rfl rfl ?_
  refine gw_getRs (ci := 2) (Cn := RX2) (T0 := TX2) (N := 7) C (b + 1) 0 kX2_9 fX2 rfl (by decide) rfl rfl dX2_copyFrom_6 (mq_s hb) (mq_n hb) (mq_R1 hb) ?_
  refine gw_iconst C dX2_copyFrom_9 ?_
  refine gw_iconst C dX2_copyFrom_10 ?_
  refine gw_copy C (u := 3) dX2_copyFrom_11 kX2_36 (mq_s1 hq) (mq_n1 hq) (mq_s1 hb) (mq_n1 hb) (by decide) (by decide) (by decide) (by omega) (Nat.le_of_ble_eq_true rfl) (Nat.le_of_ble_eq_true rfl) (fun z_11 => ?_)
  refine gw_aload_n C 0 dX2_copyFrom_14 rfl rfl ?_
  refine gw_aload_n C 1 dX2_copyFrom_15 rfl rfl ?_
  refine gw_getI (ci := 2) (Cn := RX2) (T0 := TX2) (N := 7) C 1 kX2_42 fX2 rfl (by decide) rfl rfl dX2_copyFrom_16 (mq_s hq) (mq_n hq) (fun hI_16 => ?_)
  rw [show ((cpI I (q + 1) (b + 1) 3) q 1) = (I q 1) from by (repeat rw [up_ne (by omega)]); exact cpI_ne (by omega)] at hI_16 ⊢
  refine gw_putI (ci := 2) (Cn := RX2) (T0 := TX2) (N := 7) C (ty := .int) 1 kX2_42 fX2 rfl (by decide) rfl rfl tyX2 tyX2_ok nmX2 rfl (by decide) rfl rfl hI_16 dX2_copyFrom_19 (mq_s hb) (mq_n hb) ?_
  refine gw_aload_n C 0 dX2_copyFrom_22 rfl rfl ?_
  refine gw_aload_n C 1 dX2_copyFrom_23 rfl rfl ?_
  refine gw_getI (ci := 2) (Cn := RX2) (T0 := TX2) (N := 7) C 2 kX2_46 fX2 rfl (by decide) rfl rfl dX2_copyFrom_24 (mq_s hq) (mq_n hq) (fun hI_24 => ?_)
  rw [show ((up (cpI I (q + 1) (b + 1) 3) b 1 (I q 1)) q 2) = (I q 2) from by (repeat rw [up_ne (by omega)]); exact cpI_ne (by omega)] at hI_24 ⊢
  refine gw_putI (ci := 2) (Cn := RX2) (T0 := TX2) (N := 7) C (ty := .int) 2 kX2_46 fX2 rfl (by decide) rfl rfl tyX2 tyX2_ok nmX2 rfl (by decide) rfl rfl hI_24 dX2_copyFrom_27 (mq_s hb) (mq_n hb) ?_
  refine gw_aload_n C 0 dX2_copyFrom_30 rfl rfl ?_
  refine gw_aload_n C 1 dX2_copyFrom_31 rfl rfl ?_
  refine gw_getI (ci := 2) (Cn := RX2) (T0 := TX2) (N := 7) C 3 kX2_49 fX2 rfl (by decide) rfl rfl dX2_copyFrom_32 (mq_s hq) (mq_n hq) (fun hI_32 => ?_)
  rw [show ((up (up (cpI I (q + 1) (b + 1) 3) b 1 (I q 1)) b 2 (I q 2)) q 3) = (I q 3) from by (repeat rw [up_ne (by omega)]); exact cpI_ne (by omega)] at hI_32 ⊢
  refine gw_putI (ci := 2) (Cn := RX2) (T0 := TX2) (N := 7) C (ty := .int) 3 kX2_49 fX2 rfl (by decide) rfl rfl tyX2 tyX2_ok nmX2 rfl (by decide) rfl rfl hI_32 dX2_copyFrom_35 (mq_s hb) (mq_n hb) ?_
  refine gw_iconst C dX2_copyFrom_38 ?_
  refine gw_istore_n C (lo1 := [some (vR b), some (vR q), some (vI 0)]) 2 dX2_copyFrom_39 rfl (by decide) rfl ?_
  have loop_40 : ∀ (fuel : Nat) (k : Nat) (K : GI) (zk : Nat), (k ≤ 6) → (cpd b q (D1 k) I K) → 6 - k < fuel → GW G p l e ({ frames := 2, cells := 0, slots := 0, locals := 61 } : Room) s m args below meth c 3 zk N0 SH RR K J 0 0 (vx_MQ below (GQ G N0 SH RR (cpQ b q I J)) (GX G N0 SH RR gNo) args s 0 0 (ge G)) 40 [some (vR b), some (vR q), some (vI (k : Int))] [] := by
    intro fuel
    induction fuel with
    | zero => intro k K zk hk hK hf_40; exact absurd hf_40 (Nat.not_lt_zero _)
    | succ fuel ih_40 =>
      intro k K zk hk hK hf_40
      refine gw_iload_n C 2 dX2_copyFrom_40 rfl rfl ?_
      refine gw_bipush C dX2_copyFrom_41 rfl ?_
      refine gw_icmp_ge C (tgt := 67) dX2_copyFrom_43 (by decide) (by omega) ⟨by decide, by decide⟩ (fun h_43 => ?_) (fun h_43 => ?_)
      · skip
        refine gw_iconst C dX2_copyFrom_67 ?_
        refine gw_istore_n C (lo1 := [some (vR b), some (vR q), some (vI 0)]) 2 dX2_copyFrom_68 rfl (by decide) rfl ?_
        have loop_69 : ∀ (fuel : Nat) (k2 : Nat) (K2 : GI) (zk2 : Nat), (k2 ≤ 4) → (cpd b q (D2 k2) I K2) → 4 - k2 < fuel → GW G p l e ({ frames := 2, cells := 0, slots := 0, locals := 61 } : Room) s m args below meth c 3 zk2 N0 SH RR K2 J 0 0 (vx_MQ below (GQ G N0 SH RR (cpQ b q I J)) (GX G N0 SH RR gNo) args s 0 0 (ge G)) 69 [some (vR b), some (vR q), some (vI (k2 : Int))] [] := by
          intro fuel
          induction fuel with
          | zero => intro k2 K2 zk2 hk2 hK2 hf_69; exact absurd hf_69 (Nat.not_lt_zero _)
          | succ fuel ih_69 =>
            intro k2 K2 zk2 hk2 hK2 hf_69
            refine gw_iload_n C 2 dX2_copyFrom_69 rfl rfl ?_
            refine gw_iconst C dX2_copyFrom_70 ?_
            refine gw_icmp_ge C (tgt := 95) dX2_copyFrom_71 (by decide) (by omega) ⟨by decide, by decide⟩ (fun h_71 => ?_) (fun h_71 => ?_)
            · skip
              refine gw_iconst C dX2_copyFrom_95 ?_
              refine gw_istore_n C (lo1 := [some (vR b), some (vR q), some (vI 0)]) 2 dX2_copyFrom_96 rfl (by decide) rfl ?_
              have loop_97 : ∀ (fuel : Nat) (k3 : Nat) (K3 : GI) (zk3 : Nat), (k3 ≤ 4) → (cpd b q (D3 k3) I K3) → 4 - k3 < fuel → GW G p l e ({ frames := 2, cells := 0, slots := 0, locals := 61 } : Room) s m args below meth c 3 zk3 N0 SH RR K3 J 0 0 (vx_MQ below (GQ G N0 SH RR (cpQ b q I J)) (GX G N0 SH RR gNo) args s 0 0 (ge G)) 97 [some (vR b), some (vR q), some (vI (k3 : Int))] [] := by
                intro fuel
                induction fuel with
                | zero => intro k3 K3 zk3 hk3 hK3 hf_97; exact absurd hf_97 (Nat.not_lt_zero _)
                | succ fuel ih_97 =>
                  intro k3 K3 zk3 hk3 hK3 hf_97
                  refine gw_iload_n C 2 dX2_copyFrom_97 rfl rfl ?_
                  refine gw_iconst C dX2_copyFrom_98 ?_
                  refine gw_icmp_ge C (tgt := 123) dX2_copyFrom_99 (by decide) (by omega) ⟨by decide, by decide⟩ (fun h_99 => ?_) (fun h_99 => ?_)
                  · skip
                    exact gw_vret C (Nat.le_of_ble_eq_true rfl) (Nat.le_of_ble_eq_true rfl) dX2_copyFrom_123 (⟨rfl, cp_3r hK3 (by omega), rfl⟩)
                  · skip
                    refine gw_aload_n C 0 dX2_copyFrom_102 rfl rfl ?_
                    refine gw_getRs (ci := 2) (Cn := RX2) (T0 := TX2) (N := 7) C (b + 4) 6 kX2_29 fX2 rfl (by decide) rfl rfl dX2_copyFrom_103 (mq_s hb) (mq_n hb) (mq_R4 hb) ?_
                    refine gw_iload_n C 2 dX2_copyFrom_106 rfl rfl ?_
                    refine gw_aalds C (t := 5) (b + 21 + 6 * k3) k3 dX2_copyFrom_107 rfl (by decide) (mq_s4 hb) (mq_n4 hb) (by omega) (by omega) (by decide) (mq_t hb k3 (by omega)) ?_
                    refine gw_aload_n C 1 dX2_copyFrom_108 rfl rfl ?_
                    refine gw_getRs (ci := 2) (Cn := RX2) (T0 := TX2) (N := 7) C (q + 4) 6 kX2_29 fX2 rfl (by decide) rfl rfl dX2_copyFrom_109 (mq_s hq) (mq_n hq) (mq_R4 hq) ?_
                    refine gw_iload_n C 2 dX2_copyFrom_112 rfl rfl ?_
                    refine gw_aalds C (t := 5) (q + 21 + 6 * k3) k3 dX2_copyFrom_113 rfl (by decide) (mq_s4 hq) (mq_n4 hq) (by omega) (by omega) (by decide) (mq_t hq k3 (by omega)) ?_
                    refine gw_callVm C (as := [vR (q + 21 + 6 * k3)]) (st := []) (ci := 4) (T0 := TX5) (N := 15) (c_X5_copyFrom hl0 G K3 J (mq_tq hb k3 (by omega)) (mq_tq hq k3 (by omega)) (by omega) (by omega) (by omega) (by omega)) dX2_copyFrom_114 kX2_59 qX5_copyFrom hdX5_copyFrom ⟨Nat.le_of_ble_eq_true rfl, Nat.le_of_ble_eq_true rfl⟩ ⟨Nat.le_of_ble_eq_true rfl, Nat.le_of_ble_eq_true rfl⟩ (Nat.le_of_ble_eq_true rfl) rfl (tq_s (mq_tq hb k3 (by omega))) (tq_n (mq_tq hb k3 (by omega))) rfl (fun z_114 => ?_)
                    refine gw_iinc C (lo1 := [some (vR b), some (vR q), some (vI ((k3 : Int) + 1))]) dX2_copyFrom_117 rfl (by decide) rfl ?_
                    refine gw_goto C (tgt := 97) dX2_copyFrom_120 (by decide) ?_
                    exact gw_weak (lo' := [some (vR b), some (vR q), some (vI (((k3 + 1) : Nat) : Int))]) ⟨rfl, rfl, congrArg (fun q => some (vI q)) (by omega), trivial⟩ (ih_97 (k3 + 1) (tcI K3 (b + 21 + 6 * k3) (q + 21 + 6 * k3)) z_114 (by omega) (by exact cp_t hd (by omega) hK3) (by omega))
              exact gw_weak (lo' := [some (vR b), some (vR q), some (vI (0 : Int))]) ⟨rfl, rfl, congrArg (fun q => some (vI q)) (by omega), trivial⟩ (loop_97 _ 0 K2 zk2 (by omega) (by exact cp_23 hK2 (by omega)) (Nat.lt_succ_self _))
            · skip
              refine gw_aload_n C 0 dX2_copyFrom_74 rfl rfl ?_
              refine gw_getRs (ci := 2) (Cn := RX2) (T0 := TX2) (N := 7) C (b + 3) 5 kX2_23 fX2 rfl (by decide) rfl rfl dX2_copyFrom_75 (mq_s hb) (mq_n hb) (mq_R3 hb) ?_
              refine gw_iload_n C 2 dX2_copyFrom_78 rfl rfl ?_
              refine gw_aalds C (t := 4) (b + 17 + k2) k2 dX2_copyFrom_79 rfl (by decide) (mq_s3 hb) (mq_n3 hb) (by omega) (by omega) (by decide) (mq_j hb k2 (by omega)) ?_
              refine gw_aload_n C 1 dX2_copyFrom_80 rfl rfl ?_
              refine gw_getRs (ci := 2) (Cn := RX2) (T0 := TX2) (N := 7) C (q + 3) 5 kX2_23 fX2 rfl (by decide) rfl rfl dX2_copyFrom_81 (mq_s hq) (mq_n hq) (mq_R3 hq) ?_
              refine gw_iload_n C 2 dX2_copyFrom_84 rfl rfl ?_
              refine gw_aalds C (t := 4) (q + 17 + k2) k2 dX2_copyFrom_85 rfl (by decide) (mq_s3 hq) (mq_n3 hq) (by omega) (by omega) (by decide) (mq_j hq k2 (by omega)) ?_
              refine gw_callVm C (as := [vR (q + 17 + k2)]) (st := []) (ci := 1) (T0 := TX1) (N := 12) (c_X1_copyFrom hl0 G K2 J (mq_jq hb k2 (by omega)) (mq_jq hq k2 (by omega)) (by omega)) dX2_copyFrom_86 kX2_56 qX1_copyFrom hdX1_copyFrom ⟨Nat.le_of_ble_eq_true rfl, Nat.le_of_ble_eq_true rfl⟩ ⟨Nat.le_of_ble_eq_true rfl, Nat.le_of_ble_eq_true rfl⟩ (Nat.le_of_ble_eq_true rfl) rfl (jq_s (mq_jq hb k2 (by omega))) (jq_n (mq_jq hb k2 (by omega))) rfl (fun z_86 => ?_)
              refine gw_iinc C (lo1 := [some (vR b), some (vR q), some (vI ((k2 : Int) + 1))]) dX2_copyFrom_89 rfl (by decide) rfl ?_
              refine gw_goto C (tgt := 69) dX2_copyFrom_92 (by decide) ?_
              exact gw_weak (lo' := [some (vR b), some (vR q), some (vI (((k2 + 1) : Nat) : Int))]) ⟨rfl, rfl, congrArg (fun q => some (vI q)) (by omega), trivial⟩ (ih_69 (k2 + 1) (jcI K2 (b + 17 + k2) (q + 17 + k2)) z_86 (by omega) (by exact cp_j hd (by omega) hK2) (by omega))
        exact gw_weak (lo' := [some (vR b), some (vR q), some (vI (0 : Int))]) ⟨rfl, rfl, congrArg (fun q => some (vI q)) (by omega), trivial⟩ (loop_69 _ 0 K zk (by omega) (by exact cp_12 hK (by omega)) (Nat.lt_succ_self _))
      · skip
        refine gw_aload_n C 0 dX2_copyFrom_46 rfl rfl ?_
        refine gw_getRs (ci := 2) (Cn := RX2) (T0 := TX2) (N := 7) C (b + 2) 4 kX2_17 fX2 rfl (by decide) rfl rfl dX2_copyFrom_47 (mq_s hb) (mq_n hb) (mq_R2 hb) ?_
        refine gw_iload_n C 2 dX2_copyFrom_50 rfl rfl ?_
        refine gw_aalds C (t := 3) (b + 5 + 2 * k) k dX2_copyFrom_51 rfl (by decide) (mq_s2 hb) (mq_n2 hb) (by omega) (by omega) (by decide) (mq_w hb k (by omega)) ?_
        refine gw_aload_n C 1 dX2_copyFrom_52 rfl rfl ?_
        refine gw_getRs (ci := 2) (Cn := RX2) (T0 := TX2) (N := 7) C (q + 2) 4 kX2_17 fX2 rfl (by decide) rfl rfl dX2_copyFrom_53 (mq_s hq) (mq_n hq) (mq_R2 hq) ?_
        refine gw_iload_n C 2 dX2_copyFrom_56 rfl rfl ?_
        refine gw_aalds C (t := 3) (q + 5 + 2 * k) k dX2_copyFrom_57 rfl (by decide) (mq_s2 hq) (mq_n2 hq) (by omega) (by omega) (by decide) (mq_w hq k (by omega)) ?_
        refine gw_callVm C (as := [vR (q + 5 + 2 * k)]) (st := []) (ci := 5) (T0 := TX6) (N := 7) (c_X6_copyFrom hl0 G K J (mq_wq hb k (by omega)) (mq_wq hq k (by omega)) (by omega)) dX2_copyFrom_58 kX2_52 qX6_copyFrom hdX6_copyFrom ⟨Nat.le_of_ble_eq_true rfl, Nat.le_of_ble_eq_true rfl⟩ ⟨Nat.le_of_ble_eq_true rfl, Nat.le_of_ble_eq_true rfl⟩ (Nat.le_of_ble_eq_true rfl) rfl (wq_s (mq_wq hb k (by omega))) (wq_n (mq_wq hb k (by omega))) rfl (fun z_58 => ?_)
        refine gw_iinc C (lo1 := [some (vR b), some (vR q), some (vI ((k : Int) + 1))]) dX2_copyFrom_61 rfl (by decide) rfl ?_
        refine gw_goto C (tgt := 40) dX2_copyFrom_64 (by decide) ?_
        exact gw_weak (lo' := [some (vR b), some (vR q), some (vI (((k + 1) : Nat) : Int))]) ⟨rfl, rfl, congrArg (fun q => some (vI q)) (by omega), trivial⟩ (ih_40 (k + 1) (wcI K (b + 5 + 2 * k) (q + 5 + 2 * k)) z_58 (by omega) (by exact cp_w hd (by omega) hK) (by omega))
  exact gw_weak (lo' := [some (vR b), some (vR q), some (vI (0 : Int))]) ⟨rfl, rfl, congrArg (fun q => some (vI q)) (by omega), trivial⟩ (loop_40 _ 0 (up (up (up (cpI I (q + 1) (b + 1) 3) b 1 (I q 1)) b 2 (I q 2)) b 3 (I q 3)) z_11 (by omega) (by exact cp_0 hd) (Nat.lt_succ_self _))
