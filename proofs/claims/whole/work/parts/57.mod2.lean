theorem okT {S : Nat → Int} (ho : Oks S) {t : Nat} (h : (t : Int) < S 5) : ((0 ≤ S (102 + 28 * t) ∧ S (102 + 28 * t) < S 4) ∧ (0 ≤ S (103 + 28 * t) ∧ S (103 + 28 * t) ≤ 12) ∧ (-1 ≤ S (104 + 28 * t) ∧ S (104 + 28 * t) < S 4)) ∧ (0 ≤ S (104 + 28 * t) → (0 ≤ S (105 + 28 * t) ∧ S (105 + 28 * t) ≤ 1295999) ∧ 1 ≤ S (103 + 28 * t)) ∧ ∀ k : Nat, (k : Int) < S (103 + 28 * t) → (0 ≤ S (106 + 28 * t + 2 * k) ∧ S (106 + 28 * t + 2 * k) ≤ 1295999) ∧ 1 ≤ S (107 + 28 * t + 2 * k) ∧ S (107 + 28 * t + 2 * k) ≤ 200000 :=
  ⟨⟨(ho.2.2.2.2 t h).1.1, (ho.2.2.2.2 t h).1.2.1, (ho.2.2.2.2 t h).1.2.2.1, (ho.2.2.2.2 t h).1.2.2.2.1⟩, (ho.2.2.2.2 t h).2.1, (ho.2.2.2.2 t h).2.2⟩
def bgF (S : Nat → Int) (t k : Nat) : Int := if (k : Int) < S (103 + 28 * t) then sBr S t (k + 1) else normZ (sBr S t (sLg S t) + S (105 + 28 * t) + 648000)
def bvF (S : Nat → Int) (t : Nat) : Nat → Int
  | 0 => sS0 S (sFi S t)
  | k + 1 => bgF S t k
theorem bg_1 {S : Nat → Int} {t k : Nat} (h : (k : Int) < S (103 + 28 * t)) : bgF S t k = sBr S t (k + 1) := by unfold bgF; rw [if_pos h]
theorem bg_2 {S : Nat → Int} {t k : Nat} (h : (k : Int) = S (103 + 28 * t)) : bgF S t k = normZ (sBr S t (sLg S t) + S (105 + 28 * t) + 648000) := by unfold bgF; rw [if_neg (by omega)]
theorem bv_1 {S : Nat → Int} {t k : Nat} (h : (k : Int) < S (103 + 28 * t)) (h0 : k = 0) : bvF S t (k + 1) = normZ (bvF S t k + S (106 + 28 * t + 2 * k) + 0) := by
  subst h0
  show bgF S t 0 = normZ (sS0 S (sFi S t) + S (106 + 28 * t + 2 * 0) + 0)
  rw [bg_1 h]
  unfold sBr
  rw [bF_s]
  show normZ (sS0 S (sFi S t) + 648000 + S (106 + 28 * t + 2 * 0) + 648000) = _
  unfold normZ
  omega
theorem bv_2 {S : Nat → Int} {t k : Nat} (h : (k : Int) < S (103 + 28 * t)) (h0 : k ≠ 0) : bvF S t (k + 1) = normZ (bvF S t k + S (106 + 28 * t + 2 * k) + 648000) := by
  obtain ⟨k, rfl⟩ : ∃ q, k = q + 1 := ⟨k - 1, by omega⟩
  show bgF S t (k + 1) = normZ (bgF S t k + S (106 + 28 * t + 2 * (k + 1)) + 648000)
  rw [bg_1 h, bg_1 (by omega)]
  unfold sBr
  rw [bF_s (i := k + 1)]
  rfl
theorem bv_3 {S : Nat → Int} {t k : Nat} (h : (k : Int) = S (103 + 28 * t)) (h0 : k ≠ 0) : bvF S t (k + 1) = normZ (bvF S t k + S (105 + 28 * t) + 648000) := by
  obtain ⟨k, rfl⟩ : ∃ q, k = q + 1 := ⟨k - 1, by omega⟩
  show bgF S t (k + 1) = normZ (bgF S t k + S (105 + 28 * t) + 648000)
  rw [bg_2 h, bg_1 (by omega)]
  rw [show sLg S t = k + 1 by unfold sLg; omega]
theorem bg_b (S : Nat → Int) (t k : Nat) : 0 ≤ bgF S t k ∧ bgF S t k < 1296000 := by
  unfold bgF
  split
  · exact sBr_b S t k
  · exact normZ_b _
theorem bv_b (S : Nat → Int) (t k : Nat) : 0 ≤ bvF S t k ∧ bvF S t k < 1296000 := by
  rcases k with _ | k
  · exact sS0_b S _
  · exact bg_b S t k
theorem gp_9 {S : Nat → Int} {t k : Nat} (h : (k : Int) = S (103 + 28 * t)) : centZ (bgF S t k - sS0 S (sLa S t)) = sG S t := by
  rw [bg_2 h]
  unfold sG centZ normZ
  omega
theorem sG_b (S : Nat → Int) (t : Nat) : -648000 ≤ sG S t ∧ sG S t < 648000 := centZ_b _
theorem en_1 {S : Nat → Int} {t k : Nat} {v : Int} (h : v = sEa S t k) : v + (S (107 + 28 * t + 2 * k) * sinZ (sBr S t (k + 1))).tdiv 10000 = sEa S t (k + 1) := by
  rw [h]
  unfold sEa
  rw [pF_s, Int.add_zero]
  rfl
theorem en_0 {S : Nat → Int} {t k : Nat} {v : Int} (h : v = sNo S t k) : v + (S (107 + 28 * t + 2 * k) * sinZ (sBr S t (k + 1) + 324000)).tdiv 10000 = sNo S t (k + 1) := by
  rw [h]
  unfold sNo
  rw [pF_s]
  rfl
theorem sME_c {S : Nat → Int} {t : Nat} (ho : Oks S) (h : (t : Int) < S 5) (hc : 0 ≤ S (104 + 28 * t)) : (-10000000 ≤ sME S t ∧ sME S t ≤ 10000000) ∧ -10000000 ≤ sMN S t ∧ sMN S t ≤ 10000000 := sME_b ho h hc
set_option maxHeartbeats 4000000 in
set_option maxRecDepth 100000 in
theorem c_X8_bearing {l : Launch} (hl0 : l.stackTraces = false) (G : GG) (I J : GI) {z : Nat} (ho : Oks (I 232)) (w a : Int) (hq : 0 ≤ w ∧ w < I 232 5) (hj0 : sJ (I 232) (sFi (I 232) w.toNat) = 0) (ha : 0 ≤ a ∧ (a < I 232 (103 + 28 * w.toNat) ∨ (a = I 232 (103 + 28 * w.toNat) ∧ 0 ≤ I 232 (104 + 28 * w.toNat)))) : GM l yX8_bearing (.code yX8_bearing cX8_bearing 6 (some .int)) 3 69 0 0 G N0 SH RR [vR 231, vI w, vI a] z I J (memQ (some (vI (bgF (I 232) w.toNat a.toNat))) I J) gNo := by
  refine gm_of (lo0 := [some (vR 231), some (vI w), some (vI a), none, none, none]) hl0 (by decide) rfl (Nat.le_of_ble_eq_true rfl) ?_
  intro p e s m args below meth c C ht hgi
  have C : gC G p l s m args meth c cX8_bearing 6 RX8 (some .int) "bearing" := C
  have h3 := ho.2.1
  have h0 := ho.1
  have hot := okT ho (t := w.toNat) (by omega)
  have h67 := sTT_67 (S := I 232) (t := w.toNat)
  refine gw_aload_n C 0 dX8_bearing_0 rfl rfl ?_
  refine gw_aload_n C 0 dX8_bearing_1 rfl rfl ?_
  refine gw_iload_n C 1 dX8_bearing_2 rfl rfl ?_
  refine gw_iconst C dX8_bearing_3 ?_
  refine gw_callVm C (as := [vI w, vI 0]) (st := [vR 231]) (ci := 7) (T0 := TX8) (N := 10) (c_X8_of hl0 G I J ho w 0 (by omega)) dX8_bearing_4 kX8_33 qX8_of hdX8_of ⟨Nat.le_of_ble_eq_true rfl, Nat.le_of_ble_eq_true rfl⟩ ⟨Nat.le_of_ble_eq_true rfl, Nat.le_of_ble_eq_true rfl⟩ (Nat.le_of_ble_eq_true rfl) rfl xs_231 xn_231 rfl (fun z_4 => ?_)
  rw [show (0 : Int).toNat = 0 from rfl]
  rw [show I 232 (102 + 28 * ((w).toNat) + 0) = (I 232 (102 + 28 * ((w).toNat))) from by first | rfl | (congr 1 <;> omega) | (congr 1; congr 1 <;> omega)]
  refine gw_callVm C (as := [vI (I 232 (102 + 28 * ((w).toNat)))]) (st := []) (ci := 7) (T0 := TX8) (N := 10) (c_X8_startOf hl0 G I J ho (I 232 (102 + 28 * ((w).toNat))) (by omega) (by omega)) dX8_bearing_7 kX8_147 qX8_startOf hdX8_startOf ⟨Nat.le_of_ble_eq_true rfl, Nat.le_of_ble_eq_true rfl⟩ ⟨Nat.le_of_ble_eq_true rfl, Nat.le_of_ble_eq_true rfl⟩ (Nat.le_of_ble_eq_true rfl) rfl xs_231 xn_231 rfl (fun z_7 => ?_)
  rw [show (I 232 (102 + 28 * ((w).toNat))).toNat = (sFi (I 232) ((w).toNat)) from rfl]
  have hr_7 := sS0_b (I 232) (sFi (I 232) ((w).toNat))
  refine gw_i2l C dX8_bearing_10 (by first | omega | exact hgi _ _) ?_
  refine gw_lstore_n C (lo1 := [some (vR 231), some (vI w), some (vI a), some (vL (sS0 (I 232) (sFi (I 232) ((w).toNat)))), none, none]) 3 dX8_bearing_11 rfl (by decide) rfl ?_
  refine gw_iconst C dX8_bearing_12 ?_
  refine gw_istore C (lo1 := [some (vR 231), some (vI w), some (vI a), some (vL (sS0 (I 232) (sFi (I 232) ((w).toNat)))), none, some (vI 0)]) dX8_bearing_13 (by decide) rfl ?_
  have loop_15 : ∀ (fuel : Nat) (v : Int) (k : Nat) (z1 : Nat), ((k : Int) ≤ a + 1) → (v = bvF (I 232) w.toNat k) → (a + 1).toNat - k < fuel → GW G p l e ({ frames := 3, cells := 0, slots := 0, locals := 69 } : Room) s m args below meth c 6 z1 N0 SH RR I J 0 0 (vx_MQ below (GQ G N0 SH RR (memQ (some (vI (bgF (I 232) w.toNat a.toNat))) I J)) (GX G N0 SH RR gNo) args s 0 0 (ge G)) 15 [some (vR 231), some (vI w), some (vI a), some (vL v), none, some (vI (k : Int))] [] := by
    intro fuel
    induction fuel with
    | zero => intro v k z1 hk hv hf_15; exact absurd hf_15 (Nat.not_lt_zero _)
    | succ fuel ih_15 =>
      intro v k z1 hk hv hf_15
      have hvb := bv_b (I 232) w.toNat k
      rw [← hv] at hvb
      refine gw_iload C dX8_bearing_15 rfl ?_
      refine gw_iload_n C 2 dX8_bearing_17 rfl rfl ?_
      refine gw_icmp_gt C (tgt := 74) dX8_bearing_18 (by decide) (by first | omega | exact hgi _ _) (by first | omega | exact hgi _ _) (fun h_18 => ?_) (fun h_18 => ?_)
      · skip
        refine gw_lload_n C 3 dX8_bearing_74 rfl rfl ?_
        refine gw_l2i C dX8_bearing_75 ?_
        exact gw_iret C (Nat.le_of_ble_eq_true rfl) (Nat.le_of_ble_eq_true rfl) dX8_bearing_76 (⟨congrArg (fun q => some (vI q)) (by rw [hv, show k = a.toNat + 1 by omega]; rfl), rfl, rfl⟩)
      · skip
        refine gw_lload_n C 3 dX8_bearing_21 rfl rfl ?_
        refine gw_iload C dX8_bearing_22 rfl ?_
        refine gw_aload_n C 0 dX8_bearing_24 rfl rfl ?_
        refine gw_iload_n C 1 dX8_bearing_25 rfl rfl ?_
        refine gw_callVm C (as := [vI w]) (st := [vI (k : Int), vL v]) (ci := 7) (T0 := TX8) (N := 10) (c_X8_legs hl0 G I J ho w (by omega)) dX8_bearing_26 kX8_77 qX8_legs hdX8_legs ⟨Nat.le_of_ble_eq_true rfl, Nat.le_of_ble_eq_true rfl⟩ ⟨Nat.le_of_ble_eq_true rfl, Nat.le_of_ble_eq_true rfl⟩ (Nat.le_of_ble_eq_true rfl) rfl xs_231 xn_231 rfl (fun z_26 => ?_)
        refine gw_icmp_ne C (tgt := 41) dX8_bearing_29 (by decide) (by first | omega | exact hgi _ _) (by first | omega | exact hgi _ _) (fun h_29 => ?_) (fun h_29 => ?_)
        · skip
          refine gw_aload_n C 0 dX8_bearing_41 rfl rfl ?_
          refine gw_iload_n C 1 dX8_bearing_42 rfl rfl ?_
          refine gw_iload C dX8_bearing_43 rfl ?_
          refine gw_callVm C (as := [vI w, vI (k : Int)]) (st := [vL v]) (ci := 7) (T0 := TX8) (N := 10) (c_X8_angle hl0 G I J ho w (k : Int) (by omega)) dX8_bearing_45 kX8_161 qX8_angle hdX8_angle ⟨Nat.le_of_ble_eq_true rfl, Nat.le_of_ble_eq_true rfl⟩ ⟨Nat.le_of_ble_eq_true rfl, Nat.le_of_ble_eq_true rfl⟩ (Nat.le_of_ble_eq_true rfl) rfl xs_231 xn_231 rfl (fun z_45 => ?_)
          rw [show (k : Int).toNat = k from by omega]
          have ha9 := hot.2.2 k (by omega)
          refine gw_i2l C dX8_bearing_48 (by first | omega | exact hgi _ _) ?_
          refine gw_ladd C dX8_bearing_49 ?_
          refine gw_iload C dX8_bearing_50 rfl ?_
          refine gw_if_ne C (tgt := 59) dX8_bearing_52 (by decide) (by first | omega | exact hgi _ _) (fun h_52 => ?_) (fun h_52 => ?_)
          · skip
            refine gw_ldc2 C (x := 648000) dX8_bearing_59 kX8_45 (by decide) ?_
            refine gw_ladd C dX8_bearing_62 ?_
            refine gw_callSm C (as := [vL ((v + (I 232 (106 + 28 * ((w).toNat) + 2 * k))) + 648000)]) (st := []) (c_X8_normed hl0 G ((v + (I 232 (106 + 28 * ((w).toNat) + 2 * k))) + 648000) (by omega)) dX8_bearing_63 kX8_39 qX8_normed hdX8_normed ⟨Nat.le_of_ble_eq_true rfl, Nat.le_of_ble_eq_true rfl⟩ ⟨Nat.le_of_ble_eq_true rfl, Nat.le_of_ble_eq_true rfl⟩ (Nat.le_of_ble_eq_true rfl) rfl (fun z_63 => ?_)
            have hr_63 := normZ_b ((v + (I 232 (106 + 28 * ((w).toNat) + 2 * k))) + 648000)
            refine gw_i2l C dX8_bearing_66 (by first | omega | exact hgi _ _) ?_
            refine gw_lstore_n C (lo1 := [some (vR 231), some (vI w), some (vI a), some (vL (normZ ((v + (I 232 (106 + 28 * ((w).toNat) + 2 * k))) + 648000))), none, some (vI (k : Int))]) 3 dX8_bearing_67 rfl (by decide) rfl ?_
            refine gw_iinc C (lo1 := [some (vR 231), some (vI w), some (vI a), some (vL (normZ ((v + (I 232 (106 + 28 * ((w).toNat) + 2 * k))) + 648000))), none, some (vI ((k : Int) + 1))]) dX8_bearing_68 rfl (by decide) rfl ?_
            refine gw_goto C (tgt := 15) dX8_bearing_71 (by decide) ?_
            exact gw_weak (lo' := [some (vR 231), some (vI w), some (vI a), some (vL (normZ ((v + (I 232 (106 + 28 * ((w).toNat) + 2 * k))) + 648000))), none, some (vI (((k + 1) : Nat) : Int))]) ⟨rfl, rfl, rfl, rfl, congrArg (fun q => some (vI q)) (by omega), trivial⟩ (ih_15 (normZ ((v + (I 232 (106 + 28 * ((w).toNat) + 2 * k))) + 648000)) (k + 1) z_63 (by omega) (by first | (exfalso; have hc8 := hot.2.1 (by omega); omega) | rw [bv_1 (by omega) (by omega), ← hv] | rw [bv_2 (by omega) (by omega), ← hv] | (have hc8 := hot.2.1 (by omega); rw [bv_3 (by omega) (by omega), ← hv])) (by omega))
          · skip
            refine gw_lconst C 0 dX8_bearing_55 (by decide) ?_
            refine gw_goto C (tgt := 62) dX8_bearing_56 (by decide) ?_
            refine gw_ladd C dX8_bearing_62 ?_
            refine gw_callSm C (as := [vL ((v + (I 232 (106 + 28 * ((w).toNat) + 2 * k))) + 0)]) (st := []) (c_X8_normed hl0 G ((v + (I 232 (106 + 28 * ((w).toNat) + 2 * k))) + 0) (by omega)) dX8_bearing_63 kX8_39 qX8_normed hdX8_normed ⟨Nat.le_of_ble_eq_true rfl, Nat.le_of_ble_eq_true rfl⟩ ⟨Nat.le_of_ble_eq_true rfl, Nat.le_of_ble_eq_true rfl⟩ (Nat.le_of_ble_eq_true rfl) rfl (fun z_63_2 => ?_)
            have hr_63_2 := normZ_b ((v + (I 232 (106 + 28 * ((w).toNat) + 2 * k))) + 0)
            refine gw_i2l C dX8_bearing_66 (by first | omega | exact hgi _ _) ?_
            refine gw_lstore_n C (lo1 := [some (vR 231), some (vI w), some (vI a), some (vL (normZ ((v + (I 232 (106 + 28 * ((w).toNat) + 2 * k))) + 0))), none, some (vI (k : Int))]) 3 dX8_bearing_67 rfl (by decide) rfl ?_
            refine gw_iinc C (lo1 := [some (vR 231), some (vI w), some (vI a), some (vL (normZ ((v + (I 232 (106 + 28 * ((w).toNat) + 2 * k))) + 0))), none, some (vI ((k : Int) + 1))]) dX8_bearing_68 rfl (by decide) rfl ?_
            refine gw_goto C (tgt := 15) dX8_bearing_71 (by decide) ?_
            exact gw_weak (lo' := [some (vR 231), some (vI w), some (vI a), some (vL (normZ ((v + (I 232 (106 + 28 * ((w).toNat) + 2 * k))) + 0))), none, some (vI (((k + 1) : Nat) : Int))]) ⟨rfl, rfl, rfl, rfl, congrArg (fun q => some (vI q)) (by omega), trivial⟩ (ih_15 (normZ ((v + (I 232 (106 + 28 * ((w).toNat) + 2 * k))) + 0)) (k + 1) z_63_2 (by omega) (by first | (exfalso; have hc8 := hot.2.1 (by omega); omega) | rw [bv_1 (by omega) (by omega), ← hv] | rw [bv_2 (by omega) (by omega), ← hv] | (have hc8 := hot.2.1 (by omega); rw [bv_3 (by omega) (by omega), ← hv])) (by omega))
        · skip
          refine gw_aload_n C 0 dX8_bearing_32 rfl rfl ?_
          refine gw_iload_n C 1 dX8_bearing_33 rfl rfl ?_
          refine gw_iconst C dX8_bearing_34 ?_
          refine gw_callVm C (as := [vI w, vI 3]) (st := [vL v]) (ci := 7) (T0 := TX8) (N := 10) (c_X8_of hl0 G I J ho w 3 (by omega)) dX8_bearing_35 kX8_33 qX8_of hdX8_of ⟨Nat.le_of_ble_eq_true rfl, Nat.le_of_ble_eq_true rfl⟩ ⟨Nat.le_of_ble_eq_true rfl, Nat.le_of_ble_eq_true rfl⟩ (Nat.le_of_ble_eq_true rfl) rfl xs_231 xn_231 rfl (fun z_35 => ?_)
          rw [show (3 : Int).toNat = 3 from rfl]
          rw [show I 232 (102 + 28 * ((w).toNat) + 3) = (I 232 (105 + 28 * ((w).toNat))) from by first | rfl | (congr 1 <;> omega) | (congr 1; congr 1 <;> omega)]
          have hc9 := hot.2.1 (by omega)
          refine gw_goto C (tgt := 48) dX8_bearing_38 (by decide) ?_
          refine gw_i2l C dX8_bearing_48 (by first | omega | exact hgi _ _) ?_
          refine gw_ladd C dX8_bearing_49 ?_
          refine gw_iload C dX8_bearing_50 rfl ?_
          refine gw_if_ne C (tgt := 59) dX8_bearing_52 (by decide) (by first | omega | exact hgi _ _) (fun h_52_2 => ?_) (fun h_52_2 => ?_)
          · skip
            refine gw_ldc2 C (x := 648000) dX8_bearing_59 kX8_45 (by decide) ?_
            refine gw_ladd C dX8_bearing_62 ?_
            refine gw_callSm C (as := [vL ((v + (I 232 (105 + 28 * ((w).toNat)))) + 648000)]) (st := []) (c_X8_normed hl0 G ((v + (I 232 (105 + 28 * ((w).toNat)))) + 648000) (by omega)) dX8_bearing_63 kX8_39 qX8_normed hdX8_normed ⟨Nat.le_of_ble_eq_true rfl, Nat.le_of_ble_eq_true rfl⟩ ⟨Nat.le_of_ble_eq_true rfl, Nat.le_of_ble_eq_true rfl⟩ (Nat.le_of_ble_eq_true rfl) rfl (fun z_63_3 => ?_)
            have hr_63_3 := normZ_b ((v + (I 232 (105 + 28 * ((w).toNat)))) + 648000)
            refine gw_i2l C dX8_bearing_66 (by first | omega | exact hgi _ _) ?_
            refine gw_lstore_n C (lo1 := [some (vR 231), some (vI w), some (vI a), some (vL (normZ ((v + (I 232 (105 + 28 * ((w).toNat)))) + 648000))), none, some (vI (k : Int))]) 3 dX8_bearing_67 rfl (by decide) rfl ?_
            refine gw_iinc C (lo1 := [some (vR 231), some (vI w), some (vI a), some (vL (normZ ((v + (I 232 (105 + 28 * ((w).toNat)))) + 648000))), none, some (vI ((k : Int) + 1))]) dX8_bearing_68 rfl (by decide) rfl ?_
            refine gw_goto C (tgt := 15) dX8_bearing_71 (by decide) ?_
            exact gw_weak (lo' := [some (vR 231), some (vI w), some (vI a), some (vL (normZ ((v + (I 232 (105 + 28 * ((w).toNat)))) + 648000))), none, some (vI (((k + 1) : Nat) : Int))]) ⟨rfl, rfl, rfl, rfl, congrArg (fun q => some (vI q)) (by omega), trivial⟩ (ih_15 (normZ ((v + (I 232 (105 + 28 * ((w).toNat)))) + 648000)) (k + 1) z_63_3 (by omega) (by first | (exfalso; have hc8 := hot.2.1 (by omega); omega) | rw [bv_1 (by omega) (by omega), ← hv] | rw [bv_2 (by omega) (by omega), ← hv] | (have hc8 := hot.2.1 (by omega); rw [bv_3 (by omega) (by omega), ← hv])) (by omega))
          · skip
            refine gw_lconst C 0 dX8_bearing_55 (by decide) ?_
            refine gw_goto C (tgt := 62) dX8_bearing_56 (by decide) ?_
            refine gw_ladd C dX8_bearing_62 ?_
            refine gw_callSm C (as := [vL ((v + (I 232 (105 + 28 * ((w).toNat)))) + 0)]) (st := []) (c_X8_normed hl0 G ((v + (I 232 (105 + 28 * ((w).toNat)))) + 0) (by omega)) dX8_bearing_63 kX8_39 qX8_normed hdX8_normed ⟨Nat.le_of_ble_eq_true rfl, Nat.le_of_ble_eq_true rfl⟩ ⟨Nat.le_of_ble_eq_true rfl, Nat.le_of_ble_eq_true rfl⟩ (Nat.le_of_ble_eq_true rfl) rfl (fun z_63_4 => ?_)
            have hr_63_4 := normZ_b ((v + (I 232 (105 + 28 * ((w).toNat)))) + 0)
            refine gw_i2l C dX8_bearing_66 (by first | omega | exact hgi _ _) ?_
            refine gw_lstore_n C (lo1 := [some (vR 231), some (vI w), some (vI a), some (vL (normZ ((v + (I 232 (105 + 28 * ((w).toNat)))) + 0))), none, some (vI (k : Int))]) 3 dX8_bearing_67 rfl (by decide) rfl ?_
            refine gw_iinc C (lo1 := [some (vR 231), some (vI w), some (vI a), some (vL (normZ ((v + (I 232 (105 + 28 * ((w).toNat)))) + 0))), none, some (vI ((k : Int) + 1))]) dX8_bearing_68 rfl (by decide) rfl ?_
            refine gw_goto C (tgt := 15) dX8_bearing_71 (by decide) ?_
            exact gw_weak (lo' := [some (vR 231), some (vI w), some (vI a), some (vL (normZ ((v + (I 232 (105 + 28 * ((w).toNat)))) + 0))), none, some (vI (((k + 1) : Nat) : Int))]) ⟨rfl, rfl, rfl, rfl, congrArg (fun q => some (vI q)) (by omega), trivial⟩ (ih_15 (normZ ((v + (I 232 (105 + 28 * ((w).toNat)))) + 0)) (k + 1) z_63_4 (by omega) (by first | (exfalso; have hc8 := hot.2.1 (by omega); omega) | rw [bv_1 (by omega) (by omega), ← hv] | rw [bv_2 (by omega) (by omega), ← hv] | (have hc8 := hot.2.1 (by omega); rw [bv_3 (by omega) (by omega), ← hv])) (by omega))
  exact gw_weak (lo' := [some (vR 231), some (vI w), some (vI a), some (vL (sS0 (I 232) (sFi (I 232) ((w).toNat)))), none, some (vI (0 : Int))]) ⟨rfl, rfl, rfl, rfl, congrArg (fun q => some (vI q)) (by omega), trivial⟩ (loop_15 _ (sS0 (I 232) (sFi (I 232) ((w).toNat))) 0 z_7 (by omega) (by rfl) (Nat.lt_succ_self _))
set_option maxHeartbeats 4000000 in
set_option maxRecDepth 100000 in
theorem c_X8_gap {l : Launch} (hl0 : l.stackTraces = false) (G : GG) (I J : GI) {z : Nat} (ho : Oks (I 232)) (w : Int) (hq : 0 ≤ w ∧ w < I 232 5) (hj0 : sJ (I 232) (sFi (I 232) w.toNat) = 0) (hcl : 0 ≤ I 232 (104 + 28 * w.toNat)) (hla0 : sJ (I 232) (sLa (I 232) w.toNat) = 0) : GM l yX8_gap (.code yX8_gap cX8_gap 2 (some .int)) 4 94 0 0 G N0 SH RR [vR 231, vI w] z I J (memQ (some (vI (sG (I 232) w.toNat))) I J) gNo := by
  refine gm_of (lo0 := [some (vR 231), some (vI w)]) hl0 (by decide) rfl (Nat.le_of_ble_eq_true rfl) ?_
  intro p e s m args below meth c C ht hgi
  have C : gC G p l s m args meth c cX8_gap 2 RX8 (some .int) "gap" := C
  have h3 := ho.2.1
  have h0 := ho.1
  have hot := okT ho (t := w.toNat) (by omega)
  have h67 := sTT_67 (S := I 232) (t := w.toNat)
  have hcb := hot.2.1 hcl
  refine gw_aload_n C 0 dX8_gap_0 rfl rfl ?_
  refine gw_iload_n C 1 dX8_gap_1 rfl rfl ?_
  refine gw_aload_n C 0 dX8_gap_2 rfl rfl ?_
  refine gw_iload_n C 1 dX8_gap_3 rfl rfl ?_
  refine gw_callVm C (as := [vI w]) (st := [vI w, vR 231]) (ci := 7) (T0 := TX8) (N := 10) (c_X8_legs hl0 G I J ho w (by omega)) dX8_gap_4 kX8_77 qX8_legs hdX8_legs ⟨Nat.le_of_ble_eq_true rfl, Nat.le_of_ble_eq_true rfl⟩ ⟨Nat.le_of_ble_eq_true rfl, Nat.le_of_ble_eq_true rfl⟩ (Nat.le_of_ble_eq_true rfl) rfl xs_231 xn_231 rfl (fun z_4 => ?_)
  refine gw_callVm C (as := [vI w, vI (I 232 (103 + 28 * ((w).toNat)))]) (st := []) (ci := 7) (T0 := TX8) (N := 10) (c_X8_bearing hl0 G I J ho w (I 232 (103 + 28 * ((w).toNat))) (by omega) (by omega) (by omega)) dX8_gap_7 kX8_164 qX8_bearing hdX8_bearing ⟨Nat.le_of_ble_eq_true rfl, Nat.le_of_ble_eq_true rfl⟩ ⟨Nat.le_of_ble_eq_true rfl, Nat.le_of_ble_eq_true rfl⟩ (Nat.le_of_ble_eq_true rfl) rfl xs_231 xn_231 rfl (fun z_7 => ?_)
  have hr_7 := bg_b (I 232) ((w).toNat) (((I 232 (103 + 28 * ((w).toNat)))).toNat)
  refine gw_i2l C dX8_gap_10 (by first | omega | exact hgi _ _) ?_
  refine gw_aload_n C 0 dX8_gap_11 rfl rfl ?_
  refine gw_aload_n C 0 dX8_gap_12 rfl rfl ?_
  refine gw_iload_n C 1 dX8_gap_13 rfl rfl ?_
  refine gw_iconst C dX8_gap_14 ?_
  refine gw_callVm C (as := [vI w, vI 2]) (st := [vR 231, vL (bgF (I 232) ((w).toNat) (((I 232 (103 + 28 * ((w).toNat)))).toNat))]) (ci := 7) (T0 := TX8) (N := 10) (c_X8_of hl0 G I J ho w 2 (by omega)) dX8_gap_15 kX8_33 qX8_of hdX8_of ⟨Nat.le_of_ble_eq_true rfl, Nat.le_of_ble_eq_true rfl⟩ ⟨Nat.le_of_ble_eq_true rfl, Nat.le_of_ble_eq_true rfl⟩ (Nat.le_of_ble_eq_true rfl) rfl xs_231 xn_231 rfl (fun z_15 => ?_)
  rw [show (2 : Int).toNat = 2 from rfl]
  rw [show I 232 (102 + 28 * ((w).toNat) + 2) = (I 232 (104 + 28 * ((w).toNat))) from by first | rfl | (congr 1 <;> omega) | (congr 1; congr 1 <;> omega)]
  refine gw_callVm C (as := [vI (I 232 (104 + 28 * ((w).toNat)))]) (st := [vL (bgF (I 232) ((w).toNat) (((I 232 (103 + 28 * ((w).toNat)))).toNat))]) (ci := 7) (T0 := TX8) (N := 10) (c_X8_startOf hl0 G I J ho (I 232 (104 + 28 * ((w).toNat))) (by omega) (by omega)) dX8_gap_18 kX8_147 qX8_startOf hdX8_startOf ⟨Nat.le_of_ble_eq_true rfl, Nat.le_of_ble_eq_true rfl⟩ ⟨Nat.le_of_ble_eq_true rfl, Nat.le_of_ble_eq_true rfl⟩ (Nat.le_of_ble_eq_true rfl) rfl xs_231 xn_231 rfl (fun z_18 => ?_)
  rw [show (I 232 (104 + 28 * ((w).toNat))).toNat = (sLa (I 232) ((w).toNat)) from rfl]
  have hr_18 := sS0_b (I 232) (sLa (I 232) ((w).toNat))
  refine gw_i2l C dX8_gap_21 (by first | omega | exact hgi _ _) ?_
  refine gw_lsub C dX8_gap_22 ?_
  refine gw_callSm C (as := [vL ((bgF (I 232) ((w).toNat) (((I 232 (103 + 28 * ((w).toNat)))).toNat)) - (sS0 (I 232) (sLa (I 232) ((w).toNat))))]) (st := []) (c_X8_centred hl0 G ((bgF (I 232) ((w).toNat) (((I 232 (103 + 28 * ((w).toNat)))).toNat)) - (sS0 (I 232) (sLa (I 232) ((w).toNat)))) (by omega)) dX8_gap_23 kX8_167 qX8_centred hdX8_centred ⟨Nat.le_of_ble_eq_true rfl, Nat.le_of_ble_eq_true rfl⟩ ⟨Nat.le_of_ble_eq_true rfl, Nat.le_of_ble_eq_true rfl⟩ (Nat.le_of_ble_eq_true rfl) rfl (fun z_23 => ?_)
  have hr_23 := centZ_b ((bgF (I 232) ((w).toNat) (((I 232 (103 + 28 * ((w).toNat)))).toNat)) - (sS0 (I 232) (sLa (I 232) ((w).toNat))))
  exact gw_iret C (Nat.le_of_ble_eq_true rfl) (Nat.le_of_ble_eq_true rfl) dX8_gap_26 (⟨congrArg (fun q => some (vI q)) (by exact gp_9 (by omega)), rfl, rfl⟩)
set_option maxHeartbeats 4000000 in
set_option maxRecDepth 100000 in
theorem c_X8_troubleOf {l : Launch} (hl0 : l.stackTraces = false) (G : GG) (I J : GI) {z : Nat} (ho : Oks (I 232)) (w : Int) (hq : 0 ≤ w ∧ w < I 232 5) : GM l yX8_troubleOf (.code yX8_troubleOf cX8_troubleOf 2 (some .int)) 5 115 0 0 G N0 SH RR [vR 231, vI w] z I J (memQ (some (vI (sTT (I 232) w.toNat))) I J) gNo := by
  refine gm_of (lo0 := [some (vR 231), some (vI w)]) hl0 (by decide) rfl (Nat.le_of_ble_eq_true rfl) ?_
  intro p e s m args below meth c C ht hgi
  have C : gC G p l s m args meth c cX8_troubleOf 2 RX8 (some .int) "troubleOf" := C
  have h3 := ho.2.1
  have h0 := ho.1
  have hot := okT ho (t := w.toNat) (by omega)
  have h67 := sTT_67 (S := I 232) (t := w.toNat)
  refine gw_aload_n C 0 dX8_troubleOf_0 rfl rfl ?_
  refine gw_iload_n C 1 dX8_troubleOf_1 rfl rfl ?_
  refine gw_callVm C (as := [vI w]) (st := []) (ci := 7) (T0 := TX8) (N := 10) (c_X8_legs hl0 G I J ho w (by omega)) dX8_troubleOf_2 kX8_77 qX8_legs hdX8_legs ⟨Nat.le_of_ble_eq_true rfl, Nat.le_of_ble_eq_true rfl⟩ ⟨Nat.le_of_ble_eq_true rfl, Nat.le_of_ble_eq_true rfl⟩ (Nat.le_of_ble_eq_true rfl) rfl xs_231 xn_231 rfl (fun z_2 => ?_)
  refine gw_if_ne C (tgt := 10) dX8_troubleOf_5 (by decide) (by first | omega | exact hgi _ _) (fun h_5 => ?_) (fun h_5 => ?_)
  · skip
    refine gw_aload_n C 0 dX8_troubleOf_10 rfl rfl ?_
    refine gw_aload_n C 0 dX8_troubleOf_11 rfl rfl ?_
    refine gw_iload_n C 1 dX8_troubleOf_12 rfl rfl ?_
    refine gw_iconst C dX8_troubleOf_13 ?_
    refine gw_callVm C (as := [vI w, vI 0]) (st := [vR 231]) (ci := 7) (T0 := TX8) (N := 10) (c_X8_of hl0 G I J ho w 0 (by omega)) dX8_troubleOf_14 kX8_33 qX8_of hdX8_of ⟨Nat.le_of_ble_eq_true rfl, Nat.le_of_ble_eq_true rfl⟩ ⟨Nat.le_of_ble_eq_true rfl, Nat.le_of_ble_eq_true rfl⟩ (Nat.le_of_ble_eq_true rfl) rfl xs_231 xn_231 rfl (fun z_14 => ?_)
    rw [show (0 : Int).toNat = 0 from rfl]
    rw [show I 232 (102 + 28 * ((w).toNat) + 0) = (I 232 (102 + 28 * ((w).toNat))) from by first | rfl | (congr 1 <;> omega) | (congr 1; congr 1 <;> omega)]
    refine gw_callVm C (as := [vI (I 232 (102 + 28 * ((w).toNat)))]) (st := []) (ci := 7) (T0 := TX8) (N := 10) (c_X8_troubleOfJoin hl0 G I J ho (I 232 (102 + 28 * ((w).toNat))) (by omega)) dX8_troubleOf_17 kX8_144 qX8_troubleOfJoin hdX8_troubleOfJoin ⟨Nat.le_of_ble_eq_true rfl, Nat.le_of_ble_eq_true rfl⟩ ⟨Nat.le_of_ble_eq_true rfl, Nat.le_of_ble_eq_true rfl⟩ (Nat.le_of_ble_eq_true rfl) rfl xs_231 xn_231 rfl (fun z_17 => ?_)
    rw [show (I 232 (102 + 28 * ((w).toNat))).toNat = (sFi (I 232) ((w).toNat)) from rfl]
    have hr_17 := sJ_v (I 232) (sFi (I 232) ((w).toNat))
    refine gw_if_le C (tgt := 26) dX8_troubleOf_20 (by decide) (by first | omega | exact hgi _ _) (fun h_20 => ?_) (fun h_20 => ?_)
    · skip
      refine gw_aload_n C 0 dX8_troubleOf_26 rfl rfl ?_
      refine gw_iload_n C 1 dX8_troubleOf_27 rfl rfl ?_
      refine gw_callVb C (as := [vI w]) (st := []) (ci := 7) (T0 := TX8) (N := 10) (c_X8_isClosed hl0 G I J ho w (by omega)) dX8_troubleOf_28 kX8_158 qX8_isClosed hdX8_isClosed ⟨Nat.le_of_ble_eq_true rfl, Nat.le_of_ble_eq_true rfl⟩ ⟨Nat.le_of_ble_eq_true rfl, Nat.le_of_ble_eq_true rfl⟩ (Nat.le_of_ble_eq_true rfl) rfl xs_231 xn_231 rfl (fun h_28 z_28 => ?_) (fun h_28 z_28 => ?_)
      · skip
        refine gw_if_ne C (tgt := 36) dX8_troubleOf_31 (by decide) ⟨by decide, by decide⟩ (fun _ => ?_) (fun h => absurd h (by decide))
        refine gw_aload_n C 0 dX8_troubleOf_36 rfl rfl ?_
        refine gw_aload_n C 0 dX8_troubleOf_37 rfl rfl ?_
        refine gw_iload_n C 1 dX8_troubleOf_38 rfl rfl ?_
        refine gw_iconst C dX8_troubleOf_39 ?_
        refine gw_callVm C (as := [vI w, vI 2]) (st := [vR 231]) (ci := 7) (T0 := TX8) (N := 10) (c_X8_of hl0 G I J ho w 2 (by omega)) dX8_troubleOf_40 kX8_33 qX8_of hdX8_of ⟨Nat.le_of_ble_eq_true rfl, Nat.le_of_ble_eq_true rfl⟩ ⟨Nat.le_of_ble_eq_true rfl, Nat.le_of_ble_eq_true rfl⟩ (Nat.le_of_ble_eq_true rfl) rfl xs_231 xn_231 rfl (fun z_40 => ?_)
        rw [show (2 : Int).toNat = 2 from rfl]
        rw [show I 232 (102 + 28 * ((w).toNat) + 2) = (I 232 (104 + 28 * ((w).toNat))) from by first | rfl | (congr 1 <;> omega) | (congr 1; congr 1 <;> omega)]
        refine gw_callVm C (as := [vI (I 232 (104 + 28 * ((w).toNat)))]) (st := []) (ci := 7) (T0 := TX8) (N := 10) (c_X8_troubleOfJoin hl0 G I J ho (I 232 (104 + 28 * ((w).toNat))) (by omega)) dX8_troubleOf_43 kX8_144 qX8_troubleOfJoin hdX8_troubleOfJoin ⟨Nat.le_of_ble_eq_true rfl, Nat.le_of_ble_eq_true rfl⟩ ⟨Nat.le_of_ble_eq_true rfl, Nat.le_of_ble_eq_true rfl⟩ (Nat.le_of_ble_eq_true rfl) rfl xs_231 xn_231 rfl (fun z_43 => ?_)
        rw [show (I 232 (104 + 28 * ((w).toNat))).toNat = (sLa (I 232) ((w).toNat)) from rfl]
        have hr_43 := sJ_v (I 232) (sLa (I 232) ((w).toNat))
        refine gw_if_le C (tgt := 54) dX8_troubleOf_46 (by decide) (by first | omega | exact hgi _ _) (fun h_46 => ?_) (fun h_46 => ?_)
        · skip
          refine gw_aload_n C 0 dX8_troubleOf_54 rfl rfl ?_
          refine gw_iload_n C 1 dX8_troubleOf_55 rfl rfl ?_
          refine gw_callVm C (as := [vI w]) (st := []) (ci := 7) (T0 := TX8) (N := 10) (c_X8_gap hl0 G I J ho w (by omega) (by omega) (by omega) (by omega)) dX8_troubleOf_56 kX8_170 qX8_gap hdX8_gap ⟨Nat.le_of_ble_eq_true rfl, Nat.le_of_ble_eq_true rfl⟩ ⟨Nat.le_of_ble_eq_true rfl, Nat.le_of_ble_eq_true rfl⟩ (Nat.le_of_ble_eq_true rfl) rfl xs_231 xn_231 rfl (fun z_56 => ?_)
          have hr_56 := sG_b (I 232) ((w).toNat)
          refine gw_callSm C (as := [vI (sG (I 232) ((w).toNat))]) (st := []) (c_X8_size hl0 G (sG (I 232) ((w).toNat)) (by omega)) dX8_troubleOf_59 kX8_99 qX8_size hdX8_size ⟨Nat.le_of_ble_eq_true rfl, Nat.le_of_ble_eq_true rfl⟩ ⟨Nat.le_of_ble_eq_true rfl, Nat.le_of_ble_eq_true rfl⟩ (Nat.le_of_ble_eq_true rfl) rfl (fun z_59 => ?_)
          refine gw_aload_n C 0 dX8_troubleOf_62 rfl rfl ?_
          refine gw_getRs (ci := 7) (Cn := RX8) (T0 := TX8) (N := 10) C 232 0 kX8_7 fX8 rfl (by decide) rfl rfl dX8_troubleOf_63 xs_231 xn_231 xr_231_0 ?_
          refine gw_iconst C dX8_troubleOf_66 ?_
          refine gw_iald C 1 dX8_troubleOf_67 xs_232 xn_232 (by omega) (by omega) (by decide) (fun hI_67 => ?_)
          refine gw_aload_n C 0 dX8_troubleOf_68 rfl rfl ?_
          refine gw_iload_n C 1 dX8_troubleOf_69 rfl rfl ?_
          refine gw_callVm C (as := [vI w]) (st := [vI (I 232 1), vI ((sG (I 232) ((w).toNat)).natAbs : Int)]) (ci := 7) (T0 := TX8) (N := 10) (c_X8_legs hl0 G I J ho w (by omega)) dX8_troubleOf_70 kX8_77 qX8_legs hdX8_legs ⟨Nat.le_of_ble_eq_true rfl, Nat.le_of_ble_eq_true rfl⟩ ⟨Nat.le_of_ble_eq_true rfl, Nat.le_of_ble_eq_true rfl⟩ (Nat.le_of_ble_eq_true rfl) rfl xs_231 xn_231 rfl (fun z_70 => ?_)
          refine gw_iconst C dX8_troubleOf_73 ?_
          refine gw_iadd C dX8_troubleOf_74 ?_
          refine gw_i2l C dX8_troubleOf_75 (by first | omega | exact hgi _ _) ?_
          refine gw_callSm C (as := [vL ((I 232 (103 + 28 * ((w).toNat))) + 1)]) (st := [vI (I 232 1), vI ((sG (I 232) ((w).toNat)).natAbs : Int)]) (c_X8_root hl0 G ((I 232 (103 + 28 * ((w).toNat))) + 1) (by omega)) dX8_troubleOf_76 kX8_173 qX8_root hdX8_root ⟨Nat.le_of_ble_eq_true rfl, Nat.le_of_ble_eq_true rfl⟩ ⟨Nat.le_of_ble_eq_true rfl, Nat.le_of_ble_eq_true rfl⟩ (Nat.le_of_ble_eq_true rfl) rfl (fun z_76 => ?_)
          have hrt := rtn_b (n := I 232 (103 + 28 * w.toNat) + 1) (by omega)
          have hmt := mul_b (a := I 232 1) (b := rootZ (I 232 (103 + 28 * w.toNat) + 1)) (m := 600) (k := 3) (by omega) (by omega)
          refine gw_imul C dX8_troubleOf_79 ?_
          refine gw_icmp_le C (tgt := 88) dX8_troubleOf_80 (by decide) (by first | omega | exact hgi _ _) (by omega) (fun h_80 => ?_) (fun h_80 => ?_)
          · skip
            refine gw_iconst C dX8_troubleOf_88 ?_
            exact gw_iret C (Nat.le_of_ble_eq_true rfl) (Nat.le_of_ble_eq_true rfl) dX8_troubleOf_89 (⟨congrArg (fun q => some (vI q)) (by unfold sTT; (repeat (first | rw [if_pos (by omega)] | rw [if_neg (by omega)]))), rfl, rfl⟩)
          · skip
            refine gw_bipush C dX8_troubleOf_83 rfl ?_
            refine gw_goto C (tgt := 89) dX8_troubleOf_85 (by decide) ?_
            exact gw_iret C (Nat.le_of_ble_eq_true rfl) (Nat.le_of_ble_eq_true rfl) dX8_troubleOf_89 (⟨congrArg (fun q => some (vI q)) (by unfold sTT; (repeat (first | rw [if_pos (by omega)] | rw [if_neg (by omega)]))), rfl, rfl⟩)
        · skip
          refine gw_bipush C dX8_troubleOf_49 rfl ?_
          refine gw_goto C (tgt := 89) dX8_troubleOf_51 (by decide) ?_
          exact gw_iret C (Nat.le_of_ble_eq_true rfl) (Nat.le_of_ble_eq_true rfl) dX8_troubleOf_89 (⟨congrArg (fun q => some (vI q)) (by unfold sTT; (repeat (first | rw [if_pos (by omega)] | rw [if_neg (by omega)]))), rfl, rfl⟩)
      · skip
        refine gw_if_ne C (tgt := 36) dX8_troubleOf_31 (by decide) ⟨by decide, by decide⟩ (fun h => absurd h (by decide)) (fun _ => ?_)
        refine gw_iconst C dX8_troubleOf_34 ?_
        exact gw_iret C (Nat.le_of_ble_eq_true rfl) (Nat.le_of_ble_eq_true rfl) dX8_troubleOf_35 (⟨congrArg (fun q => some (vI q)) (by unfold sTT; (repeat (first | rw [if_pos (by omega)] | rw [if_neg (by omega)]))), rfl, rfl⟩)
    · skip
      refine gw_bipush C dX8_troubleOf_23 rfl ?_
      exact gw_iret C (Nat.le_of_ble_eq_true rfl) (Nat.le_of_ble_eq_true rfl) dX8_troubleOf_25 (⟨congrArg (fun q => some (vI q)) (by unfold sTT; (repeat (first | rw [if_pos (by omega)] | rw [if_neg (by omega)]))), rfl, rfl⟩)
  · skip
    refine gw_iconst C dX8_troubleOf_8 ?_
    exact gw_iret C (Nat.le_of_ble_eq_true rfl) (Nat.le_of_ble_eq_true rfl) dX8_troubleOf_9 (⟨congrArg (fun q => some (vI q)) (by unfold sTT; (repeat (first | rw [if_pos (by omega)] | rw [if_neg (by omega)]))), rfl, rfl⟩)
set_option maxHeartbeats 4000000 in
set_option maxRecDepth 100000 in
theorem c_X8_isWhole {l : Launch} (hl0 : l.stackTraces = false) (G : GG) (I J : GI) {z : Nat} (ho : Oks (I 232)) (w : Int) (hq : 0 ≤ w ∧ w < I 232 5) : GM l yX8_isWhole (.code yX8_isWhole cX8_isWhole 2 (some .boolean)) 6 136 0 0 G N0 SH RR [vR 231, vI w] z I J (boolQ (whl (I 232) w.toNat) I J) gNo := by
  refine gm_of (lo0 := [some (vR 231), some (vI w)]) hl0 (by decide) rfl (Nat.le_of_ble_eq_true rfl) ?_
  intro p e s m args below meth c C ht hgi
  have C : gC G p l s m args meth c cX8_isWhole 2 RX8 (some .boolean) "isWhole" := C
  have h3 := ho.2.1
  have h0 := ho.1
  have hot := okT ho (t := w.toNat) (by omega)
  have h67 := sTT_67 (S := I 232) (t := w.toNat)
  refine gw_aload_n C 0 dX8_isWhole_0 rfl rfl ?_
  refine gw_iload_n C 1 dX8_isWhole_1 rfl rfl ?_
  refine gw_callVb C (as := [vI w]) (st := []) (ci := 7) (T0 := TX8) (N := 10) (c_X8_isClosed hl0 G I J ho w (by omega)) dX8_isWhole_2 kX8_158 qX8_isClosed hdX8_isClosed ⟨Nat.le_of_ble_eq_true rfl, Nat.le_of_ble_eq_true rfl⟩ ⟨Nat.le_of_ble_eq_true rfl, Nat.le_of_ble_eq_true rfl⟩ (Nat.le_of_ble_eq_true rfl) rfl xs_231 xn_231 rfl (fun h_2 z_2 => ?_) (fun h_2 z_2 => ?_)
  · skip
    refine gw_if_eq C (tgt := 30) dX8_isWhole_5 (by decide) ⟨by decide, by decide⟩ (fun h => absurd h (by decide)) (fun _ => ?_)
    refine gw_aload_n C 0 dX8_isWhole_8 rfl rfl ?_
    refine gw_iload_n C 1 dX8_isWhole_9 rfl rfl ?_
    refine gw_callVm C (as := [vI w]) (st := []) (ci := 7) (T0 := TX8) (N := 10) (c_X8_troubleOf hl0 G I J ho w (by omega)) dX8_isWhole_10 kX8_176 qX8_troubleOf hdX8_troubleOf ⟨Nat.le_of_ble_eq_true rfl, Nat.le_of_ble_eq_true rfl⟩ ⟨Nat.le_of_ble_eq_true rfl, Nat.le_of_ble_eq_true rfl⟩ (Nat.le_of_ble_eq_true rfl) rfl xs_231 xn_231 rfl (fun z_10 => ?_)
    have hr_10 := sTT_v (I 232) ((w).toNat)
    refine gw_if_eq C (tgt := 26) dX8_isWhole_13 (by decide) (by first | omega | exact hgi _ _) (fun h_13 => ?_) (fun h_13 => ?_)
    · skip
      refine gw_iconst C dX8_isWhole_26 ?_
      refine gw_goto C (tgt := 31) dX8_isWhole_27 (by decide) ?_
      exact gw_zret C (Nat.le_of_ble_eq_true rfl) (Nat.le_of_ble_eq_true rfl) dX8_isWhole_31 (Or.inr rfl) (⟨Or.inl ⟨(by omega), rfl⟩, rfl, rfl⟩)
    · skip
      refine gw_aload_n C 0 dX8_isWhole_16 rfl rfl ?_
      refine gw_iload_n C 1 dX8_isWhole_17 rfl rfl ?_
      refine gw_callVm C (as := [vI w]) (st := []) (ci := 7) (T0 := TX8) (N := 10) (c_X8_troubleOf hl0 G I J ho w (by omega)) dX8_isWhole_18 kX8_176 qX8_troubleOf hdX8_troubleOf ⟨Nat.le_of_ble_eq_true rfl, Nat.le_of_ble_eq_true rfl⟩ ⟨Nat.le_of_ble_eq_true rfl, Nat.le_of_ble_eq_true rfl⟩ (Nat.le_of_ble_eq_true rfl) rfl xs_231 xn_231 rfl (fun z_18 => ?_)
      have hr_18 := sTT_v (I 232) ((w).toNat)
      refine gw_bipush C dX8_isWhole_21 rfl ?_
      refine gw_icmp_ne C (tgt := 30) dX8_isWhole_23 (by decide) (by first | omega | exact hgi _ _) ⟨by decide, by decide⟩ (fun h_23 => ?_) (fun h_23 => ?_)
      · skip
        refine gw_iconst C dX8_isWhole_30 ?_
        exact gw_zret C (Nat.le_of_ble_eq_true rfl) (Nat.le_of_ble_eq_true rfl) dX8_isWhole_31 (Or.inl rfl) (⟨Or.inr ⟨(by omega), rfl⟩, rfl, rfl⟩)
      · skip
        refine gw_iconst C dX8_isWhole_26 ?_
        refine gw_goto C (tgt := 31) dX8_isWhole_27 (by decide) ?_
        exact gw_zret C (Nat.le_of_ble_eq_true rfl) (Nat.le_of_ble_eq_true rfl) dX8_isWhole_31 (Or.inr rfl) (⟨Or.inl ⟨(by omega), rfl⟩, rfl, rfl⟩)
  · skip
    refine gw_if_eq C (tgt := 30) dX8_isWhole_5 (by decide) ⟨by decide, by decide⟩ (fun _ => ?_) (fun h => absurd h (by decide))
    refine gw_iconst C dX8_isWhole_30 ?_
    exact gw_zret C (Nat.le_of_ble_eq_true rfl) (Nat.le_of_ble_eq_true rfl) dX8_isWhole_31 (Or.inl rfl) (⟨Or.inr ⟨(by omega), rfl⟩, rfl, rfl⟩)
set_option maxHeartbeats 4000000 in
set_option maxRecDepth 100000 in
theorem c_X8_hasEnd {l : Launch} (hl0 : l.stackTraces = false) (G : GG) (I J : GI) {z : Nat} (ho : Oks (I 232)) (w : Int) (hq : 0 ≤ w ∧ w < I 232 5) : GM l yX8_hasEnd (.code yX8_hasEnd cX8_hasEnd 2 (some .boolean)) 6 136 0 0 G N0 SH RR [vR 231, vI w] z I J (boolQ (hE9 (I 232) w.toNat) I J) gNo := by
  refine gm_of (lo0 := [some (vR 231), some (vI w)]) hl0 (by decide) rfl (Nat.le_of_ble_eq_true rfl) ?_
  intro p e s m args below meth c C ht hgi
  have C : gC G p l s m args meth c cX8_hasEnd 2 RX8 (some .boolean) "hasEnd" := C
  have h3 := ho.2.1
  have h0 := ho.1
  have hot := okT ho (t := w.toNat) (by omega)
  have h67 := sTT_67 (S := I 232) (t := w.toNat)
  refine gw_aload_n C 0 dX8_hasEnd_0 rfl rfl ?_
  refine gw_iload_n C 1 dX8_hasEnd_1 rfl rfl ?_
  refine gw_callVm C (as := [vI w]) (st := []) (ci := 7) (T0 := TX8) (N := 10) (c_X8_troubleOf hl0 G I J ho w (by omega)) dX8_hasEnd_2 kX8_176 qX8_troubleOf hdX8_troubleOf ⟨Nat.le_of_ble_eq_true rfl, Nat.le_of_ble_eq_true rfl⟩ ⟨Nat.le_of_ble_eq_true rfl, Nat.le_of_ble_eq_true rfl⟩ (Nat.le_of_ble_eq_true rfl) rfl xs_231 xn_231 rfl (fun z_2 => ?_)
  have hr_2 := sTT_v (I 232) ((w).toNat)
  refine gw_iconst C dX8_hasEnd_5 ?_
  refine gw_icmp_eq C (tgt := 23) dX8_hasEnd_6 (by decide) (by first | omega | exact hgi _ _) ⟨by decide, by decide⟩ (fun h_6 => ?_) (fun h_6 => ?_)
  · skip
    refine gw_iconst C dX8_hasEnd_23 ?_
    exact gw_zret C (Nat.le_of_ble_eq_true rfl) (Nat.le_of_ble_eq_true rfl) dX8_hasEnd_24 (Or.inl rfl) (⟨Or.inr ⟨(by omega), rfl⟩, rfl, rfl⟩)
  · skip
    refine gw_aload_n C 0 dX8_hasEnd_9 rfl rfl ?_
    refine gw_iload_n C 1 dX8_hasEnd_10 rfl rfl ?_
    refine gw_callVm C (as := [vI w]) (st := []) (ci := 7) (T0 := TX8) (N := 10) (c_X8_troubleOf hl0 G I J ho w (by omega)) dX8_hasEnd_11 kX8_176 qX8_troubleOf hdX8_troubleOf ⟨Nat.le_of_ble_eq_true rfl, Nat.le_of_ble_eq_true rfl⟩ ⟨Nat.le_of_ble_eq_true rfl, Nat.le_of_ble_eq_true rfl⟩ (Nat.le_of_ble_eq_true rfl) rfl xs_231 xn_231 rfl (fun z_11 => ?_)
    have hr_11 := sTT_v (I 232) ((w).toNat)
    refine gw_bipush C dX8_hasEnd_14 rfl ?_
    refine gw_icmp_eq C (tgt := 23) dX8_hasEnd_16 (by decide) (by first | omega | exact hgi _ _) ⟨by decide, by decide⟩ (fun h_16 => ?_) (fun h_16 => ?_)
    · skip
      refine gw_iconst C dX8_hasEnd_23 ?_
      exact gw_zret C (Nat.le_of_ble_eq_true rfl) (Nat.le_of_ble_eq_true rfl) dX8_hasEnd_24 (Or.inl rfl) (⟨Or.inr ⟨(by omega), rfl⟩, rfl, rfl⟩)
    · skip
      refine gw_iconst C dX8_hasEnd_19 ?_
      refine gw_goto C (tgt := 24) dX8_hasEnd_20 (by decide) ?_
      exact gw_zret C (Nat.le_of_ble_eq_true rfl) (Nat.le_of_ble_eq_true rfl) dX8_hasEnd_24 (Or.inr rfl) (⟨Or.inl ⟨(by omega), rfl⟩, rfl, rfl⟩)
set_option maxHeartbeats 4000000 in
set_option maxRecDepth 100000 in
theorem c_X8_end_1 {l : Launch} (hl0 : l.stackTraces = false) (G : GG) (I J : GI) {z : Nat} (ho : Oks (I 232)) (w a : Int) (hq : 0 ≤ w ∧ w < I 232 5) (hj0 : sJ (I 232) (sFi (I 232) w.toNat) = 0) (ha : -1 ≤ a ∧ a < I 232 (103 + 28 * w.toNat)) : GM l yX8_end (.code yX8_end cX8_end 7 (some .int)) 4 94 0 0 G N0 SH RR [vR 231, vI w, vI a, vI 1] z I J (memQ (some (vI (sEa (I 232) w.toNat (a + 1).toNat))) I J) gNo := by
  refine gm_of (lo0 := [some (vR 231), some (vI w), some (vI a), some (vI 1), none, none, none]) hl0 (by decide) rfl (Nat.le_of_ble_eq_true rfl) ?_
  intro p e s m args below meth c C ht hgi
  have C : gC G p l s m args meth c cX8_end 7 RX8 (some .int) "end" := C
  have h3 := ho.2.1
  have h0 := ho.1
  have hot := okT ho (t := w.toNat) (by omega)
  have h67 := sTT_67 (S := I 232) (t := w.toNat)
  have hnb := near_b ho (j := sFi (I 232) w.toNat) (by unfold sFi; omega)
  have hwb := (ho.2.2.1 _ hnb.1.2).1
  have hoj := (ho.2.2.2.1 (sFi (I 232) w.toNat) (by unfold sFi; omega)).1
  refine gw_aload_n C 0 dX8_end_0 rfl rfl ?_
  refine gw_aload_n C 0 dX8_end_1 rfl rfl ?_
  refine gw_aload_n C 0 dX8_end_2 rfl rfl ?_
  refine gw_iload_n C 1 dX8_end_3 rfl rfl ?_
  refine gw_iconst C dX8_end_4 ?_
  refine gw_callVm C (as := [vI w, vI 0]) (st := [vR 231, vR 231]) (ci := 7) (T0 := TX8) (N := 10) (c_X8_of hl0 G I J ho w 0 (by omega)) dX8_end_5 kX8_33 qX8_of hdX8_of ⟨Nat.le_of_ble_eq_true rfl, Nat.le_of_ble_eq_true rfl⟩ ⟨Nat.le_of_ble_eq_true rfl, Nat.le_of_ble_eq_true rfl⟩ (Nat.le_of_ble_eq_true rfl) rfl xs_231 xn_231 rfl (fun z_5 => ?_)
  rw [show (0 : Int).toNat = 0 from rfl]
  rw [show I 232 (102 + 28 * ((w).toNat) + 0) = (I 232 (102 + 28 * ((w).toNat))) from by first | rfl | (congr 1 <;> omega) | (congr 1; congr 1 <;> omega)]
  refine gw_iconst C dX8_end_8 ?_
  refine gw_callVm C (as := [vI (I 232 (102 + 28 * ((w).toNat))), vI 0]) (st := [vR 231]) (ci := 7) (T0 := TX8) (N := 10) (c_X8_ofJoin hl0 G I J ho (I 232 (102 + 28 * ((w).toNat))) 0 (by omega)) dX8_end_9 kX8_138 qX8_ofJoin hdX8_ofJoin ⟨Nat.le_of_ble_eq_true rfl, Nat.le_of_ble_eq_true rfl⟩ ⟨Nat.le_of_ble_eq_true rfl, Nat.le_of_ble_eq_true rfl⟩ (Nat.le_of_ble_eq_true rfl) rfl xs_231 xn_231 rfl (fun z_9 => ?_)
  rw [show (I 232 (102 + 28 * ((w).toNat))).toNat = (sFi (I 232) ((w).toNat)) from rfl]
  rw [show (0 : Int).toNat = 0 from rfl]
  rw [show I 232 (78 + 6 * (sFi (I 232) ((w).toNat)) + 0) = (I 232 (78 + 6 * (sFi (I 232) ((w).toNat)))) from by first | rfl | (congr 1 <;> omega) | (congr 1; congr 1 <;> omega)]
  refine gw_iload_n C 3 dX8_end_12 rfl rfl ?_
  refine gw_if_eq C (tgt := 20) dX8_end_13 (by decide) ⟨by decide, by decide⟩ (fun h => absurd h (by decide)) (fun _ => ?_)
  refine gw_iconst C dX8_end_16 ?_
  refine gw_goto C (tgt := 21) dX8_end_17 (by decide) ?_
  refine gw_callVm C (as := [vI (I 232 (78 + 6 * (sFi (I 232) ((w).toNat)))), vI 0]) (st := []) (ci := 7) (T0 := TX8) (N := 10) (c_X8_ofWire hl0 G I J ho (I 232 (78 + 6 * (sFi (I 232) ((w).toNat)))) 0 (by omega)) dX8_end_21 kX8_81 qX8_ofWire hdX8_ofWire ⟨Nat.le_of_ble_eq_true rfl, Nat.le_of_ble_eq_true rfl⟩ ⟨Nat.le_of_ble_eq_true rfl, Nat.le_of_ble_eq_true rfl⟩ (Nat.le_of_ble_eq_true rfl) rfl xs_231 xn_231 rfl (fun z_21 => ?_)
  rw [show (I 232 (78 + 6 * (sFi (I 232) ((w).toNat)))).toNat = (sNear (I 232) (sFi (I 232) ((w).toNat))) from rfl]
  rw [show (0 : Int).toNat = 0 from rfl]
  rw [show I 232 (6 + 12 * (sNear (I 232) (sFi (I 232) ((w).toNat))) + 0) = (I 232 (6 + 12 * (sNear (I 232) (sFi (I 232) ((w).toNat))))) from by first | rfl | (congr 1 <;> omega) | (congr 1; congr 1 <;> omega)]
  refine gw_istore C (lo1 := [some (vR 231), some (vI w), some (vI a), some (vI 1), some (vI (I 232 (6 + 12 * (sNear (I 232) (sFi (I 232) ((w).toNat)))))), none, none]) dX8_end_24 (by decide) rfl ?_
  refine gw_iconst C dX8_end_26 ?_
  refine gw_istore C (lo1 := [some (vR 231), some (vI w), some (vI a), some (vI 1), some (vI (I 232 (6 + 12 * (sNear (I 232) (sFi (I 232) ((w).toNat)))))), some (vI 0), none]) dX8_end_27 (by decide) rfl ?_
  have loop_29 : ∀ (fuel : Nat) (v : Int) (k : Nat) (z1 : Nat), ((k : Int) ≤ a + 1) → (v = sEa (I 232) w.toNat k) → (a + 1).toNat - k < fuel → GW G p l e ({ frames := 4, cells := 0, slots := 0, locals := 94 } : Room) s m args below meth c 7 z1 N0 SH RR I J 0 0 (vx_MQ below (GQ G N0 SH RR (memQ (some (vI (sEa (I 232) w.toNat (a + 1).toNat))) I J)) (GX G N0 SH RR gNo) args s 0 0 (ge G)) 29 [some (vR 231), some (vI w), some (vI a), some (vI 1), some (vI v), some (vI (k : Int)), none] [] := by
    intro fuel
    induction fuel with
    | zero => intro v k z1 hk hv hf_29; exact absurd hf_29 (Nat.not_lt_zero _)
    | succ fuel ih_29 =>
      intro v k z1 hk hv hf_29
      have hvb := (sEa_b ho (t := w.toNat) (by omega) k (by omega)).1
      rw [← hv] at hvb
      refine gw_iload C dX8_end_29 rfl ?_
      refine gw_iload_n C 2 dX8_end_31 rfl rfl ?_
      refine gw_icmp_gt C (tgt := 89) dX8_end_32 (by decide) (by first | omega | exact hgi _ _) (by first | omega | exact hgi _ _) (fun h_32 => ?_) (fun h_32 => ?_)
      · skip
        refine gw_iload C dX8_end_89 rfl ?_
        exact gw_iret C (Nat.le_of_ble_eq_true rfl) (Nat.le_of_ble_eq_true rfl) dX8_end_91 (⟨congrArg (fun q => some (vI q)) (by rw [hv, show k = (a + 1).toNat by omega]), rfl, rfl⟩)
      · skip
        refine gw_aload_n C 0 dX8_end_35 rfl rfl ?_
        refine gw_iload_n C 1 dX8_end_36 rfl rfl ?_
        refine gw_iload C dX8_end_37 rfl ?_
        refine gw_callVm C (as := [vI w, vI (k : Int)]) (st := []) (ci := 7) (T0 := TX8) (N := 10) (c_X8_bearing hl0 G I J ho w (k : Int) (by omega) (by omega) (by omega)) dX8_end_39 kX8_164 qX8_bearing hdX8_bearing ⟨Nat.le_of_ble_eq_true rfl, Nat.le_of_ble_eq_true rfl⟩ ⟨Nat.le_of_ble_eq_true rfl, Nat.le_of_ble_eq_true rfl⟩ (Nat.le_of_ble_eq_true rfl) rfl xs_231 xn_231 rfl (fun z_39 => ?_)
        rw [show (k : Int).toNat = k from by omega]
        have hr_39 := bg_b (I 232) ((w).toNat) k
        rw [bg_1 (S := I 232) (t := w.toNat) (k := k) (by omega)]
        have hbb := sBr_b (I 232) w.toNat k
        refine gw_istore C (lo1 := [some (vR 231), some (vI w), some (vI a), some (vI 1), some (vI v), some (vI (k : Int)), some (vI (sBr (I 232) w.toNat (k + 1)))]) dX8_end_42 (by decide) rfl ?_
        refine gw_iload C dX8_end_44 rfl ?_
        refine gw_aload_n C 0 dX8_end_46 rfl rfl ?_
        refine gw_iload_n C 1 dX8_end_47 rfl rfl ?_
        refine gw_iload C dX8_end_48 rfl ?_
        refine gw_callVm C (as := [vI w, vI (k : Int)]) (st := [vI v]) (ci := 7) (T0 := TX8) (N := 10) (c_X8_length hl0 G I J ho w (k : Int) (by omega)) dX8_end_50 kX8_183 qX8_length hdX8_length ⟨Nat.le_of_ble_eq_true rfl, Nat.le_of_ble_eq_true rfl⟩ ⟨Nat.le_of_ble_eq_true rfl, Nat.le_of_ble_eq_true rfl⟩ (Nat.le_of_ble_eq_true rfl) rfl xs_231 xn_231 rfl (fun z_50 => ?_)
        rw [show (k : Int).toNat = k from by omega]
        refine gw_i2l C dX8_end_53 (by first | omega | exact hgi _ _) ?_
        refine gw_iload_n C 3 dX8_end_54 rfl rfl ?_
        refine gw_if_eq C (tgt := 67) dX8_end_55 (by decide) ⟨by decide, by decide⟩ (fun h => absurd h (by decide)) (fun _ => ?_)
        refine gw_iload C dX8_end_58 rfl ?_
        refine gw_i2l C dX8_end_60 (by first | omega | exact hgi _ _) ?_
        refine gw_callSm C (as := [vL (sBr (I 232) w.toNat (k + 1))]) (st := [vL (I 232 (107 + 28 * ((w).toNat) + 2 * k)), vI v]) (c_X8_sineOf hl0 G (sBr (I 232) w.toNat (k + 1)) (by omega)) dX8_end_61 kX8_53 qX8_sineOf hdX8_sineOf ⟨Nat.le_of_ble_eq_true rfl, Nat.le_of_ble_eq_true rfl⟩ ⟨Nat.le_of_ble_eq_true rfl, Nat.le_of_ble_eq_true rfl⟩ (Nat.le_of_ble_eq_true rfl) rfl (fun z_61 => ?_)
        have hr_61 := sinZ_b (sBr (I 232) w.toNat (k + 1))
        refine gw_goto C (tgt := 73) dX8_end_64 (by decide) ?_
        refine gw_i2l C dX8_end_73 (by first | omega | exact hgi _ _) ?_
        have ha9 := hot.2.2 k (by omega)
        have hsb := sinZ_b (sBr (I 232) w.toNat (k + 1))
        have hst := st_b (x := I 232 (107 + 28 * w.toNat + 2 * k)) (y := sinZ (sBr (I 232) w.toNat (k + 1))) (by omega) hsb
        refine gw_lmul C dX8_end_74 ?_
        refine gw_ldc2 C (x := 10000) dX8_end_75 kX8_189 (by decide) ?_
        refine gw_ldiv C dX8_end_78 (by omega) ⟨by decide, by decide⟩ (by decide) ?_
        refine gw_l2i C dX8_end_79 ?_
        refine gw_iadd C dX8_end_80 ?_
        refine gw_istore C (lo1 := [some (vR 231), some (vI w), some (vI a), some (vI 1), some (vI (v + (((I 232 (107 + 28 * ((w).toNat) + 2 * k)) * (sinZ (sBr (I 232) w.toNat (k + 1))))).tdiv 10000)), some (vI (k : Int)), some (vI (sBr (I 232) w.toNat (k + 1)))]) dX8_end_81 (by decide) rfl ?_
        refine gw_iinc C (lo1 := [some (vR 231), some (vI w), some (vI a), some (vI 1), some (vI (v + (((I 232 (107 + 28 * ((w).toNat) + 2 * k)) * (sinZ (sBr (I 232) w.toNat (k + 1))))).tdiv 10000)), some (vI ((k : Int) + 1)), some (vI (sBr (I 232) w.toNat (k + 1)))]) dX8_end_83 rfl (by decide) rfl ?_
        refine gw_goto C (tgt := 29) dX8_end_86 (by decide) ?_
        exact gw_weak (lo' := [some (vR 231), some (vI w), some (vI a), some (vI 1), some (vI (v + (((I 232 (107 + 28 * ((w).toNat) + 2 * k)) * (sinZ (sBr (I 232) w.toNat (k + 1))))).tdiv 10000)), some (vI (((k + 1) : Nat) : Int)), none]) ⟨rfl, rfl, rfl, rfl, rfl, congrArg (fun q => some (vI q)) (by omega), trivial⟩ (ih_29 (v + (((I 232 (107 + 28 * ((w).toNat) + 2 * k)) * (sinZ (sBr (I 232) w.toNat (k + 1))))).tdiv 10000) (k + 1) z_61 (by omega) (by exact en_1 hv) (by omega))
  exact gw_weak (lo' := [some (vR 231), some (vI w), some (vI a), some (vI 1), some (vI (I 232 (6 + 12 * (sNear (I 232) (sFi (I 232) ((w).toNat)))))), some (vI (0 : Int)), none]) ⟨rfl, rfl, rfl, rfl, rfl, congrArg (fun q => some (vI q)) (by omega), trivial⟩ (loop_29 _ (I 232 (6 + 12 * (sNear (I 232) (sFi (I 232) ((w).toNat))))) 0 z_21 (by omega) (by rfl) (Nat.lt_succ_self _))
set_option maxHeartbeats 4000000 in
set_option maxRecDepth 100000 in
theorem c_X8_end_0 {l : Launch} (hl0 : l.stackTraces = false) (G : GG) (I J : GI) {z : Nat} (ho : Oks (I 232)) (w a : Int) (hq : 0 ≤ w ∧ w < I 232 5) (hj0 : sJ (I 232) (sFi (I 232) w.toNat) = 0) (ha : -1 ≤ a ∧ a < I 232 (103 + 28 * w.toNat)) : GM l yX8_end (.code yX8_end cX8_end 7 (some .int)) 4 94 0 0 G N0 SH RR [vR 231, vI w, vI a, vI 0] z I J (memQ (some (vI (sNo (I 232) w.toNat (a + 1).toNat))) I J) gNo := by
  refine gm_of (lo0 := [some (vR 231), some (vI w), some (vI a), some (vI 0), none, none, none]) hl0 (by decide) rfl (Nat.le_of_ble_eq_true rfl) ?_
  intro p e s m args below meth c C ht hgi
  have C : gC G p l s m args meth c cX8_end 7 RX8 (some .int) "end" := C
  have h3 := ho.2.1
  have h0 := ho.1
  have hot := okT ho (t := w.toNat) (by omega)
  have h67 := sTT_67 (S := I 232) (t := w.toNat)
  have hnb := near_b ho (j := sFi (I 232) w.toNat) (by unfold sFi; omega)
  have hwb := (ho.2.2.1 _ hnb.1.2).1
  have hoj := (ho.2.2.2.1 (sFi (I 232) w.toNat) (by unfold sFi; omega)).1
  refine gw_aload_n C 0 dX8_end_0 rfl rfl ?_
  refine gw_aload_n C 0 dX8_end_1 rfl rfl ?_
  refine gw_aload_n C 0 dX8_end_2 rfl rfl ?_
  refine gw_iload_n C 1 dX8_end_3 rfl rfl ?_
  refine gw_iconst C dX8_end_4 ?_
  refine gw_callVm C (as := [vI w, vI 0]) (st := [vR 231, vR 231]) (ci := 7) (T0 := TX8) (N := 10) (c_X8_of hl0 G I J ho w 0 (by omega)) dX8_end_5 kX8_33 qX8_of hdX8_of ⟨Nat.le_of_ble_eq_true rfl, Nat.le_of_ble_eq_true rfl⟩ ⟨Nat.le_of_ble_eq_true rfl, Nat.le_of_ble_eq_true rfl⟩ (Nat.le_of_ble_eq_true rfl) rfl xs_231 xn_231 rfl (fun z_5 => ?_)
  rw [show (0 : Int).toNat = 0 from rfl]
  rw [show I 232 (102 + 28 * ((w).toNat) + 0) = (I 232 (102 + 28 * ((w).toNat))) from by first | rfl | (congr 1 <;> omega) | (congr 1; congr 1 <;> omega)]
  refine gw_iconst C dX8_end_8 ?_
  refine gw_callVm C (as := [vI (I 232 (102 + 28 * ((w).toNat))), vI 0]) (st := [vR 231]) (ci := 7) (T0 := TX8) (N := 10) (c_X8_ofJoin hl0 G I J ho (I 232 (102 + 28 * ((w).toNat))) 0 (by omega)) dX8_end_9 kX8_138 qX8_ofJoin hdX8_ofJoin ⟨Nat.le_of_ble_eq_true rfl, Nat.le_of_ble_eq_true rfl⟩ ⟨Nat.le_of_ble_eq_true rfl, Nat.le_of_ble_eq_true rfl⟩ (Nat.le_of_ble_eq_true rfl) rfl xs_231 xn_231 rfl (fun z_9 => ?_)
  rw [show (I 232 (102 + 28 * ((w).toNat))).toNat = (sFi (I 232) ((w).toNat)) from rfl]
  rw [show (0 : Int).toNat = 0 from rfl]
  rw [show I 232 (78 + 6 * (sFi (I 232) ((w).toNat)) + 0) = (I 232 (78 + 6 * (sFi (I 232) ((w).toNat)))) from by first | rfl | (congr 1 <;> omega) | (congr 1; congr 1 <;> omega)]
  refine gw_iload_n C 3 dX8_end_12 rfl rfl ?_
  refine gw_if_eq C (tgt := 20) dX8_end_13 (by decide) ⟨by decide, by decide⟩ (fun _ => ?_) (fun h => absurd h (by decide))
  refine gw_iconst C dX8_end_20 ?_
  refine gw_callVm C (as := [vI (I 232 (78 + 6 * (sFi (I 232) ((w).toNat)))), vI 1]) (st := []) (ci := 7) (T0 := TX8) (N := 10) (c_X8_ofWire hl0 G I J ho (I 232 (78 + 6 * (sFi (I 232) ((w).toNat)))) 1 (by omega)) dX8_end_21 kX8_81 qX8_ofWire hdX8_ofWire ⟨Nat.le_of_ble_eq_true rfl, Nat.le_of_ble_eq_true rfl⟩ ⟨Nat.le_of_ble_eq_true rfl, Nat.le_of_ble_eq_true rfl⟩ (Nat.le_of_ble_eq_true rfl) rfl xs_231 xn_231 rfl (fun z_21 => ?_)
  rw [show (I 232 (78 + 6 * (sFi (I 232) ((w).toNat)))).toNat = (sNear (I 232) (sFi (I 232) ((w).toNat))) from rfl]
  rw [show (1 : Int).toNat = 1 from rfl]
  rw [show I 232 (6 + 12 * (sNear (I 232) (sFi (I 232) ((w).toNat))) + 1) = (I 232 (7 + 12 * (sNear (I 232) (sFi (I 232) ((w).toNat))))) from by first | rfl | (congr 1 <;> omega) | (congr 1; congr 1 <;> omega)]
  refine gw_istore C (lo1 := [some (vR 231), some (vI w), some (vI a), some (vI 0), some (vI (I 232 (7 + 12 * (sNear (I 232) (sFi (I 232) ((w).toNat)))))), none, none]) dX8_end_24 (by decide) rfl ?_
  refine gw_iconst C dX8_end_26 ?_
  refine gw_istore C (lo1 := [some (vR 231), some (vI w), some (vI a), some (vI 0), some (vI (I 232 (7 + 12 * (sNear (I 232) (sFi (I 232) ((w).toNat)))))), some (vI 0), none]) dX8_end_27 (by decide) rfl ?_
  have loop_29 : ∀ (fuel : Nat) (v : Int) (k : Nat) (z1 : Nat), ((k : Int) ≤ a + 1) → (v = sNo (I 232) w.toNat k) → (a + 1).toNat - k < fuel → GW G p l e ({ frames := 4, cells := 0, slots := 0, locals := 94 } : Room) s m args below meth c 7 z1 N0 SH RR I J 0 0 (vx_MQ below (GQ G N0 SH RR (memQ (some (vI (sNo (I 232) w.toNat (a + 1).toNat))) I J)) (GX G N0 SH RR gNo) args s 0 0 (ge G)) 29 [some (vR 231), some (vI w), some (vI a), some (vI 0), some (vI v), some (vI (k : Int)), none] [] := by
    intro fuel
    induction fuel with
    | zero => intro v k z1 hk hv hf_29; exact absurd hf_29 (Nat.not_lt_zero _)
    | succ fuel ih_29 =>
      intro v k z1 hk hv hf_29
      have hvb := (sEa_b ho (t := w.toNat) (by omega) k (by omega)).2
      rw [← hv] at hvb
      refine gw_iload C dX8_end_29 rfl ?_
      refine gw_iload_n C 2 dX8_end_31 rfl rfl ?_
      refine gw_icmp_gt C (tgt := 89) dX8_end_32 (by decide) (by first | omega | exact hgi _ _) (by first | omega | exact hgi _ _) (fun h_32 => ?_) (fun h_32 => ?_)
      · skip
        refine gw_iload C dX8_end_89 rfl ?_
        exact gw_iret C (Nat.le_of_ble_eq_true rfl) (Nat.le_of_ble_eq_true rfl) dX8_end_91 (⟨congrArg (fun q => some (vI q)) (by rw [hv, show k = (a + 1).toNat by omega]), rfl, rfl⟩)
      · skip
        refine gw_aload_n C 0 dX8_end_35 rfl rfl ?_
        refine gw_iload_n C 1 dX8_end_36 rfl rfl ?_
        refine gw_iload C dX8_end_37 rfl ?_
        refine gw_callVm C (as := [vI w, vI (k : Int)]) (st := []) (ci := 7) (T0 := TX8) (N := 10) (c_X8_bearing hl0 G I J ho w (k : Int) (by omega) (by omega) (by omega)) dX8_end_39 kX8_164 qX8_bearing hdX8_bearing ⟨Nat.le_of_ble_eq_true rfl, Nat.le_of_ble_eq_true rfl⟩ ⟨Nat.le_of_ble_eq_true rfl, Nat.le_of_ble_eq_true rfl⟩ (Nat.le_of_ble_eq_true rfl) rfl xs_231 xn_231 rfl (fun z_39 => ?_)
        rw [show (k : Int).toNat = k from by omega]
        have hr_39 := bg_b (I 232) ((w).toNat) k
        rw [bg_1 (S := I 232) (t := w.toNat) (k := k) (by omega)]
        have hbb := sBr_b (I 232) w.toNat k
        refine gw_istore C (lo1 := [some (vR 231), some (vI w), some (vI a), some (vI 0), some (vI v), some (vI (k : Int)), some (vI (sBr (I 232) w.toNat (k + 1)))]) dX8_end_42 (by decide) rfl ?_
        refine gw_iload C dX8_end_44 rfl ?_
        refine gw_aload_n C 0 dX8_end_46 rfl rfl ?_
        refine gw_iload_n C 1 dX8_end_47 rfl rfl ?_
        refine gw_iload C dX8_end_48 rfl ?_
        refine gw_callVm C (as := [vI w, vI (k : Int)]) (st := [vI v]) (ci := 7) (T0 := TX8) (N := 10) (c_X8_length hl0 G I J ho w (k : Int) (by omega)) dX8_end_50 kX8_183 qX8_length hdX8_length ⟨Nat.le_of_ble_eq_true rfl, Nat.le_of_ble_eq_true rfl⟩ ⟨Nat.le_of_ble_eq_true rfl, Nat.le_of_ble_eq_true rfl⟩ (Nat.le_of_ble_eq_true rfl) rfl xs_231 xn_231 rfl (fun z_50 => ?_)
        rw [show (k : Int).toNat = k from by omega]
        refine gw_i2l C dX8_end_53 (by first | omega | exact hgi _ _) ?_
        refine gw_iload_n C 3 dX8_end_54 rfl rfl ?_
        refine gw_if_eq C (tgt := 67) dX8_end_55 (by decide) ⟨by decide, by decide⟩ (fun _ => ?_) (fun h => absurd h (by decide))
        refine gw_iload C dX8_end_67 rfl ?_
        refine gw_i2l C dX8_end_69 (by first | omega | exact hgi _ _) ?_
        refine gw_callSm C (as := [vL (sBr (I 232) w.toNat (k + 1))]) (st := [vL (I 232 (107 + 28 * ((w).toNat) + 2 * k)), vI v]) (c_X8_cosineOf hl0 G (sBr (I 232) w.toNat (k + 1)) (by omega)) dX8_end_70 kX8_186 qX8_cosineOf hdX8_cosineOf ⟨Nat.le_of_ble_eq_true rfl, Nat.le_of_ble_eq_true rfl⟩ ⟨Nat.le_of_ble_eq_true rfl, Nat.le_of_ble_eq_true rfl⟩ (Nat.le_of_ble_eq_true rfl) rfl (fun z_70 => ?_)
        have hr_70 := sinZ_b ((sBr (I 232) w.toNat (k + 1)) + 324000)
        refine gw_i2l C dX8_end_73 (by first | omega | exact hgi _ _) ?_
        have ha9 := hot.2.2 k (by omega)
        have hsb := sinZ_b (sBr (I 232) w.toNat (k + 1) + 324000)
        have hst := st_b (x := I 232 (107 + 28 * w.toNat + 2 * k)) (y := sinZ (sBr (I 232) w.toNat (k + 1) + 324000)) (by omega) hsb
        refine gw_lmul C dX8_end_74 ?_
        refine gw_ldc2 C (x := 10000) dX8_end_75 kX8_189 (by decide) ?_
        refine gw_ldiv C dX8_end_78 (by omega) ⟨by decide, by decide⟩ (by decide) ?_
        refine gw_l2i C dX8_end_79 ?_
        refine gw_iadd C dX8_end_80 ?_
        refine gw_istore C (lo1 := [some (vR 231), some (vI w), some (vI a), some (vI 0), some (vI (v + (((I 232 (107 + 28 * ((w).toNat) + 2 * k)) * (sinZ ((sBr (I 232) w.toNat (k + 1)) + 324000)))).tdiv 10000)), some (vI (k : Int)), some (vI (sBr (I 232) w.toNat (k + 1)))]) dX8_end_81 (by decide) rfl ?_
        refine gw_iinc C (lo1 := [some (vR 231), some (vI w), some (vI a), some (vI 0), some (vI (v + (((I 232 (107 + 28 * ((w).toNat) + 2 * k)) * (sinZ ((sBr (I 232) w.toNat (k + 1)) + 324000)))).tdiv 10000)), some (vI ((k : Int) + 1)), some (vI (sBr (I 232) w.toNat (k + 1)))]) dX8_end_83 rfl (by decide) rfl ?_
        refine gw_goto C (tgt := 29) dX8_end_86 (by decide) ?_
        exact gw_weak (lo' := [some (vR 231), some (vI w), some (vI a), some (vI 0), some (vI (v + (((I 232 (107 + 28 * ((w).toNat) + 2 * k)) * (sinZ ((sBr (I 232) w.toNat (k + 1)) + 324000)))).tdiv 10000)), some (vI (((k + 1) : Nat) : Int)), none]) ⟨rfl, rfl, rfl, rfl, rfl, congrArg (fun q => some (vI q)) (by omega), trivial⟩ (ih_29 (v + (((I 232 (107 + 28 * ((w).toNat) + 2 * k)) * (sinZ ((sBr (I 232) w.toNat (k + 1)) + 324000)))).tdiv 10000) (k + 1) z_70 (by omega) (by exact en_0 hv) (by omega))
  exact gw_weak (lo' := [some (vR 231), some (vI w), some (vI a), some (vI 0), some (vI (I 232 (7 + 12 * (sNear (I 232) (sFi (I 232) ((w).toNat)))))), some (vI (0 : Int)), none]) ⟨rfl, rfl, rfl, rfl, rfl, congrArg (fun q => some (vI q)) (by omega), trivial⟩ (loop_29 _ (I 232 (7 + 12 * (sNear (I 232) (sFi (I 232) ((w).toNat))))) 0 z_21 (by omega) (by rfl) (Nat.lt_succ_self _))
set_option maxHeartbeats 4000000 in
set_option maxRecDepth 100000 in
theorem c_X8_miss_1 {l : Launch} (hl0 : l.stackTraces = false) (G : GG) (I J : GI) {z : Nat} (ho : Oks (I 232)) (w : Int) (hq : 0 ≤ w ∧ w < I 232 5) (hj0 : sJ (I 232) (sFi (I 232) w.toNat) = 0) (hcl : 0 ≤ I 232 (104 + 28 * w.toNat)) : GM l yX8_miss (.code yX8_miss cX8_miss 3 (some .int)) 5 120 0 0 G N0 SH RR [vR 231, vI w, vI 1] z I J (memQ (some (vI (sME (I 232) w.toNat))) I J) gNo := by
  refine gm_of (lo0 := [some (vR 231), some (vI w), some (vI 1)]) hl0 (by decide) rfl (Nat.le_of_ble_eq_true rfl) ?_
  intro p e s m args below meth c C ht hgi
  have C : gC G p l s m args meth c cX8_miss 3 RX8 (some .int) "miss" := C
  have h3 := ho.2.1
  have h0 := ho.1
  have hot := okT ho (t := w.toNat) (by omega)
  have h67 := sTT_67 (S := I 232) (t := w.toNat)
  have hcb := hot.2.1 hcl
  have hlb := last_b ho (t := w.toNat) (by omega) hcl
  have hnb := near_b ho (j := sLa (I 232) w.toNat) hlb.2.1
  have hwb := (ho.2.2.1 _ hnb.1.2).1
  have hoj := (ho.2.2.2.1 (sLa (I 232) w.toNat) hlb.2.1).1
  have heb := sEa_b ho (t := w.toNat) (by omega) (I 232 (103 + 28 * w.toNat)).toNat (by omega)
  refine gw_aload_n C 0 dX8_miss_0 rfl rfl ?_
  refine gw_iload_n C 1 dX8_miss_1 rfl rfl ?_
  refine gw_aload_n C 0 dX8_miss_2 rfl rfl ?_
  refine gw_iload_n C 1 dX8_miss_3 rfl rfl ?_
  refine gw_callVm C (as := [vI w]) (st := [vI w, vR 231]) (ci := 7) (T0 := TX8) (N := 10) (c_X8_legs hl0 G I J ho w (by omega)) dX8_miss_4 kX8_77 qX8_legs hdX8_legs ⟨Nat.le_of_ble_eq_true rfl, Nat.le_of_ble_eq_true rfl⟩ ⟨Nat.le_of_ble_eq_true rfl, Nat.le_of_ble_eq_true rfl⟩ (Nat.le_of_ble_eq_true rfl) rfl xs_231 xn_231 rfl (fun z_4 => ?_)
  refine gw_iconst C dX8_miss_7 ?_
  refine gw_isub C dX8_miss_8 ?_
  refine gw_iload_n C 2 dX8_miss_9 rfl rfl ?_
  refine gw_callVm C (as := [vI w, vI ((I 232 (103 + 28 * ((w).toNat))) - 1), vI 1]) (st := []) (ci := 7) (T0 := TX8) (N := 10) (c_X8_end_1 hl0 G I J ho w ((I 232 (103 + 28 * ((w).toNat))) - 1) (by omega) (by omega) (by omega)) dX8_miss_10 kX8_191 qX8_end hdX8_end ⟨Nat.le_of_ble_eq_true rfl, Nat.le_of_ble_eq_true rfl⟩ ⟨Nat.le_of_ble_eq_true rfl, Nat.le_of_ble_eq_true rfl⟩ (Nat.le_of_ble_eq_true rfl) rfl xs_231 xn_231 rfl (fun z_10 => ?_)
  rw [show (sEa (I 232) ((w).toNat) (((I 232 (103 + 28 * ((w).toNat))) - 1) + 1).toNat) = sEa (I 232) ((w).toNat) (I 232 (103 + 28 * ((w).toNat))).toNat from by first | rfl | (congr 1; omega)]
  refine gw_aload_n C 0 dX8_miss_13 rfl rfl ?_
  refine gw_aload_n C 0 dX8_miss_14 rfl rfl ?_
  refine gw_aload_n C 0 dX8_miss_15 rfl rfl ?_
  refine gw_iload_n C 1 dX8_miss_16 rfl rfl ?_
  refine gw_iconst C dX8_miss_17 ?_
  refine gw_callVm C (as := [vI w, vI 2]) (st := [vR 231, vR 231, vI (sEa (I 232) ((w).toNat) (I 232 (103 + 28 * ((w).toNat))).toNat)]) (ci := 7) (T0 := TX8) (N := 10) (c_X8_of hl0 G I J ho w 2 (by omega)) dX8_miss_18 kX8_33 qX8_of hdX8_of ⟨Nat.le_of_ble_eq_true rfl, Nat.le_of_ble_eq_true rfl⟩ ⟨Nat.le_of_ble_eq_true rfl, Nat.le_of_ble_eq_true rfl⟩ (Nat.le_of_ble_eq_true rfl) rfl xs_231 xn_231 rfl (fun z_18 => ?_)
  rw [show (2 : Int).toNat = 2 from rfl]
  rw [show I 232 (102 + 28 * ((w).toNat) + 2) = (I 232 (104 + 28 * ((w).toNat))) from by first | rfl | (congr 1 <;> omega) | (congr 1; congr 1 <;> omega)]
  refine gw_iconst C dX8_miss_21 ?_
  refine gw_callVm C (as := [vI (I 232 (104 + 28 * ((w).toNat))), vI 0]) (st := [vR 231, vI (sEa (I 232) ((w).toNat) (I 232 (103 + 28 * ((w).toNat))).toNat)]) (ci := 7) (T0 := TX8) (N := 10) (c_X8_ofJoin hl0 G I J ho (I 232 (104 + 28 * ((w).toNat))) 0 (by omega)) dX8_miss_22 kX8_138 qX8_ofJoin hdX8_ofJoin ⟨Nat.le_of_ble_eq_true rfl, Nat.le_of_ble_eq_true rfl⟩ ⟨Nat.le_of_ble_eq_true rfl, Nat.le_of_ble_eq_true rfl⟩ (Nat.le_of_ble_eq_true rfl) rfl xs_231 xn_231 rfl (fun z_22 => ?_)
  rw [show (I 232 (104 + 28 * ((w).toNat))).toNat = (sLa (I 232) ((w).toNat)) from rfl]
  rw [show (0 : Int).toNat = 0 from rfl]
  rw [show I 232 (78 + 6 * (sLa (I 232) ((w).toNat)) + 0) = (I 232 (78 + 6 * (sLa (I 232) ((w).toNat)))) from by first | rfl | (congr 1 <;> omega) | (congr 1; congr 1 <;> omega)]
  refine gw_iload_n C 2 dX8_miss_25 rfl rfl ?_
  refine gw_if_eq C (tgt := 33) dX8_miss_26 (by decide) ⟨by decide, by decide⟩ (fun h => absurd h (by decide)) (fun _ => ?_)
  refine gw_iconst C dX8_miss_29 ?_
  refine gw_goto C (tgt := 34) dX8_miss_30 (by decide) ?_
  refine gw_callVm C (as := [vI (I 232 (78 + 6 * (sLa (I 232) ((w).toNat)))), vI 0]) (st := [vI (sEa (I 232) ((w).toNat) (I 232 (103 + 28 * ((w).toNat))).toNat)]) (ci := 7) (T0 := TX8) (N := 10) (c_X8_ofWire hl0 G I J ho (I 232 (78 + 6 * (sLa (I 232) ((w).toNat)))) 0 (by omega)) dX8_miss_34 kX8_81 qX8_ofWire hdX8_ofWire ⟨Nat.le_of_ble_eq_true rfl, Nat.le_of_ble_eq_true rfl⟩ ⟨Nat.le_of_ble_eq_true rfl, Nat.le_of_ble_eq_true rfl⟩ (Nat.le_of_ble_eq_true rfl) rfl xs_231 xn_231 rfl (fun z_34 => ?_)
  rw [show (I 232 (78 + 6 * (sLa (I 232) ((w).toNat)))).toNat = (sNear (I 232) (sLa (I 232) ((w).toNat))) from rfl]
  rw [show (0 : Int).toNat = 0 from rfl]
  rw [show I 232 (6 + 12 * (sNear (I 232) (sLa (I 232) ((w).toNat))) + 0) = (I 232 (6 + 12 * (sNear (I 232) (sLa (I 232) ((w).toNat))))) from by first | rfl | (congr 1 <;> omega) | (congr 1; congr 1 <;> omega)]
  refine gw_isub C dX8_miss_37 ?_
  exact gw_iret C (Nat.le_of_ble_eq_true rfl) (Nat.le_of_ble_eq_true rfl) dX8_miss_38 (⟨congrArg (fun q => some (vI q)) (by rfl), rfl, rfl⟩)
set_option maxHeartbeats 4000000 in
set_option maxRecDepth 100000 in
theorem c_X8_miss_0 {l : Launch} (hl0 : l.stackTraces = false) (G : GG) (I J : GI) {z : Nat} (ho : Oks (I 232)) (w : Int) (hq : 0 ≤ w ∧ w < I 232 5) (hj0 : sJ (I 232) (sFi (I 232) w.toNat) = 0) (hcl : 0 ≤ I 232 (104 + 28 * w.toNat)) : GM l yX8_miss (.code yX8_miss cX8_miss 3 (some .int)) 5 120 0 0 G N0 SH RR [vR 231, vI w, vI 0] z I J (memQ (some (vI (sMN (I 232) w.toNat))) I J) gNo := by
  refine gm_of (lo0 := [some (vR 231), some (vI w), some (vI 0)]) hl0 (by decide) rfl (Nat.le_of_ble_eq_true rfl) ?_
  intro p e s m args below meth c C ht hgi
  have C : gC G p l s m args meth c cX8_miss 3 RX8 (some .int) "miss" := C
  have h3 := ho.2.1
  have h0 := ho.1
  have hot := okT ho (t := w.toNat) (by omega)
  have h67 := sTT_67 (S := I 232) (t := w.toNat)
  have hcb := hot.2.1 hcl
  have hlb := last_b ho (t := w.toNat) (by omega) hcl
  have hnb := near_b ho (j := sLa (I 232) w.toNat) hlb.2.1
  have hwb := (ho.2.2.1 _ hnb.1.2).1
  have hoj := (ho.2.2.2.1 (sLa (I 232) w.toNat) hlb.2.1).1
  have heb := sEa_b ho (t := w.toNat) (by omega) (I 232 (103 + 28 * w.toNat)).toNat (by omega)
  refine gw_aload_n C 0 dX8_miss_0 rfl rfl ?_
  refine gw_iload_n C 1 dX8_miss_1 rfl rfl ?_
  refine gw_aload_n C 0 dX8_miss_2 rfl rfl ?_
  refine gw_iload_n C 1 dX8_miss_3 rfl rfl ?_
  refine gw_callVm C (as := [vI w]) (st := [vI w, vR 231]) (ci := 7) (T0 := TX8) (N := 10) (c_X8_legs hl0 G I J ho w (by omega)) dX8_miss_4 kX8_77 qX8_legs hdX8_legs ⟨Nat.le_of_ble_eq_true rfl, Nat.le_of_ble_eq_true rfl⟩ ⟨Nat.le_of_ble_eq_true rfl, Nat.le_of_ble_eq_true rfl⟩ (Nat.le_of_ble_eq_true rfl) rfl xs_231 xn_231 rfl (fun z_4 => ?_)
  refine gw_iconst C dX8_miss_7 ?_
  refine gw_isub C dX8_miss_8 ?_
  refine gw_iload_n C 2 dX8_miss_9 rfl rfl ?_
  refine gw_callVm C (as := [vI w, vI ((I 232 (103 + 28 * ((w).toNat))) - 1), vI 0]) (st := []) (ci := 7) (T0 := TX8) (N := 10) (c_X8_end_0 hl0 G I J ho w ((I 232 (103 + 28 * ((w).toNat))) - 1) (by omega) (by omega) (by omega)) dX8_miss_10 kX8_191 qX8_end hdX8_end ⟨Nat.le_of_ble_eq_true rfl, Nat.le_of_ble_eq_true rfl⟩ ⟨Nat.le_of_ble_eq_true rfl, Nat.le_of_ble_eq_true rfl⟩ (Nat.le_of_ble_eq_true rfl) rfl xs_231 xn_231 rfl (fun z_10 => ?_)
  rw [show (sNo (I 232) ((w).toNat) (((I 232 (103 + 28 * ((w).toNat))) - 1) + 1).toNat) = sNo (I 232) ((w).toNat) (I 232 (103 + 28 * ((w).toNat))).toNat from by first | rfl | (congr 1; omega)]
  refine gw_aload_n C 0 dX8_miss_13 rfl rfl ?_
  refine gw_aload_n C 0 dX8_miss_14 rfl rfl ?_
  refine gw_aload_n C 0 dX8_miss_15 rfl rfl ?_
  refine gw_iload_n C 1 dX8_miss_16 rfl rfl ?_
  refine gw_iconst C dX8_miss_17 ?_
  refine gw_callVm C (as := [vI w, vI 2]) (st := [vR 231, vR 231, vI (sNo (I 232) ((w).toNat) (I 232 (103 + 28 * ((w).toNat))).toNat)]) (ci := 7) (T0 := TX8) (N := 10) (c_X8_of hl0 G I J ho w 2 (by omega)) dX8_miss_18 kX8_33 qX8_of hdX8_of ⟨Nat.le_of_ble_eq_true rfl, Nat.le_of_ble_eq_true rfl⟩ ⟨Nat.le_of_ble_eq_true rfl, Nat.le_of_ble_eq_true rfl⟩ (Nat.le_of_ble_eq_true rfl) rfl xs_231 xn_231 rfl (fun z_18 => ?_)
  rw [show (2 : Int).toNat = 2 from rfl]
  rw [show I 232 (102 + 28 * ((w).toNat) + 2) = (I 232 (104 + 28 * ((w).toNat))) from by first | rfl | (congr 1 <;> omega) | (congr 1; congr 1 <;> omega)]
  refine gw_iconst C dX8_miss_21 ?_
  refine gw_callVm C (as := [vI (I 232 (104 + 28 * ((w).toNat))), vI 0]) (st := [vR 231, vI (sNo (I 232) ((w).toNat) (I 232 (103 + 28 * ((w).toNat))).toNat)]) (ci := 7) (T0 := TX8) (N := 10) (c_X8_ofJoin hl0 G I J ho (I 232 (104 + 28 * ((w).toNat))) 0 (by omega)) dX8_miss_22 kX8_138 qX8_ofJoin hdX8_ofJoin ⟨Nat.le_of_ble_eq_true rfl, Nat.le_of_ble_eq_true rfl⟩ ⟨Nat.le_of_ble_eq_true rfl, Nat.le_of_ble_eq_true rfl⟩ (Nat.le_of_ble_eq_true rfl) rfl xs_231 xn_231 rfl (fun z_22 => ?_)
  rw [show (I 232 (104 + 28 * ((w).toNat))).toNat = (sLa (I 232) ((w).toNat)) from rfl]
  rw [show (0 : Int).toNat = 0 from rfl]
  rw [show I 232 (78 + 6 * (sLa (I 232) ((w).toNat)) + 0) = (I 232 (78 + 6 * (sLa (I 232) ((w).toNat)))) from by first | rfl | (congr 1 <;> omega) | (congr 1; congr 1 <;> omega)]
  refine gw_iload_n C 2 dX8_miss_25 rfl rfl ?_
  refine gw_if_eq C (tgt := 33) dX8_miss_26 (by decide) ⟨by decide, by decide⟩ (fun _ => ?_) (fun h => absurd h (by decide))
  refine gw_iconst C dX8_miss_33 ?_
  refine gw_callVm C (as := [vI (I 232 (78 + 6 * (sLa (I 232) ((w).toNat)))), vI 1]) (st := [vI (sNo (I 232) ((w).toNat) (I 232 (103 + 28 * ((w).toNat))).toNat)]) (ci := 7) (T0 := TX8) (N := 10) (c_X8_ofWire hl0 G I J ho (I 232 (78 + 6 * (sLa (I 232) ((w).toNat)))) 1 (by omega)) dX8_miss_34 kX8_81 qX8_ofWire hdX8_ofWire ⟨Nat.le_of_ble_eq_true rfl, Nat.le_of_ble_eq_true rfl⟩ ⟨Nat.le_of_ble_eq_true rfl, Nat.le_of_ble_eq_true rfl⟩ (Nat.le_of_ble_eq_true rfl) rfl xs_231 xn_231 rfl (fun z_34 => ?_)
  rw [show (I 232 (78 + 6 * (sLa (I 232) ((w).toNat)))).toNat = (sNear (I 232) (sLa (I 232) ((w).toNat))) from rfl]
  rw [show (1 : Int).toNat = 1 from rfl]
  rw [show I 232 (6 + 12 * (sNear (I 232) (sLa (I 232) ((w).toNat))) + 1) = (I 232 (7 + 12 * (sNear (I 232) (sLa (I 232) ((w).toNat))))) from by first | rfl | (congr 1 <;> omega) | (congr 1; congr 1 <;> omega)]
  refine gw_isub C dX8_miss_37 ?_
  exact gw_iret C (Nat.le_of_ble_eq_true rfl) (Nat.le_of_ble_eq_true rfl) dX8_miss_38 (⟨congrArg (fun q => some (vI q)) (by rfl), rfl, rfl⟩)
