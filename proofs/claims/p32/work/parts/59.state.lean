theorem sR_9 {S : Nat → Int} {i : Nat} (ho : Oks S) (hi : (i : Int) < S 3) : sR S i = -2000000000 ∨ (0 ≤ sR S i ∧ sR S i ≤ 100000) := by
  have w := ho.2.2.1 i hi
  by_cases h3 : S (8 + 12 * i) < 3
  · unfold sR restF
    rw [if_pos (by omega)]
    exact Or.inl rfl
  · have hl := smF_lo (t := sTu S i) (m := (S (8 + 12 * i)).toNat) (fun k hk => w.2 k (by omega)) ((S (8 + 12 * i)).toNat - 2) (by omega)
    have a0 : 0 ≤ sTu S i 0 ∧ sTu S i 0 ≤ 999 := by have := w.2 0 (by omega); exact this
    have a1 : 0 ≤ sTu S i ((S (8 + 12 * i)).toNat - 1) ∧ sTu S i ((S (8 + 12 * i)).toNat - 1) ≤ 999 := w.2 _ (by omega)
    rw [show (S (8 + 12 * i)).toNat - 2 + 1 = (S (8 + 12 * i)).toNat - 1 by omega] at hl
    unfold sR restF
    rw [if_neg (by omega)]
    have := tdiv_b (sTu S i 0 + sTu S i ((S (8 + 12 * i)).toNat - 1) + 2 * (smF ((S (8 + 12 * i)).toNat - 1) (sTu S i) - sTu S i 0)) (c := 2 * (((S (8 + 12 * i)).toNat : Int) - 1)) (by omega)
    have hb := this.1 (by omega)
    exact Or.inr ⟨by omega, by omega⟩
theorem sTT_m (S : Nat → Int) (t : Nat) : (sTT S t).tmod 8 = 0 ↔ (sTT S t = 0 ∨ sTT S t = 8) := by
  rcases sTT_v S t with h | h | h | h | h <;> rw [h] <;> decide
def anF (S : Nat → Int) (t : Nat) : Nat → Int := fun k => if (k : Int) = S (103 + 28 * t) then S (105 + 28 * t) else S (106 + 28 * t + 2 * k)
theorem bF_sum {s0 : Int} {a : Nat → Int} : ∀ i : Nat, normZ (bF s0 a i) = normZ (s0 + 648000 * ((i : Int) + 1) + smF i a) := by
  intro i
  induction i with
  | zero => rw [bF, smF]; congr 1; omega
  | succ i ih =>
    rw [bF_s, smF_s]
    unfold normZ at *
    omega
theorem bg_sum {S : Nat → Int} {t k : Nat} (h : (k : Int) ≤ S (103 + 28 * t)) : normZ (sS0 S (sFi S t) + 648000 * (k : Int) + smF (k + 1) (anF S t)) = bgF S t k := by
  have e : smF k (anF S t) = smF k (sAn S t) := smF_c k (fun j hj => by unfold anF sAn; rw [if_neg (by omega)])
  have b := bF_sum (s0 := sS0 S (sFi S t)) (a := sAn S t) k
  rw [smF_s, e]
  by_cases g : (k : Int) < S (103 + 28 * t)
  · rw [bg_1 g]
    unfold sBr
    rw [bF_s]
    rw [show anF S t k = sAn S t k by unfold anF sAn; rw [if_neg (by omega)]]
    unfold normZ at *
    omega
  · rw [bg_2 (by omega)]
    rw [show anF S t k = S (105 + 28 * t) by unfold anF; rw [if_pos (by omega)]]
    unfold sBr
    rw [show sLg S t = k by unfold sLg; omega]
    unfold normZ at *
    omega
theorem bgF_b (S : Nat → Int) (t k : Nat) : 0 ≤ bgF S t k ∧ bgF S t k < 1296000 := by
  unfold bgF
  split
  · exact sBr_b S t k
  · exact normZ_b _
set_option maxHeartbeats 4000000 in
set_option maxRecDepth 100000 in
theorem c_L_drift {l : Launch} (hl0 : l.stackTraces = false) (G : GG) (I J : GI) {z : Nat} {S : Nat → Int} (hR : rowL I = S) (ho : Oks S) (w : Nat) (hw : (w : Int) < S 3) : GM l yL_drift (.code yL_drift cL_drift 6 (some .int)) 1 20 0 0 G N0 SH RR [vR 233, vR 234, vI (w : Int)] z I J (memQ (some (vI (sD S w))) I J) gNo := by
  refine gm_of (lo0 := [some (vR 233), some (vR 234), some (vI (w : Int)), none, none, none]) hl0 (by decide) rfl (Nat.le_of_ble_eq_true rfl) ?_
  intro p e s m args below meth c C ht hgi
  have C : gC G p l s m args meth c cL_drift 6 RL (some .int) "drift" := C
  have h0 := ho.1
  have h3 := ho.2.1
  have hw9 := okW ho (i := w) hw
  refine gw_iconst C dL_drift_0 ?_
  refine gw_istore_n C (lo1 := [some (vR 233), some (vR 234), some (vI (w : Int)), some (vI 0), none, none]) 3 dL_drift_1 rfl (by decide) rfl ?_
  refine gw_iconst C dL_drift_2 ?_
  refine gw_istore C (lo1 := [some (vR 233), some (vR 234), some (vI (w : Int)), some (vI 0), some (vI 0), none]) dL_drift_3 (by decide) rfl ?_
  have loop_5 : ∀ (fuel : Nat) (g : Int) (k : Nat) (zz : Nat), (k = 0 ∨ k + 2 ≤ (S (8 + 12 * w)).toNat) → (g = drF (k + 2) (sTu S w)) → (0 ≤ g ∧ g ≤ 999) → (S (8 + 12 * w)).toNat + 3 - k < fuel → GW G p l e ({ frames := 1, cells := 0, slots := 0, locals := 20 } : Room) s m args below meth c 6 zz N0 SH RR I J 0 0 (vx_MQ below (GQ G N0 SH RR (memQ (some (vI (sD S w))) I J)) (GX G N0 SH RR gNo) args s 0 0 (ge G)) 5 [some (vR 233), some (vR 234), some (vI (w : Int)), some (vI g), some (vI (k : Int)), none] [] := by
    intro fuel
    induction fuel with
    | zero => intro g k zz hk hg hgb hf_5; exact absurd hf_5 (Nat.not_lt_zero _)
    | succ fuel ih_5 =>
      intro g k zz hk hg hgb hf_5
      refine gw_iload C dL_drift_5 rfl ?_
      refine gw_iconst C dL_drift_7 ?_
      refine gw_iadd C dL_drift_8 ?_
      refine gw_aload_n C 0 dL_drift_9 rfl rfl ?_
      refine gw_iload_n C 2 dL_drift_10 rfl rfl ?_
      refine gw_iald C w dL_drift_11 xs_233 xn_233 (by omega) (by omega) (by decide) (fun hI_11 => ?_)
      rw [show (I 233 w) = (((S (8 + 12 * w)).toNat : Nat) : Int) from by have e9 := lr_m (I := I) (i := w) (by omega); rw [hR] at e9; omega] at hI_11 ⊢
      refine gw_icmp_ge C (tgt := 60) dL_drift_12 (by decide) (by first | omega | assumption | exact hgi _ _) hI_11 (fun h_12 => ?_) (fun h_12 => ?_)
      · skip
        refine gw_iload_n C 3 dL_drift_60 rfl rfl ?_
        exact gw_iret C (Nat.le_of_ble_eq_true rfl) (Nat.le_of_ble_eq_true rfl) dL_drift_61 (⟨congrArg (fun q => some (vI q)) (by rw [hg]; unfold sD; rcases (show k + 2 = (S (8 + 12 * w)).toNat ∨ ((S (8 + 12 * w)).toNat ≤ 2 ∧ k = 0) by omega) with e | e; rw [e]; rw [e.2, drF_lo (by omega), drF_lo (by omega)]), rfl, rfl⟩)
      · skip
        refine gw_aload_n C 1 dL_drift_15 rfl rfl ?_
        refine gw_bipush C dL_drift_16 rfl ?_
        refine gw_iload_n C 2 dL_drift_18 rfl rfl ?_
        refine gw_imul C dL_drift_19 ?_
        refine gw_iload C dL_drift_20 rfl ?_
        refine gw_iadd C dL_drift_22 ?_
        refine gw_iald C ((9 * w) + k) dL_drift_23 xs_234 xn_234 (by omega) (by omega) (by decide) (fun hI_23 => ?_)
        rw [show (I 234 ((9 * w) + k)) = (S (9 + 12 * w + k)) from by have e9 := lr_r (I := I) (i := w) (k := k) (by omega) (by omega); rw [hR] at e9; exact e9] at hI_23 ⊢
        have hb_23 := hw9.2 k (by omega)
        refine gw_aload_n C 1 dL_drift_24 rfl rfl ?_
        refine gw_bipush C dL_drift_25 rfl ?_
        refine gw_iload_n C 2 dL_drift_27 rfl rfl ?_
        refine gw_imul C dL_drift_28 ?_
        refine gw_iload C dL_drift_29 rfl ?_
        refine gw_iadd C dL_drift_31 ?_
        refine gw_iconst C dL_drift_32 ?_
        refine gw_iadd C dL_drift_33 ?_
        refine gw_iald C (((9 * w) + k) + 2) dL_drift_34 xs_234 xn_234 (by omega) (by omega) (by decide) (fun hI_34 => ?_)
        rw [show (I 234 (((9 * w) + k) + 2)) = (S (9 + 12 * w + (k + 2))) from by have e9 := lr_r (I := I) (i := w) (k := (k + 2)) (by omega) (by omega); rw [hR] at e9; exact e9] at hI_34 ⊢
        have hb_34 := hw9.2 (k + 2) (by omega)
        refine gw_isub C dL_drift_35 ?_
        refine gw_callSm C (as := [vI ((S (9 + 12 * w + k)) - (S (9 + 12 * w + (k + 2))))]) (st := []) (c_L_size hl0 G ((S (9 + 12 * w + k)) - (S (9 + 12 * w + (k + 2)))) (by omega)) dL_drift_36 kL_74 qL_size hdL_size ⟨Nat.le_of_ble_eq_true rfl, Nat.le_of_ble_eq_true rfl⟩ ⟨Nat.le_of_ble_eq_true rfl, Nat.le_of_ble_eq_true rfl⟩ (Nat.le_of_ble_eq_true rfl) rfl (fun z_36 => ?_)
        refine gw_istore C (lo1 := [some (vR 233), some (vR 234), some (vI (w : Int)), some (vI g), some (vI (k : Int)), some (vI ((((S (9 + 12 * w + k)) - (S (9 + 12 * w + (k + 2))))).natAbs : Int))]) dL_drift_39 (by decide) rfl ?_
        refine gw_iload C dL_drift_41 rfl ?_
        refine gw_iload_n C 3 dL_drift_43 rfl rfl ?_
        refine gw_icmp_le C (tgt := 52) dL_drift_44 (by decide) (by first | omega | assumption | exact hgi _ _) (by first | omega | assumption | exact hgi _ _) (fun h_44 => ?_) (fun h_44 => ?_)
        · skip
          refine gw_iload_n C 3 dL_drift_52 rfl rfl ?_
          refine gw_istore_n C (lo1 := [some (vR 233), some (vR 234), some (vI (w : Int)), some (vI g), some (vI (k : Int)), some (vI ((((S (9 + 12 * w + k)) - (S (9 + 12 * w + (k + 2))))).natAbs : Int))]) 3 dL_drift_53 rfl (by decide) rfl ?_
          refine gw_iinc C (lo1 := [some (vR 233), some (vR 234), some (vI (w : Int)), some (vI g), some (vI ((k : Int) + 1)), some (vI ((((S (9 + 12 * w + k)) - (S (9 + 12 * w + (k + 2))))).natAbs : Int))]) dL_drift_54 rfl (by decide) rfl ?_
          refine gw_goto C (tgt := 5) dL_drift_57 (by decide) ?_
          have e1 : drF (k + 2 + 1) (sTu S w) = if drF (k + 2) (sTu S w) < ((S (9 + 12 * w + (k + 2)) - S (9 + 12 * w + k)).natAbs : Int) then ((S (9 + 12 * w + (k + 2)) - S (9 + 12 * w + k)).natAbs : Int) else drF (k + 2) (sTu S w) := drF_s (n := k + 2) (t := sTu S w) (by omega)
          exact gw_weak (lo' := [some (vR 233), some (vR 234), some (vI (w : Int)), some (vI g), some (vI (((k + 1) : Nat) : Int)), none]) ⟨rfl, rfl, rfl, rfl, congrArg (fun q => some (vI q)) (by omega), trivial⟩ (ih_5 g (k + 1) z_36 (by omega) (by rw [show k + 1 + 2 = k + 2 + 1 from rfl, e1]; split <;> omega) (by omega) (by omega))
        · skip
          refine gw_iload C dL_drift_47 rfl ?_
          refine gw_goto C (tgt := 53) dL_drift_49 (by decide) ?_
          refine gw_istore_n C (lo1 := [some (vR 233), some (vR 234), some (vI (w : Int)), some (vI ((((S (9 + 12 * w + k)) - (S (9 + 12 * w + (k + 2))))).natAbs : Int)), some (vI (k : Int)), some (vI ((((S (9 + 12 * w + k)) - (S (9 + 12 * w + (k + 2))))).natAbs : Int))]) 3 dL_drift_53 rfl (by decide) rfl ?_
          refine gw_iinc C (lo1 := [some (vR 233), some (vR 234), some (vI (w : Int)), some (vI ((((S (9 + 12 * w + k)) - (S (9 + 12 * w + (k + 2))))).natAbs : Int)), some (vI ((k : Int) + 1)), some (vI ((((S (9 + 12 * w + k)) - (S (9 + 12 * w + (k + 2))))).natAbs : Int))]) dL_drift_54 rfl (by decide) rfl ?_
          refine gw_goto C (tgt := 5) dL_drift_57 (by decide) ?_
          have e1 : drF (k + 2 + 1) (sTu S w) = if drF (k + 2) (sTu S w) < ((S (9 + 12 * w + (k + 2)) - S (9 + 12 * w + k)).natAbs : Int) then ((S (9 + 12 * w + (k + 2)) - S (9 + 12 * w + k)).natAbs : Int) else drF (k + 2) (sTu S w) := drF_s (n := k + 2) (t := sTu S w) (by omega)
          exact gw_weak (lo' := [some (vR 233), some (vR 234), some (vI (w : Int)), some (vI ((((S (9 + 12 * w + k)) - (S (9 + 12 * w + (k + 2))))).natAbs : Int)), some (vI (((k + 1) : Nat) : Int)), none]) ⟨rfl, rfl, rfl, rfl, congrArg (fun q => some (vI q)) (by omega), trivial⟩ (ih_5 ((((S (9 + 12 * w + k)) - (S (9 + 12 * w + (k + 2))))).natAbs : Int) (k + 1) z_36 (by omega) (by rw [show k + 1 + 2 = k + 2 + 1 from rfl, e1]; split <;> omega) (by omega) (by omega))
  exact gw_weak (lo' := [some (vR 233), some (vR 234), some (vI (w : Int)), some (vI 0), some (vI (0 : Int)), none]) ⟨rfl, rfl, rfl, rfl, congrArg (fun q => some (vI q)) (by omega), trivial⟩ (loop_5 _ 0 0 z (by omega) (by rw [drF_lo (by omega)]) (by omega) (Nat.lt_succ_self _))
set_option maxHeartbeats 4000000 in
set_option maxRecDepth 100000 in
theorem c_L_wrong {l : Launch} (hl0 : l.stackTraces = false) (G : GG) (I J : GI) {z : Nat} {S : Nat → Int} (hR : rowL I = S) (ho : Oks S) (w : Nat) (hw : (w : Int) < S 3) : GM l yL_wrong (.code yL_wrong cL_wrong 4 (some .int)) 2 45 0 0 G N0 SH RR [vR 231, vR 233, vR 234, vI (w : Int)] z I J (memQ (some (vI (sT S w))) I J) gNo := by
  refine gm_of (lo0 := [some (vR 231), some (vR 233), some (vR 234), some (vI (w : Int))]) hl0 (by decide) rfl (Nat.le_of_ble_eq_true rfl) ?_
  intro p e s m args below meth c C ht hgi
  have C : gC G p l s m args meth c cL_wrong 4 RL (some .int) "wrong" := C
  have h0 := ho.1
  have h3 := ho.2.1
  have hw9 := okW ho (i := w) hw
  refine gw_aload_n C 1 dL_wrong_0 rfl rfl ?_
  refine gw_iload_n C 3 dL_wrong_1 rfl rfl ?_
  refine gw_iald C w dL_wrong_2 xs_233 xn_233 (by omega) (by omega) (by decide) (fun hI_2 => ?_)
  rw [show (I 233 w) = (((S (8 + 12 * w)).toNat : Nat) : Int) from by have e9 := lr_m (I := I) (i := w) (by omega); rw [hR] at e9; omega] at hI_2 ⊢
  refine gw_iconst C dL_wrong_3 ?_
  refine gw_icmp_ge C (tgt := 11) dL_wrong_4 (by decide) hI_2 ⟨by decide, by decide⟩ (fun h_4 => ?_) (fun h_4 => ?_)
  · skip
    refine gw_aload_n C 1 dL_wrong_11 rfl rfl ?_
    refine gw_aload_n C 2 dL_wrong_12 rfl rfl ?_
    refine gw_iload_n C 3 dL_wrong_13 rfl rfl ?_
    refine gw_callSm C (as := [vR 233, vR 234, vI (w : Int)]) (st := []) (c_L_drift hl0 G I J hR ho w (by omega)) dL_wrong_14 kL_77 qL_drift hdL_drift ⟨Nat.le_of_ble_eq_true rfl, Nat.le_of_ble_eq_true rfl⟩ ⟨Nat.le_of_ble_eq_true rfl, Nat.le_of_ble_eq_true rfl⟩ (Nat.le_of_ble_eq_true rfl) rfl (fun z_14 => ?_)
    have hr_14 := sD_b ho (i := w) (by omega)
    refine gw_aload_n C 0 dL_wrong_17 rfl rfl ?_
    refine gw_iconst C dL_wrong_18 ?_
    refine gw_iald C 0 dL_wrong_19 xs_231 xn_231 (by omega) (by omega) (by decide) (fun hI_19 => ?_)
    rw [show (I 231 0) = (S 0) from by have e9 := lr_g (I := I) (k := 0) (by omega); rw [hR] at e9; exact e9] at hI_19 ⊢
    refine gw_icmp_le C (tgt := 27) dL_wrong_20 (by decide) (by first | omega | assumption | exact hgi _ _) hI_19 (fun h_20 => ?_) (fun h_20 => ?_)
    · skip
      refine gw_iconst C dL_wrong_27 ?_
      exact gw_iret C (Nat.le_of_ble_eq_true rfl) (Nat.le_of_ble_eq_true rfl) dL_wrong_28 (⟨congrArg (fun q => some (vI q)) (by unfold sT wtF; first | (rw [if_pos (by omega)]; done) | (rw [if_neg (by omega), if_pos (by show S 0 < sD S w; omega)]; done) | (rw [if_neg (by omega), if_neg (by show ¬ S 0 < sD S w; omega)]; done)), rfl, rfl⟩)
    · skip
      refine gw_iconst C dL_wrong_23 ?_
      refine gw_goto C (tgt := 28) dL_wrong_24 (by decide) ?_
      exact gw_iret C (Nat.le_of_ble_eq_true rfl) (Nat.le_of_ble_eq_true rfl) dL_wrong_28 (⟨congrArg (fun q => some (vI q)) (by unfold sT wtF; first | (rw [if_pos (by omega)]; done) | (rw [if_neg (by omega), if_pos (by show S 0 < sD S w; omega)]; done) | (rw [if_neg (by omega), if_neg (by show ¬ S 0 < sD S w; omega)]; done)), rfl, rfl⟩)
  · skip
    refine gw_iconst C dL_wrong_7 ?_
    refine gw_goto C (tgt := 28) dL_wrong_8 (by decide) ?_
    exact gw_iret C (Nat.le_of_ble_eq_true rfl) (Nat.le_of_ble_eq_true rfl) dL_wrong_28 (⟨congrArg (fun q => some (vI q)) (by unfold sT wtF; first | (rw [if_pos (by omega)]; done) | (rw [if_neg (by omega), if_pos (by show S 0 < sD S w; omega)]; done) | (rw [if_neg (by omega), if_neg (by show ¬ S 0 < sD S w; omega)]; done)), rfl, rfl⟩)
set_option maxHeartbeats 4000000 in
set_option maxRecDepth 100000 in
theorem c_L_rest {l : Launch} (hl0 : l.stackTraces = false) (G : GG) (I J : GI) {z : Nat} {S : Nat → Int} (hR : rowL I = S) (ho : Oks S) (w : Nat) (hw : (w : Int) < S 3) : GM l yL_rest (.code yL_rest cL_rest 5 (some .int)) 0 0 0 0 G N0 SH RR [vR 233, vR 234, vI (w : Int)] z I J (memQ (some (vI (sR S w))) I J) gNo := by
  refine gm_of (lo0 := [some (vR 233), some (vR 234), some (vI (w : Int)), none, none]) hl0 (by decide) rfl (Nat.le_of_ble_eq_true rfl) ?_
  intro p e s m args below meth c C ht hgi
  have C : gC G p l s m args meth c cL_rest 5 RL (some .int) "rest" := C
  have h0 := ho.1
  have h3 := ho.2.1
  have hw9 := okW ho (i := w) hw
  refine gw_iconst C dL_rest_0 ?_
  refine gw_istore_n C (lo1 := [some (vR 233), some (vR 234), some (vI (w : Int)), some (vI 0), none]) 3 dL_rest_1 rfl (by decide) rfl ?_
  refine gw_iconst C dL_rest_2 ?_
  refine gw_istore C (lo1 := [some (vR 233), some (vR 234), some (vI (w : Int)), some (vI 0), some (vI 0)]) dL_rest_3 (by decide) rfl ?_
  have loop_5 : ∀ (fuel : Nat) (u : Int) (k : Nat), (k = 0 ∨ k + 1 ≤ (S (8 + 12 * w)).toNat) → (u = smF k (sTu S w) + smF (k + 1) (sTu S w) - sTu S w 0) → (S (8 + 12 * w)).toNat + 3 - k < fuel → GW G p l e ({ frames := 0, cells := 0, slots := 0, locals := 0 } : Room) s m args below meth c 5 z N0 SH RR I J 0 0 (vx_MQ below (GQ G N0 SH RR (memQ (some (vI (sR S w))) I J)) (GX G N0 SH RR gNo) args s 0 0 (ge G)) 5 [some (vR 233), some (vR 234), some (vI (w : Int)), some (vI u), some (vI (k : Int))] [] := by
    intro fuel
    induction fuel with
    | zero => intro u k hk hs hf_5; exact absurd hf_5 (Nat.not_lt_zero _)
    | succ fuel ih_5 =>
      intro u k hk hs hf_5
      refine gw_iload C dL_rest_5 rfl ?_
      refine gw_iconst C dL_rest_7 ?_
      refine gw_iadd C dL_rest_8 ?_
      refine gw_aload_n C 0 dL_rest_9 rfl rfl ?_
      refine gw_iload_n C 2 dL_rest_10 rfl rfl ?_
      refine gw_iald C w dL_rest_11 xs_233 xn_233 (by omega) (by omega) (by decide) (fun hI_11 => ?_)
      rw [show (I 233 w) = (((S (8 + 12 * w)).toNat : Nat) : Int) from by have e9 := lr_m (I := I) (i := w) (by omega); rw [hR] at e9; omega] at hI_11 ⊢
      refine gw_icmp_ge C (tgt := 45) dL_rest_12 (by decide) (by first | omega | assumption | exact hgi _ _) hI_11 (fun h_12 => ?_) (fun h_12 => ?_)
      · skip
        refine gw_aload_n C 0 dL_rest_45 rfl rfl ?_
        refine gw_iload_n C 2 dL_rest_46 rfl rfl ?_
        refine gw_iald C w dL_rest_47 xs_233 xn_233 (by omega) (by omega) (by decide) (fun hI_47 => ?_)
        rw [show (I 233 w) = (((S (8 + 12 * w)).toNat : Nat) : Int) from by have e9 := lr_m (I := I) (i := w) (by omega); rw [hR] at e9; omega] at hI_47 ⊢
        refine gw_iconst C dL_rest_48 ?_
        refine gw_icmp_ge C (tgt := 57) dL_rest_49 (by decide) hI_47 ⟨by decide, by decide⟩ (fun h_49 => ?_) (fun h_49 => ?_)
        · skip
          have hsb := smF_b (m := (S (8 + 12 * w)).toNat) (M := 999) (t := sTu S w) (fun j hj => hw9.2 j (by omega)) k (by omega)
          have hsb1 := smF_b (m := (S (8 + 12 * w)).toNat) (M := 999) (t := sTu S w) (fun j hj => hw9.2 j (by omega)) (k + 1) (by omega)
          have h00 : 0 ≤ sTu S w 0 ∧ sTu S w 0 ≤ 999 := hw9.2 0 (by omega)
          have e1 := smF_s (n := k) (t := sTu S w)
          refine gw_iload_n C 3 dL_rest_57 rfl rfl ?_
          refine gw_iconst C dL_rest_58 ?_
          refine gw_aload_n C 0 dL_rest_59 rfl rfl ?_
          refine gw_iload_n C 2 dL_rest_60 rfl rfl ?_
          refine gw_iald C w dL_rest_61 xs_233 xn_233 (by omega) (by omega) (by decide) (fun hI_61 => ?_)
          rw [show (I 233 w) = (((S (8 + 12 * w)).toNat : Nat) : Int) from by have e9 := lr_m (I := I) (i := w) (by omega); rw [hR] at e9; omega] at hI_61 ⊢
          refine gw_imul C dL_rest_62 ?_
          refine gw_iconst C dL_rest_63 ?_
          refine gw_isub C dL_rest_64 ?_
          refine gw_idiv C dL_rest_65 (by first | omega | assumption | exact hgi _ _) (by first | omega | assumption | exact hgi _ _) (by omega) ?_
          exact gw_iret C (Nat.le_of_ble_eq_true rfl) (Nat.le_of_ble_eq_true rfl) dL_rest_66 (⟨congrArg (fun q => some (vI q)) (by unfold sR restF; rw [if_neg (by omega), show (S (8 + 12 * w)).toNat - 1 = k by omega]; congr 1 <;> omega), rfl, rfl⟩)
        · skip
          refine gw_ldc C (x := (-2000000000)) dL_rest_52 kL_81 (by decide) ?_
          refine gw_goto C (tgt := 66) dL_rest_54 (by decide) ?_
          exact gw_iret C (Nat.le_of_ble_eq_true rfl) (Nat.le_of_ble_eq_true rfl) dL_rest_66 (⟨congrArg (fun q => some (vI q)) (by unfold sR restF; rw [if_pos (by omega)]), rfl, rfl⟩)
      · skip
        refine gw_iload_n C 3 dL_rest_15 rfl rfl ?_
        refine gw_aload_n C 1 dL_rest_16 rfl rfl ?_
        refine gw_bipush C dL_rest_17 rfl ?_
        refine gw_iload_n C 2 dL_rest_19 rfl rfl ?_
        refine gw_imul C dL_rest_20 ?_
        refine gw_iload C dL_rest_21 rfl ?_
        refine gw_iadd C dL_rest_23 ?_
        refine gw_iald C ((9 * w) + k) dL_rest_24 xs_234 xn_234 (by omega) (by omega) (by decide) (fun hI_24 => ?_)
        rw [show (I 234 ((9 * w) + k)) = (S (9 + 12 * w + k)) from by have e9 := lr_r (I := I) (i := w) (k := k) (by omega) (by omega); rw [hR] at e9; exact e9] at hI_24 ⊢
        have hb_24 := hw9.2 k (by omega)
        refine gw_aload_n C 1 dL_rest_25 rfl rfl ?_
        refine gw_bipush C dL_rest_26 rfl ?_
        refine gw_iload_n C 2 dL_rest_28 rfl rfl ?_
        refine gw_imul C dL_rest_29 ?_
        refine gw_iload C dL_rest_30 rfl ?_
        refine gw_iadd C dL_rest_32 ?_
        refine gw_iconst C dL_rest_33 ?_
        refine gw_iadd C dL_rest_34 ?_
        refine gw_iald C (((9 * w) + k) + 1) dL_rest_35 xs_234 xn_234 (by omega) (by omega) (by decide) (fun hI_35 => ?_)
        rw [show (I 234 (((9 * w) + k) + 1)) = (S (9 + 12 * w + (k + 1))) from by have e9 := lr_r (I := I) (i := w) (k := (k + 1)) (by omega) (by omega); rw [hR] at e9; exact e9] at hI_35 ⊢
        have hb_35 := hw9.2 (k + 1) (by omega)
        refine gw_iadd C dL_rest_36 ?_
        refine gw_iadd C dL_rest_37 ?_
        refine gw_istore_n C (lo1 := [some (vR 233), some (vR 234), some (vI (w : Int)), some (vI (u + ((S (9 + 12 * w + k)) + (S (9 + 12 * w + (k + 1)))))), some (vI (k : Int))]) 3 dL_rest_38 rfl (by decide) rfl ?_
        refine gw_iinc C (lo1 := [some (vR 233), some (vR 234), some (vI (w : Int)), some (vI (u + ((S (9 + 12 * w + k)) + (S (9 + 12 * w + (k + 1)))))), some (vI ((k : Int) + 1))]) dL_rest_39 rfl (by decide) rfl ?_
        refine gw_goto C (tgt := 5) dL_rest_42 (by decide) ?_
        have e1 : smF (k + 1) (sTu S w) = smF k (sTu S w) + S (9 + 12 * w + k) := smF_s (n := k) (t := sTu S w)
        have e2 : smF (k + 1 + 1) (sTu S w) = smF (k + 1) (sTu S w) + S (9 + 12 * w + (k + 1)) := smF_s (n := k + 1) (t := sTu S w)
        exact gw_weak (lo' := [some (vR 233), some (vR 234), some (vI (w : Int)), some (vI (u + ((S (9 + 12 * w + k)) + (S (9 + 12 * w + (k + 1)))))), some (vI (((k + 1) : Nat) : Int))]) ⟨rfl, rfl, rfl, rfl, congrArg (fun q => some (vI q)) (by omega), trivial⟩ (ih_5 (u + ((S (9 + 12 * w + k)) + (S (9 + 12 * w + (k + 1))))) (k + 1) (by omega) (by omega) (by omega))
  exact gw_weak (lo' := [some (vR 233), some (vR 234), some (vI (w : Int)), some (vI 0), some (vI (0 : Int))]) ⟨rfl, rfl, rfl, rfl, congrArg (fun q => some (vI q)) (by omega), trivial⟩ (loop_5 _ 0 0 (by omega) (by rw [smF_s, smF]; omega) (Nat.lt_succ_self _))
set_option maxHeartbeats 4000000 in
set_option maxRecDepth 100000 in
theorem c_L_wires {l : Launch} (hl0 : l.stackTraces = false) (G : GG) (I J : GI) {z : Nat} {S : Nat → Int} (hR : rowL I = S) (ho : Oks S) (k : Nat) (hk : (k : Int) < S 4) : GM l yL_wires (.code yL_wires cL_wires 6 (some .int)) 3 68 0 0 G N0 SH RR [vR 231, vR 233, vR 234, vR 235, vI (k : Int)] z I J (memQ (some (vI (sC S k))) I J) gNo := by
  refine gm_of (lo0 := [some (vR 231), some (vR 233), some (vR 234), some (vR 235), some (vI (k : Int)), none]) hl0 (by decide) rfl (Nat.le_of_ble_eq_true rfl) ?_
  intro p e s m args below meth c C ht hgi
  have C : gC G p l s m args meth c cL_wires 6 RL (some .int) "wires" := C
  have h0 := ho.1
  have h3 := ho.2.1
  have hj9 := ho.2.2.2.1 k hk
  refine gw_aload_n C 0 dL_wires_0 rfl rfl ?_
  refine gw_aload_n C 1 dL_wires_1 rfl rfl ?_
  refine gw_aload_n C 2 dL_wires_2 rfl rfl ?_
  refine gw_aload_n C 3 dL_wires_3 rfl rfl ?_
  refine gw_bipush C dL_wires_4 rfl ?_
  refine gw_iload C dL_wires_6 rfl ?_
  refine gw_imul C dL_wires_8 ?_
  refine gw_iald C (6 * k) dL_wires_9 xs_235 xn_235 (by omega) (by omega) (by decide) (fun hI_9 => ?_)
  rw [show (I 235 (6 * k)) = (((S (78 + 6 * k)).toNat : Nat) : Int) from by have e9 := lr_j0 (I := I) (i := k) (by omega); rw [hR] at e9; omega] at hI_9 ⊢
  refine gw_callSm C (as := [vR 231, vR 233, vR 234, vI (((S (78 + 6 * k)).toNat : Nat) : Int)]) (st := []) (c_L_wrong hl0 G I J hR ho ((S (78 + 6 * k)).toNat) (by omega)) dL_wires_10 kL_82 qL_wrong hdL_wrong ⟨Nat.le_of_ble_eq_true rfl, Nat.le_of_ble_eq_true rfl⟩ ⟨Nat.le_of_ble_eq_true rfl, Nat.le_of_ble_eq_true rfl⟩ (Nat.le_of_ble_eq_true rfl) rfl (fun z_10 => ?_)
  have hr_10 := sT_v S ((S (78 + 6 * k)).toNat)
  refine gw_istore C (lo1 := [some (vR 231), some (vR 233), some (vR 234), some (vR 235), some (vI (k : Int)), some (vI (sT S ((S (78 + 6 * k)).toNat)))]) dL_wires_13 (by decide) rfl ?_
  refine gw_iload C dL_wires_15 rfl ?_
  refine gw_if_le C (tgt := 25) dL_wires_17 (by decide) (by first | omega | assumption | exact hgi _ _) (fun h_17 => ?_) (fun h_17 => ?_)
  · skip
    refine gw_aload_n C 0 dL_wires_25 rfl rfl ?_
    refine gw_aload_n C 1 dL_wires_26 rfl rfl ?_
    refine gw_aload_n C 2 dL_wires_27 rfl rfl ?_
    refine gw_aload_n C 3 dL_wires_28 rfl rfl ?_
    refine gw_bipush C dL_wires_29 rfl ?_
    refine gw_iload C dL_wires_31 rfl ?_
    refine gw_imul C dL_wires_33 ?_
    refine gw_iconst C dL_wires_34 ?_
    refine gw_iadd C dL_wires_35 ?_
    refine gw_iald C ((6 * k) + 1) dL_wires_36 xs_235 xn_235 (by omega) (by omega) (by decide) (fun hI_36 => ?_)
    rw [show (I 235 ((6 * k) + 1)) = (((S (79 + 6 * k)).toNat : Nat) : Int) from by have e9 := lr_j1 (I := I) (i := k) (by omega); rw [hR] at e9; omega] at hI_36 ⊢
    refine gw_callSm C (as := [vR 231, vR 233, vR 234, vI (((S (79 + 6 * k)).toNat : Nat) : Int)]) (st := []) (c_L_wrong hl0 G I J hR ho ((S (79 + 6 * k)).toNat) (by omega)) dL_wires_37 kL_82 qL_wrong hdL_wrong ⟨Nat.le_of_ble_eq_true rfl, Nat.le_of_ble_eq_true rfl⟩ ⟨Nat.le_of_ble_eq_true rfl, Nat.le_of_ble_eq_true rfl⟩ (Nat.le_of_ble_eq_true rfl) rfl (fun z_37 => ?_)
    have hr_37 := sT_v S ((S (79 + 6 * k)).toNat)
    exact gw_iret C (Nat.le_of_ble_eq_true rfl) (Nat.le_of_ble_eq_true rfl) dL_wires_40 (⟨congrArg (fun q => some (vI q)) (by unfold sC; first | (rw [if_pos (by show sT S (S (78 + 6 * k)).toNat ≠ 0; omega)]; done) | (rw [if_neg (by show ¬ sT S (S (78 + 6 * k)).toNat ≠ 0; omega)]; done)), rfl, rfl⟩)
  · skip
    refine gw_iload C dL_wires_20 rfl ?_
    refine gw_goto C (tgt := 40) dL_wires_22 (by decide) ?_
    exact gw_iret C (Nat.le_of_ble_eq_true rfl) (Nat.le_of_ble_eq_true rfl) dL_wires_40 (⟨congrArg (fun q => some (vI q)) (by unfold sC; first | (rw [if_pos (by show sT S (S (78 + 6 * k)).toNat ≠ 0; omega)]; done) | (rw [if_neg (by show ¬ sT S (S (78 + 6 * k)).toNat ≠ 0; omega)]; done)), rfl, rfl⟩)
set_option maxHeartbeats 4000000 in
set_option maxRecDepth 100000 in
theorem c_L_joint {l : Launch} (hl0 : l.stackTraces = false) (G : GG) (I J : GI) {z : Nat} {S : Nat → Int} (hR : rowL I = S) (ho : Oks S) (k : Nat) (hk : (k : Int) < S 4) : GM l yL_joint (.code yL_joint cL_joint 5 (some .int)) 4 93 0 0 G N0 SH RR [vR 231, vR 233, vR 234, vR 235, vI (k : Int)] z I J (memQ (some (vI (sJ S k))) I J) gNo := by
  refine gm_of (lo0 := [some (vR 231), some (vR 233), some (vR 234), some (vR 235), some (vI (k : Int))]) hl0 (by decide) rfl (Nat.le_of_ble_eq_true rfl) ?_
  intro p e s m args below meth c C ht hgi
  have C : gC G p l s m args meth c cL_joint 5 RL (some .int) "joint" := C
  have h0 := ho.1
  have h3 := ho.2.1
  have hj9 := ho.2.2.2.1 k hk
  refine gw_aload_n C 0 dL_joint_0 rfl rfl ?_
  refine gw_aload_n C 1 dL_joint_1 rfl rfl ?_
  refine gw_aload_n C 2 dL_joint_2 rfl rfl ?_
  refine gw_aload_n C 3 dL_joint_3 rfl rfl ?_
  refine gw_iload C dL_joint_4 rfl ?_
  refine gw_callSm C (as := [vR 231, vR 233, vR 234, vR 235, vI (k : Int)]) (st := []) (c_L_wires hl0 G I J hR ho k (by omega)) dL_joint_6 kL_86 qL_wires hdL_wires ⟨Nat.le_of_ble_eq_true rfl, Nat.le_of_ble_eq_true rfl⟩ ⟨Nat.le_of_ble_eq_true rfl, Nat.le_of_ble_eq_true rfl⟩ (Nat.le_of_ble_eq_true rfl) rfl (fun z_6 => ?_)
  have hr_6 := sC_v S k
  refine gw_if_le C (tgt := 16) dL_joint_9 (by decide) (by first | omega | assumption | exact hgi _ _) (fun h_9 => ?_) (fun h_9 => ?_)
  · skip
    refine gw_aload_n C 3 dL_joint_16 rfl rfl ?_
    refine gw_bipush C dL_joint_17 rfl ?_
    refine gw_iload C dL_joint_19 rfl ?_
    refine gw_imul C dL_joint_21 ?_
    refine gw_iconst C dL_joint_22 ?_
    refine gw_iadd C dL_joint_23 ?_
    refine gw_iald C ((6 * k) + 4) dL_joint_24 xs_235 xn_235 (by omega) (by omega) (by decide) (fun hI_24 => ?_)
    rw [show (I 235 ((6 * k) + 4)) = (S (82 + 6 * k)) from by have e9 := lr_j4 (I := I) (i := k) (by omega); rw [hR] at e9; exact e9] at hI_24 ⊢
    refine gw_iconst C dL_joint_25 ?_
    refine gw_aload_n C 3 dL_joint_26 rfl rfl ?_
    refine gw_bipush C dL_joint_27 rfl ?_
    refine gw_iload C dL_joint_29 rfl ?_
    refine gw_imul C dL_joint_31 ?_
    refine gw_iconst C dL_joint_32 ?_
    refine gw_iadd C dL_joint_33 ?_
    refine gw_iald C ((6 * k) + 3) dL_joint_34 xs_235 xn_235 (by omega) (by omega) (by decide) (fun hI_34 => ?_)
    rw [show (I 235 ((6 * k) + 3)) = (S (81 + 6 * k)) from by have e9 := lr_j3 (I := I) (i := k) (by omega); rw [hR] at e9; exact e9] at hI_34 ⊢
    refine gw_imul C dL_joint_35 ?_
    refine gw_icmp_le C (tgt := 43) dL_joint_36 (by decide) hI_24 (by first | omega | assumption | exact hgi _ _) (fun h_36 => ?_) (fun h_36 => ?_)
    · skip
      refine gw_iconst C dL_joint_43 ?_
      exact gw_iret C (Nat.le_of_ble_eq_true rfl) (Nat.le_of_ble_eq_true rfl) dL_joint_44 (⟨congrArg (fun q => some (vI q)) (by unfold sJ; first | (rw [if_pos (by omega)]; done) | (rw [if_neg (by omega), if_pos (by omega)]; done) | (rw [if_neg (by omega), if_neg (by omega)]; done)), rfl, rfl⟩)
    · skip
      refine gw_iconst C dL_joint_39 ?_
      refine gw_goto C (tgt := 44) dL_joint_40 (by decide) ?_
      exact gw_iret C (Nat.le_of_ble_eq_true rfl) (Nat.le_of_ble_eq_true rfl) dL_joint_44 (⟨congrArg (fun q => some (vI q)) (by unfold sJ; first | (rw [if_pos (by omega)]; done) | (rw [if_neg (by omega), if_pos (by omega)]; done) | (rw [if_neg (by omega), if_neg (by omega)]; done)), rfl, rfl⟩)
  · skip
    refine gw_iconst C dL_joint_12 ?_
    refine gw_goto C (tgt := 44) dL_joint_13 (by decide) ?_
    exact gw_iret C (Nat.le_of_ble_eq_true rfl) (Nat.le_of_ble_eq_true rfl) dL_joint_44 (⟨congrArg (fun q => some (vI q)) (by unfold sJ; first | (rw [if_pos (by omega)]; done) | (rw [if_neg (by omega), if_pos (by omega)]; done) | (rw [if_neg (by omega), if_neg (by omega)]; done)), rfl, rfl⟩)
set_option maxHeartbeats 4000000 in
set_option maxRecDepth 100000 in
theorem c_L_start {l : Launch} (hl0 : l.stackTraces = false) (G : GG) (I J : GI) {z : Nat} {S : Nat → Int} (hR : rowL I = S) (ho : Oks S) (k : Nat) (hk : (k : Int) < S 4) : GM l yL_start (.code yL_start cL_start 8 (some .int)) 1 24 0 0 G N0 SH RR [vR 233, vR 234, vR 235, vI (k : Int)] z I J (memQ (some (vI (sS0 S k))) I J) gNo := by
  refine gm_of (lo0 := [some (vR 233), some (vR 234), some (vR 235), some (vI (k : Int)), none, none, none, none]) hl0 (by decide) rfl (Nat.le_of_ble_eq_true rfl) ?_
  intro p e s m args below meth c C ht hgi
  have C : gC G p l s m args meth c cL_start 8 RL (some .int) "start" := C
  have h0 := ho.1
  have h3 := ho.2.1
  have hj9 := ho.2.2.2.1 k hk
  refine gw_aload_n C 0 dL_start_0 rfl rfl ?_
  refine gw_aload_n C 1 dL_start_1 rfl rfl ?_
  refine gw_aload_n C 2 dL_start_2 rfl rfl ?_
  refine gw_bipush C dL_start_3 rfl ?_
  refine gw_iload_n C 3 dL_start_5 rfl rfl ?_
  refine gw_imul C dL_start_6 ?_
  refine gw_iconst C dL_start_7 ?_
  refine gw_iadd C dL_start_8 ?_
  refine gw_iald C ((6 * k) + 1) dL_start_9 xs_235 xn_235 (by omega) (by omega) (by decide) (fun hI_9 => ?_)
  rw [show (I 235 ((6 * k) + 1)) = (((S (79 + 6 * k)).toNat : Nat) : Int) from by have e9 := lr_j1 (I := I) (i := k) (by omega); rw [hR] at e9; omega] at hI_9 ⊢
  refine gw_callSm C (as := [vR 233, vR 234, vI (((S (79 + 6 * k)).toNat : Nat) : Int)]) (st := []) (c_L_rest hl0 G I J hR ho ((S (79 + 6 * k)).toNat) (by omega)) dL_start_10 kL_90 qL_rest hdL_rest ⟨Nat.le_of_ble_eq_true rfl, Nat.le_of_ble_eq_true rfl⟩ ⟨Nat.le_of_ble_eq_true rfl, Nat.le_of_ble_eq_true rfl⟩ (Nat.le_of_ble_eq_true rfl) rfl (fun z_10 => ?_)
  have hr_10 := sR_9 ho (i := ((S (79 + 6 * k)).toNat)) (by omega)
  refine gw_aload_n C 0 dL_start_13 rfl rfl ?_
  refine gw_aload_n C 1 dL_start_14 rfl rfl ?_
  refine gw_aload_n C 2 dL_start_15 rfl rfl ?_
  refine gw_bipush C dL_start_16 rfl ?_
  refine gw_iload_n C 3 dL_start_18 rfl rfl ?_
  refine gw_imul C dL_start_19 ?_
  refine gw_iald C (6 * k) dL_start_20 xs_235 xn_235 (by omega) (by omega) (by decide) (fun hI_20 => ?_)
  rw [show (I 235 (6 * k)) = (((S (78 + 6 * k)).toNat : Nat) : Int) from by have e9 := lr_j0 (I := I) (i := k) (by omega); rw [hR] at e9; omega] at hI_20 ⊢
  refine gw_callSm C (as := [vR 233, vR 234, vI (((S (78 + 6 * k)).toNat : Nat) : Int)]) (st := [vI (sR S ((S (79 + 6 * k)).toNat))]) (c_L_rest hl0 G I J hR ho ((S (78 + 6 * k)).toNat) (by omega)) dL_start_21 kL_90 qL_rest hdL_rest ⟨Nat.le_of_ble_eq_true rfl, Nat.le_of_ble_eq_true rfl⟩ ⟨Nat.le_of_ble_eq_true rfl, Nat.le_of_ble_eq_true rfl⟩ (Nat.le_of_ble_eq_true rfl) rfl (fun z_21 => ?_)
  have hr_21 := sR_9 ho (i := ((S (78 + 6 * k)).toNat)) (by omega)
  refine gw_isub C dL_start_24 ?_
  refine gw_i2l C dL_start_25 (by first | omega | assumption | exact hgi _ _) ?_
  refine gw_lstore C (lo1 := [some (vR 233), some (vR 234), some (vR 235), some (vI (k : Int)), some (vL ((sR S ((S (79 + 6 * k)).toNat)) - (sR S ((S (78 + 6 * k)).toNat)))), none, none, none]) dL_start_26 (by decide) rfl ?_
  refine gw_aload_n C 2 dL_start_28 rfl rfl ?_
  refine gw_bipush C dL_start_29 rfl ?_
  refine gw_iload_n C 3 dL_start_31 rfl rfl ?_
  refine gw_imul C dL_start_32 ?_
  refine gw_iconst C dL_start_33 ?_
  refine gw_iadd C dL_start_34 ?_
  refine gw_iald C ((6 * k) + 5) dL_start_35 xs_235 xn_235 (by omega) (by omega) (by decide) (fun hI_35 => ?_)
  rw [show (I 235 ((6 * k) + 5)) = (S (83 + 6 * k)) from by have e9 := lr_j5 (I := I) (i := k) (by omega); rw [hR] at e9; exact e9] at hI_35 ⊢
  refine gw_i2l C dL_start_36 hI_35 ?_
  refine gw_aload_n C 2 dL_start_37 rfl rfl ?_
  refine gw_bipush C dL_start_38 rfl ?_
  refine gw_iload_n C 3 dL_start_40 rfl rfl ?_
  refine gw_imul C dL_start_41 ?_
  refine gw_iconst C dL_start_42 ?_
  refine gw_iadd C dL_start_43 ?_
  refine gw_iald C ((6 * k) + 4) dL_start_44 xs_235 xn_235 (by omega) (by omega) (by decide) (fun hI_44 => ?_)
  rw [show (I 235 ((6 * k) + 4)) = (S (82 + 6 * k)) from by have e9 := lr_j4 (I := I) (i := k) (by omega); rw [hR] at e9; exact e9] at hI_44 ⊢
  refine gw_i2l C dL_start_45 hI_44 ?_
  have hm1 := mul_b (a := S (83 + 6 * k)) (b := S (82 + 6 * k)) (m := 3600) (k := 50000) (by omega) (by omega)
  refine gw_lmul C dL_start_46 ?_
  refine gw_aload_n C 2 dL_start_47 rfl rfl ?_
  refine gw_bipush C dL_start_48 rfl ?_
  refine gw_iload_n C 3 dL_start_50 rfl rfl ?_
  refine gw_imul C dL_start_51 ?_
  refine gw_iconst C dL_start_52 ?_
  refine gw_iadd C dL_start_53 ?_
  refine gw_iald C ((6 * k) + 3) dL_start_54 xs_235 xn_235 (by omega) (by omega) (by decide) (fun hI_54 => ?_)
  rw [show (I 235 ((6 * k) + 3)) = (S (81 + 6 * k)) from by have e9 := lr_j3 (I := I) (i := k) (by omega); rw [hR] at e9; exact e9] at hI_54 ⊢
  refine gw_i2l C dL_start_55 hI_54 ?_
  refine gw_ldiv C dL_start_56 (by omega) (by omega) (by omega) ?_
  refine gw_lstore C (lo1 := [some (vR 233), some (vR 234), some (vR 235), some (vI (k : Int)), some (vL ((sR S ((S (79 + 6 * k)).toNat)) - (sR S ((S (78 + 6 * k)).toNat)))), none, some (vL ((((S (83 + 6 * k)) * (S (82 + 6 * k)))).tdiv (S (81 + 6 * k)))), none]) dL_start_57 (by decide) rfl ?_
  have hd1 := tdiv_b (S (83 + 6 * k) * S (82 + 6 * k)) (c := S (81 + 6 * k)) (by omega)
  have hd2 := tdiv_b ((sR S (S (79 + 6 * k)).toNat - sR S (S (78 + 6 * k)).toNat) * 20626) (c := S (81 + 6 * k)) (by omega)
  refine gw_aload_n C 2 dL_start_59 rfl rfl ?_
  refine gw_bipush C dL_start_60 rfl ?_
  refine gw_iload_n C 3 dL_start_62 rfl rfl ?_
  refine gw_imul C dL_start_63 ?_
  refine gw_iconst C dL_start_64 ?_
  refine gw_iadd C dL_start_65 ?_
  refine gw_iald C ((6 * k) + 2) dL_start_66 xs_235 xn_235 (by omega) (by omega) (by decide) (fun hI_66 => ?_)
  rw [show (I 235 ((6 * k) + 2)) = (S (80 + 6 * k)) from by have e9 := lr_j2 (I := I) (i := k) (by omega); rw [hR] at e9; exact e9] at hI_66 ⊢
  refine gw_i2l C dL_start_67 hI_66 ?_
  refine gw_lload C dL_start_68 rfl ?_
  refine gw_ladd C dL_start_70 ?_
  refine gw_lload C dL_start_71 rfl ?_
  refine gw_ldc2 C (x := 20626) dL_start_73 kL_93 (by decide) ?_
  refine gw_lmul C dL_start_76 ?_
  refine gw_aload_n C 2 dL_start_77 rfl rfl ?_
  refine gw_bipush C dL_start_78 rfl ?_
  refine gw_iload_n C 3 dL_start_80 rfl rfl ?_
  refine gw_imul C dL_start_81 ?_
  refine gw_iconst C dL_start_82 ?_
  refine gw_iadd C dL_start_83 ?_
  refine gw_iald C ((6 * k) + 3) dL_start_84 xs_235 xn_235 (by omega) (by omega) (by decide) (fun hI_84 => ?_)
  rw [show (I 235 ((6 * k) + 3)) = (S (81 + 6 * k)) from by have e9 := lr_j3 (I := I) (i := k) (by omega); rw [hR] at e9; exact e9] at hI_84 ⊢
  refine gw_i2l C dL_start_85 hI_84 ?_
  refine gw_ldiv C dL_start_86 (by omega) (by omega) (by omega) ?_
  refine gw_ladd C dL_start_87 ?_
  refine gw_callSm C (as := [vL (((S (80 + 6 * k)) + (((S (83 + 6 * k)) * (S (82 + 6 * k)))).tdiv (S (81 + 6 * k))) + ((((sR S ((S (79 + 6 * k)).toNat)) - (sR S ((S (78 + 6 * k)).toNat))) * 20626)).tdiv (S (81 + 6 * k)))]) (st := []) (c_L_norm hl0 G (((S (80 + 6 * k)) + (((S (83 + 6 * k)) * (S (82 + 6 * k)))).tdiv (S (81 + 6 * k))) + ((((sR S ((S (79 + 6 * k)).toNat)) - (sR S ((S (78 + 6 * k)).toNat))) * 20626)).tdiv (S (81 + 6 * k))) (by omega)) dL_start_88 kL_61 qL_norm hdL_norm ⟨Nat.le_of_ble_eq_true rfl, Nat.le_of_ble_eq_true rfl⟩ ⟨Nat.le_of_ble_eq_true rfl, Nat.le_of_ble_eq_true rfl⟩ (Nat.le_of_ble_eq_true rfl) rfl (fun z_88 => ?_)
  have hr_88 := normZ_b (((S (80 + 6 * k)) + (((S (83 + 6 * k)) * (S (82 + 6 * k)))).tdiv (S (81 + 6 * k))) + ((((sR S ((S (79 + 6 * k)).toNat)) - (sR S ((S (78 + 6 * k)).toNat))) * 20626)).tdiv (S (81 + 6 * k)))
  exact gw_iret C (Nat.le_of_ble_eq_true rfl) (Nat.le_of_ble_eq_true rfl) dL_start_91 (⟨congrArg (fun q => some (vI q)) (by rfl), rfl, rfl⟩)
set_option maxHeartbeats 4000000 in
set_option maxRecDepth 100000 in
theorem c_L_bearing {l : Launch} (hl0 : l.stackTraces = false) (G : GG) (I J : GI) {z : Nat} {S : Nat → Int} (hR : rowL I = S) (ho : Oks S) (t : Nat) (leg : Nat) (htt : (t : Int) < S 5) (hl : (leg : Int) < S (103 + 28 * t) ∨ ((leg : Int) = S (103 + 28 * t) ∧ 0 ≤ S (104 + 28 * t))) : GM l yL_bearing (.code yL_bearing cL_bearing 10 (some .int)) 2 51 0 0 G N0 SH RR [vR 233, vR 234, vR 235, vR 236, vR 237, vI (t : Int), vI (leg : Int)] z I J (memQ (some (vI (bgF S t leg))) I J) gNo := by
  refine gm_of (lo0 := [some (vR 233), some (vR 234), some (vR 235), some (vR 236), some (vR 237), some (vI (t : Int)), some (vI (leg : Int)), none, none, none]) hl0 (by decide) rfl (Nat.le_of_ble_eq_true rfl) ?_
  intro p e s m args below meth c C ht hgi
  have C : gC G p l s m args meth c cL_bearing 10 RL (some .int) "bearing" := C
  have h0 := ho.1
  have h3 := ho.2.1
  have ht9 := okT ho htt
  have hf9 := ho.2.2.2.1 (S (102 + 28 * t)).toNat (by omega)
  refine gw_aload_n C 0 dL_bearing_0 rfl rfl ?_
  refine gw_aload_n C 1 dL_bearing_1 rfl rfl ?_
  refine gw_aload_n C 2 dL_bearing_2 rfl rfl ?_
  refine gw_aload_n C 3 dL_bearing_3 rfl rfl ?_
  refine gw_iconst C dL_bearing_4 ?_
  refine gw_iload C dL_bearing_5 rfl ?_
  refine gw_imul C dL_bearing_7 ?_
  refine gw_iald C (4 * t) dL_bearing_8 xs_236 xn_236 (by omega) (by omega) (by decide) (fun hI_8 => ?_)
  rw [show (I 236 (4 * t)) = (((S (102 + 28 * t)).toNat : Nat) : Int) from by have e9 := lr_h0 (I := I) (t := t) (by omega); rw [hR] at e9; omega] at hI_8 ⊢
  refine gw_callSm C (as := [vR 233, vR 234, vR 235, vI (((S (102 + 28 * t)).toNat : Nat) : Int)]) (st := []) (c_L_start hl0 G I J hR ho ((S (102 + 28 * t)).toNat) (by omega)) dL_bearing_9 kL_95 qL_start hdL_start ⟨Nat.le_of_ble_eq_true rfl, Nat.le_of_ble_eq_true rfl⟩ ⟨Nat.le_of_ble_eq_true rfl, Nat.le_of_ble_eq_true rfl⟩ (Nat.le_of_ble_eq_true rfl) rfl (fun z_9 => ?_)
  have hr_9 := sS0_b S ((S (102 + 28 * t)).toNat)
  refine gw_i2l C dL_bearing_12 (by first | omega | assumption | exact hgi _ _) ?_
  refine gw_ldc2 C (x := 648000) dL_bearing_13 kL_59 (by decide) ?_
  refine gw_iload C dL_bearing_16 rfl ?_
  refine gw_i2l C dL_bearing_18 (by first | omega | assumption | exact hgi _ _) ?_
  refine gw_lmul C dL_bearing_19 ?_
  refine gw_ladd C dL_bearing_20 ?_
  refine gw_lstore C (lo1 := [some (vR 233), some (vR 234), some (vR 235), some (vR 236), some (vR 237), some (vI (t : Int)), some (vI (leg : Int)), some (vL ((sS0 S ((S (102 + 28 * t)).toNat)) + (648000 * (leg : Int)))), none, none]) dL_bearing_21 (by decide) rfl ?_
  refine gw_iconst C dL_bearing_23 ?_
  refine gw_istore C (lo1 := [some (vR 233), some (vR 234), some (vR 235), some (vR 236), some (vR 237), some (vI (t : Int)), some (vI (leg : Int)), some (vL ((sS0 S ((S (102 + 28 * t)).toNat)) + (648000 * (leg : Int)))), none, some (vI 0)]) dL_bearing_24 (by decide) rfl ?_
  have loop_26 : ∀ (fuel : Nat) (u : Int) (k : Nat), (k ≤ leg + 1) → (u = sS0 S (sFi S t) + 648000 * (leg : Int) + smF k (anF S t)) → leg + 3 - k < fuel → GW G p l e ({ frames := 2, cells := 0, slots := 0, locals := 51 } : Room) s m args below meth c 10 z_9 N0 SH RR I J 0 0 (vx_MQ below (GQ G N0 SH RR (memQ (some (vI (bgF S t leg))) I J)) (GX G N0 SH RR gNo) args s 0 0 (ge G)) 26 [some (vR 233), some (vR 234), some (vR 235), some (vR 236), some (vR 237), some (vI (t : Int)), some (vI (leg : Int)), some (vL u), none, some (vI (k : Int))] [] := by
    intro fuel
    induction fuel with
    | zero => intro u k hk hs hf_26; exact absurd hf_26 (Nat.not_lt_zero _)
    | succ fuel ih_26 =>
      intro u k hk hs hf_26
      refine gw_iload C dL_bearing_26 rfl ?_
      refine gw_iload C dL_bearing_28 rfl ?_
      refine gw_icmp_gt C (tgt := 81) dL_bearing_30 (by decide) (by first | omega | assumption | exact hgi _ _) (by first | omega | assumption | exact hgi _ _) (fun h_30 => ?_) (fun h_30 => ?_)
      · skip
        have hs0 := sS0_b S (sFi S t)
        have hsb := smF_b (m := leg + 1) (M := 1295999) (t := anF S t) (fun j hj => by unfold anF; split; exact (ht9.2.1 (by omega)).1; exact (ht9.2.2 j (by omega)).1) k (by omega)
        refine gw_lload C dL_bearing_81 rfl ?_
        refine gw_callSm C (as := [vL u]) (st := []) (c_L_norm hl0 G u (by omega)) dL_bearing_83 kL_61 qL_norm hdL_norm ⟨Nat.le_of_ble_eq_true rfl, Nat.le_of_ble_eq_true rfl⟩ ⟨Nat.le_of_ble_eq_true rfl, Nat.le_of_ble_eq_true rfl⟩ (Nat.le_of_ble_eq_true rfl) rfl (fun z_83 => ?_)
        have hr_83 := normZ_b u
        exact gw_iret C (Nat.le_of_ble_eq_true rfl) (Nat.le_of_ble_eq_true rfl) dL_bearing_86 (⟨congrArg (fun q => some (vI q)) (by rw [hs, show k = leg + 1 by omega]; exact bg_sum (by omega)), rfl, rfl⟩)
      · skip
        refine gw_lload C dL_bearing_33 rfl ?_
        refine gw_iload C dL_bearing_35 rfl ?_
        refine gw_aload_n C 3 dL_bearing_37 rfl rfl ?_
        refine gw_iconst C dL_bearing_38 ?_
        refine gw_iload C dL_bearing_39 rfl ?_
        refine gw_imul C dL_bearing_41 ?_
        refine gw_iconst C dL_bearing_42 ?_
        refine gw_iadd C dL_bearing_43 ?_
        refine gw_iald C ((4 * t) + 1) dL_bearing_44 xs_236 xn_236 (by omega) (by omega) (by decide) (fun hI_44 => ?_)
        rw [show (I 236 ((4 * t) + 1)) = (((S (103 + 28 * t)).toNat : Nat) : Int) from by have e9 := lr_h1 (I := I) (t := t) (by omega); rw [hR] at e9; omega] at hI_44 ⊢
        refine gw_icmp_ne C (tgt := 60) dL_bearing_45 (by decide) (by first | omega | assumption | exact hgi _ _) hI_44 (fun h_45 => ?_) (fun h_45 => ?_)
        · skip
          refine gw_aload C dL_bearing_60 rfl ?_
          refine gw_bipush C dL_bearing_62 rfl ?_
          refine gw_iload C dL_bearing_64 rfl ?_
          refine gw_imul C dL_bearing_66 ?_
          refine gw_iload C dL_bearing_67 rfl ?_
          refine gw_iadd C dL_bearing_69 ?_
          refine gw_iald C ((12 * t) + k) dL_bearing_70 xs_237 xn_237 (by omega) (by omega) (by decide) (fun hI_70 => ?_)
          rw [show (I 237 ((12 * t) + k)) = (S (106 + 28 * t + 2 * k)) from by have e9 := lr_a (I := I) (t := t) (k := k) (by omega) (by omega); rw [hR] at e9; exact e9] at hI_70 ⊢
          refine gw_i2l C dL_bearing_71 hI_70 ?_
          refine gw_ladd C dL_bearing_72 ?_
          refine gw_lstore C (lo1 := [some (vR 233), some (vR 234), some (vR 235), some (vR 236), some (vR 237), some (vI (t : Int)), some (vI (leg : Int)), some (vL (u + (S (106 + 28 * t + 2 * k)))), none, some (vI (k : Int))]) dL_bearing_73 (by decide) rfl ?_
          refine gw_iinc C (lo1 := [some (vR 233), some (vR 234), some (vR 235), some (vR 236), some (vR 237), some (vI (t : Int)), some (vI (leg : Int)), some (vL (u + (S (106 + 28 * t + 2 * k)))), none, some (vI ((k : Int) + 1))]) dL_bearing_75 rfl (by decide) rfl ?_
          refine gw_goto C (tgt := 26) dL_bearing_78 (by decide) ?_
          have e1 : smF (k + 1) (anF S t) = smF k (anF S t) + anF S t k := smF_s (n := k) (t := anF S t)
          have e2 : ((k : Int) = S (103 + 28 * t) → anF S t k = S (105 + 28 * t)) ∧ ((k : Int) ≠ S (103 + 28 * t) → anF S t k = S (106 + 28 * t + 2 * k)) := ⟨fun h => by unfold anF; rw [if_pos h], fun h => by unfold anF; rw [if_neg h]⟩
          exact gw_weak (lo' := [some (vR 233), some (vR 234), some (vR 235), some (vR 236), some (vR 237), some (vI (t : Int)), some (vI (leg : Int)), some (vL (u + (S (106 + 28 * t + 2 * k)))), none, some (vI (((k + 1) : Nat) : Int))]) ⟨rfl, rfl, rfl, rfl, rfl, rfl, rfl, rfl, congrArg (fun q => some (vI q)) (by omega), trivial⟩ (ih_26 (u + (S (106 + 28 * t + 2 * k))) (k + 1) (by omega) (by rw [e1, hs]; (first | rw [e2.1 (by omega)] | rw [e2.2 (by omega)]); omega) (by omega))
        · skip
          refine gw_aload_n C 3 dL_bearing_48 rfl rfl ?_
          refine gw_iconst C dL_bearing_49 ?_
          refine gw_iload C dL_bearing_50 rfl ?_
          refine gw_imul C dL_bearing_52 ?_
          refine gw_iconst C dL_bearing_53 ?_
          refine gw_iadd C dL_bearing_54 ?_
          refine gw_iald C ((4 * t) + 3) dL_bearing_55 xs_236 xn_236 (by omega) (by omega) (by decide) (fun hI_55 => ?_)
          rw [show (I 236 ((4 * t) + 3)) = (S (105 + 28 * t)) from by have e9 := lr_h3 (I := I) (t := t) (by omega); rw [hR] at e9; exact e9] at hI_55 ⊢
          refine gw_i2l C dL_bearing_56 hI_55 ?_
          refine gw_goto C (tgt := 72) dL_bearing_57 (by decide) ?_
          refine gw_ladd C dL_bearing_72 ?_
          refine gw_lstore C (lo1 := [some (vR 233), some (vR 234), some (vR 235), some (vR 236), some (vR 237), some (vI (t : Int)), some (vI (leg : Int)), some (vL (u + (S (105 + 28 * t)))), none, some (vI (k : Int))]) dL_bearing_73 (by decide) rfl ?_
          refine gw_iinc C (lo1 := [some (vR 233), some (vR 234), some (vR 235), some (vR 236), some (vR 237), some (vI (t : Int)), some (vI (leg : Int)), some (vL (u + (S (105 + 28 * t)))), none, some (vI ((k : Int) + 1))]) dL_bearing_75 rfl (by decide) rfl ?_
          refine gw_goto C (tgt := 26) dL_bearing_78 (by decide) ?_
          have e1 : smF (k + 1) (anF S t) = smF k (anF S t) + anF S t k := smF_s (n := k) (t := anF S t)
          have e2 : ((k : Int) = S (103 + 28 * t) → anF S t k = S (105 + 28 * t)) ∧ ((k : Int) ≠ S (103 + 28 * t) → anF S t k = S (106 + 28 * t + 2 * k)) := ⟨fun h => by unfold anF; rw [if_pos h], fun h => by unfold anF; rw [if_neg h]⟩
          exact gw_weak (lo' := [some (vR 233), some (vR 234), some (vR 235), some (vR 236), some (vR 237), some (vI (t : Int)), some (vI (leg : Int)), some (vL (u + (S (105 + 28 * t)))), none, some (vI (((k + 1) : Nat) : Int))]) ⟨rfl, rfl, rfl, rfl, rfl, rfl, rfl, rfl, congrArg (fun q => some (vI q)) (by omega), trivial⟩ (ih_26 (u + (S (105 + 28 * t))) (k + 1) (by omega) (by rw [e1, hs]; (first | rw [e2.1 (by omega)] | rw [e2.2 (by omega)]); omega) (by omega))
  exact gw_weak (lo' := [some (vR 233), some (vR 234), some (vR 235), some (vR 236), some (vR 237), some (vI (t : Int)), some (vI (leg : Int)), some (vL ((sS0 S ((S (102 + 28 * t)).toNat)) + (648000 * (leg : Int)))), none, some (vI (0 : Int))]) ⟨rfl, rfl, rfl, rfl, rfl, rfl, rfl, rfl, congrArg (fun q => some (vI q)) (by omega), trivial⟩ (loop_26 _ ((sS0 S ((S (102 + 28 * t)).toNat)) + (648000 * (leg : Int))) 0 (by omega) (by rw [smF]; show _ = sS0 S (S (102 + 28 * t)).toNat + _ + _; omega) (Nat.lt_succ_self _))
set_option maxHeartbeats 4000000 in
set_option maxRecDepth 100000 in
theorem c_L_gap {l : Launch} (hl0 : l.stackTraces = false) (G : GG) (I J : GI) {z : Nat} {S : Nat → Int} (hR : rowL I = S) (ho : Oks S) (t : Nat) (htt : (t : Int) < S 5) (hc : 0 ≤ S (104 + 28 * t)) : GM l yL_gap (.code yL_gap cL_gap 6 (some .int)) 3 80 0 0 G N0 SH RR [vR 233, vR 234, vR 235, vR 236, vR 237, vI (t : Int)] z I J (memQ (some (vI (sG S t))) I J) gNo := by
  refine gm_of (lo0 := [some (vR 233), some (vR 234), some (vR 235), some (vR 236), some (vR 237), some (vI (t : Int))]) hl0 (by decide) rfl (Nat.le_of_ble_eq_true rfl) ?_
  intro p e s m args below meth c C ht hgi
  have C : gC G p l s m args meth c cL_gap 6 RL (some .int) "gap" := C
  have h0 := ho.1
  have h3 := ho.2.1
  have ht9 := okT ho htt
  have hf9 := ho.2.2.2.1 (S (102 + 28 * t)).toNat (by omega)
  refine gw_aload_n C 0 dL_gap_0 rfl rfl ?_
  refine gw_aload_n C 1 dL_gap_1 rfl rfl ?_
  refine gw_aload_n C 2 dL_gap_2 rfl rfl ?_
  refine gw_aload_n C 3 dL_gap_3 rfl rfl ?_
  refine gw_aload C dL_gap_4 rfl ?_
  refine gw_iload C dL_gap_6 rfl ?_
  refine gw_aload_n C 3 dL_gap_8 rfl rfl ?_
  refine gw_iconst C dL_gap_9 ?_
  refine gw_iload C dL_gap_10 rfl ?_
  refine gw_imul C dL_gap_12 ?_
  refine gw_iconst C dL_gap_13 ?_
  refine gw_iadd C dL_gap_14 ?_
  refine gw_iald C ((4 * t) + 1) dL_gap_15 xs_236 xn_236 (by omega) (by omega) (by decide) (fun hI_15 => ?_)
  rw [show (I 236 ((4 * t) + 1)) = (((S (103 + 28 * t)).toNat : Nat) : Int) from by have e9 := lr_h1 (I := I) (t := t) (by omega); rw [hR] at e9; omega] at hI_15 ⊢
  refine gw_callSm C (as := [vR 233, vR 234, vR 235, vR 236, vR 237, vI (t : Int), vI (((S (103 + 28 * t)).toNat : Nat) : Int)]) (st := []) (c_L_bearing hl0 G I J hR ho t ((S (103 + 28 * t)).toNat) (by omega) (by omega)) dL_gap_16 kL_98 qL_bearing hdL_bearing ⟨Nat.le_of_ble_eq_true rfl, Nat.le_of_ble_eq_true rfl⟩ ⟨Nat.le_of_ble_eq_true rfl, Nat.le_of_ble_eq_true rfl⟩ (Nat.le_of_ble_eq_true rfl) rfl (fun z_16 => ?_)
  have hr_16 := bgF_b S t ((S (103 + 28 * t)).toNat)
  refine gw_aload_n C 0 dL_gap_19 rfl rfl ?_
  refine gw_aload_n C 1 dL_gap_20 rfl rfl ?_
  refine gw_aload_n C 2 dL_gap_21 rfl rfl ?_
  refine gw_aload_n C 3 dL_gap_22 rfl rfl ?_
  refine gw_iconst C dL_gap_23 ?_
  refine gw_iload C dL_gap_24 rfl ?_
  refine gw_imul C dL_gap_26 ?_
  refine gw_iconst C dL_gap_27 ?_
  refine gw_iadd C dL_gap_28 ?_
  refine gw_iald C ((4 * t) + 2) dL_gap_29 xs_236 xn_236 (by omega) (by omega) (by decide) (fun hI_29 => ?_)
  rw [show (I 236 ((4 * t) + 2)) = (((S (104 + 28 * t)).toNat : Nat) : Int) from by have e9 := lr_h2 (I := I) (t := t) (by omega); rw [hR] at e9; omega] at hI_29 ⊢
  refine gw_callSm C (as := [vR 233, vR 234, vR 235, vI (((S (104 + 28 * t)).toNat : Nat) : Int)]) (st := [vI (bgF S t ((S (103 + 28 * t)).toNat))]) (c_L_start hl0 G I J hR ho ((S (104 + 28 * t)).toNat) (by omega)) dL_gap_30 kL_95 qL_start hdL_start ⟨Nat.le_of_ble_eq_true rfl, Nat.le_of_ble_eq_true rfl⟩ ⟨Nat.le_of_ble_eq_true rfl, Nat.le_of_ble_eq_true rfl⟩ (Nat.le_of_ble_eq_true rfl) rfl (fun z_30 => ?_)
  have hr_30 := sS0_b S ((S (104 + 28 * t)).toNat)
  refine gw_isub C dL_gap_33 ?_
  refine gw_i2l C dL_gap_34 (by first | omega | assumption | exact hgi _ _) ?_
  refine gw_callSm C (as := [vL ((bgF S t ((S (103 + 28 * t)).toNat)) - (sS0 S ((S (104 + 28 * t)).toNat)))]) (st := []) (c_L_centre hl0 G ((bgF S t ((S (103 + 28 * t)).toNat)) - (sS0 S ((S (104 + 28 * t)).toNat))) (by omega)) dL_gap_35 kL_102 qL_centre hdL_centre ⟨Nat.le_of_ble_eq_true rfl, Nat.le_of_ble_eq_true rfl⟩ ⟨Nat.le_of_ble_eq_true rfl, Nat.le_of_ble_eq_true rfl⟩ (Nat.le_of_ble_eq_true rfl) rfl (fun z_35 => ?_)
  have hr_35 := centZ_b ((bgF S t ((S (103 + 28 * t)).toNat)) - (sS0 S ((S (104 + 28 * t)).toNat)))
  exact gw_iret C (Nat.le_of_ble_eq_true rfl) (Nat.le_of_ble_eq_true rfl) dL_gap_38 (⟨congrArg (fun q => some (vI q)) (by exact gp_9 (by omega)), rfl, rfl⟩)
set_option maxHeartbeats 4000000 in
set_option maxRecDepth 100000 in
theorem c_L_trouble {l : Launch} (hl0 : l.stackTraces = false) (G : GG) (I J : GI) {z : Nat} {S : Nat → Int} (hR : rowL I = S) (ho : Oks S) (t : Nat) (htt : (t : Int) < S 5) : GM l yL_trouble (.code yL_trouble cL_trouble 9 (some .int)) 5 117 0 0 G N0 SH RR [vR 231, vR 233, vR 234, vR 235, vR 236, vR 237, vI (t : Int)] z I J (memQ (some (vI (sTT S t))) I J) gNo := by
  refine gm_of (lo0 := [some (vR 231), some (vR 233), some (vR 234), some (vR 235), some (vR 236), some (vR 237), some (vI (t : Int)), none, none]) hl0 (by decide) rfl (Nat.le_of_ble_eq_true rfl) ?_
  intro p e s m args below meth c C ht hgi
  have C : gC G p l s m args meth c cL_trouble 9 RL (some .int) "trouble" := C
  have h0 := ho.1
  have h3 := ho.2.1
  have ht9 := okT ho htt
  have hf9 := ho.2.2.2.1 (S (102 + 28 * t)).toNat (by omega)
  refine gw_aload_n C 0 dL_trouble_0 rfl rfl ?_
  refine gw_aload_n C 1 dL_trouble_1 rfl rfl ?_
  refine gw_aload_n C 2 dL_trouble_2 rfl rfl ?_
  refine gw_aload_n C 3 dL_trouble_3 rfl rfl ?_
  refine gw_aload C dL_trouble_4 rfl ?_
  refine gw_iconst C dL_trouble_6 ?_
  refine gw_iload C dL_trouble_7 rfl ?_
  refine gw_imul C dL_trouble_9 ?_
  refine gw_iald C (4 * t) dL_trouble_10 xs_236 xn_236 (by omega) (by omega) (by decide) (fun hI_10 => ?_)
  rw [show (I 236 (4 * t)) = (((S (102 + 28 * t)).toNat : Nat) : Int) from by have e9 := lr_h0 (I := I) (t := t) (by omega); rw [hR] at e9; omega] at hI_10 ⊢
  refine gw_callSm C (as := [vR 231, vR 233, vR 234, vR 235, vI (((S (102 + 28 * t)).toNat : Nat) : Int)]) (st := []) (c_L_joint hl0 G I J hR ho ((S (102 + 28 * t)).toNat) (by omega)) dL_trouble_11 kL_105 qL_joint hdL_joint ⟨Nat.le_of_ble_eq_true rfl, Nat.le_of_ble_eq_true rfl⟩ ⟨Nat.le_of_ble_eq_true rfl, Nat.le_of_ble_eq_true rfl⟩ (Nat.le_of_ble_eq_true rfl) rfl (fun z_11 => ?_)
  have hr_11 := sJ_v S ((S (102 + 28 * t)).toNat)
  refine gw_istore C (lo1 := [some (vR 231), some (vR 233), some (vR 234), some (vR 235), some (vR 236), some (vR 237), some (vI (t : Int)), some (vI (sJ S ((S (102 + 28 * t)).toNat))), none]) dL_trouble_14 (by decide) rfl ?_
  refine gw_aload C dL_trouble_16 rfl ?_
  refine gw_iconst C dL_trouble_18 ?_
  refine gw_iload C dL_trouble_19 rfl ?_
  refine gw_imul C dL_trouble_21 ?_
  refine gw_iconst C dL_trouble_22 ?_
  refine gw_iadd C dL_trouble_23 ?_
  refine gw_iald C ((4 * t) + 2) dL_trouble_24 xs_236 xn_236 (by omega) (by omega) (by decide) (fun hI_24 => ?_)
  rw [show (I 236 ((4 * t) + 2)) = (S (104 + 28 * t)) from by have e9 := lr_h2 (I := I) (t := t) (by omega); rw [hR] at e9; exact e9] at hI_24 ⊢
  refine gw_if_lt C (tgt := 32) dL_trouble_25 (by decide) hI_24 (fun h_25 => ?_) (fun h_25 => ?_)
  · skip
    refine gw_iconst C dL_trouble_32 ?_
    refine gw_istore C (lo1 := [some (vR 231), some (vR 233), some (vR 234), some (vR 235), some (vR 236), some (vR 237), some (vI (t : Int)), some (vI (sJ S ((S (102 + 28 * t)).toNat))), some (vI 0)]) dL_trouble_33 (by decide) rfl ?_
    refine gw_aload C dL_trouble_35 rfl ?_
    refine gw_iconst C dL_trouble_37 ?_
    refine gw_iload C dL_trouble_38 rfl ?_
    refine gw_imul C dL_trouble_40 ?_
    refine gw_iconst C dL_trouble_41 ?_
    refine gw_iadd C dL_trouble_42 ?_
    refine gw_iald C ((4 * t) + 1) dL_trouble_43 xs_236 xn_236 (by omega) (by omega) (by decide) (fun hI_43 => ?_)
    rw [show (I 236 ((4 * t) + 1)) = (((S (103 + 28 * t)).toNat : Nat) : Int) from by have e9 := lr_h1 (I := I) (t := t) (by omega); rw [hR] at e9; omega] at hI_43 ⊢
    refine gw_if_ne C (tgt := 51) dL_trouble_44 (by decide) hI_43 (fun h_44 => ?_) (fun h_44 => ?_)
    · skip
      refine gw_iload C dL_trouble_51 rfl ?_
      refine gw_if_le C (tgt := 61) dL_trouble_53 (by decide) (by first | omega | assumption | exact hgi _ _) (fun h_53 => ?_) (fun h_53 => ?_)
      · skip
        refine gw_iload C dL_trouble_61 rfl ?_
        refine gw_if_ne C (tgt := 70) dL_trouble_63 (by decide) ⟨by decide, by decide⟩ (fun h => absurd h (by decide)) (fun _ => ?_)
        refine gw_iconst C dL_trouble_66 ?_
        refine gw_goto C (tgt := 137) dL_trouble_67 (by decide) ?_
        exact gw_iret C (Nat.le_of_ble_eq_true rfl) (Nat.le_of_ble_eq_true rfl) dL_trouble_137 (⟨congrArg (fun q => some (vI q)) (by unfold sTT; first | (rw [if_pos (by omega)]; done) | (rw [if_neg (by omega), if_pos (by show sJ S (S (102 + 28 * t)).toNat ≠ 0; omega)]; done) | (rw [if_neg (by omega), if_neg (by show ¬ sJ S (S (102 + 28 * t)).toNat ≠ 0; omega), if_pos (by omega)]; done) | (rw [if_neg (by omega), if_neg (by show ¬ sJ S (S (102 + 28 * t)).toNat ≠ 0; omega), if_neg (by omega), if_pos (by show sJ S (S (104 + 28 * t)).toNat ≠ 0; omega)]; done) | (rw [if_neg (by omega), if_neg (by show ¬ sJ S (S (102 + 28 * t)).toNat ≠ 0; omega), if_neg (by omega), if_neg (by show ¬ sJ S (S (104 + 28 * t)).toNat ≠ 0; omega), show S (103 + 28 * t) = (((S (103 + 28 * t)).toNat : Nat) : Int) by omega]; first | (rw [if_pos (by omega)]; done) | (rw [if_neg (by omega)]; done)) | (exfalso; omega)), rfl, rfl⟩)
      · skip
        refine gw_bipush C dL_trouble_56 rfl ?_
        refine gw_goto C (tgt := 137) dL_trouble_58 (by decide) ?_
        exact gw_iret C (Nat.le_of_ble_eq_true rfl) (Nat.le_of_ble_eq_true rfl) dL_trouble_137 (⟨congrArg (fun q => some (vI q)) (by unfold sTT; first | (rw [if_pos (by omega)]; done) | (rw [if_neg (by omega), if_pos (by show sJ S (S (102 + 28 * t)).toNat ≠ 0; omega)]; done) | (rw [if_neg (by omega), if_neg (by show ¬ sJ S (S (102 + 28 * t)).toNat ≠ 0; omega), if_pos (by omega)]; done) | (rw [if_neg (by omega), if_neg (by show ¬ sJ S (S (102 + 28 * t)).toNat ≠ 0; omega), if_neg (by omega), if_pos (by show sJ S (S (104 + 28 * t)).toNat ≠ 0; omega)]; done) | (rw [if_neg (by omega), if_neg (by show ¬ sJ S (S (102 + 28 * t)).toNat ≠ 0; omega), if_neg (by omega), if_neg (by show ¬ sJ S (S (104 + 28 * t)).toNat ≠ 0; omega), show S (103 + 28 * t) = (((S (103 + 28 * t)).toNat : Nat) : Int) by omega]; first | (rw [if_pos (by omega)]; done) | (rw [if_neg (by omega)]; done)) | (exfalso; omega)), rfl, rfl⟩)
    · skip
      refine gw_iconst C dL_trouble_47 ?_
      refine gw_goto C (tgt := 137) dL_trouble_48 (by decide) ?_
      exact gw_iret C (Nat.le_of_ble_eq_true rfl) (Nat.le_of_ble_eq_true rfl) dL_trouble_137 (⟨congrArg (fun q => some (vI q)) (by unfold sTT; first | (rw [if_pos (by omega)]; done) | (rw [if_neg (by omega), if_pos (by show sJ S (S (102 + 28 * t)).toNat ≠ 0; omega)]; done) | (rw [if_neg (by omega), if_neg (by show ¬ sJ S (S (102 + 28 * t)).toNat ≠ 0; omega), if_pos (by omega)]; done) | (rw [if_neg (by omega), if_neg (by show ¬ sJ S (S (102 + 28 * t)).toNat ≠ 0; omega), if_neg (by omega), if_pos (by show sJ S (S (104 + 28 * t)).toNat ≠ 0; omega)]; done) | (rw [if_neg (by omega), if_neg (by show ¬ sJ S (S (102 + 28 * t)).toNat ≠ 0; omega), if_neg (by omega), if_neg (by show ¬ sJ S (S (104 + 28 * t)).toNat ≠ 0; omega), show S (103 + 28 * t) = (((S (103 + 28 * t)).toNat : Nat) : Int) by omega]; first | (rw [if_pos (by omega)]; done) | (rw [if_neg (by omega)]; done)) | (exfalso; omega)), rfl, rfl⟩)
  · skip
    refine gw_iconst C dL_trouble_28 ?_
    refine gw_goto C (tgt := 33) dL_trouble_29 (by decide) ?_
    refine gw_istore C (lo1 := [some (vR 231), some (vR 233), some (vR 234), some (vR 235), some (vR 236), some (vR 237), some (vI (t : Int)), some (vI (sJ S ((S (102 + 28 * t)).toNat))), some (vI 1)]) dL_trouble_33 (by decide) rfl ?_
    refine gw_aload C dL_trouble_35 rfl ?_
    refine gw_iconst C dL_trouble_37 ?_
    refine gw_iload C dL_trouble_38 rfl ?_
    refine gw_imul C dL_trouble_40 ?_
    refine gw_iconst C dL_trouble_41 ?_
    refine gw_iadd C dL_trouble_42 ?_
    refine gw_iald C ((4 * t) + 1) dL_trouble_43 xs_236 xn_236 (by omega) (by omega) (by decide) (fun hI_43_2 => ?_)
    rw [show (I 236 ((4 * t) + 1)) = (((S (103 + 28 * t)).toNat : Nat) : Int) from by have e9 := lr_h1 (I := I) (t := t) (by omega); rw [hR] at e9; omega] at hI_43_2 ⊢
    refine gw_if_ne C (tgt := 51) dL_trouble_44 (by decide) hI_43_2 (fun h_44_2 => ?_) (fun h_44_2 => ?_)
    · skip
      refine gw_iload C dL_trouble_51 rfl ?_
      refine gw_if_le C (tgt := 61) dL_trouble_53 (by decide) (by first | omega | assumption | exact hgi _ _) (fun h_53_2 => ?_) (fun h_53_2 => ?_)
      · skip
        refine gw_iload C dL_trouble_61 rfl ?_
        refine gw_if_ne C (tgt := 70) dL_trouble_63 (by decide) ⟨by decide, by decide⟩ (fun _ => ?_) (fun h => absurd h (by decide))
        refine gw_aload_n C 0 dL_trouble_70 rfl rfl ?_
        refine gw_aload_n C 1 dL_trouble_71 rfl rfl ?_
        refine gw_aload_n C 2 dL_trouble_72 rfl rfl ?_
        refine gw_aload_n C 3 dL_trouble_73 rfl rfl ?_
        refine gw_aload C dL_trouble_74 rfl ?_
        refine gw_iconst C dL_trouble_76 ?_
        refine gw_iload C dL_trouble_77 rfl ?_
        refine gw_imul C dL_trouble_79 ?_
        refine gw_iconst C dL_trouble_80 ?_
        refine gw_iadd C dL_trouble_81 ?_
        refine gw_iald C ((4 * t) + 2) dL_trouble_82 xs_236 xn_236 (by omega) (by omega) (by decide) (fun hI_82 => ?_)
        rw [show (I 236 ((4 * t) + 2)) = (((S (104 + 28 * t)).toNat : Nat) : Int) from by have e9 := lr_h2 (I := I) (t := t) (by omega); rw [hR] at e9; omega] at hI_82 ⊢
        refine gw_callSm C (as := [vR 231, vR 233, vR 234, vR 235, vI (((S (104 + 28 * t)).toNat : Nat) : Int)]) (st := []) (c_L_joint hl0 G I J hR ho ((S (104 + 28 * t)).toNat) (by omega)) dL_trouble_83 kL_105 qL_joint hdL_joint ⟨Nat.le_of_ble_eq_true rfl, Nat.le_of_ble_eq_true rfl⟩ ⟨Nat.le_of_ble_eq_true rfl, Nat.le_of_ble_eq_true rfl⟩ (Nat.le_of_ble_eq_true rfl) rfl (fun z_83 => ?_)
        have hr_83 := sJ_v S ((S (104 + 28 * t)).toNat)
        refine gw_if_le C (tgt := 94) dL_trouble_86 (by decide) (by first | omega | assumption | exact hgi _ _) (fun h_86 => ?_) (fun h_86 => ?_)
        · skip
          refine gw_aload_n C 1 dL_trouble_94 rfl rfl ?_
          refine gw_aload_n C 2 dL_trouble_95 rfl rfl ?_
          refine gw_aload_n C 3 dL_trouble_96 rfl rfl ?_
          refine gw_aload C dL_trouble_97 rfl ?_
          refine gw_aload C dL_trouble_99 rfl ?_
          refine gw_iload C dL_trouble_101 rfl ?_
          refine gw_callSm C (as := [vR 233, vR 234, vR 235, vR 236, vR 237, vI (t : Int)]) (st := []) (c_L_gap hl0 G I J hR ho t (by omega) (by omega)) dL_trouble_103 kL_108 qL_gap hdL_gap ⟨Nat.le_of_ble_eq_true rfl, Nat.le_of_ble_eq_true rfl⟩ ⟨Nat.le_of_ble_eq_true rfl, Nat.le_of_ble_eq_true rfl⟩ (Nat.le_of_ble_eq_true rfl) rfl (fun z_103 => ?_)
          have hr_103 := sG_b S t
          refine gw_callSm C (as := [vI (sG S t)]) (st := []) (c_L_size hl0 G (sG S t) (by omega)) dL_trouble_106 kL_74 qL_size hdL_size ⟨Nat.le_of_ble_eq_true rfl, Nat.le_of_ble_eq_true rfl⟩ ⟨Nat.le_of_ble_eq_true rfl, Nat.le_of_ble_eq_true rfl⟩ (Nat.le_of_ble_eq_true rfl) rfl (fun z_106 => ?_)
          refine gw_aload_n C 0 dL_trouble_109 rfl rfl ?_
          refine gw_iconst C dL_trouble_110 ?_
          refine gw_iald C 1 dL_trouble_111 xs_231 xn_231 (by omega) (by omega) (by decide) (fun hI_111 => ?_)
          rw [show (I 231 1) = (S 1) from by have e9 := lr_g (I := I) (k := 1) (by omega); rw [hR] at e9; exact e9] at hI_111 ⊢
          refine gw_aload C dL_trouble_112 rfl ?_
          refine gw_iconst C dL_trouble_114 ?_
          refine gw_iload C dL_trouble_115 rfl ?_
          refine gw_imul C dL_trouble_117 ?_
          refine gw_iconst C dL_trouble_118 ?_
          refine gw_iadd C dL_trouble_119 ?_
          refine gw_iald C ((4 * t) + 1) dL_trouble_120 xs_236 xn_236 (by omega) (by omega) (by decide) (fun hI_120 => ?_)
          rw [show (I 236 ((4 * t) + 1)) = (((S (103 + 28 * t)).toNat : Nat) : Int) from by have e9 := lr_h1 (I := I) (t := t) (by omega); rw [hR] at e9; omega] at hI_120 ⊢
          refine gw_i2l C dL_trouble_121 hI_120 ?_
          refine gw_lconst C 1 dL_trouble_122 (by decide) ?_
          refine gw_ladd C dL_trouble_123 ?_
          have hrt := rootZ_s (v := (((S (103 + 28 * t)).toNat : Nat) : Int) + 1) (by omega)
          have hrl := rootZ_le (v := (((S (103 + 28 * t)).toNat : Nat) : Int) + 1) (m := 4) (by omega) (by decide) (by omega)
          refine gw_callSm C (as := [vL ((((S (103 + 28 * t)).toNat : Nat) : Int) + 1)]) (st := [vI (S 1), vI (((sG S t)).natAbs : Int)]) (c_L_root hl0 G ((((S (103 + 28 * t)).toNat : Nat) : Int) + 1) (by omega)) dL_trouble_124 kL_112 qL_root hdL_root ⟨Nat.le_of_ble_eq_true rfl, Nat.le_of_ble_eq_true rfl⟩ ⟨Nat.le_of_ble_eq_true rfl, Nat.le_of_ble_eq_true rfl⟩ (Nat.le_of_ble_eq_true rfl) rfl (fun z_124 => ?_)
          have hmr := mul_b (a := S 1) (b := rootZ ((((S (103 + 28 * t)).toNat : Nat) : Int) + 1)) (m := 600) (k := 4) (by omega) (by omega)
          refine gw_imul C dL_trouble_127 ?_
          refine gw_icmp_le C (tgt := 136) dL_trouble_128 (by decide) (by first | omega | assumption | exact hgi _ _) (by first | omega | assumption | exact hgi _ _) (fun h_128 => ?_) (fun h_128 => ?_)
          · skip
            refine gw_iconst C dL_trouble_136 ?_
            exact gw_iret C (Nat.le_of_ble_eq_true rfl) (Nat.le_of_ble_eq_true rfl) dL_trouble_137 (⟨congrArg (fun q => some (vI q)) (by unfold sTT; first | (rw [if_pos (by omega)]; done) | (rw [if_neg (by omega), if_pos (by show sJ S (S (102 + 28 * t)).toNat ≠ 0; omega)]; done) | (rw [if_neg (by omega), if_neg (by show ¬ sJ S (S (102 + 28 * t)).toNat ≠ 0; omega), if_pos (by omega)]; done) | (rw [if_neg (by omega), if_neg (by show ¬ sJ S (S (102 + 28 * t)).toNat ≠ 0; omega), if_neg (by omega), if_pos (by show sJ S (S (104 + 28 * t)).toNat ≠ 0; omega)]; done) | (rw [if_neg (by omega), if_neg (by show ¬ sJ S (S (102 + 28 * t)).toNat ≠ 0; omega), if_neg (by omega), if_neg (by show ¬ sJ S (S (104 + 28 * t)).toNat ≠ 0; omega), show S (103 + 28 * t) = (((S (103 + 28 * t)).toNat : Nat) : Int) by omega]; first | (rw [if_pos (by omega)]; done) | (rw [if_neg (by omega)]; done)) | (exfalso; omega)), rfl, rfl⟩)
          · skip
            refine gw_bipush C dL_trouble_131 rfl ?_
            refine gw_goto C (tgt := 137) dL_trouble_133 (by decide) ?_
            exact gw_iret C (Nat.le_of_ble_eq_true rfl) (Nat.le_of_ble_eq_true rfl) dL_trouble_137 (⟨congrArg (fun q => some (vI q)) (by unfold sTT; first | (rw [if_pos (by omega)]; done) | (rw [if_neg (by omega), if_pos (by show sJ S (S (102 + 28 * t)).toNat ≠ 0; omega)]; done) | (rw [if_neg (by omega), if_neg (by show ¬ sJ S (S (102 + 28 * t)).toNat ≠ 0; omega), if_pos (by omega)]; done) | (rw [if_neg (by omega), if_neg (by show ¬ sJ S (S (102 + 28 * t)).toNat ≠ 0; omega), if_neg (by omega), if_pos (by show sJ S (S (104 + 28 * t)).toNat ≠ 0; omega)]; done) | (rw [if_neg (by omega), if_neg (by show ¬ sJ S (S (102 + 28 * t)).toNat ≠ 0; omega), if_neg (by omega), if_neg (by show ¬ sJ S (S (104 + 28 * t)).toNat ≠ 0; omega), show S (103 + 28 * t) = (((S (103 + 28 * t)).toNat : Nat) : Int) by omega]; first | (rw [if_pos (by omega)]; done) | (rw [if_neg (by omega)]; done)) | (exfalso; omega)), rfl, rfl⟩)
        · skip
          refine gw_bipush C dL_trouble_89 rfl ?_
          refine gw_goto C (tgt := 137) dL_trouble_91 (by decide) ?_
          exact gw_iret C (Nat.le_of_ble_eq_true rfl) (Nat.le_of_ble_eq_true rfl) dL_trouble_137 (⟨congrArg (fun q => some (vI q)) (by unfold sTT; first | (rw [if_pos (by omega)]; done) | (rw [if_neg (by omega), if_pos (by show sJ S (S (102 + 28 * t)).toNat ≠ 0; omega)]; done) | (rw [if_neg (by omega), if_neg (by show ¬ sJ S (S (102 + 28 * t)).toNat ≠ 0; omega), if_pos (by omega)]; done) | (rw [if_neg (by omega), if_neg (by show ¬ sJ S (S (102 + 28 * t)).toNat ≠ 0; omega), if_neg (by omega), if_pos (by show sJ S (S (104 + 28 * t)).toNat ≠ 0; omega)]; done) | (rw [if_neg (by omega), if_neg (by show ¬ sJ S (S (102 + 28 * t)).toNat ≠ 0; omega), if_neg (by omega), if_neg (by show ¬ sJ S (S (104 + 28 * t)).toNat ≠ 0; omega), show S (103 + 28 * t) = (((S (103 + 28 * t)).toNat : Nat) : Int) by omega]; first | (rw [if_pos (by omega)]; done) | (rw [if_neg (by omega)]; done)) | (exfalso; omega)), rfl, rfl⟩)
      · skip
        refine gw_bipush C dL_trouble_56 rfl ?_
        refine gw_goto C (tgt := 137) dL_trouble_58 (by decide) ?_
        exact gw_iret C (Nat.le_of_ble_eq_true rfl) (Nat.le_of_ble_eq_true rfl) dL_trouble_137 (⟨congrArg (fun q => some (vI q)) (by unfold sTT; first | (rw [if_pos (by omega)]; done) | (rw [if_neg (by omega), if_pos (by show sJ S (S (102 + 28 * t)).toNat ≠ 0; omega)]; done) | (rw [if_neg (by omega), if_neg (by show ¬ sJ S (S (102 + 28 * t)).toNat ≠ 0; omega), if_pos (by omega)]; done) | (rw [if_neg (by omega), if_neg (by show ¬ sJ S (S (102 + 28 * t)).toNat ≠ 0; omega), if_neg (by omega), if_pos (by show sJ S (S (104 + 28 * t)).toNat ≠ 0; omega)]; done) | (rw [if_neg (by omega), if_neg (by show ¬ sJ S (S (102 + 28 * t)).toNat ≠ 0; omega), if_neg (by omega), if_neg (by show ¬ sJ S (S (104 + 28 * t)).toNat ≠ 0; omega), show S (103 + 28 * t) = (((S (103 + 28 * t)).toNat : Nat) : Int) by omega]; first | (rw [if_pos (by omega)]; done) | (rw [if_neg (by omega)]; done)) | (exfalso; omega)), rfl, rfl⟩)
    · skip
      refine gw_iconst C dL_trouble_47 ?_
      refine gw_goto C (tgt := 137) dL_trouble_48 (by decide) ?_
      exact gw_iret C (Nat.le_of_ble_eq_true rfl) (Nat.le_of_ble_eq_true rfl) dL_trouble_137 (⟨congrArg (fun q => some (vI q)) (by unfold sTT; first | (rw [if_pos (by omega)]; done) | (rw [if_neg (by omega), if_pos (by show sJ S (S (102 + 28 * t)).toNat ≠ 0; omega)]; done) | (rw [if_neg (by omega), if_neg (by show ¬ sJ S (S (102 + 28 * t)).toNat ≠ 0; omega), if_pos (by omega)]; done) | (rw [if_neg (by omega), if_neg (by show ¬ sJ S (S (102 + 28 * t)).toNat ≠ 0; omega), if_neg (by omega), if_pos (by show sJ S (S (104 + 28 * t)).toNat ≠ 0; omega)]; done) | (rw [if_neg (by omega), if_neg (by show ¬ sJ S (S (102 + 28 * t)).toNat ≠ 0; omega), if_neg (by omega), if_neg (by show ¬ sJ S (S (104 + 28 * t)).toNat ≠ 0; omega), show S (103 + 28 * t) = (((S (103 + 28 * t)).toNat : Nat) : Int) by omega]; first | (rw [if_pos (by omega)]; done) | (rw [if_neg (by omega)]; done)) | (exfalso; omega)), rfl, rfl⟩)
set_option maxHeartbeats 4000000 in
set_option maxRecDepth 100000 in
theorem c_L_end0 {l : Launch} (hl0 : l.stackTraces = false) (G : GG) (I J : GI) {z : Nat} {S : Nat → Int} (hR : rowL I = S) (ho : Oks S) (t : Nat) (leg : Nat) (htt : (t : Int) < S 5) (hl : (leg : Int) < S (103 + 28 * t)) : GM l yL_end (.code yL_end cL_end 14 (some .int)) 3 80 0 0 G N0 SH RR [vR 232, vR 233, vR 234, vR 235, vR 236, vR 237, vR 238, vI (t : Int), vI (leg : Int), vI 0] z I J (memQ (some (vI (sEa S t (leg + 1)))) I J) gNo := by
  refine gm_of (lo0 := [some (vR 232), some (vR 233), some (vR 234), some (vR 235), some (vR 236), some (vR 237), some (vR 238), some (vI (t : Int)), some (vI (leg : Int)), some (vI 0), none, none, none, none]) hl0 (by decide) rfl (Nat.le_of_ble_eq_true rfl) ?_
  intro p e s m args below meth c C ht hgi
  have C : gC G p l s m args meth c cL_end 14 RL (some .int) "end" := C
  have h0 := ho.1
  have h3 := ho.2.1
  have ht9 := okT ho htt
  have hf9 := ho.2.2.2.1 (S (102 + 28 * t)).toNat (by omega)
  have hn9 := ho.2.2.1 (S (78 + 6 * (S (102 + 28 * t)).toNat)).toNat (by omega)
  refine gw_aload_n C 0 dL_end_0 rfl rfl ?_
  refine gw_iconst C dL_end_1 ?_
  refine gw_aload_n C 3 dL_end_2 rfl rfl ?_
  refine gw_bipush C dL_end_3 rfl ?_
  refine gw_aload C dL_end_5 rfl ?_
  refine gw_iconst C dL_end_7 ?_
  refine gw_iload C dL_end_8 rfl ?_
  refine gw_imul C dL_end_10 ?_
  refine gw_iald C (4 * t) dL_end_11 xs_236 xn_236 (by omega) (by omega) (by decide) (fun hI_11 => ?_)
  rw [show (I 236 (4 * t)) = (((S (102 + 28 * t)).toNat : Nat) : Int) from by have e9 := lr_h0 (I := I) (t := t) (by omega); rw [hR] at e9; omega] at hI_11 ⊢
  refine gw_imul C dL_end_12 ?_
  refine gw_iald C (6 * (S (102 + 28 * t)).toNat) dL_end_13 xs_235 xn_235 (by omega) (by omega) (by decide) (fun hI_13 => ?_)
  rw [show (I 235 (6 * (S (102 + 28 * t)).toNat)) = (((S (78 + 6 * ((S (102 + 28 * t)).toNat))).toNat : Nat) : Int) from by have e9 := lr_j0 (I := I) (i := (S (102 + 28 * t)).toNat) (by omega); rw [hR] at e9; omega] at hI_13 ⊢
  refine gw_imul C dL_end_14 ?_
  refine gw_iload C dL_end_15 rfl ?_
  refine gw_iadd C dL_end_17 ?_
  refine gw_iald C ((2 * (S (78 + 6 * ((S (102 + 28 * t)).toNat))).toNat) + 0) dL_end_18 xs_232 xn_232 (by omega) (by omega) (by decide) (fun hI_18 => ?_)
  rw [show (I 232 ((2 * (S (78 + 6 * ((S (102 + 28 * t)).toNat))).toNat) + 0)) = (S (6 + 12 * ((S (78 + 6 * ((S (102 + 28 * t)).toNat))).toNat))) from by have e9 := lr_x (I := I) (i := (S (78 + 6 * ((S (102 + 28 * t)).toNat))).toNat) (by omega); rw [hR] at e9; exact e9] at hI_18 ⊢
  refine gw_istore C (lo1 := [some (vR 232), some (vR 233), some (vR 234), some (vR 235), some (vR 236), some (vR 237), some (vR 238), some (vI (t : Int)), some (vI (leg : Int)), some (vI 0), some (vI (S (6 + 12 * ((S (78 + 6 * ((S (102 + 28 * t)).toNat))).toNat)))), none, none, none]) dL_end_19 (by decide) rfl ?_
  refine gw_iconst C dL_end_21 ?_
  refine gw_istore C (lo1 := [some (vR 232), some (vR 233), some (vR 234), some (vR 235), some (vR 236), some (vR 237), some (vR 238), some (vI (t : Int)), some (vI (leg : Int)), some (vI 0), some (vI (S (6 + 12 * ((S (78 + 6 * ((S (102 + 28 * t)).toNat))).toNat)))), some (vI 0), none, none]) dL_end_22 (by decide) rfl ?_
  have loop_24 : ∀ (fuel : Nat) (v : Int) (k : Nat) (zz : Nat), (k ≤ leg + 1) → (v = sEa S t k) → leg + 3 - k < fuel → GW G p l e ({ frames := 3, cells := 0, slots := 0, locals := 80 } : Room) s m args below meth c 14 zz N0 SH RR I J 0 0 (vx_MQ below (GQ G N0 SH RR (memQ (some (vI (sEa S t (leg + 1)))) I J)) (GX G N0 SH RR gNo) args s 0 0 (ge G)) 24 [some (vR 232), some (vR 233), some (vR 234), some (vR 235), some (vR 236), some (vR 237), some (vR 238), some (vI (t : Int)), some (vI (leg : Int)), some (vI 0), some (vI v), some (vI (k : Int)), none, none] [] := by
    intro fuel
    induction fuel with
    | zero => intro v k zz hk hv hf_24; exact absurd hf_24 (Nat.not_lt_zero _)
    | succ fuel ih_24 =>
      intro v k zz hk hv hf_24
      refine gw_iload C dL_end_24 rfl ?_
      refine gw_iload C dL_end_26 rfl ?_
      refine gw_icmp_gt C (tgt := 90) dL_end_28 (by decide) (by first | omega | assumption | exact hgi _ _) (by first | omega | assumption | exact hgi _ _) (fun h_28 => ?_) (fun h_28 => ?_)
      · skip
        refine gw_iload C dL_end_90 rfl ?_
        exact gw_iret C (Nat.le_of_ble_eq_true rfl) (Nat.le_of_ble_eq_true rfl) dL_end_92 (⟨congrArg (fun q => some (vI q)) (by rw [hv, show k = leg + 1 by omega]), rfl, rfl⟩)
      · skip
        refine gw_aload_n C 1 dL_end_31 rfl rfl ?_
        refine gw_aload_n C 2 dL_end_32 rfl rfl ?_
        refine gw_aload_n C 3 dL_end_33 rfl rfl ?_
        refine gw_aload C dL_end_34 rfl ?_
        refine gw_aload C dL_end_36 rfl ?_
        refine gw_iload C dL_end_38 rfl ?_
        refine gw_iload C dL_end_40 rfl ?_
        refine gw_callSm C (as := [vR 233, vR 234, vR 235, vR 236, vR 237, vI (t : Int), vI (k : Int)]) (st := []) (c_L_bearing hl0 G I J hR ho t k (by omega) (by omega)) dL_end_42 kL_98 qL_bearing hdL_bearing ⟨Nat.le_of_ble_eq_true rfl, Nat.le_of_ble_eq_true rfl⟩ ⟨Nat.le_of_ble_eq_true rfl, Nat.le_of_ble_eq_true rfl⟩ (Nat.le_of_ble_eq_true rfl) rfl (fun z_42 => ?_)
        rw [show bgF S t k = (sBr S t (k + 1)) from by exact bg_1 (by omega)]
        have hr_42 := bgF_b S t k
        have hbr := sBr_b S t k
        refine gw_i2l C dL_end_45 (by first | omega | assumption | exact hgi _ _) ?_
        refine gw_ldc2 C (x := 324000) dL_end_46 kL_115 (by decide) ?_
        refine gw_iload C dL_end_49 rfl ?_
        refine gw_i2l C dL_end_51 ⟨by decide, by decide⟩ ?_
        refine gw_lmul C dL_end_52 ?_
        refine gw_ladd C dL_end_53 ?_
        refine gw_lstore C (lo1 := [some (vR 232), some (vR 233), some (vR 234), some (vR 235), some (vR 236), some (vR 237), some (vR 238), some (vI (t : Int)), some (vI (leg : Int)), some (vI 0), some (vI v), some (vI (k : Int)), some (vL ((sBr S t (k + 1)) + (324000 * 0))), none]) dL_end_54 (by decide) rfl ?_
        refine gw_iload C dL_end_56 rfl ?_
        refine gw_aload C dL_end_58 rfl ?_
        refine gw_bipush C dL_end_60 rfl ?_
        refine gw_iload C dL_end_62 rfl ?_
        refine gw_imul C dL_end_64 ?_
        refine gw_iload C dL_end_65 rfl ?_
        refine gw_iadd C dL_end_67 ?_
        refine gw_iald C ((12 * t) + k) dL_end_68 xs_238 xn_238 (by omega) (by omega) (by decide) (fun hI_68 => ?_)
        rw [show (I 238 ((12 * t) + k)) = (S (107 + 28 * t + 2 * k)) from by have e9 := lr_b (I := I) (t := t) (k := k) (by omega) (by omega); rw [hR] at e9; exact e9] at hI_68 ⊢
        refine gw_i2l C dL_end_69 hI_68 ?_
        refine gw_lload C dL_end_70 rfl ?_
        refine gw_callSm C (as := [vL ((sBr S t (k + 1)) + (324000 * 0))]) (st := [vL (S (107 + 28 * t + 2 * k)), vI v]) (c_L_sine hl0 G ((sBr S t (k + 1)) + (324000 * 0)) (by omega)) dL_end_72 kL_117 qL_sine hdL_sine ⟨Nat.le_of_ble_eq_true rfl, Nat.le_of_ble_eq_true rfl⟩ ⟨Nat.le_of_ble_eq_true rfl, Nat.le_of_ble_eq_true rfl⟩ (Nat.le_of_ble_eq_true rfl) rfl (fun z_72 => ?_)
        have hr_72 := sinZ_b ((sBr S t (k + 1)) + (324000 * 0))
        rw [show (sinZ ((sBr S t (k + 1)) + (324000 * 0))) = (sinZ (sBr S t (k + 1))) from by congr 1; omega]
        have hb9 := ht9.2.2 k (by omega)
        have hsn := sinZ_b (sBr S t (k + 1))
        have hm9 := mul_b (a := S (107 + 28 * t + 2 * k)) (b := (sinZ (sBr S t (k + 1)))) (m := 200000) (k := 10000) (by omega) (by omega)
        have hd9 := tdiv_lt (x := S (107 + 28 * t + 2 * k) * (sinZ (sBr S t (k + 1)))) (c := 10000) (m := 200001) (by decide) (by omega) (by omega)
        refine gw_lmul C dL_end_75 ?_
        refine gw_ldc2 C (x := 10000) dL_end_76 kL_121 (by decide) ?_
        refine gw_ldiv C dL_end_79 (by omega) ⟨by decide, by decide⟩ (by decide) ?_
        refine gw_l2i C dL_end_80 ?_
        refine gw_iadd C dL_end_81 ?_
        refine gw_istore C (lo1 := [some (vR 232), some (vR 233), some (vR 234), some (vR 235), some (vR 236), some (vR 237), some (vR 238), some (vI (t : Int)), some (vI (leg : Int)), some (vI 0), some (vI (v + (((S (107 + 28 * t + 2 * k)) * (sinZ (sBr S t (k + 1))))).tdiv 10000)), some (vI (k : Int)), some (vL ((sBr S t (k + 1)) + (324000 * 0))), none]) dL_end_82 (by decide) rfl ?_
        refine gw_iinc C (lo1 := [some (vR 232), some (vR 233), some (vR 234), some (vR 235), some (vR 236), some (vR 237), some (vR 238), some (vI (t : Int)), some (vI (leg : Int)), some (vI 0), some (vI (v + (((S (107 + 28 * t + 2 * k)) * (sinZ (sBr S t (k + 1))))).tdiv 10000)), some (vI ((k : Int) + 1)), some (vL ((sBr S t (k + 1)) + (324000 * 0))), none]) dL_end_84 rfl (by decide) rfl ?_
        refine gw_goto C (tgt := 24) dL_end_87 (by decide) ?_
        exact gw_weak (lo' := [some (vR 232), some (vR 233), some (vR 234), some (vR 235), some (vR 236), some (vR 237), some (vR 238), some (vI (t : Int)), some (vI (leg : Int)), some (vI 0), some (vI (v + (((S (107 + 28 * t + 2 * k)) * (sinZ (sBr S t (k + 1))))).tdiv 10000)), some (vI (((k + 1) : Nat) : Int)), none, none]) ⟨rfl, rfl, rfl, rfl, rfl, rfl, rfl, rfl, rfl, rfl, rfl, congrArg (fun q => some (vI q)) (by omega), trivial⟩ (ih_24 (v + (((S (107 + 28 * t + 2 * k)) * (sinZ (sBr S t (k + 1))))).tdiv 10000) (k + 1) z_72 (by omega) (by exact en_1 hv) (by omega))
  exact gw_weak (lo' := [some (vR 232), some (vR 233), some (vR 234), some (vR 235), some (vR 236), some (vR 237), some (vR 238), some (vI (t : Int)), some (vI (leg : Int)), some (vI 0), some (vI (S (6 + 12 * ((S (78 + 6 * ((S (102 + 28 * t)).toNat))).toNat)))), some (vI (0 : Int)), none, none]) ⟨rfl, rfl, rfl, rfl, rfl, rfl, rfl, rfl, rfl, rfl, rfl, congrArg (fun q => some (vI q)) (by omega), trivial⟩ (loop_24 _ (S (6 + 12 * ((S (78 + 6 * ((S (102 + 28 * t)).toNat))).toNat))) 0 z (by omega) (by rfl) (Nat.lt_succ_self _))
set_option maxHeartbeats 4000000 in
set_option maxRecDepth 100000 in
theorem c_L_end1 {l : Launch} (hl0 : l.stackTraces = false) (G : GG) (I J : GI) {z : Nat} {S : Nat → Int} (hR : rowL I = S) (ho : Oks S) (t : Nat) (leg : Nat) (htt : (t : Int) < S 5) (hl : (leg : Int) < S (103 + 28 * t)) : GM l yL_end (.code yL_end cL_end 14 (some .int)) 3 80 0 0 G N0 SH RR [vR 232, vR 233, vR 234, vR 235, vR 236, vR 237, vR 238, vI (t : Int), vI (leg : Int), vI 1] z I J (memQ (some (vI (sNo S t (leg + 1)))) I J) gNo := by
  refine gm_of (lo0 := [some (vR 232), some (vR 233), some (vR 234), some (vR 235), some (vR 236), some (vR 237), some (vR 238), some (vI (t : Int)), some (vI (leg : Int)), some (vI 1), none, none, none, none]) hl0 (by decide) rfl (Nat.le_of_ble_eq_true rfl) ?_
  intro p e s m args below meth c C ht hgi
  have C : gC G p l s m args meth c cL_end 14 RL (some .int) "end" := C
  have h0 := ho.1
  have h3 := ho.2.1
  have ht9 := okT ho htt
  have hf9 := ho.2.2.2.1 (S (102 + 28 * t)).toNat (by omega)
  have hn9 := ho.2.2.1 (S (78 + 6 * (S (102 + 28 * t)).toNat)).toNat (by omega)
  refine gw_aload_n C 0 dL_end_0 rfl rfl ?_
  refine gw_iconst C dL_end_1 ?_
  refine gw_aload_n C 3 dL_end_2 rfl rfl ?_
  refine gw_bipush C dL_end_3 rfl ?_
  refine gw_aload C dL_end_5 rfl ?_
  refine gw_iconst C dL_end_7 ?_
  refine gw_iload C dL_end_8 rfl ?_
  refine gw_imul C dL_end_10 ?_
  refine gw_iald C (4 * t) dL_end_11 xs_236 xn_236 (by omega) (by omega) (by decide) (fun hI_11 => ?_)
  rw [show (I 236 (4 * t)) = (((S (102 + 28 * t)).toNat : Nat) : Int) from by have e9 := lr_h0 (I := I) (t := t) (by omega); rw [hR] at e9; omega] at hI_11 ⊢
  refine gw_imul C dL_end_12 ?_
  refine gw_iald C (6 * (S (102 + 28 * t)).toNat) dL_end_13 xs_235 xn_235 (by omega) (by omega) (by decide) (fun hI_13 => ?_)
  rw [show (I 235 (6 * (S (102 + 28 * t)).toNat)) = (((S (78 + 6 * ((S (102 + 28 * t)).toNat))).toNat : Nat) : Int) from by have e9 := lr_j0 (I := I) (i := (S (102 + 28 * t)).toNat) (by omega); rw [hR] at e9; omega] at hI_13 ⊢
  refine gw_imul C dL_end_14 ?_
  refine gw_iload C dL_end_15 rfl ?_
  refine gw_iadd C dL_end_17 ?_
  refine gw_iald C ((2 * (S (78 + 6 * ((S (102 + 28 * t)).toNat))).toNat) + 1) dL_end_18 xs_232 xn_232 (by omega) (by omega) (by decide) (fun hI_18 => ?_)
  rw [show (I 232 ((2 * (S (78 + 6 * ((S (102 + 28 * t)).toNat))).toNat) + 1)) = (S (7 + 12 * ((S (78 + 6 * ((S (102 + 28 * t)).toNat))).toNat))) from by have e9 := lr_y (I := I) (i := (S (78 + 6 * ((S (102 + 28 * t)).toNat))).toNat) (by omega); rw [hR] at e9; exact e9] at hI_18 ⊢
  refine gw_istore C (lo1 := [some (vR 232), some (vR 233), some (vR 234), some (vR 235), some (vR 236), some (vR 237), some (vR 238), some (vI (t : Int)), some (vI (leg : Int)), some (vI 1), some (vI (S (7 + 12 * ((S (78 + 6 * ((S (102 + 28 * t)).toNat))).toNat)))), none, none, none]) dL_end_19 (by decide) rfl ?_
  refine gw_iconst C dL_end_21 ?_
  refine gw_istore C (lo1 := [some (vR 232), some (vR 233), some (vR 234), some (vR 235), some (vR 236), some (vR 237), some (vR 238), some (vI (t : Int)), some (vI (leg : Int)), some (vI 1), some (vI (S (7 + 12 * ((S (78 + 6 * ((S (102 + 28 * t)).toNat))).toNat)))), some (vI 0), none, none]) dL_end_22 (by decide) rfl ?_
  have loop_24 : ∀ (fuel : Nat) (v : Int) (k : Nat) (zz : Nat), (k ≤ leg + 1) → (v = sNo S t k) → leg + 3 - k < fuel → GW G p l e ({ frames := 3, cells := 0, slots := 0, locals := 80 } : Room) s m args below meth c 14 zz N0 SH RR I J 0 0 (vx_MQ below (GQ G N0 SH RR (memQ (some (vI (sNo S t (leg + 1)))) I J)) (GX G N0 SH RR gNo) args s 0 0 (ge G)) 24 [some (vR 232), some (vR 233), some (vR 234), some (vR 235), some (vR 236), some (vR 237), some (vR 238), some (vI (t : Int)), some (vI (leg : Int)), some (vI 1), some (vI v), some (vI (k : Int)), none, none] [] := by
    intro fuel
    induction fuel with
    | zero => intro v k zz hk hv hf_24; exact absurd hf_24 (Nat.not_lt_zero _)
    | succ fuel ih_24 =>
      intro v k zz hk hv hf_24
      refine gw_iload C dL_end_24 rfl ?_
      refine gw_iload C dL_end_26 rfl ?_
      refine gw_icmp_gt C (tgt := 90) dL_end_28 (by decide) (by first | omega | assumption | exact hgi _ _) (by first | omega | assumption | exact hgi _ _) (fun h_28 => ?_) (fun h_28 => ?_)
      · skip
        refine gw_iload C dL_end_90 rfl ?_
        exact gw_iret C (Nat.le_of_ble_eq_true rfl) (Nat.le_of_ble_eq_true rfl) dL_end_92 (⟨congrArg (fun q => some (vI q)) (by rw [hv, show k = leg + 1 by omega]), rfl, rfl⟩)
      · skip
        refine gw_aload_n C 1 dL_end_31 rfl rfl ?_
        refine gw_aload_n C 2 dL_end_32 rfl rfl ?_
        refine gw_aload_n C 3 dL_end_33 rfl rfl ?_
        refine gw_aload C dL_end_34 rfl ?_
        refine gw_aload C dL_end_36 rfl ?_
        refine gw_iload C dL_end_38 rfl ?_
        refine gw_iload C dL_end_40 rfl ?_
        refine gw_callSm C (as := [vR 233, vR 234, vR 235, vR 236, vR 237, vI (t : Int), vI (k : Int)]) (st := []) (c_L_bearing hl0 G I J hR ho t k (by omega) (by omega)) dL_end_42 kL_98 qL_bearing hdL_bearing ⟨Nat.le_of_ble_eq_true rfl, Nat.le_of_ble_eq_true rfl⟩ ⟨Nat.le_of_ble_eq_true rfl, Nat.le_of_ble_eq_true rfl⟩ (Nat.le_of_ble_eq_true rfl) rfl (fun z_42 => ?_)
        rw [show bgF S t k = (sBr S t (k + 1)) from by exact bg_1 (by omega)]
        have hr_42 := bgF_b S t k
        have hbr := sBr_b S t k
        refine gw_i2l C dL_end_45 (by first | omega | assumption | exact hgi _ _) ?_
        refine gw_ldc2 C (x := 324000) dL_end_46 kL_115 (by decide) ?_
        refine gw_iload C dL_end_49 rfl ?_
        refine gw_i2l C dL_end_51 ⟨by decide, by decide⟩ ?_
        refine gw_lmul C dL_end_52 ?_
        refine gw_ladd C dL_end_53 ?_
        refine gw_lstore C (lo1 := [some (vR 232), some (vR 233), some (vR 234), some (vR 235), some (vR 236), some (vR 237), some (vR 238), some (vI (t : Int)), some (vI (leg : Int)), some (vI 1), some (vI v), some (vI (k : Int)), some (vL ((sBr S t (k + 1)) + (324000 * 1))), none]) dL_end_54 (by decide) rfl ?_
        refine gw_iload C dL_end_56 rfl ?_
        refine gw_aload C dL_end_58 rfl ?_
        refine gw_bipush C dL_end_60 rfl ?_
        refine gw_iload C dL_end_62 rfl ?_
        refine gw_imul C dL_end_64 ?_
        refine gw_iload C dL_end_65 rfl ?_
        refine gw_iadd C dL_end_67 ?_
        refine gw_iald C ((12 * t) + k) dL_end_68 xs_238 xn_238 (by omega) (by omega) (by decide) (fun hI_68 => ?_)
        rw [show (I 238 ((12 * t) + k)) = (S (107 + 28 * t + 2 * k)) from by have e9 := lr_b (I := I) (t := t) (k := k) (by omega) (by omega); rw [hR] at e9; exact e9] at hI_68 ⊢
        refine gw_i2l C dL_end_69 hI_68 ?_
        refine gw_lload C dL_end_70 rfl ?_
        refine gw_callSm C (as := [vL ((sBr S t (k + 1)) + (324000 * 1))]) (st := [vL (S (107 + 28 * t + 2 * k)), vI v]) (c_L_sine hl0 G ((sBr S t (k + 1)) + (324000 * 1)) (by omega)) dL_end_72 kL_117 qL_sine hdL_sine ⟨Nat.le_of_ble_eq_true rfl, Nat.le_of_ble_eq_true rfl⟩ ⟨Nat.le_of_ble_eq_true rfl, Nat.le_of_ble_eq_true rfl⟩ (Nat.le_of_ble_eq_true rfl) rfl (fun z_72 => ?_)
        have hr_72 := sinZ_b ((sBr S t (k + 1)) + (324000 * 1))
        rw [show (sinZ ((sBr S t (k + 1)) + (324000 * 1))) = (sinZ (sBr S t (k + 1) + 324000)) from by congr 1]
        have hb9 := ht9.2.2 k (by omega)
        have hsn := sinZ_b (sBr S t (k + 1) + 324000)
        have hm9 := mul_b (a := S (107 + 28 * t + 2 * k)) (b := (sinZ (sBr S t (k + 1) + 324000))) (m := 200000) (k := 10000) (by omega) (by omega)
        have hd9 := tdiv_lt (x := S (107 + 28 * t + 2 * k) * (sinZ (sBr S t (k + 1) + 324000))) (c := 10000) (m := 200001) (by decide) (by omega) (by omega)
        refine gw_lmul C dL_end_75 ?_
        refine gw_ldc2 C (x := 10000) dL_end_76 kL_121 (by decide) ?_
        refine gw_ldiv C dL_end_79 (by omega) ⟨by decide, by decide⟩ (by decide) ?_
        refine gw_l2i C dL_end_80 ?_
        refine gw_iadd C dL_end_81 ?_
        refine gw_istore C (lo1 := [some (vR 232), some (vR 233), some (vR 234), some (vR 235), some (vR 236), some (vR 237), some (vR 238), some (vI (t : Int)), some (vI (leg : Int)), some (vI 1), some (vI (v + (((S (107 + 28 * t + 2 * k)) * (sinZ (sBr S t (k + 1) + 324000)))).tdiv 10000)), some (vI (k : Int)), some (vL ((sBr S t (k + 1)) + (324000 * 1))), none]) dL_end_82 (by decide) rfl ?_
        refine gw_iinc C (lo1 := [some (vR 232), some (vR 233), some (vR 234), some (vR 235), some (vR 236), some (vR 237), some (vR 238), some (vI (t : Int)), some (vI (leg : Int)), some (vI 1), some (vI (v + (((S (107 + 28 * t + 2 * k)) * (sinZ (sBr S t (k + 1) + 324000)))).tdiv 10000)), some (vI ((k : Int) + 1)), some (vL ((sBr S t (k + 1)) + (324000 * 1))), none]) dL_end_84 rfl (by decide) rfl ?_
        refine gw_goto C (tgt := 24) dL_end_87 (by decide) ?_
        exact gw_weak (lo' := [some (vR 232), some (vR 233), some (vR 234), some (vR 235), some (vR 236), some (vR 237), some (vR 238), some (vI (t : Int)), some (vI (leg : Int)), some (vI 1), some (vI (v + (((S (107 + 28 * t + 2 * k)) * (sinZ (sBr S t (k + 1) + 324000)))).tdiv 10000)), some (vI (((k + 1) : Nat) : Int)), none, none]) ⟨rfl, rfl, rfl, rfl, rfl, rfl, rfl, rfl, rfl, rfl, rfl, congrArg (fun q => some (vI q)) (by omega), trivial⟩ (ih_24 (v + (((S (107 + 28 * t + 2 * k)) * (sinZ (sBr S t (k + 1) + 324000)))).tdiv 10000) (k + 1) z_72 (by omega) (by exact en_0 hv) (by omega))
  exact gw_weak (lo' := [some (vR 232), some (vR 233), some (vR 234), some (vR 235), some (vR 236), some (vR 237), some (vR 238), some (vI (t : Int)), some (vI (leg : Int)), some (vI 1), some (vI (S (7 + 12 * ((S (78 + 6 * ((S (102 + 28 * t)).toNat))).toNat)))), some (vI (0 : Int)), none, none]) ⟨rfl, rfl, rfl, rfl, rfl, rfl, rfl, rfl, rfl, rfl, rfl, congrArg (fun q => some (vI q)) (by omega), trivial⟩ (loop_24 _ (S (7 + 12 * ((S (78 + 6 * ((S (102 + 28 * t)).toNat))).toNat))) 0 z (by omega) (by rfl) (Nat.lt_succ_self _))
set_option maxHeartbeats 4000000 in
set_option maxRecDepth 100000 in
theorem c_L_whole {l : Launch} (hl0 : l.stackTraces = false) (G : GG) (I J : GI) {z : Nat} {S : Nat → Int} (hR : rowL I = S) (ho : Oks S) (t : Nat) (htt : (t : Int) < S 5) : GM l yL_whole (.code yL_whole cL_whole 7 (some .boolean)) 6 145 0 0 G N0 SH RR [vR 231, vR 233, vR 234, vR 235, vR 236, vR 237, vI (t : Int)] z I J (boolQ (whl S t) I J) gNo := by
  refine gm_of (lo0 := [some (vR 231), some (vR 233), some (vR 234), some (vR 235), some (vR 236), some (vR 237), some (vI (t : Int))]) hl0 (by decide) rfl (Nat.le_of_ble_eq_true rfl) ?_
  intro p e s m args below meth c C ht hgi
  have C : gC G p l s m args meth c cL_whole 7 RL (some .boolean) "whole" := C
  have h0 := ho.1
  have h3 := ho.2.1
  have ht9 := okT ho htt
  have hf9 := ho.2.2.2.1 (S (102 + 28 * t)).toNat (by omega)
  have htm := sTT_m S t
  have htb : inI ((sTT S t).tmod 8) := by rcases sTT_v S t with h | h | h | h | h <;> rw [h] <;> exact ⟨by decide, by decide⟩
  refine gw_aload C dL_whole_0 rfl ?_
  refine gw_iconst C dL_whole_2 ?_
  refine gw_iload C dL_whole_3 rfl ?_
  refine gw_imul C dL_whole_5 ?_
  refine gw_iconst C dL_whole_6 ?_
  refine gw_iadd C dL_whole_7 ?_
  refine gw_iald C ((4 * t) + 2) dL_whole_8 xs_236 xn_236 (by omega) (by omega) (by decide) (fun hI_8 => ?_)
  rw [show (I 236 ((4 * t) + 2)) = (S (104 + 28 * t)) from by have e9 := lr_h2 (I := I) (t := t) (by omega); rw [hR] at e9; exact e9] at hI_8 ⊢
  refine gw_if_lt C (tgt := 35) dL_whole_9 (by decide) hI_8 (fun h_9 => ?_) (fun h_9 => ?_)
  · skip
    refine gw_iconst C dL_whole_35 ?_
    exact gw_zret C (Nat.le_of_ble_eq_true rfl) (Nat.le_of_ble_eq_true rfl) dL_whole_36 (Or.inl rfl) (⟨Or.inr ⟨(by omega), rfl⟩, rfl, rfl⟩)
  · skip
    refine gw_aload_n C 0 dL_whole_12 rfl rfl ?_
    refine gw_aload_n C 1 dL_whole_13 rfl rfl ?_
    refine gw_aload_n C 2 dL_whole_14 rfl rfl ?_
    refine gw_aload_n C 3 dL_whole_15 rfl rfl ?_
    refine gw_aload C dL_whole_16 rfl ?_
    refine gw_aload C dL_whole_18 rfl ?_
    refine gw_iload C dL_whole_20 rfl ?_
    refine gw_callSm C (as := [vR 231, vR 233, vR 234, vR 235, vR 236, vR 237, vI (t : Int)]) (st := []) (c_L_trouble hl0 G I J hR ho t (by omega)) dL_whole_22 kL_123 qL_trouble hdL_trouble ⟨Nat.le_of_ble_eq_true rfl, Nat.le_of_ble_eq_true rfl⟩ ⟨Nat.le_of_ble_eq_true rfl, Nat.le_of_ble_eq_true rfl⟩ (Nat.le_of_ble_eq_true rfl) rfl (fun z_22 => ?_)
    have hr_22 := sTT_v S t
    refine gw_bipush C dL_whole_25 rfl ?_
    refine gw_irem C dL_whole_27 (by first | omega | assumption | exact hgi _ _) ⟨by decide, by decide⟩ (by decide) ?_
    refine gw_if_ne C (tgt := 35) dL_whole_28 (by decide) (by first | omega | assumption | exact hgi _ _) (fun h_28 => ?_) (fun h_28 => ?_)
    · skip
      refine gw_iconst C dL_whole_35 ?_
      exact gw_zret C (Nat.le_of_ble_eq_true rfl) (Nat.le_of_ble_eq_true rfl) dL_whole_36 (Or.inl rfl) (⟨Or.inr ⟨(by omega), rfl⟩, rfl, rfl⟩)
    · skip
      refine gw_iconst C dL_whole_31 ?_
      refine gw_goto C (tgt := 36) dL_whole_32 (by decide) ?_
      exact gw_zret C (Nat.le_of_ble_eq_true rfl) (Nat.le_of_ble_eq_true rfl) dL_whole_36 (Or.inr rfl) (⟨Or.inl ⟨(by omega), rfl⟩, rfl, rfl⟩)
set_option maxHeartbeats 4000000 in
set_option maxRecDepth 100000 in
theorem c_L_miss0 {l : Launch} (hl0 : l.stackTraces = false) (G : GG) (I J : GI) {z : Nat} {S : Nat → Int} (hR : rowL I = S) (ho : Oks S) (t : Nat) (htt : (t : Int) < S 5) (hc : 0 ≤ S (104 + 28 * t)) : GM l yL_miss (.code yL_miss cL_miss 9 (some .int)) 4 113 0 0 G N0 SH RR [vR 232, vR 233, vR 234, vR 235, vR 236, vR 237, vR 238, vI (t : Int), vI 0] z I J (memQ (some (vI (sME S t))) I J) gNo := by
  refine gm_of (lo0 := [some (vR 232), some (vR 233), some (vR 234), some (vR 235), some (vR 236), some (vR 237), some (vR 238), some (vI (t : Int)), some (vI 0)]) hl0 (by decide) rfl (Nat.le_of_ble_eq_true rfl) ?_
  intro p e s m args below meth c C ht hgi
  have C : gC G p l s m args meth c cL_miss 9 RL (some .int) "miss" := C
  have h0 := ho.1
  have h3 := ho.2.1
  have ht9 := okT ho htt
  have hf9 := ho.2.2.2.1 (S (102 + 28 * t)).toNat (by omega)
  have hlg := ht9.2.1 hc
  have hl9 := ho.2.2.2.1 (S (104 + 28 * t)).toNat (by omega)
  have hn9 := ho.2.2.1 (S (78 + 6 * (S (104 + 28 * t)).toNat)).toNat (by omega)
  refine gw_aload_n C 0 dL_miss_0 rfl rfl ?_
  refine gw_aload_n C 1 dL_miss_1 rfl rfl ?_
  refine gw_aload_n C 2 dL_miss_2 rfl rfl ?_
  refine gw_aload_n C 3 dL_miss_3 rfl rfl ?_
  refine gw_aload C dL_miss_4 rfl ?_
  refine gw_aload C dL_miss_6 rfl ?_
  refine gw_aload C dL_miss_8 rfl ?_
  refine gw_iload C dL_miss_10 rfl ?_
  refine gw_aload C dL_miss_12 rfl ?_
  refine gw_iconst C dL_miss_14 ?_
  refine gw_iload C dL_miss_15 rfl ?_
  refine gw_imul C dL_miss_17 ?_
  refine gw_iconst C dL_miss_18 ?_
  refine gw_iadd C dL_miss_19 ?_
  refine gw_iald C ((4 * t) + 1) dL_miss_20 xs_236 xn_236 (by omega) (by omega) (by decide) (fun hI_20 => ?_)
  rw [show (I 236 ((4 * t) + 1)) = (((S (103 + 28 * t)).toNat : Nat) : Int) from by have e9 := lr_h1 (I := I) (t := t) (by omega); rw [hR] at e9; omega] at hI_20 ⊢
  refine gw_iconst C dL_miss_21 ?_
  refine gw_isub C dL_miss_22 ?_
  rw [show ((((S (103 + 28 * t)).toNat : Nat) : Int) - 1) = ((((S (103 + 28 * t)).toNat - 1) : Nat) : Int) from by omega]
  refine gw_iload C dL_miss_23 rfl ?_
  refine gw_callSm C (as := [vR 232, vR 233, vR 234, vR 235, vR 236, vR 237, vR 238, vI (t : Int), vI ((((S (103 + 28 * t)).toNat - 1) : Nat) : Int), vI 0]) (st := []) (c_L_end0 hl0 G I J hR ho t ((S (103 + 28 * t)).toNat - 1) (by omega) (by omega)) dL_miss_25 kL_127 qL_end hdL_end ⟨Nat.le_of_ble_eq_true rfl, Nat.le_of_ble_eq_true rfl⟩ ⟨Nat.le_of_ble_eq_true rfl, Nat.le_of_ble_eq_true rfl⟩ (Nat.le_of_ble_eq_true rfl) rfl (fun z_25 => ?_)
  rw [show sEa S t (((S (103 + 28 * t)).toNat - 1) + 1) = (sEa S t (sLg S t)) from by congr 1; unfold sLg; omega]
  have hr_25 := sEa_b ho (t := t) (by omega) (((S (103 + 28 * t)).toNat - 1) + 1) (by omega)
  refine gw_aload_n C 0 dL_miss_28 rfl rfl ?_
  refine gw_iconst C dL_miss_29 ?_
  refine gw_aload_n C 3 dL_miss_30 rfl rfl ?_
  refine gw_bipush C dL_miss_31 rfl ?_
  refine gw_aload C dL_miss_33 rfl ?_
  refine gw_iconst C dL_miss_35 ?_
  refine gw_iload C dL_miss_36 rfl ?_
  refine gw_imul C dL_miss_38 ?_
  refine gw_iconst C dL_miss_39 ?_
  refine gw_iadd C dL_miss_40 ?_
  refine gw_iald C ((4 * t) + 2) dL_miss_41 xs_236 xn_236 (by omega) (by omega) (by decide) (fun hI_41 => ?_)
  rw [show (I 236 ((4 * t) + 2)) = (((S (104 + 28 * t)).toNat : Nat) : Int) from by have e9 := lr_h2 (I := I) (t := t) (by omega); rw [hR] at e9; omega] at hI_41 ⊢
  refine gw_imul C dL_miss_42 ?_
  refine gw_iald C (6 * (S (104 + 28 * t)).toNat) dL_miss_43 xs_235 xn_235 (by omega) (by omega) (by decide) (fun hI_43 => ?_)
  rw [show (I 235 (6 * (S (104 + 28 * t)).toNat)) = (((S (78 + 6 * ((S (104 + 28 * t)).toNat))).toNat : Nat) : Int) from by have e9 := lr_j0 (I := I) (i := (S (104 + 28 * t)).toNat) (by omega); rw [hR] at e9; omega] at hI_43 ⊢
  refine gw_imul C dL_miss_44 ?_
  refine gw_iload C dL_miss_45 rfl ?_
  refine gw_iadd C dL_miss_47 ?_
  refine gw_iald C ((2 * (S (78 + 6 * ((S (104 + 28 * t)).toNat))).toNat) + 0) dL_miss_48 xs_232 xn_232 (by omega) (by omega) (by decide) (fun hI_48 => ?_)
  rw [show (I 232 ((2 * (S (78 + 6 * ((S (104 + 28 * t)).toNat))).toNat) + 0)) = (S (6 + 12 * ((S (78 + 6 * ((S (104 + 28 * t)).toNat))).toNat))) from by have e9 := lr_x (I := I) (i := (S (78 + 6 * ((S (104 + 28 * t)).toNat))).toNat) (by omega); rw [hR] at e9; exact e9] at hI_48 ⊢
  refine gw_isub C dL_miss_49 ?_
  exact gw_iret C (Nat.le_of_ble_eq_true rfl) (Nat.le_of_ble_eq_true rfl) dL_miss_50 (⟨congrArg (fun q => some (vI q)) (by rfl), rfl, rfl⟩)
set_option maxHeartbeats 4000000 in
set_option maxRecDepth 100000 in
theorem c_L_miss1 {l : Launch} (hl0 : l.stackTraces = false) (G : GG) (I J : GI) {z : Nat} {S : Nat → Int} (hR : rowL I = S) (ho : Oks S) (t : Nat) (htt : (t : Int) < S 5) (hc : 0 ≤ S (104 + 28 * t)) : GM l yL_miss (.code yL_miss cL_miss 9 (some .int)) 4 113 0 0 G N0 SH RR [vR 232, vR 233, vR 234, vR 235, vR 236, vR 237, vR 238, vI (t : Int), vI 1] z I J (memQ (some (vI (sMN S t))) I J) gNo := by
  refine gm_of (lo0 := [some (vR 232), some (vR 233), some (vR 234), some (vR 235), some (vR 236), some (vR 237), some (vR 238), some (vI (t : Int)), some (vI 1)]) hl0 (by decide) rfl (Nat.le_of_ble_eq_true rfl) ?_
  intro p e s m args below meth c C ht hgi
  have C : gC G p l s m args meth c cL_miss 9 RL (some .int) "miss" := C
  have h0 := ho.1
  have h3 := ho.2.1
  have ht9 := okT ho htt
  have hf9 := ho.2.2.2.1 (S (102 + 28 * t)).toNat (by omega)
  have hlg := ht9.2.1 hc
  have hl9 := ho.2.2.2.1 (S (104 + 28 * t)).toNat (by omega)
  have hn9 := ho.2.2.1 (S (78 + 6 * (S (104 + 28 * t)).toNat)).toNat (by omega)
  refine gw_aload_n C 0 dL_miss_0 rfl rfl ?_
  refine gw_aload_n C 1 dL_miss_1 rfl rfl ?_
  refine gw_aload_n C 2 dL_miss_2 rfl rfl ?_
  refine gw_aload_n C 3 dL_miss_3 rfl rfl ?_
  refine gw_aload C dL_miss_4 rfl ?_
  refine gw_aload C dL_miss_6 rfl ?_
  refine gw_aload C dL_miss_8 rfl ?_
  refine gw_iload C dL_miss_10 rfl ?_
  refine gw_aload C dL_miss_12 rfl ?_
  refine gw_iconst C dL_miss_14 ?_
  refine gw_iload C dL_miss_15 rfl ?_
  refine gw_imul C dL_miss_17 ?_
  refine gw_iconst C dL_miss_18 ?_
  refine gw_iadd C dL_miss_19 ?_
  refine gw_iald C ((4 * t) + 1) dL_miss_20 xs_236 xn_236 (by omega) (by omega) (by decide) (fun hI_20 => ?_)
  rw [show (I 236 ((4 * t) + 1)) = (((S (103 + 28 * t)).toNat : Nat) : Int) from by have e9 := lr_h1 (I := I) (t := t) (by omega); rw [hR] at e9; omega] at hI_20 ⊢
  refine gw_iconst C dL_miss_21 ?_
  refine gw_isub C dL_miss_22 ?_
  rw [show ((((S (103 + 28 * t)).toNat : Nat) : Int) - 1) = ((((S (103 + 28 * t)).toNat - 1) : Nat) : Int) from by omega]
  refine gw_iload C dL_miss_23 rfl ?_
  refine gw_callSm C (as := [vR 232, vR 233, vR 234, vR 235, vR 236, vR 237, vR 238, vI (t : Int), vI ((((S (103 + 28 * t)).toNat - 1) : Nat) : Int), vI 1]) (st := []) (c_L_end1 hl0 G I J hR ho t ((S (103 + 28 * t)).toNat - 1) (by omega) (by omega)) dL_miss_25 kL_127 qL_end hdL_end ⟨Nat.le_of_ble_eq_true rfl, Nat.le_of_ble_eq_true rfl⟩ ⟨Nat.le_of_ble_eq_true rfl, Nat.le_of_ble_eq_true rfl⟩ (Nat.le_of_ble_eq_true rfl) rfl (fun z_25 => ?_)
  rw [show sNo S t (((S (103 + 28 * t)).toNat - 1) + 1) = (sNo S t (sLg S t)) from by congr 1; unfold sLg; omega]
  have hr_25 := sEa_b ho (t := t) (by omega) (((S (103 + 28 * t)).toNat - 1) + 1) (by omega)
  refine gw_aload_n C 0 dL_miss_28 rfl rfl ?_
  refine gw_iconst C dL_miss_29 ?_
  refine gw_aload_n C 3 dL_miss_30 rfl rfl ?_
  refine gw_bipush C dL_miss_31 rfl ?_
  refine gw_aload C dL_miss_33 rfl ?_
  refine gw_iconst C dL_miss_35 ?_
  refine gw_iload C dL_miss_36 rfl ?_
  refine gw_imul C dL_miss_38 ?_
  refine gw_iconst C dL_miss_39 ?_
  refine gw_iadd C dL_miss_40 ?_
  refine gw_iald C ((4 * t) + 2) dL_miss_41 xs_236 xn_236 (by omega) (by omega) (by decide) (fun hI_41 => ?_)
  rw [show (I 236 ((4 * t) + 2)) = (((S (104 + 28 * t)).toNat : Nat) : Int) from by have e9 := lr_h2 (I := I) (t := t) (by omega); rw [hR] at e9; omega] at hI_41 ⊢
  refine gw_imul C dL_miss_42 ?_
  refine gw_iald C (6 * (S (104 + 28 * t)).toNat) dL_miss_43 xs_235 xn_235 (by omega) (by omega) (by decide) (fun hI_43 => ?_)
  rw [show (I 235 (6 * (S (104 + 28 * t)).toNat)) = (((S (78 + 6 * ((S (104 + 28 * t)).toNat))).toNat : Nat) : Int) from by have e9 := lr_j0 (I := I) (i := (S (104 + 28 * t)).toNat) (by omega); rw [hR] at e9; omega] at hI_43 ⊢
  refine gw_imul C dL_miss_44 ?_
  refine gw_iload C dL_miss_45 rfl ?_
  refine gw_iadd C dL_miss_47 ?_
  refine gw_iald C ((2 * (S (78 + 6 * ((S (104 + 28 * t)).toNat))).toNat) + 1) dL_miss_48 xs_232 xn_232 (by omega) (by omega) (by decide) (fun hI_48 => ?_)
  rw [show (I 232 ((2 * (S (78 + 6 * ((S (104 + 28 * t)).toNat))).toNat) + 1)) = (S (7 + 12 * ((S (78 + 6 * ((S (104 + 28 * t)).toNat))).toNat))) from by have e9 := lr_y (I := I) (i := (S (78 + 6 * ((S (104 + 28 * t)).toNat))).toNat) (by omega); rw [hR] at e9; exact e9] at hI_48 ⊢
  refine gw_isub C dL_miss_49 ?_
  exact gw_iret C (Nat.le_of_ble_eq_true rfl) (Nat.le_of_ble_eq_true rfl) dL_miss_50 (⟨congrArg (fun q => some (vI q)) (by rfl), rfl, rfl⟩)
