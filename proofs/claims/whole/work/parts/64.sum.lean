def hsF (v : Nat → Int) : Nat → Int → Int
  | 0, h => h
  | n + 1, h => 31 * hsF v n h + v n
theorem hs_s {v : Nat → Int} {n : Nat} {h : Int} : hsF v (n + 1) h = 31 * hsF v n h + v n := rfl
def hnF (v : Nat → Nat → Int) (m : Nat) : Nat → Int → Int
  | 0, h => h
  | i + 1, h => hsF (v i) m (hnF v m i h)
theorem hn_s {v : Nat → Nat → Int} {m i : Nat} {h : Int} : hnF v m (i + 1) h = hsF (v i) m (hnF v m i h) := rfl
theorem hs_add {v : Nat → Int} {a : Nat} {h : Int} : ∀ b : Nat, hsF v (a + b) h = hsF (fun k => v (a + k)) b (hsF v a h) := by
  intro b
  induction b with
  | zero => rfl
  | succ b ih => rw [← Nat.add_assoc, hs_s, ih, hs_s]
theorem hs_c {v v' : Nat → Int} {h : Int} : ∀ n : Nat, (∀ k, k < n → v k = v' k) → hsF v n h = hsF v' n h := by
  intro n
  induction n with
  | zero => intro _; rfl
  | succ n ih => intro g; rw [hs_s, hs_s, ih (fun k hk => g k (by omega)), g n (by omega)]
theorem hn_hs {v : Nat → Nat → Int} {m : Nat} {h : Int} (hm : 0 < m) : ∀ n : Nat, hsF (fun k => v (k / m) (k % m)) (m * n) h = hnF v m n h := by
  intro n
  induction n with
  | zero => rfl
  | succ n ih =>
    rw [Nat.mul_succ, hs_add, ih, hn_s]
    refine hs_c m (fun k hk => ?_)
    show v ((m * n + k) / m) ((m * n + k) % m) = v n k
    rw [Nat.mul_add_div hm, Nat.div_eq_of_lt hk, Nat.mul_add_mod, Nat.mod_eq_of_lt hk, Nat.add_zero]
def ctF (S : Nat → Int) (t : Nat) (h : Int) : Int := hsF (fun a => rTrb S t (a : Int)) 3 (31 * hnF (fun k a => rLeg S t k (a : Int)) 5 (sLg S t) (hsF (fun a => rTrav S t (a : Int)) 10 h) + rSus S t)
def htF (S : Nat → Int) : Nat → Int → Int
  | 0, h => h
  | t + 1, h => ctF S t (htF S t h)
theorem ht_s {S : Nat → Int} {t : Nat} {h : Int} : htF S (t + 1) h = ctF S t (htF S t h) := rfl
def c1F (S : Nat → Int) : Int := hsF (fun k => rInfo S (k : Int)) 8 12946
def c2F (S : Nat → Int) : Int := hnF (fun i a => rWire S i (a : Int)) 6 (S 3).toNat (c1F S)
def c3F (S : Nat → Int) : Int := hnF (fun i a => rJoinOf S i (a : Int)) 8 (S 4).toNat (c2F S)
def c4F (S : Nat → Int) : Int := htF S (S 5).toNat (c3F S)
def ckF (S : Nat → Int) (n c : Int) : Int := 31 * (31 * c4F S + n) + c
theorem sR_i {S : Nat → Int} {i : Nat} (ho : Oks S) (hi : (i : Int) < S 3) : inI (sR S i) := by
  have w := ho.2.2.1 i hi
  by_cases h3 : S (8 + 12 * i) < 3
  · unfold sR restF
    rw [if_pos (by omega)]
    exact ⟨by decide, by decide⟩
  · have hl := smF_lo (t := sTu S i) (m := (S (8 + 12 * i)).toNat) (fun k hk => w.2 k (by omega)) ((S (8 + 12 * i)).toNat - 2) (by omega)
    have a0 : 0 ≤ sTu S i 0 ∧ sTu S i 0 ≤ 999 := by have := w.2 0 (by omega); exact this
    have a1 : 0 ≤ sTu S i ((S (8 + 12 * i)).toNat - 1) ∧ sTu S i ((S (8 + 12 * i)).toNat - 1) ≤ 999 := w.2 _ (by omega)
    rw [show (S (8 + 12 * i)).toNat - 2 + 1 = (S (8 + 12 * i)).toNat - 1 by omega] at hl
    unfold sR restF
    rw [if_neg (by omega)]
    have := tdiv_b (sTu S i 0 + sTu S i ((S (8 + 12 * i)).toNat - 1) + 2 * (smF ((S (8 + 12 * i)).toNat - 1) (sTu S i) - sTu S i 0)) (c := 2 * (((S (8 + 12 * i)).toNat : Int) - 1)) (by omega)
    have hb := this.1 (by omega)
    exact ⟨by omega, by omega⟩
theorem rInfo_i {S : Nat → Int} {w : Int} (ho : Oks S) (hw : 0 ≤ w ∧ w ≤ 7) : inI (rInfo S w) := by
  have o0 := ho.1
  have o3 := ho.2.1
  have a := smF_b (m := (S 5).toNat) (M := 12) (t := fun k => S (103 + 28 * k)) (fun k hk => (ho.2.2.2.2 k (by omega)).1.2.1) _ (Nat.le_refl _)
  have b := smF_b (m := (S 3).toNat) (M := 9) (t := fun k => S (8 + 12 * k)) (fun k hk => (ho.2.2.1 k (by omega)).1.2.2) _ (Nat.le_refl _)
  have c : inI (S w.toNat) ∨ 3 ≤ w := by
    rcases (show w = 0 ∨ w = 1 ∨ w = 2 ∨ 3 ≤ w by omega) with e | e | e | e
    · subst e; exact Or.inl ⟨by show _ ≤ S 0; omega, by show S 0 ≤ _; omega⟩
    · subst e; exact Or.inl ⟨by show _ ≤ S 1; omega, by show S 1 ≤ _; omega⟩
    · subst e; exact Or.inl ⟨by show _ ≤ S 2; omega, by show S 2 ≤ _; omega⟩
    · exact Or.inr e
  unfold rInfo
  (repeat' split) <;> first | exact ⟨by omega, by omega⟩ | exact c.elim id (fun h => by omega)
theorem rWire_i {S : Nat → Int} {i : Nat} {a : Int} (ho : Oks S) (hi : (i : Int) < S 3) : inI (rWire S i a) := by
  have w := (ho.2.2.1 i hi).1
  have r := sR_i ho hi
  have d := sD_b ho hi
  have t := sT_v S i
  unfold rWire
  (repeat' split) <;> first | exact r | exact ⟨by omega, by omega⟩
theorem rJoinOf_i {S : Nat → Int} {i : Nat} {a : Int} (ho : Oks S) (hi : (i : Int) < S 4) : inI (rJoinOf S i a) := by
  have w := ho.2.2.2.1 i hi
  have o3 := ho.2.1
  have t := sJ_v S i
  have s := sS0_b S i
  unfold rJoinOf
  (repeat' split) <;> exact ⟨by omega, by omega⟩
theorem rTrav_i {S : Nat → Int} {t : Nat} {a : Int} (ho : Oks S) (hi : (t : Int) < S 5) : inI (rTrav S t a) := by
  have w := okT ho hi
  have o3 := ho.2.1
  have v := sTT_v S t
  have s := smF_b (m := sLg S t) (M := 200000) (t := sLe S t) (fun k hk => by have h9 := (w.2.2 k (by unfold sLg at hk; omega)).2; unfold sLe; omega) _ (Nat.le_refl _)
  have l9 : sLg S t ≤ 12 := by unfold sLg; omega
  have g := sG_b S t
  unfold rTrav
  by_cases h : whl S t
  · have m := sME_c ho hi h.1
    have q := sq2 (x := sME S t) (y := sMN S t) (by omega) (by omega)
    have r1 := (rootZ_s q.1).1
    have r2 := rootZ_le (m := 100000000) q.1 (by decide) (by omega)
    rw [if_pos h]
    (repeat' split) <;> exact ⟨by omega, by omega⟩
  · rw [if_neg h]
    (repeat' split) <;> exact ⟨by omega, by omega⟩
theorem rLeg_i {S : Nat → Int} {t k : Nat} {a : Int} (ho : Oks S) (hi : (t : Int) < S 5) (hk : (k : Int) < S (103 + 28 * t)) : inI (rLeg S t k a) := by
  have w := (okT ho hi).2.2 k hk
  have b := sBr_b S t k
  have e := sEa_b ho hi (k + 1) (by omega)
  unfold rLeg sAn sLe
  (repeat' split) <;> exact ⟨by omega, by omega⟩
theorem agK_1 {key v : Nat → Int} : ∀ n : Nat, (agK key v n).1 = -2000000000 ∨ ∃ k, k < n ∧ (agK key v n).1 = key k := by
  intro n
  induction n with
  | zero => exact Or.inl rfl
  | succ n ih =>
    rw [agK_s]
    split
    · exact Or.inr ⟨n, by omega, rfl⟩
    · rcases ih with h | ⟨k, hk, h⟩
      · exact Or.inl h
      · exact Or.inr ⟨k, by omega, h⟩
theorem rSus_i {S : Nat → Int} {t : Nat} (ho : Oks S) (hi : (t : Int) < S 5) : inI (rSus S t) := by
  have w := (okT ho hi).1.2.1
  unfold rSus
  split
  · rcases agK_1 (key := fun k => (k : Int)) (v := suS S t) (sLg S t) with h | ⟨k, hk, h⟩
    · rw [h]; exact ⟨by decide, by decide⟩
    · rw [h]; unfold sLg at hk; exact ⟨by show _ ≤ (k : Int); omega, by show (k : Int) ≤ _; omega⟩
  · exact ⟨by decide, by decide⟩
theorem rTrb_i (S : Nat → Int) (t : Nat) (v : Int) : inI (rTrb S t v) := by
  have a := sTT_v S t
  have b := sJ_v S (sFi S t)
  have c := sJ_v S (sLa S t)
  have d := sC_v S (sFi S t)
  have e := sC_v S (sLa S t)
  unfold rTrb jlS
  (repeat' split) <;> exact ⟨by omega, by omega⟩
set_option maxHeartbeats 4000000 in
set_option maxRecDepth 100000 in
theorem c_X7_checkWires {l : Launch} (hl0 : l.stackTraces = false) (G : GG) (I J : GI) {z : Nat} {S : Nat → Int} {D9 : Nat → Nat → Int} {c9 : Nat} (hCI : CI I S D9 c9) (x1 : Int) : GM l yX7_checkWires (.code yX7_checkWires cX7_checkWires 8 (some .long)) 2 43 0 0 G N0 SH RR [vR 0, vL x1] z I J (memQ (some (vL (hnF (fun i a => rWire S i (a : Int)) 6 (S 3).toNat x1))) I J) gNo := by
  refine gm_of (lo0 := [some (vR 0), some (vL x1), none, none, none, none, none, none]) hl0 (by decide) rfl (Nat.le_of_ble_eq_true rfl) ?_
  intro p e s m args below meth c C ht hgi
  have C : gC G p l s m args meth c cX7_checkWires 8 RX7 (some .long) "checkWires" := C
  have hR := hCI.1.1.1
  have ho := hCI.1.1.2.1
  have hw := hCI.1.1.2.2
  have hj := hCI.2
  have hcnt := hR.2.1
  have hobd := ho.2.1
  refine gw_lload_n C 1 dX7_checkWires_0 rfl rfl ?_
  refine gw_lstore_n C (lo1 := [some (vR 0), some (vL x1), none, some (vL x1), none, none, none, none]) 3 dX7_checkWires_1 rfl (by decide) rfl ?_
  refine gw_iconst C dX7_checkWires_2 ?_
  refine gw_istore C (lo1 := [some (vR 0), some (vL x1), none, some (vL x1), none, some (vI 0), none, none]) dX7_checkWires_3 (by decide) rfl ?_
  have loop_5 : ∀ (fuel : Nat) (h : Int) (i : Nat) (z1 : Nat), ((i : Int) ≤ S 3) → (h = hnF (fun i a => rWire S i (a : Int)) 6 i x1) → 7 - i < fuel → GW G p l e ({ frames := 2, cells := 0, slots := 0, locals := 43 } : Room) s m args below meth c 8 z1 N0 SH RR I J 0 0 (vx_MQ below (GQ G N0 SH RR (memQ (some (vL (hnF (fun i a => rWire S i (a : Int)) 6 (S 3).toNat x1))) I J)) (GX G N0 SH RR gNo) args s 0 0 (ge G)) 5 [some (vR 0), some (vL x1), none, some (vL h), none, some (vI (i : Int)), none, none] [] := by
    intro fuel
    induction fuel with
    | zero => intro h i z1 hi hh hf_5; exact absurd hf_5 (Nat.not_lt_zero _)
    | succ fuel ih_5 =>
      intro h i z1 hi hh hf_5
      refine gw_iload C dX7_checkWires_5 rfl ?_
      refine gw_aload_n C 0 dX7_checkWires_7 rfl rfl ?_
      refine gw_getRs (ci := 6) (Cn := RX7) (T0 := TX7) (N := 3) C 1 0 kX7_10 fX7 rfl (by decide) rfl rfl dX7_checkWires_8 xs_0 xn_0 xr_0_0 ?_
      refine gw_getI (ci := 2) (Cn := RX2) (T0 := TX2) (N := 7) C 1 kX7_66 fX2 rfl (by decide) rfl rfl dX7_checkWires_11 (mq_s mineQ_live) (mq_n mineQ_live) (fun hI_11 => ?_)
      refine gw_icmp_ge C (tgt := 69) dX7_checkWires_14 (by decide) (by omega) hI_11 (fun h_14 => ?_) (fun h_14 => ?_)
      · skip
        refine gw_lload_n C 3 dX7_checkWires_69 rfl rfl ?_
        exact gw_lret C (Nat.le_of_ble_eq_true rfl) (Nat.le_of_ble_eq_true rfl) dX7_checkWires_70 (⟨congrArg (fun q => some (vL q)) (by rw [hh]; congr 1; omega), rfl, rfl⟩)
      · skip
        refine gw_aload_n C 0 dX7_checkWires_17 rfl rfl ?_
        refine gw_getRs (ci := 6) (Cn := RX7) (T0 := TX7) (N := 3) C 1 0 kX7_10 fX7 rfl (by decide) rfl rfl dX7_checkWires_18 xs_0 xn_0 xr_0_0 ?_
        refine gw_iload C dX7_checkWires_21 rfl ?_
        refine gw_callV C (as := [vI (i : Int)]) (st := []) (ci := 2) (T0 := TX2) (N := 7) (c_X2_wireAt hl0 G I J mineQ_live (by omega) (i : Int) (by omega)) dX7_checkWires_23 kX7_82 qX2_wireAt hdX2_wireAt ⟨Nat.le_of_ble_eq_true rfl, Nat.le_of_ble_eq_true rfl⟩ ⟨Nat.le_of_ble_eq_true rfl, Nat.le_of_ble_eq_true rfl⟩ (Nat.le_of_ble_eq_true rfl) rfl (mq_s mineQ_live) (mq_n mineQ_live) rfl (fun _ _ _ _ h => h.elim) ?_
        intro v_23 zq_23 I_23 J_23 hq_23_2
        obtain ⟨⟨hq_23_2, rfl⟩ | ⟨hq_23_2, rfl⟩, eI_23, eJ_23⟩ := hq_23_2
        all_goals rw [eI_23, eJ_23]
        · skip
          show GW G p l e ({ frames := 2, cells := 0, slots := 0, locals := 43 } : Room) s m args below meth c 8 zq_23 N0 SH RR I J 0 0 (vx_MQ below (GQ G N0 SH RR (memQ (some (vL (hnF (fun i a => rWire S i (a : Int)) 6 (S 3).toNat x1))) I J)) (GX G N0 SH RR gNo) args s 0 0 (ge G)) 26 [some (vR 0), some (vL x1), none, some (vL h), none, some (vI (i : Int)), none, none] [vR (1 + 5 + 2 * ((i : Int)).toNat)]
          rw [show ((i : Int)).toNat = i from rfl]
          refine gw_astore C (lo1 := [some (vR 0), some (vL x1), none, some (vL h), none, some (vI (i : Int)), some (vR (1 + 5 + 2 * i)), none]) dX7_checkWires_26 (by decide) rfl ?_
          refine gw_iconst C dX7_checkWires_28 ?_
          refine gw_istore C (lo1 := [some (vR 0), some (vL x1), none, some (vL h), none, some (vI (i : Int)), some (vR (1 + 5 + 2 * i)), some (vI 0)]) dX7_checkWires_29 (by decide) rfl ?_
          have loop_31 : ∀ (fuel : Nat) (h2 : Int) (a : Nat) (z2 : Nat), (a ≤ 6) → (h2 = hsF (fun a => rWire S i (a : Int)) a h) → 7 - a < fuel → GW G p l e ({ frames := 2, cells := 0, slots := 0, locals := 43 } : Room) s m args below meth c 8 z2 N0 SH RR I J 0 0 (vx_MQ below (GQ G N0 SH RR (memQ (some (vL (hnF (fun i a => rWire S i (a : Int)) 6 (S 3).toNat x1))) I J)) (GX G N0 SH RR gNo) args s 0 0 (ge G)) 31 [some (vR 0), some (vL x1), none, some (vL h2), none, some (vI (i : Int)), some (vR (1 + 5 + 2 * i)), some (vI (a : Int))] [] := by
            intro fuel
            induction fuel with
            | zero => intro h2 a z2 ha hh2 hf_31; exact absurd hf_31 (Nat.not_lt_zero _)
            | succ fuel ih_31 =>
              intro h2 a z2 ha hh2 hf_31
              refine gw_iload C dX7_checkWires_31 rfl ?_
              refine gw_iconst C dX7_checkWires_33 ?_
              refine gw_icmp_gt C (tgt := 63) dX7_checkWires_34 (by decide) (by omega) ⟨by decide, by decide⟩ (fun h_34 => ?_) (fun h_34 => ?_)
              · skip
                refine gw_iinc C (lo1 := [some (vR 0), some (vL x1), none, some (vL h2), none, some (vI ((i : Int) + 1)), some (vR (1 + 5 + 2 * i)), some (vI (a : Int))]) dX7_checkWires_63 rfl (by decide) rfl ?_
                refine gw_goto C (tgt := 5) dX7_checkWires_66 (by decide) ?_
                exact gw_weak (lo' := [some (vR 0), some (vL x1), none, some (vL h2), none, some (vI (((i + 1) : Nat) : Int)), none, none]) ⟨rfl, rfl, rfl, congrArg (fun q => some (vI q)) (by omega), trivial⟩ (ih_5 h2 (i + 1) z2 (by omega) (by rw [hn_s, ← hh, hh2]; congr 1; omega) (by omega))
              · skip
                refine gw_aload C dX7_checkWires_37 rfl ?_
                refine gw_ifnull C dX7_checkWires_39 ?_
                refine gw_ldc2 C (x := 31) dX7_checkWires_42 kX7_262 (by decide) ?_
                refine gw_lload_n C 3 dX7_checkWires_45 rfl rfl ?_
                refine gw_lmul C dX7_checkWires_46 ?_
                refine gw_aload C dX7_checkWires_47 rfl ?_
                refine gw_iload C dX7_checkWires_49 rfl ?_
                refine gw_callVm C (as := [vI (a : Int)]) (st := [vL (31 * h2)]) (ci := 5) (T0 := TX6) (N := 7) (c_X6_number hl0 G I J (mq_wq mineQ_live i (by omega))  (a : Int) (by omega)) dX7_checkWires_51 kX7_99 qX6_number hdX6_number ⟨Nat.le_of_ble_eq_true rfl, Nat.le_of_ble_eq_true rfl⟩ ⟨Nat.le_of_ble_eq_true rfl, Nat.le_of_ble_eq_true rfl⟩ (Nat.le_of_ble_eq_true rfl) rfl (wq_s (mq_wq mineQ_live i (by omega))) (wq_n (mq_wq mineQ_live i (by omega))) rfl (fun z_51 => ?_)
                rw [wire_v hR hj (i := i) (by omega) (a : Int)]
                have hi9_51 : inI (rWire S i (a : Int)) := rWire_i ho (by omega)
                refine gw_i2l C dX7_checkWires_54 hi9_51 ?_
                refine gw_ladd C dX7_checkWires_55 ?_
                refine gw_lstore_n C (lo1 := [some (vR 0), some (vL x1), none, some (vL ((31 * h2) + (rWire S i (a : Int)))), none, some (vI (i : Int)), some (vR (1 + 5 + 2 * i)), some (vI (a : Int))]) 3 dX7_checkWires_56 rfl (by decide) rfl ?_
                refine gw_iinc C (lo1 := [some (vR 0), some (vL x1), none, some (vL ((31 * h2) + (rWire S i (a : Int)))), none, some (vI (i : Int)), some (vR (1 + 5 + 2 * i)), some (vI ((a : Int) + 1))]) dX7_checkWires_57 rfl (by decide) rfl ?_
                refine gw_goto C (tgt := 31) dX7_checkWires_60 (by decide) ?_
                exact gw_weak (lo' := [some (vR 0), some (vL x1), none, some (vL ((31 * h2) + (rWire S i (a : Int)))), none, some (vI (i : Int)), some (vR (1 + 5 + 2 * i)), some (vI (((a + 1) : Nat) : Int))]) ⟨rfl, rfl, rfl, rfl, rfl, congrArg (fun q => some (vI q)) (by omega), trivial⟩ (ih_31 ((31 * h2) + (rWire S i (a : Int))) (a + 1) z_51 (by omega) (by rw [hs_s, ← hh2]) (by omega))
          exact gw_weak (lo' := [some (vR 0), some (vL x1), none, some (vL h), none, some (vI (i : Int)), some (vR (1 + 5 + 2 * i)), some (vI (0 : Int))]) ⟨rfl, rfl, rfl, rfl, rfl, congrArg (fun q => some (vI q)) (by omega), trivial⟩ (loop_31 _ h 0 zq_23 (by omega) (by rfl) (Nat.lt_succ_self _))
        · exact absurd True.intro (by omega)
  exact gw_weak (lo' := [some (vR 0), some (vL x1), none, some (vL x1), none, some (vI (0 : Int)), none, none]) ⟨rfl, rfl, rfl, congrArg (fun q => some (vI q)) (by omega), trivial⟩ (loop_5 _ x1 0 z (by omega) (by rfl) (Nat.lt_succ_self _))
set_option maxHeartbeats 4000000 in
set_option maxRecDepth 100000 in
theorem c_X7_checkJoins {l : Launch} (hl0 : l.stackTraces = false) (G : GG) (I J : GI) {z : Nat} {S : Nat → Int} {D9 : Nat → Nat → Int} {c9 : Nat} (hCI : CI I S D9 c9) (x1 : Int) : GM l yX7_checkJoins (.code yX7_checkJoins cX7_checkJoins 8 (some .long)) 2 43 0 0 G N0 SH RR [vR 0, vL x1] z I J (memQ (some (vL (hnF (fun i a => rJoinOf S i (a : Int)) 8 (S 4).toNat x1))) I J) gNo := by
  refine gm_of (lo0 := [some (vR 0), some (vL x1), none, none, none, none, none, none]) hl0 (by decide) rfl (Nat.le_of_ble_eq_true rfl) ?_
  intro p e s m args below meth c C ht hgi
  have C : gC G p l s m args meth c cX7_checkJoins 8 RX7 (some .long) "checkJoins" := C
  have hR := hCI.1.1.1
  have ho := hCI.1.1.2.1
  have hw := hCI.1.1.2.2
  have hj := hCI.2
  have hcnt := hR.2.1
  have hobd := ho.2.1
  refine gw_lload_n C 1 dX7_checkJoins_0 rfl rfl ?_
  refine gw_lstore_n C (lo1 := [some (vR 0), some (vL x1), none, some (vL x1), none, none, none, none]) 3 dX7_checkJoins_1 rfl (by decide) rfl ?_
  refine gw_iconst C dX7_checkJoins_2 ?_
  refine gw_istore C (lo1 := [some (vR 0), some (vL x1), none, some (vL x1), none, some (vI 0), none, none]) dX7_checkJoins_3 (by decide) rfl ?_
  have loop_5 : ∀ (fuel : Nat) (h : Int) (i : Nat) (z1 : Nat), ((i : Int) ≤ S 4) → (h = hnF (fun i a => rJoinOf S i (a : Int)) 8 i x1) → 7 - i < fuel → GW G p l e ({ frames := 2, cells := 0, slots := 0, locals := 43 } : Room) s m args below meth c 8 z1 N0 SH RR I J 0 0 (vx_MQ below (GQ G N0 SH RR (memQ (some (vL (hnF (fun i a => rJoinOf S i (a : Int)) 8 (S 4).toNat x1))) I J)) (GX G N0 SH RR gNo) args s 0 0 (ge G)) 5 [some (vR 0), some (vL x1), none, some (vL h), none, some (vI (i : Int)), none, none] [] := by
    intro fuel
    induction fuel with
    | zero => intro h i z1 hi hh hf_5; exact absurd hf_5 (Nat.not_lt_zero _)
    | succ fuel ih_5 =>
      intro h i z1 hi hh hf_5
      refine gw_iload C dX7_checkJoins_5 rfl ?_
      refine gw_aload_n C 0 dX7_checkJoins_7 rfl rfl ?_
      refine gw_getRs (ci := 6) (Cn := RX7) (T0 := TX7) (N := 3) C 1 0 kX7_10 fX7 rfl (by decide) rfl rfl dX7_checkJoins_8 xs_0 xn_0 xr_0_0 ?_
      refine gw_getI (ci := 2) (Cn := RX2) (T0 := TX2) (N := 7) C 2 kX7_110 fX2 rfl (by decide) rfl rfl dX7_checkJoins_11 (mq_s mineQ_live) (mq_n mineQ_live) (fun hI_11 => ?_)
      refine gw_icmp_ge C (tgt := 70) dX7_checkJoins_14 (by decide) (by omega) hI_11 (fun h_14 => ?_) (fun h_14 => ?_)
      · skip
        refine gw_lload_n C 3 dX7_checkJoins_70 rfl rfl ?_
        exact gw_lret C (Nat.le_of_ble_eq_true rfl) (Nat.le_of_ble_eq_true rfl) dX7_checkJoins_71 (⟨congrArg (fun q => some (vL q)) (by rw [hh]; congr 1; omega), rfl, rfl⟩)
      · skip
        refine gw_aload_n C 0 dX7_checkJoins_17 rfl rfl ?_
        refine gw_getRs (ci := 6) (Cn := RX7) (T0 := TX7) (N := 3) C 1 0 kX7_10 fX7 rfl (by decide) rfl rfl dX7_checkJoins_18 xs_0 xn_0 xr_0_0 ?_
        refine gw_iload C dX7_checkJoins_21 rfl ?_
        refine gw_callV C (as := [vI (i : Int)]) (st := []) (ci := 2) (T0 := TX2) (N := 7) (c_X2_joinAt hl0 G I J mineQ_live (by omega) (i : Int) (by omega)) dX7_checkJoins_23 kX7_119 qX2_joinAt hdX2_joinAt ⟨Nat.le_of_ble_eq_true rfl, Nat.le_of_ble_eq_true rfl⟩ ⟨Nat.le_of_ble_eq_true rfl, Nat.le_of_ble_eq_true rfl⟩ (Nat.le_of_ble_eq_true rfl) rfl (mq_s mineQ_live) (mq_n mineQ_live) rfl (fun _ _ _ _ h => h.elim) ?_
        intro v_23 zq_23 I_23 J_23 hq_23_2
        obtain ⟨⟨hq_23_2, rfl⟩ | ⟨hq_23_2, rfl⟩, eI_23, eJ_23⟩ := hq_23_2
        all_goals rw [eI_23, eJ_23]
        · skip
          show GW G p l e ({ frames := 2, cells := 0, slots := 0, locals := 43 } : Room) s m args below meth c 8 zq_23 N0 SH RR I J 0 0 (vx_MQ below (GQ G N0 SH RR (memQ (some (vL (hnF (fun i a => rJoinOf S i (a : Int)) 8 (S 4).toNat x1))) I J)) (GX G N0 SH RR gNo) args s 0 0 (ge G)) 26 [some (vR 0), some (vL x1), none, some (vL h), none, some (vI (i : Int)), none, none] [vR (1 + 17 + ((i : Int)).toNat)]
          rw [show ((i : Int)).toNat = i from rfl]
          refine gw_astore C (lo1 := [some (vR 0), some (vL x1), none, some (vL h), none, some (vI (i : Int)), some (vR (1 + 17 + i)), none]) dX7_checkJoins_26 (by decide) rfl ?_
          refine gw_iconst C dX7_checkJoins_28 ?_
          refine gw_istore C (lo1 := [some (vR 0), some (vL x1), none, some (vL h), none, some (vI (i : Int)), some (vR (1 + 17 + i)), some (vI 0)]) dX7_checkJoins_29 (by decide) rfl ?_
          have loop_31 : ∀ (fuel : Nat) (h2 : Int) (a : Nat) (z2 : Nat), (a ≤ 8) → (h2 = hsF (fun a => rJoinOf S i (a : Int)) a h) → 9 - a < fuel → GW G p l e ({ frames := 2, cells := 0, slots := 0, locals := 43 } : Room) s m args below meth c 8 z2 N0 SH RR I J 0 0 (vx_MQ below (GQ G N0 SH RR (memQ (some (vL (hnF (fun i a => rJoinOf S i (a : Int)) 8 (S 4).toNat x1))) I J)) (GX G N0 SH RR gNo) args s 0 0 (ge G)) 31 [some (vR 0), some (vL x1), none, some (vL h2), none, some (vI (i : Int)), some (vR (1 + 17 + i)), some (vI (a : Int))] [] := by
            intro fuel
            induction fuel with
            | zero => intro h2 a z2 ha hh2 hf_31; exact absurd hf_31 (Nat.not_lt_zero _)
            | succ fuel ih_31 =>
              intro h2 a z2 ha hh2 hf_31
              refine gw_iload C dX7_checkJoins_31 rfl ?_
              refine gw_bipush C dX7_checkJoins_33 rfl ?_
              refine gw_icmp_gt C (tgt := 64) dX7_checkJoins_35 (by decide) (by omega) ⟨by decide, by decide⟩ (fun h_35 => ?_) (fun h_35 => ?_)
              · skip
                refine gw_iinc C (lo1 := [some (vR 0), some (vL x1), none, some (vL h2), none, some (vI ((i : Int) + 1)), some (vR (1 + 17 + i)), some (vI (a : Int))]) dX7_checkJoins_64 rfl (by decide) rfl ?_
                refine gw_goto C (tgt := 5) dX7_checkJoins_67 (by decide) ?_
                exact gw_weak (lo' := [some (vR 0), some (vL x1), none, some (vL h2), none, some (vI (((i + 1) : Nat) : Int)), none, none]) ⟨rfl, rfl, rfl, congrArg (fun q => some (vI q)) (by omega), trivial⟩ (ih_5 h2 (i + 1) z2 (by omega) (by rw [hn_s, ← hh, hh2]; congr 1; omega) (by omega))
              · skip
                refine gw_aload C dX7_checkJoins_38 rfl ?_
                refine gw_ifnull C dX7_checkJoins_40 ?_
                refine gw_ldc2 C (x := 31) dX7_checkJoins_43 kX7_262 (by decide) ?_
                refine gw_lload_n C 3 dX7_checkJoins_46 rfl rfl ?_
                refine gw_lmul C dX7_checkJoins_47 ?_
                refine gw_aload C dX7_checkJoins_48 rfl ?_
                refine gw_iload C dX7_checkJoins_50 rfl ?_
                refine gw_callVm C (as := [vI (a : Int)]) (st := [vL (31 * h2)]) (ci := 1) (T0 := TX1) (N := 12) (c_X1_number hl0 G I J (mq_jq mineQ_live i (by omega))  (a : Int) (by omega)) dX7_checkJoins_52 kX7_132 qX1_number hdX1_number ⟨Nat.le_of_ble_eq_true rfl, Nat.le_of_ble_eq_true rfl⟩ ⟨Nat.le_of_ble_eq_true rfl, Nat.le_of_ble_eq_true rfl⟩ (Nat.le_of_ble_eq_true rfl) rfl (jq_s (mq_jq mineQ_live i (by omega))) (jq_n (mq_jq mineQ_live i (by omega))) rfl (fun z_52 => ?_)
                rw [join_v hR hj (i := i) (by omega) (a : Int)]
                have hi9_52 : inI (rJoinOf S i (a : Int)) := rJoinOf_i ho (by omega)
                refine gw_i2l C dX7_checkJoins_55 hi9_52 ?_
                refine gw_ladd C dX7_checkJoins_56 ?_
                refine gw_lstore_n C (lo1 := [some (vR 0), some (vL x1), none, some (vL ((31 * h2) + (rJoinOf S i (a : Int)))), none, some (vI (i : Int)), some (vR (1 + 17 + i)), some (vI (a : Int))]) 3 dX7_checkJoins_57 rfl (by decide) rfl ?_
                refine gw_iinc C (lo1 := [some (vR 0), some (vL x1), none, some (vL ((31 * h2) + (rJoinOf S i (a : Int)))), none, some (vI (i : Int)), some (vR (1 + 17 + i)), some (vI ((a : Int) + 1))]) dX7_checkJoins_58 rfl (by decide) rfl ?_
                refine gw_goto C (tgt := 31) dX7_checkJoins_61 (by decide) ?_
                exact gw_weak (lo' := [some (vR 0), some (vL x1), none, some (vL ((31 * h2) + (rJoinOf S i (a : Int)))), none, some (vI (i : Int)), some (vR (1 + 17 + i)), some (vI (((a + 1) : Nat) : Int))]) ⟨rfl, rfl, rfl, rfl, rfl, congrArg (fun q => some (vI q)) (by omega), trivial⟩ (ih_31 ((31 * h2) + (rJoinOf S i (a : Int))) (a + 1) z_52 (by omega) (by rw [hs_s, ← hh2]) (by omega))
          exact gw_weak (lo' := [some (vR 0), some (vL x1), none, some (vL h), none, some (vI (i : Int)), some (vR (1 + 17 + i)), some (vI (0 : Int))]) ⟨rfl, rfl, rfl, rfl, rfl, congrArg (fun q => some (vI q)) (by omega), trivial⟩ (loop_31 _ h 0 zq_23 (by omega) (by rfl) (Nat.lt_succ_self _))
        · exact absurd True.intro (by omega)
  exact gw_weak (lo' := [some (vR 0), some (vL x1), none, some (vL x1), none, some (vI (0 : Int)), none, none]) ⟨rfl, rfl, rfl, congrArg (fun q => some (vI q)) (by omega), trivial⟩ (loop_5 _ x1 0 z (by omega) (by rfl) (Nat.lt_succ_self _))
set_option maxHeartbeats 4000000 in
set_option maxRecDepth 100000 in
theorem c_X7_checkTraverse {l : Launch} (hl0 : l.stackTraces = false) (G : GG) (I J : GI) {z : Nat} {S : Nat → Int} {D9 : Nat → Nat → Int} {c9 : Nat} (hCI : CI I S D9 c9) {t : Nat} (ht9 : (t : Int) < S 5) (x1 : Int) : GM l yX7_checkTraverse (.code yX7_checkTraverse cX7_checkTraverse 8 (some .long)) 4 91 0 0 G N0 SH RR [vR 0, vL x1, vR (1 + 21 + 6 * t)] z I J (memQ (some (vL (ctF S t x1))) I J) gNo := by
  refine gm_of (lo0 := [some (vR 0), some (vL x1), none, some (vR (1 + 21 + 6 * t)), none, none, none, none]) hl0 (by decide) rfl (Nat.le_of_ble_eq_true rfl) ?_
  intro p e s m args below meth c C ht hgi
  have C : gC G p l s m args meth c cX7_checkTraverse 8 RX7 (some .long) "checkTraverse" := C
  have hR := hCI.1.1.1
  have ho := hCI.1.1.2.1
  have hw := hCI.1.1.2.2
  have hj := hCI.2
  have hcnt := hR.2.1
  have hobd := ho.2.1
  have hlc0 := (rel_tr hR ht9).1.2
  unfold tP at hlc0
  have hot := okT ho ht9
  refine gw_lload_n C 1 dX7_checkTraverse_0 rfl rfl ?_
  refine gw_lstore C (lo1 := [some (vR 0), some (vL x1), none, some (vR (1 + 21 + 6 * t)), some (vL x1), none, none, none]) dX7_checkTraverse_1 (by decide) rfl ?_
  refine gw_aload_n C 3 dX7_checkTraverse_3 rfl rfl ?_
  refine gw_ifnonnull C (tgt := 10) dX7_checkTraverse_4 (by decide) ?_
  refine gw_iconst C dX7_checkTraverse_10 ?_
  refine gw_istore C (lo1 := [some (vR 0), some (vL x1), none, some (vR (1 + 21 + 6 * t)), some (vL x1), none, some (vI 0), none]) dX7_checkTraverse_11 (by decide) rfl ?_
  have loop_13 : ∀ (fuel : Nat) (h : Int) (a : Nat) (z1 : Nat), (a ≤ 10) → (h = hsF (fun a => rTrav S t (a : Int)) a x1) → 11 - a < fuel → GW G p l e ({ frames := 4, cells := 0, slots := 0, locals := 91 } : Room) s m args below meth c 8 z1 N0 SH RR I J 0 0 (vx_MQ below (GQ G N0 SH RR (memQ (some (vL (ctF S t x1))) I J)) (GX G N0 SH RR gNo) args s 0 0 (ge G)) 13 [some (vR 0), some (vL x1), none, some (vR (1 + 21 + 6 * t)), some (vL h), none, some (vI (a : Int)), none] [] := by
    intro fuel
    induction fuel with
    | zero => intro h a z1 ha hh hf_13; exact absurd hf_13 (Nat.not_lt_zero _)
    | succ fuel ih_13 =>
      intro h a z1 ha hh hf_13
      refine gw_iload C dX7_checkTraverse_13 rfl ?_
      refine gw_bipush C dX7_checkTraverse_15 rfl ?_
      refine gw_icmp_gt C (tgt := 42) dX7_checkTraverse_17 (by decide) (by omega) ⟨by decide, by decide⟩ (fun h_17 => ?_) (fun h_17 => ?_)
      · skip
        refine gw_iconst C dX7_checkTraverse_42 ?_
        refine gw_istore C (lo1 := [some (vR 0), some (vL x1), none, some (vR (1 + 21 + 6 * t)), some (vL h), none, some (vI 0), none]) dX7_checkTraverse_43 (by decide) rfl ?_
        have loop_45 : ∀ (fuel : Nat) (h2 : Int) (k : Nat) (z2 : Nat), ((k : Int) ≤ S (103 + 28 * t)) → (h2 = hnF (fun k a => rLeg S t k (a : Int)) 5 k (hsF (fun a => rTrav S t (a : Int)) 10 x1)) → 13 - k < fuel → GW G p l e ({ frames := 4, cells := 0, slots := 0, locals := 91 } : Room) s m args below meth c 8 z2 N0 SH RR I J 0 0 (vx_MQ below (GQ G N0 SH RR (memQ (some (vL (ctF S t x1))) I J)) (GX G N0 SH RR gNo) args s 0 0 (ge G)) 45 [some (vR 0), some (vL x1), none, some (vR (1 + 21 + 6 * t)), some (vL h2), none, some (vI (k : Int)), none] [] := by
          intro fuel
          induction fuel with
          | zero => intro h2 k z2 hk hh2 hf_45; exact absurd hf_45 (Nat.not_lt_zero _)
          | succ fuel ih_45 =>
            intro h2 k z2 hk hh2 hf_45
            refine gw_iload C dX7_checkTraverse_45 rfl ?_
            refine gw_aload_n C 3 dX7_checkTraverse_47 rfl rfl ?_
            refine gw_getI (ci := 4) (Cn := RX5) (T0 := TX5) (N := 15) C 2 kX7_154 fX5 rfl (by decide) rfl rfl dX7_checkTraverse_48 (tq_s (mq_tq mineQ_live t (by omega))) (tq_n (mq_tq mineQ_live t (by omega))) (fun hI_48 => ?_)
            rw [show (I (1 + 21 + 6 * t) 2) = S (103 + 28 * t) from hlc0] at hI_48 ⊢
            refine gw_icmp_ge C (tgt := 93) dX7_checkTraverse_51 (by decide) (by omega) hI_48 (fun h_51 => ?_) (fun h_51 => ?_)
            · skip
              refine gw_ldc2 C (x := 31) dX7_checkTraverse_93 kX7_262 (by decide) ?_
              refine gw_lload C dX7_checkTraverse_96 rfl ?_
              refine gw_lmul C dX7_checkTraverse_98 ?_
              refine gw_aload_n C 3 dX7_checkTraverse_99 rfl rfl ?_
              refine gw_callVm C (as := []) (st := [vL (31 * h2)]) (ci := 4) (T0 := TX5) (N := 15) (c_X5_suspectedLeg hl0 G I J (mq_tq mineQ_live t (by omega)) (hw.2 t (by omega)) (msd_v hR ho hj (t := t) (by omega)) (sus_h hR ho hj (t := t) (by omega))) dX7_checkTraverse_100 kX7_203 qX5_suspectedLeg hdX5_suspectedLeg ⟨Nat.le_of_ble_eq_true rfl, Nat.le_of_ble_eq_true rfl⟩ ⟨Nat.le_of_ble_eq_true rfl, Nat.le_of_ble_eq_true rfl⟩ (Nat.le_of_ble_eq_true rfl) rfl (tq_s (mq_tq mineQ_live t (by omega))) (tq_n (mq_tq mineQ_live t (by omega))) rfl (fun z_100 => ?_)
              rw [sus_v hR ho hj (t := t) (by omega)]
              have hi9_100 : inI (rSus S t) := rSus_i ho (by omega)
              refine gw_i2l C dX7_checkTraverse_103 hi9_100 ?_
              refine gw_ladd C dX7_checkTraverse_104 ?_
              refine gw_lstore C (lo1 := [some (vR 0), some (vL x1), none, some (vR (1 + 21 + 6 * t)), some (vL ((31 * h2) + (rSus S t))), none, some (vI (k : Int)), none]) dX7_checkTraverse_105 (by decide) rfl ?_
              refine gw_iconst C dX7_checkTraverse_107 ?_
              refine gw_istore C (lo1 := [some (vR 0), some (vL x1), none, some (vR (1 + 21 + 6 * t)), some (vL ((31 * h2) + (rSus S t))), none, some (vI 0), none]) dX7_checkTraverse_108 (by decide) rfl ?_
              have loop_110 : ∀ (fuel : Nat) (h4 : Int) (v : Nat) (z4 : Nat), (v ≤ 3) → (h4 = hsF (fun a => rTrb S t (a : Int)) v (31 * h2 + rSus S t)) → 4 - v < fuel → GW G p l e ({ frames := 4, cells := 0, slots := 0, locals := 91 } : Room) s m args below meth c 8 z4 N0 SH RR I J 0 0 (vx_MQ below (GQ G N0 SH RR (memQ (some (vL (ctF S t x1))) I J)) (GX G N0 SH RR gNo) args s 0 0 (ge G)) 110 [some (vR 0), some (vL x1), none, some (vR (1 + 21 + 6 * t)), some (vL h4), none, some (vI (v : Int)), none] [] := by
                intro fuel
                induction fuel with
                | zero => intro h4 v z4 hv hh4 hf_110; exact absurd hf_110 (Nat.not_lt_zero _)
                | succ fuel ih_110 =>
                  intro h4 v z4 hv hh4 hf_110
                  refine gw_iload C dX7_checkTraverse_110 rfl ?_
                  refine gw_iconst C dX7_checkTraverse_112 ?_
                  refine gw_icmp_gt C (tgt := 142) dX7_checkTraverse_113 (by decide) (by omega) ⟨by decide, by decide⟩ (fun h_113 => ?_) (fun h_113 => ?_)
                  · skip
                    refine gw_lload C dX7_checkTraverse_142 rfl ?_
                    exact gw_lret C (Nat.le_of_ble_eq_true rfl) (Nat.le_of_ble_eq_true rfl) dX7_checkTraverse_144 (⟨congrArg (fun q => some (vL q)) (by unfold ctF; rw [hh4, show v = 3 by omega, hh2, show k = sLg S t by unfold sLg; omega]), rfl, rfl⟩)
                  · skip
                    refine gw_ldc2 C (x := 31) dX7_checkTraverse_116 kX7_262 (by decide) ?_
                    refine gw_lload C dX7_checkTraverse_119 rfl ?_
                    refine gw_lmul C dX7_checkTraverse_121 ?_
                    refine gw_aload_n C 0 dX7_checkTraverse_122 rfl rfl ?_
                    refine gw_getRs (ci := 6) (Cn := RX7) (T0 := TX7) (N := 3) C 1 0 kX7_10 fX7 rfl (by decide) rfl rfl dX7_checkTraverse_123 xs_0 xn_0 xr_0_0 ?_
                    refine gw_aload_n C 3 dX7_checkTraverse_126 rfl rfl ?_
                    refine gw_iload C dX7_checkTraverse_127 rfl ?_
                    refine gw_callVm C (as := [vR (1 + 21 + 6 * t), vI (v : Int)]) (st := [vL (31 * h4)]) (ci := 2) (T0 := TX2) (N := 7) (c_X2_troubleOf hl0 G I J mineQ_live (mq_tq mineQ_live t (by omega)) (by omega) (v : Int) (by omega)) dX7_checkTraverse_129 kX7_181 qX2_troubleOf hdX2_troubleOf ⟨Nat.le_of_ble_eq_true rfl, Nat.le_of_ble_eq_true rfl⟩ ⟨Nat.le_of_ble_eq_true rfl, Nat.le_of_ble_eq_true rfl⟩ (Nat.le_of_ble_eq_true rfl) rfl (mq_s mineQ_live) (mq_n mineQ_live) rfl (fun z_129 => ?_)
                    rw [trb_v hR ho hj (t := t) (by omega) (v : Int)]
                    have hi9_129 : inI (rTrb S t (v : Int)) := rTrb_i S _ _
                    refine gw_i2l C dX7_checkTraverse_132 hi9_129 ?_
                    refine gw_ladd C dX7_checkTraverse_133 ?_
                    refine gw_lstore C (lo1 := [some (vR 0), some (vL x1), none, some (vR (1 + 21 + 6 * t)), some (vL ((31 * h4) + (rTrb S t (v : Int)))), none, some (vI (v : Int)), none]) dX7_checkTraverse_134 (by decide) rfl ?_
                    refine gw_iinc C (lo1 := [some (vR 0), some (vL x1), none, some (vR (1 + 21 + 6 * t)), some (vL ((31 * h4) + (rTrb S t (v : Int)))), none, some (vI ((v : Int) + 1)), none]) dX7_checkTraverse_136 rfl (by decide) rfl ?_
                    refine gw_goto C (tgt := 110) dX7_checkTraverse_139 (by decide) ?_
                    exact gw_weak (lo' := [some (vR 0), some (vL x1), none, some (vR (1 + 21 + 6 * t)), some (vL ((31 * h4) + (rTrb S t (v : Int)))), none, some (vI (((v + 1) : Nat) : Int)), none]) ⟨rfl, rfl, rfl, rfl, congrArg (fun q => some (vI q)) (by omega), trivial⟩ (ih_110 ((31 * h4) + (rTrb S t (v : Int))) (v + 1) z_129 (by omega) (by rw [hs_s, ← hh4]) (by omega))
              exact gw_weak (lo' := [some (vR 0), some (vL x1), none, some (vR (1 + 21 + 6 * t)), some (vL ((31 * h2) + (rSus S t))), none, some (vI (0 : Int)), none]) ⟨rfl, rfl, rfl, rfl, congrArg (fun q => some (vI q)) (by omega), trivial⟩ (loop_110 _ ((31 * h2) + (rSus S t)) 0 z_100 (by omega) (by rfl) (Nat.lt_succ_self _))
            · skip
              refine gw_iconst C dX7_checkTraverse_54 ?_
              refine gw_istore C (lo1 := [some (vR 0), some (vL x1), none, some (vR (1 + 21 + 6 * t)), some (vL h2), none, some (vI (k : Int)), some (vI 0)]) dX7_checkTraverse_55 (by decide) rfl ?_
              have loop_57 : ∀ (fuel : Nat) (h3 : Int) (b : Nat) (z3 : Nat), (b ≤ 5) → (h3 = hsF (fun a => rLeg S t k (a : Int)) b h2) → 6 - b < fuel → GW G p l e ({ frames := 4, cells := 0, slots := 0, locals := 91 } : Room) s m args below meth c 8 z3 N0 SH RR I J 0 0 (vx_MQ below (GQ G N0 SH RR (memQ (some (vL (ctF S t x1))) I J)) (GX G N0 SH RR gNo) args s 0 0 (ge G)) 57 [some (vR 0), some (vL x1), none, some (vR (1 + 21 + 6 * t)), some (vL h3), none, some (vI (k : Int)), some (vI (b : Int))] [] := by
                intro fuel
                induction fuel with
                | zero => intro h3 b z3 hb hh3 hf_57; exact absurd hf_57 (Nat.not_lt_zero _)
                | succ fuel ih_57 =>
                  intro h3 b z3 hb hh3 hf_57
                  refine gw_iload C dX7_checkTraverse_57 rfl ?_
                  refine gw_iconst C dX7_checkTraverse_59 ?_
                  refine gw_icmp_gt C (tgt := 87) dX7_checkTraverse_60 (by decide) (by omega) ⟨by decide, by decide⟩ (fun h_60 => ?_) (fun h_60 => ?_)
                  · skip
                    refine gw_iinc C (lo1 := [some (vR 0), some (vL x1), none, some (vR (1 + 21 + 6 * t)), some (vL h3), none, some (vI ((k : Int) + 1)), some (vI (b : Int))]) dX7_checkTraverse_87 rfl (by decide) rfl ?_
                    refine gw_goto C (tgt := 45) dX7_checkTraverse_90 (by decide) ?_
                    exact gw_weak (lo' := [some (vR 0), some (vL x1), none, some (vR (1 + 21 + 6 * t)), some (vL h3), none, some (vI (((k + 1) : Nat) : Int)), none]) ⟨rfl, rfl, rfl, rfl, congrArg (fun q => some (vI q)) (by omega), trivial⟩ (ih_45 h3 (k + 1) z3 (by omega) (by rw [hn_s, ← hh2, hh3]; congr 1; omega) (by omega))
                  · skip
                    refine gw_ldc2 C (x := 31) dX7_checkTraverse_63 kX7_262 (by decide) ?_
                    refine gw_lload C dX7_checkTraverse_66 rfl ?_
                    refine gw_lmul C dX7_checkTraverse_68 ?_
                    refine gw_aload_n C 3 dX7_checkTraverse_69 rfl rfl ?_
                    refine gw_iload C dX7_checkTraverse_70 rfl ?_
                    refine gw_iload C dX7_checkTraverse_72 rfl ?_
                    have hlc_74 := (rel_tr hR (t := t) (by omega)).1.2
                    have hob_74 := (ho.2.2.2.2 t (by omega)).1.2.1
                    unfold tP at hlc_74
                    refine gw_callVm C (as := [vI (k : Int), vI (b : Int)]) (st := [vL (31 * h3)]) (ci := 4) (T0 := TX5) (N := 15) (c_X5_numberOfLeg hl0 G I J (mq_tq mineQ_live t (by omega)) (by omega) k (by omega) (b : Int) (by omega)) dX7_checkTraverse_74 kX7_178 qX5_numberOfLeg hdX5_numberOfLeg ⟨Nat.le_of_ble_eq_true rfl, Nat.le_of_ble_eq_true rfl⟩ ⟨Nat.le_of_ble_eq_true rfl, Nat.le_of_ble_eq_true rfl⟩ (Nat.le_of_ble_eq_true rfl) rfl (tq_s (mq_tq mineQ_live t (by omega))) (tq_n (mq_tq mineQ_live t (by omega))) rfl (fun z_74 => ?_)
                    rw [leg_v hR hj (t := t) (k := k) (by omega) (by omega) (b : Int)]
                    have hi9_74 : inI (rLeg S t k (b : Int)) := rLeg_i ho (by omega) (by omega)
                    refine gw_i2l C dX7_checkTraverse_77 hi9_74 ?_
                    refine gw_ladd C dX7_checkTraverse_78 ?_
                    refine gw_lstore C (lo1 := [some (vR 0), some (vL x1), none, some (vR (1 + 21 + 6 * t)), some (vL ((31 * h3) + (rLeg S t k (b : Int)))), none, some (vI (k : Int)), some (vI (b : Int))]) dX7_checkTraverse_79 (by decide) rfl ?_
                    refine gw_iinc C (lo1 := [some (vR 0), some (vL x1), none, some (vR (1 + 21 + 6 * t)), some (vL ((31 * h3) + (rLeg S t k (b : Int)))), none, some (vI (k : Int)), some (vI ((b : Int) + 1))]) dX7_checkTraverse_81 rfl (by decide) rfl ?_
                    refine gw_goto C (tgt := 57) dX7_checkTraverse_84 (by decide) ?_
                    exact gw_weak (lo' := [some (vR 0), some (vL x1), none, some (vR (1 + 21 + 6 * t)), some (vL ((31 * h3) + (rLeg S t k (b : Int)))), none, some (vI (k : Int)), some (vI (((b + 1) : Nat) : Int))]) ⟨rfl, rfl, rfl, rfl, rfl, congrArg (fun q => some (vI q)) (by omega), trivial⟩ (ih_57 ((31 * h3) + (rLeg S t k (b : Int))) (b + 1) z_74 (by omega) (by rw [hs_s, ← hh3]) (by omega))
              exact gw_weak (lo' := [some (vR 0), some (vL x1), none, some (vR (1 + 21 + 6 * t)), some (vL h2), none, some (vI (k : Int)), some (vI (0 : Int))]) ⟨rfl, rfl, rfl, rfl, rfl, congrArg (fun q => some (vI q)) (by omega), trivial⟩ (loop_57 _ h2 0 z2 (by omega) (by rfl) (Nat.lt_succ_self _))
        exact gw_weak (lo' := [some (vR 0), some (vL x1), none, some (vR (1 + 21 + 6 * t)), some (vL h), none, some (vI (0 : Int)), none]) ⟨rfl, rfl, rfl, rfl, congrArg (fun q => some (vI q)) (by omega), trivial⟩ (loop_45 _ h 0 z1 (by omega) (by rw [hh]; congr 1; omega) (Nat.lt_succ_self _))
      · skip
        refine gw_ldc2 C (x := 31) dX7_checkTraverse_20 kX7_262 (by decide) ?_
        refine gw_lload C dX7_checkTraverse_23 rfl ?_
        refine gw_lmul C dX7_checkTraverse_25 ?_
        refine gw_aload_n C 3 dX7_checkTraverse_26 rfl rfl ?_
        refine gw_iload C dX7_checkTraverse_27 rfl ?_
        refine gw_callVm C (as := [vI (a : Int)]) (st := [vL (31 * h)]) (ci := 4) (T0 := TX5) (N := 15) (c_X5_number hl0 G I J (mq_tq mineQ_live t (by omega)) (hw.2 t (by omega)) (msd_v hR ho hj (t := t) (by omega)) (a : Int) (by omega)) dX7_checkTraverse_29 kX7_170 qX5_number hdX5_number ⟨Nat.le_of_ble_eq_true rfl, Nat.le_of_ble_eq_true rfl⟩ ⟨Nat.le_of_ble_eq_true rfl, Nat.le_of_ble_eq_true rfl⟩ (Nat.le_of_ble_eq_true rfl) rfl (tq_s (mq_tq mineQ_live t (by omega))) (tq_n (mq_tq mineQ_live t (by omega))) rfl (fun z_29 => ?_)
        rw [trav_v hR ho hj (t := t) (by omega) (a : Int)]
        have hi9_29 : inI (rTrav S t (a : Int)) := rTrav_i ho (by omega)
        refine gw_i2l C dX7_checkTraverse_32 hi9_29 ?_
        refine gw_ladd C dX7_checkTraverse_33 ?_
        refine gw_lstore C (lo1 := [some (vR 0), some (vL x1), none, some (vR (1 + 21 + 6 * t)), some (vL ((31 * h) + (rTrav S t (a : Int)))), none, some (vI (a : Int)), none]) dX7_checkTraverse_34 (by decide) rfl ?_
        refine gw_iinc C (lo1 := [some (vR 0), some (vL x1), none, some (vR (1 + 21 + 6 * t)), some (vL ((31 * h) + (rTrav S t (a : Int)))), none, some (vI ((a : Int) + 1)), none]) dX7_checkTraverse_36 rfl (by decide) rfl ?_
        refine gw_goto C (tgt := 13) dX7_checkTraverse_39 (by decide) ?_
        exact gw_weak (lo' := [some (vR 0), some (vL x1), none, some (vR (1 + 21 + 6 * t)), some (vL ((31 * h) + (rTrav S t (a : Int)))), none, some (vI (((a + 1) : Nat) : Int)), none]) ⟨rfl, rfl, rfl, rfl, congrArg (fun q => some (vI q)) (by omega), trivial⟩ (ih_13 ((31 * h) + (rTrav S t (a : Int))) (a + 1) z_29 (by omega) (by rw [hs_s, ← hh]) (by omega))
  exact gw_weak (lo' := [some (vR 0), some (vL x1), none, some (vR (1 + 21 + 6 * t)), some (vL x1), none, some (vI (0 : Int)), none]) ⟨rfl, rfl, rfl, rfl, congrArg (fun q => some (vI q)) (by omega), trivial⟩ (loop_13 _ x1 0 z (by omega) (by rfl) (Nat.lt_succ_self _))
set_option maxHeartbeats 4000000 in
set_option maxRecDepth 100000 in
theorem c_X7_checksum {l : Launch} (hl0 : l.stackTraces = false) (G : GG) (I J : GI) {z : Nat} {S : Nat → Int} {D9 : Nat → Nat → Int} {c9 : Nat} (hCI : CI I S D9 c9) : GM l yX7_checksum (.code yX7_checksum cX7_checksum 4 (some .long)) 5 118 0 0 G N0 SH RR [vR 0] z I J (memQ (some (vL (ckF S (I 228 0) (c9 : Int)))) I J) gNo := by
  refine gm_of (lo0 := [some (vR 0), none, none, none]) hl0 (by decide) rfl (Nat.le_of_ble_eq_true rfl) ?_
  intro p e s m args below meth c C ht hgi
  have C : gC G p l s m args meth c cX7_checksum 4 RX7 (some .long) "checksum" := C
  have hR := hCI.1.1.1
  have ho := hCI.1.1.2.1
  have hw := hCI.1.1.2.2
  have hj := hCI.2
  have hcnt := hR.2.1
  have hobd := ho.2.1
  refine gw_ldc2 C (x := 12946) dX7_checksum_0 kX7_260 (by decide) ?_
  refine gw_lstore_n C (lo1 := [some (vR 0), some (vL 12946), none, none]) 1 dX7_checksum_3 rfl (by decide) rfl ?_
  refine gw_iconst C dX7_checksum_4 ?_
  refine gw_istore_n C (lo1 := [some (vR 0), some (vL 12946), none, some (vI 0)]) 3 dX7_checksum_5 rfl (by decide) rfl ?_
  have loop_6 : ∀ (fuel : Nat) (h : Int) (a : Nat) (z1 : Nat), (a ≤ 8) → (h = hsF (fun k => rInfo S (k : Int)) a 12946) → 9 - a < fuel → GW G p l e ({ frames := 5, cells := 0, slots := 0, locals := 118 } : Room) s m args below meth c 4 z1 N0 SH RR I J 0 0 (vx_MQ below (GQ G N0 SH RR (memQ (some (vL (ckF S (I 228 0) (c9 : Int)))) I J)) (GX G N0 SH RR gNo) args s 0 0 (ge G)) 6 [some (vR 0), some (vL h), none, some (vI (a : Int))] [] := by
    intro fuel
    induction fuel with
    | zero => intro h a z1 ha hh hf_6; exact absurd hf_6 (Nat.not_lt_zero _)
    | succ fuel ih_6 =>
      intro h a z1 ha hh hf_6
      refine gw_iload_n C 3 dX7_checksum_6 rfl rfl ?_
      refine gw_bipush C dX7_checksum_7 rfl ?_
      refine gw_icmp_gt C (tgt := 34) dX7_checksum_9 (by decide) (by omega) ⟨by decide, by decide⟩ (fun h_9 => ?_) (fun h_9 => ?_)
      · skip
        refine gw_aload_n C 0 dX7_checksum_34 rfl rfl ?_
        refine gw_lload_n C 1 dX7_checksum_35 rfl rfl ?_
        refine gw_callVm C (as := [vL h]) (st := []) (ci := 6) (T0 := TX7) (N := 3) (c_X7_checkWires hl0 G I J hCI h) dX7_checksum_36 kX7_264 qX7_checkWires hdX7_checkWires ⟨Nat.le_of_ble_eq_true rfl, Nat.le_of_ble_eq_true rfl⟩ ⟨Nat.le_of_ble_eq_true rfl, Nat.le_of_ble_eq_true rfl⟩ (Nat.le_of_ble_eq_true rfl) rfl xs_0 xn_0 rfl (fun z_36 => ?_)
        refine gw_lstore_n C (lo1 := [some (vR 0), some (vL (hnF (fun i a => rWire S i (a : Int)) 6 (S 3).toNat h)), none, some (vI (a : Int))]) 1 dX7_checksum_39 rfl (by decide) rfl ?_
        refine gw_aload_n C 0 dX7_checksum_40 rfl rfl ?_
        refine gw_lload_n C 1 dX7_checksum_41 rfl rfl ?_
        refine gw_callVm C (as := [vL (hnF (fun i a => rWire S i (a : Int)) 6 (S 3).toNat h)]) (st := []) (ci := 6) (T0 := TX7) (N := 3) (c_X7_checkJoins hl0 G I J hCI (hnF (fun i a => rWire S i (a : Int)) 6 (S 3).toNat h)) dX7_checksum_42 kX7_268 qX7_checkJoins hdX7_checkJoins ⟨Nat.le_of_ble_eq_true rfl, Nat.le_of_ble_eq_true rfl⟩ ⟨Nat.le_of_ble_eq_true rfl, Nat.le_of_ble_eq_true rfl⟩ (Nat.le_of_ble_eq_true rfl) rfl xs_0 xn_0 rfl (fun z_42 => ?_)
        refine gw_lstore_n C (lo1 := [some (vR 0), some (vL (hnF (fun i a => rJoinOf S i (a : Int)) 8 (S 4).toNat (hnF (fun i a => rWire S i (a : Int)) 6 (S 3).toNat h))), none, some (vI (a : Int))]) 1 dX7_checksum_45 rfl (by decide) rfl ?_
        refine gw_iconst C dX7_checksum_46 ?_
        refine gw_istore_n C (lo1 := [some (vR 0), some (vL (hnF (fun i a => rJoinOf S i (a : Int)) 8 (S 4).toNat (hnF (fun i a => rWire S i (a : Int)) 6 (S 3).toNat h))), none, some (vI 0)]) 3 dX7_checksum_47 rfl (by decide) rfl ?_
        have loop_48 : ∀ (fuel : Nat) (h2 : Int) (t : Nat) (z2 : Nat), ((t : Int) ≤ S 5) → (h2 = htF S t (c3F S)) → 5 - t < fuel → GW G p l e ({ frames := 5, cells := 0, slots := 0, locals := 118 } : Room) s m args below meth c 4 z2 N0 SH RR I J 0 0 (vx_MQ below (GQ G N0 SH RR (memQ (some (vL (ckF S (I 228 0) (c9 : Int)))) I J)) (GX G N0 SH RR gNo) args s 0 0 (ge G)) 48 [some (vR 0), some (vL h2), none, some (vI (t : Int))] [] := by
          intro fuel
          induction fuel with
          | zero => intro h2 t z2 hk hh2 hf_48; exact absurd hf_48 (Nat.not_lt_zero _)
          | succ fuel ih_48 =>
            intro h2 t z2 hk hh2 hf_48
            refine gw_iload_n C 3 dX7_checksum_48 rfl rfl ?_
            refine gw_aload_n C 0 dX7_checksum_49 rfl rfl ?_
            refine gw_getRs (ci := 6) (Cn := RX7) (T0 := TX7) (N := 3) C 1 0 kX7_10 fX7 rfl (by decide) rfl rfl dX7_checksum_50 xs_0 xn_0 xr_0_0 ?_
            refine gw_getI (ci := 2) (Cn := RX2) (T0 := TX2) (N := 7) C 3 kX7_133 fX2 rfl (by decide) rfl rfl dX7_checksum_53 (mq_s mineQ_live) (mq_n mineQ_live) (fun hI_53 => ?_)
            refine gw_icmp_ge C (tgt := 79) dX7_checksum_56 (by decide) (by omega) hI_53 (fun h_56 => ?_) (fun h_56 => ?_)
            · skip
              refine gw_ldc2 C (x := 31) dX7_checksum_79 kX7_262 (by decide) ?_
              refine gw_lload_n C 1 dX7_checksum_82 rfl rfl ?_
              refine gw_lmul C dX7_checksum_83 ?_
              refine gw_aload_n C 0 dX7_checksum_84 rfl rfl ?_
              refine gw_getRs (ci := 6) (Cn := RX7) (T0 := TX7) (N := 3) C 228 2 kX7_26 fX7 rfl (by decide) rfl rfl dX7_checksum_85 xs_0 xn_0 xr_0_2 ?_
              refine gw_getI (ci := 3) (Cn := RX4) (T0 := TX4) (N := 5) C 0 kX7_220 fX4 rfl (by decide) rfl rfl dX7_checksum_88 xs_228 xn_228 (fun hI_88 => ?_)
              refine gw_i2l C dX7_checksum_91 hI_88 ?_
              refine gw_ladd C dX7_checksum_92 ?_
              refine gw_lstore_n C (lo1 := [some (vR 0), some (vL ((31 * h2) + (I 228 0))), none, some (vI (t : Int))]) 1 dX7_checksum_93 rfl (by decide) rfl ?_
              refine gw_ldc2 C (x := 31) dX7_checksum_94 kX7_262 (by decide) ?_
              refine gw_lload_n C 1 dX7_checksum_97 rfl rfl ?_
              refine gw_lmul C dX7_checksum_98 ?_
              refine gw_aload_n C 0 dX7_checksum_99 rfl rfl ?_
              refine gw_getRs (ci := 6) (Cn := RX7) (T0 := TX7) (N := 3) C 46 1 kX7_19 fX7 rfl (by decide) rfl rfl dX7_checksum_100 xs_0 xn_0 xr_0_1 ?_
              refine gw_getI (ci := 0) (Cn := RX0) (T0 := TX0) (N := 3) C 0 kX7_251 fX0 rfl (by decide) rfl rfl dX7_checksum_103 xs_46 xn_46 (fun hI_103 => ?_)
              rw [show (I 46 0) = (c9 : Int) from hCI.1.2.1.2.1] at hI_103 ⊢
              refine gw_i2l C dX7_checksum_106 hI_103 ?_
              refine gw_ladd C dX7_checksum_107 ?_
              exact gw_lret C (Nat.le_of_ble_eq_true rfl) (Nat.le_of_ble_eq_true rfl) dX7_checksum_108 (⟨congrArg (fun q => some (vL q)) (by unfold ckF c4F; rw [hh2, show t = (S 5).toNat by omega]), rfl, rfl⟩)
            · skip
              refine gw_aload_n C 0 dX7_checksum_59 rfl rfl ?_
              refine gw_lload_n C 1 dX7_checksum_60 rfl rfl ?_
              refine gw_aload_n C 0 dX7_checksum_61 rfl rfl ?_
              refine gw_getRs (ci := 6) (Cn := RX7) (T0 := TX7) (N := 3) C 1 0 kX7_10 fX7 rfl (by decide) rfl rfl dX7_checksum_62 xs_0 xn_0 xr_0_0 ?_
              refine gw_iload_n C 3 dX7_checksum_65 rfl rfl ?_
              refine gw_callV C (as := [vI (t : Int)]) (st := [vL h2, vR 0]) (ci := 2) (T0 := TX2) (N := 7) (c_X2_traverseAt hl0 G I J mineQ_live (by omega) (t : Int) (by omega)) dX7_checksum_66 kX7_141 qX2_traverseAt hdX2_traverseAt ⟨Nat.le_of_ble_eq_true rfl, Nat.le_of_ble_eq_true rfl⟩ ⟨Nat.le_of_ble_eq_true rfl, Nat.le_of_ble_eq_true rfl⟩ (Nat.le_of_ble_eq_true rfl) rfl (mq_s mineQ_live) (mq_n mineQ_live) rfl (fun _ _ _ _ h => h.elim) ?_
              intro v_66 zq_66 I_66 J_66 hq_66_2
              obtain ⟨⟨hq_66_2, rfl⟩ | ⟨hq_66_2, rfl⟩, eI_66, eJ_66⟩ := hq_66_2
              all_goals rw [eI_66, eJ_66]
              · skip
                show GW G p l e ({ frames := 5, cells := 0, slots := 0, locals := 118 } : Room) s m args below meth c 4 zq_66 N0 SH RR I J 0 0 (vx_MQ below (GQ G N0 SH RR (memQ (some (vL (ckF S (I 228 0) (c9 : Int)))) I J)) (GX G N0 SH RR gNo) args s 0 0 (ge G)) 69 [some (vR 0), some (vL h2), none, some (vI (t : Int))] [vR (1 + 21 + 6 * ((t : Int)).toNat), vL h2, vR 0]
                rw [show ((t : Int)).toNat = t from rfl]
                refine gw_callVm C (as := [vL h2, vR (1 + 21 + 6 * t)]) (st := []) (ci := 6) (T0 := TX7) (N := 3) (c_X7_checkTraverse hl0 G I J hCI (t := t) (by omega) h2) dX7_checksum_69 kX7_271 qX7_checkTraverse hdX7_checkTraverse ⟨Nat.le_of_ble_eq_true rfl, Nat.le_of_ble_eq_true rfl⟩ ⟨Nat.le_of_ble_eq_true rfl, Nat.le_of_ble_eq_true rfl⟩ (Nat.le_of_ble_eq_true rfl) rfl xs_0 xn_0 rfl (fun z_69 => ?_)
                refine gw_lstore_n C (lo1 := [some (vR 0), some (vL (ctF S t h2)), none, some (vI (t : Int))]) 1 dX7_checksum_72 rfl (by decide) rfl ?_
                refine gw_iinc C (lo1 := [some (vR 0), some (vL (ctF S t h2)), none, some (vI ((t : Int) + 1))]) dX7_checksum_73 rfl (by decide) rfl ?_
                refine gw_goto C (tgt := 48) dX7_checksum_76 (by decide) ?_
                exact gw_weak (lo' := [some (vR 0), some (vL (ctF S t h2)), none, some (vI (((t + 1) : Nat) : Int))]) ⟨rfl, rfl, congrArg (fun q => some (vI q)) (by omega), trivial⟩ (ih_48 (ctF S t h2) (t + 1) z_69 (by omega) (by rw [ht_s, ← hh2]) (by omega))
              · exact absurd True.intro (by omega)
        exact gw_weak (lo' := [some (vR 0), some (vL (hnF (fun i a => rJoinOf S i (a : Int)) 8 (S 4).toNat (hnF (fun i a => rWire S i (a : Int)) 6 (S 3).toNat h))), none, some (vI (0 : Int))]) ⟨rfl, rfl, congrArg (fun q => some (vI q)) (by omega), trivial⟩ (loop_48 _ (hnF (fun i a => rJoinOf S i (a : Int)) 8 (S 4).toNat (hnF (fun i a => rWire S i (a : Int)) 6 (S 3).toNat h)) 0 z_42 (by omega) (by rw [hh, show a = 8 by omega]; rfl) (Nat.lt_succ_self _))
      · skip
        refine gw_ldc2 C (x := 31) dX7_checksum_12 kX7_262 (by decide) ?_
        refine gw_lload_n C 1 dX7_checksum_15 rfl rfl ?_
        refine gw_lmul C dX7_checksum_16 ?_
        refine gw_aload_n C 0 dX7_checksum_17 rfl rfl ?_
        refine gw_getRs (ci := 6) (Cn := RX7) (T0 := TX7) (N := 3) C 1 0 kX7_10 fX7 rfl (by decide) rfl rfl dX7_checksum_18 xs_0 xn_0 xr_0_0 ?_
        refine gw_iload_n C 3 dX7_checksum_21 rfl rfl ?_
        refine gw_callVm C (as := [vI (a : Int)]) (st := [vL (31 * h)]) (ci := 2) (T0 := TX2) (N := 7) (c_X2_number hl0 G I J mineQ_live (by omega) (fun k hk => (hw.2 k hk).2.1.1) (by omega) (fun k hk => (hw.1 k hk).2.1) (a : Int) (by omega)) dX7_checksum_22 kX7_58 qX2_number hdX2_number ⟨Nat.le_of_ble_eq_true rfl, Nat.le_of_ble_eq_true rfl⟩ ⟨Nat.le_of_ble_eq_true rfl, Nat.le_of_ble_eq_true rfl⟩ (Nat.le_of_ble_eq_true rfl) rfl (mq_s mineQ_live) (mq_n mineQ_live) rfl (fun z_22 => ?_)
        rw [info_v hR (a : Int) (by omega)]
        have hi9_22 : inI (rInfo S (a : Int)) := rInfo_i ho (by omega)
        refine gw_i2l C dX7_checksum_25 hi9_22 ?_
        refine gw_ladd C dX7_checksum_26 ?_
        refine gw_lstore_n C (lo1 := [some (vR 0), some (vL ((31 * h) + (rInfo S (a : Int)))), none, some (vI (a : Int))]) 1 dX7_checksum_27 rfl (by decide) rfl ?_
        refine gw_iinc C (lo1 := [some (vR 0), some (vL ((31 * h) + (rInfo S (a : Int)))), none, some (vI ((a : Int) + 1))]) dX7_checksum_28 rfl (by decide) rfl ?_
        refine gw_goto C (tgt := 6) dX7_checksum_31 (by decide) ?_
        exact gw_weak (lo' := [some (vR 0), some (vL ((31 * h) + (rInfo S (a : Int)))), none, some (vI (((a + 1) : Nat) : Int))]) ⟨rfl, rfl, congrArg (fun q => some (vI q)) (by omega), trivial⟩ (ih_6 ((31 * h) + (rInfo S (a : Int))) (a + 1) z_22 (by omega) (by rw [hs_s, ← hh]) (by omega))
  exact gw_weak (lo' := [some (vR 0), some (vL 12946), none, some (vI (0 : Int))]) ⟨rfl, rfl, congrArg (fun q => some (vI q)) (by omega), trivial⟩ (loop_6 _ 12946 0 z (by omega) (by rfl) (Nat.lt_succ_self _))
