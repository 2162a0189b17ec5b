theorem us_us {S : Nat → Int} {p : Nat} {a b : Int} : us (us S p a) p b = us S p b := by
  funext k
  unfold us
  split <;> rfl
theorem me_ne {S : Nat → Int} {j q : Nat} {g : Int} (h : q ≠ 83 + 6 * j) : oMeas S j g q = S q := us_ne h
section ME
variable {S : Nat → Int} {j : Nat} {g : Int}
theorem me_T (ho : Oks S) {i : Nat} (hi : (i : Int) < S 3) : sT (oMeas S j g) i = sT S i ∧ sR (oMeas S j g) i = sR S i := by
  have o3 := ho.2.1
  have ob := (ho.2.2.1 i hi).1.2.2
  unfold sT sR
  rw [me_ne (by omega), me_ne (q := 0) (by omega)]
  exact ⟨wtF_c _ (fun k hk => me_ne (by omega)), restF_c _ (fun k hk => me_ne (by omega))⟩
theorem me_C (ho : Oks S) {q : Nat} (hq : (q : Int) < S 4) : sC (oMeas S j g) q = sC S q ∧ sSw (oMeas S j g) q = sSw S q := by
  have nb := near_b ho hq
  have e1 : sNear (oMeas S j g) q = sNear S q := by unfold sNear; rw [me_ne (by omega)]
  have e2 : sFar (oMeas S j g) q = sFar S q := by unfold sFar; rw [me_ne (by omega)]
  unfold sC sSw
  rw [e1, e2, (me_T ho nb.1.2).1, (me_T ho nb.2.2).1, (me_T ho nb.1.2).2, (me_T ho nb.2.2).2, me_ne (by omega)]
  exact ⟨rfl, rfl⟩
theorem me_J (ho : Oks S) {q : Nat} (hq : (q : Int) < S 4) : sJ (oMeas S j g) q = sJ S q := by
  unfold sJ
  rw [(me_C ho hq).1, me_ne (by omega), me_ne (by omega)]
theorem me_St (ho : Oks S) {q : Nat} (hq : (q : Int) < S 4) (x : Int) : sSt (oMeas S j g) q x = sSt S q x := by
  unfold sSt
  rw [(me_C ho hq).2, me_ne (by omega), me_ne (by omega), me_ne (by omega)]
theorem me_S0 (ho : Oks S) {q : Nat} (hq : (q : Int) < S 4) : sS0 (oMeas S j g) q = if q = j then sSt S j g else sS0 S q := by
  unfold sS0
  rw [me_St ho hq]
  by_cases e : q = j
  · subst e
    rw [if_pos rfl]
    congr 1
    exact us_at rfl
  · rw [if_neg e, me_ne (by omega)]
theorem me_t (hj : j < 4) (t k : Nat) : oMeas S j g (102 + 28 * t + k) = S (102 + 28 * t + k) := me_ne (by omega)
theorem me_whl (ho : Oks S) (hj : j < 4) {t : Nat} (ht9 : (t : Int) < S 5) : whl (oMeas S j g) t ↔ whl S t := by
  have fb := first_b ho ht9
  have e3 : oMeas S j g (103 + 28 * t) = S (103 + 28 * t) := me_ne (by omega)
  have e4 : oMeas S j g (104 + 28 * t) = S (104 + 28 * t) := me_ne (by omega)
  have ef : sFi (oMeas S j g) t = sFi S t := by unfold sFi; rw [me_ne (by omega)]
  have el : sLa (oMeas S j g) t = sLa S t := by unfold sLa; rw [e4]
  unfold whl
  rw [e4]
  by_cases hc : 0 ≤ S (104 + 28 * t)
  · have lb := last_b ho ht9 hc
    unfold sTT
    rw [e3, e4, ef, el, me_J ho fb.2.1, me_J ho lb.2.1]
    by_cases a : S (103 + 28 * t) = 0
    · rw [if_pos a, if_pos a]
    · rw [if_neg a, if_neg a]
      by_cases b : sJ S (sFi S t) ≠ 0
      · rw [if_pos b, if_pos b]
      · rw [if_neg b, if_neg b, if_neg (show ¬ S (104 + 28 * t) < 0 by omega), if_neg (show ¬ S (104 + 28 * t) < 0 by omega)]
        by_cases d : sJ S (sLa S t) ≠ 0
        · rw [if_pos d, if_pos d]
        · rw [if_neg d, if_neg d]
          constructor
          · intro _; refine ⟨hc, ?_⟩; split <;> omega
          · intro _; refine ⟨hc, ?_⟩; split <;> omega
  · constructor
    · intro h; exact absurd h.1 hc
    · intro h; exact absurd h.1 hc
end ME
theorem bF_sh {s0 s1 : Int} {a : Nat → Int} : ∀ k : Nat, normZ (bF s1 a k) = normZ (bF s0 a k + (s1 - s0)) := by
  intro k
  induction k with
  | zero => rw [bF, bF]; congr 1; omega
  | succ k ih =>
    rw [bF_s, bF_s]
    unfold normZ at *
    omega
theorem me_G {S : Nat → Int} {j t : Nat} {g : Int} (ho : Oks S) (hj : j < 4) (ht9 : (t : Int) < S 5) (hw : whl S t) : sG (oMeas S j g) t = centZ (sG S t + sgF (j : Int) (S (102 + 28 * t)) (S (104 + 28 * t)) * (sSt S j g - sS0 S j)) := by
  have fb := first_b ho ht9
  have lb := last_b ho ht9 hw.1
  have hne := (ho.2.2.2.2 t ht9).1.2.2.2.2
  have ot := (ho.2.2.2.2 t ht9).1.2.1
  have ef : sFi (oMeas S j g) t = sFi S t := by unfold sFi; rw [me_ne (by omega)]
  have el : sLa (oMeas S j g) t = sLa S t := by unfold sLa; rw [me_ne (by omega)]
  have eg : sLg (oMeas S j g) t = sLg S t := by unfold sLg; rw [me_ne (by omega)]
  have ea : bF (sS0 (oMeas S j g) (sFi S t)) (sAn (oMeas S j g) t) (sLg S t) = bF (sS0 (oMeas S j g) (sFi S t)) (sAn S t) (sLg S t) := bF_c _ (fun k hk => by unfold sAn; exact me_ne (by omega))
  have sh := bF_sh (s0 := sS0 S (sFi S t)) (s1 := sS0 (oMeas S j g) (sFi S t)) (a := sAn S t) (sLg S t)
  unfold sG sBr
  rw [eg, ef, el, ea, me_ne (q := 105 + 28 * t) (by omega)]
  rw [me_S0 ho fb.2.1] at sh ⊢
  rw [me_S0 ho lb.2.1]
  by_cases c1 : sFi S t = j
  · have c2 : sLa S t ≠ j := by omega
    have hs : sgF (j : Int) (S (102 + 28 * t)) (S (104 + 28 * t)) = 1 := by unfold sgF; rw [if_pos (by omega)]
    rw [if_pos c1] at sh ⊢
    rw [if_neg c2, hs, Int.one_mul, ← c1]
    rw [c1] at sh ⊢
    unfold centZ normZ at *
    omega
  · rw [if_neg c1] at sh ⊢
    by_cases c2 : sLa S t = j
    · have hs : sgF (j : Int) (S (102 + 28 * t)) (S (104 + 28 * t)) = -1 := by unfold sgF; rw [if_neg (by omega), if_pos (by omega)]
      rw [if_pos c2, hs, c2]
      unfold centZ normZ at *
      omega
    · have hs : sgF (j : Int) (S (102 + 28 * t)) (S (104 + 28 * t)) = 0 := by unfold sgF; rw [if_neg (by omega), if_neg (by omega)]
      rw [if_neg c2, hs, Int.zero_mul]
      unfold centZ normZ at *
      omega
theorem kg_e {I K : GI} {p : Nat} {w : Int} {j : Nat} (hp : p = 83 + 6 * j) (h : ∀ q f, ¬ (q = 232 ∧ f = p) → K q f = up I 231 6 0 q f) (hw : K 232 p = w) : K 232 = oMeas (I 232) j w := by
  subst hp
  funext f
  unfold oMeas
  by_cases e : f = 83 + 6 * j
  · subst e
    rw [us_at rfl, hw]
  · rw [us_ne e, h 232 f (fun q => e q.2), up_ne (by decide)]
theorem kg_f {I K : GI} {p : Nat} (h : ∀ q f, ¬ (q = 232 ∧ f = p) → K q f = up I 231 6 0 q f) : up K 232 p (I 232 p) = up I 231 6 0 := by
  funext q f
  by_cases e : q = 232 ∧ f = p
  · rw [e.1, e.2, up_eq, up_ne (by decide)]
  · rw [up_nn e, h q f e]
theorem kg_s {I K : GI} {p : Nat} {x : Int} (h : ∀ q f, ¬ (q = 232 ∧ f = p) → K q f = up I 231 6 0 q f) : ∀ q f, ¬ (q = 232 ∧ f = p) → up K 232 p x q f = up I 231 6 0 q f := fun q f e => by rw [up_nn e, h q f e]
def afI (S : Nat → Int) (t j : Nat) (y g fd : Int) : Prop := (fd = -2000000000 ∧ fsF (aS S t j y) 7201 = fsF (aS S t j y) (3601 - g).toNat) ∨ (whl S t ∧ (-3600 ≤ fd ∧ fd ≤ 3600) ∧ fd = fsF (aS S t j y) 7201)
theorem af_b {S : Nat → Int} {t j : Nat} {y g fd : Int} (h : afI S t j y g fd) : fd = -2000000000 ∨ (-3600 ≤ fd ∧ fd ≤ 3600) := by
  rcases h with h | h
  · exact Or.inl h.1
  · exact Or.inr h.2.1
theorem af_1 {S : Nat → Int} {t j : Nat} {y g fd : Int} (h : afI S t j y g fd) (h0 : fd = -2000000000) (hw : whl S t) (hg : -3600 ≤ g ∧ g ≤ 3600) (hc : ((centZ (sG S t + sgF (j : Int) (S (102 + 28 * t)) (S (104 + 28 * t)) * (sSt S j g - sS0 S j))).natAbs : Int) ≤ y) : afI S t j y (g + 1) g := by
  rcases h with h | h
  · refine Or.inr ⟨hw, hg, ?_⟩
    rw [h.2]
    exact (fs_t hg (by unfold aS; exact decide_eq_true hc)).symm
  · omega
theorem af_2 {S : Nat → Int} {t j : Nat} {y g fd : Int} (h : afI S t j y g fd) (h0 : fd = -2000000000) (hg : -3600 ≤ g ∧ g ≤ 3600) (hc : ¬ ((centZ (sG S t + sgF (j : Int) (S (102 + 28 * t)) (S (104 + 28 * t)) * (sSt S j g - sS0 S j))).natAbs : Int) ≤ y) : afI S t j y (g + 1) fd := by
  rcases h with h | h
  · refine Or.inl ⟨h.1, ?_⟩
    rw [h.2]
    exact fs_f hg (by unfold aS; intro hh; exact hc (of_decide_eq_true hh))
  · omega
theorem af_e {S : Nat → Int} {t j : Nat} {y g fd : Int} (h : afI S t j y g fd) (he : 3600 < g ∨ fd ≠ -2000000000 ∨ ¬ whl S t) (hg : g ≤ 3601) : fd = rFor S t j y := by
  unfold rFor
  rcases h with h | h
  · by_cases w : whl S t
    · rw [if_pos w, h.2, h.1, show (3601 - g).toNat = 0 by omega]
      rfl
    · rw [if_neg w, h.1]
  · rw [if_pos h.1]
    exact h.2.2
set_option maxHeartbeats 4000000 in
set_option maxRecDepth 100000 in
theorem c_X8_angleFor {l : Launch} (hl0 : l.stackTraces = false) (G : GG) (I J : GI) {z : Nat} (ho : Oks (I 232)) (x1 x2 x3 : Int) (hx1 : inI x1) (hx2 : inI x2) (hx3 : inI x3) : GM l yX8_angleFor (.code yX8_angleFor cX8_angleFor 8 (some .int)) 7 157 0 0 G N0 SH RR [vR 231, vI x1, vI x2, vI x3] z I J (mrQ (kFor (I 232) x1 x2 x3) (rFor (I 232) x1.toNat x2.toNat x3) I J) gNo := by
  refine gm_of (lo0 := [some (vR 231), some (vI x1), some (vI x2), some (vI x3), none, none, none, none]) hl0 (by decide) rfl (Nat.le_of_ble_eq_true rfl) ?_
  intro p e s m args below meth c C ht hgi
  have C : gC G p l s m args meth c cX8_angleFor 8 RX8 (some .int) "angleFor" := C
  have h3 := ho.2.1
  have h0 := ho.1
  refine gw_aload_n C 0 dX8_angleFor_0 rfl rfl ?_
  refine gw_aload_n C 0 dX8_angleFor_1 rfl rfl ?_
  refine gw_iload_n C 1 dX8_angleFor_2 rfl rfl ?_
  refine gw_callVb C (as := [vI x1]) (st := [vR 231]) (ci := 7) (T0 := TX8) (N := 10) (c_X8_isTraverse hl0 G I J ho x1 (by first | assumption | omega)) dX8_angleFor_3 kX8_155 qX8_isTraverse hdX8_isTraverse ⟨Nat.le_of_ble_eq_true rfl, Nat.le_of_ble_eq_true rfl⟩ ⟨Nat.le_of_ble_eq_true rfl, Nat.le_of_ble_eq_true rfl⟩ (Nat.le_of_ble_eq_true rfl) rfl xs_231 xn_231 rfl (fun h_3 z_3 => ?_) (fun h_3 z_3 => ?_)
  · skip
    refine gw_if_eq C (tgt := 17) dX8_angleFor_6 (by decide) ⟨by decide, by decide⟩ (fun h => absurd h (by decide)) (fun _ => ?_)
    refine gw_aload_n C 0 dX8_angleFor_9 rfl rfl ?_
    refine gw_iload_n C 2 dX8_angleFor_10 rfl rfl ?_
    refine gw_callVb C (as := [vI x2]) (st := [vR 231]) (ci := 7) (T0 := TX8) (N := 10) (c_X8_isJoin hl0 G I J ho x2 (by first | assumption | omega)) dX8_angleFor_11 kX8_135 qX8_isJoin hdX8_isJoin ⟨Nat.le_of_ble_eq_true rfl, Nat.le_of_ble_eq_true rfl⟩ ⟨Nat.le_of_ble_eq_true rfl, Nat.le_of_ble_eq_true rfl⟩ (Nat.le_of_ble_eq_true rfl) rfl xs_231 xn_231 rfl (fun h_11 z_11 => ?_) (fun h_11 z_11 => ?_)
    · skip
      refine gw_if_ne C (tgt := 21) dX8_angleFor_14 (by decide) ⟨by decide, by decide⟩ (fun _ => ?_) (fun h => absurd h (by decide))
      refine gw_iload_n C 3 dX8_angleFor_21 rfl rfl ?_
      refine gw_i2l C dX8_angleFor_22 hx3 ?_
      refine gw_lconst C 0 dX8_angleFor_23 (by decide) ?_
      refine gw_ldc2 C (x := 3600) dX8_angleFor_24 kX8_121 (by decide) ?_
      refine gw_callSb C (as := [vL x3, vL 0, vL 3600]) (st := [vR 231]) (c_X8_in hl0 G x3 0 3600 (by omega) ⟨by decide, by decide⟩ ⟨by decide, by decide⟩) dX8_angleFor_27 kX8_62 qX8_in hdX8_in ⟨Nat.le_of_ble_eq_true rfl, Nat.le_of_ble_eq_true rfl⟩ ⟨Nat.le_of_ble_eq_true rfl, Nat.le_of_ble_eq_true rfl⟩ (Nat.le_of_ble_eq_true rfl) rfl (fun h_27 z_27 => ?_) (fun h_27 z_27 => ?_)
      · skip
        refine gw_if_eq C (tgt := 37) dX8_angleFor_30 (by decide) ⟨by decide, by decide⟩ (fun h => absurd h (by decide)) (fun _ => ?_)
        refine gw_iconst C dX8_angleFor_33 ?_
        refine gw_goto C (tgt := 38) dX8_angleFor_34 (by decide) ?_
        refine gw_callVm C (as := [vI 0]) (st := []) (ci := 7) (T0 := TX8) (N := 10) (c_X8_throwsAt hl0 G I J 0 ⟨by decide, by decide⟩) dX8_angleFor_38 kX8_70 qX8_throwsAt hdX8_throwsAt ⟨Nat.le_of_ble_eq_true rfl, Nat.le_of_ble_eq_true rfl⟩ ⟨Nat.le_of_ble_eq_true rfl, Nat.le_of_ble_eq_true rfl⟩ (Nat.le_of_ble_eq_true rfl) rfl xs_231 xn_231 rfl (fun z_38 => ?_)
        rw [show (if (0 : Int) < 0 then (1 : Int) else 0) = 0 from by decide]
        refine gw_if_eq C (tgt := 46) dX8_angleFor_41 (by decide) ⟨by decide, by decide⟩ (fun _ => ?_) (fun h => absurd h (by decide))
        refine gw_bipush C dX8_angleFor_46 rfl ?_
        refine gw_bipush C dX8_angleFor_48 rfl ?_
        refine gw_iload_n C 2 dX8_angleFor_50 rfl rfl ?_
        refine gw_imul C dX8_angleFor_51 ?_
        refine gw_iadd C dX8_angleFor_52 ?_
        refine gw_iconst C dX8_angleFor_53 ?_
        refine gw_iadd C dX8_angleFor_54 ?_
        refine gw_istore C (lo1 := [some (vR 231), some (vI x1), some (vI x2), some (vI x3), some (vI ((78 + (6 * x2)) + 5)), none, none, none]) dX8_angleFor_55 (by decide) rfl ?_
        refine gw_aload_n C 0 dX8_angleFor_57 rfl rfl ?_
        refine gw_getRs (ci := 7) (Cn := RX8) (T0 := TX8) (N := 10) C 232 0 kX8_7 fX8 rfl (by decide) rfl rfl dX8_angleFor_58 xs_231 xn_231 xr_231_0 ?_
        refine gw_iload C dX8_angleFor_61 rfl ?_
        refine gw_iald C (83 + 6 * x2.toNat) dX8_angleFor_63 xs_232 xn_232 (by omega) (by omega) (by decide) (fun hI_63 => ?_)
        rw [show ((up I 231 6 0) 232 (83 + 6 * x2.toNat)) = I 232 (83 + 6 * x2.toNat) from up_nn (by omega)] at hI_63 ⊢
        refine gw_istore C (lo1 := [some (vR 231), some (vI x1), some (vI x2), some (vI x3), some (vI ((78 + (6 * x2)) + 5)), some (vI (I 232 (83 + 6 * x2.toNat))), none, none]) dX8_angleFor_64 (by decide) rfl ?_
        refine gw_ldc C (x := (-2000000000)) dX8_angleFor_66 kX8_105 (by decide) ?_
        refine gw_istore C (lo1 := [some (vR 231), some (vI x1), some (vI x2), some (vI x3), some (vI ((78 + (6 * x2)) + 5)), some (vI (I 232 (83 + 6 * x2.toNat))), some (vI (-2000000000)), none]) dX8_angleFor_68 (by decide) rfl ?_
        refine gw_sipush C dX8_angleFor_70 rfl ?_
        refine gw_istore C (lo1 := [some (vR 231), some (vI x1), some (vI x2), some (vI x3), some (vI ((78 + (6 * x2)) + 5)), some (vI (I 232 (83 + 6 * x2.toNat))), some (vI (-2000000000)), some (vI (-3600))]) dX8_angleFor_73 (by decide) rfl ?_
        have loop_75 : ∀ (fuel : Nat) (fd : Int) (g : Int) (Kg : GI) (z1 : Nat), (-3600 ≤ g ∧ g ≤ 3601) → (afI (I 232) x1.toNat x2.toNat x3 g fd) → (∀ q f, ¬ (q = 232 ∧ f = 83 + 6 * x2.toNat) → Kg q f = up I 231 6 0 q f) → (-3600 ≤ Kg 232 (83 + 6 * x2.toNat) ∧ Kg 232 (83 + 6 * x2.toNat) ≤ 3600) → (3602 - g).toNat < fuel → GW G p l e ({ frames := 7, cells := 0, slots := 0, locals := 157 } : Room) s m args below meth c 8 z1 N0 SH RR Kg J 0 0 (vx_MQ below (GQ G N0 SH RR (mrQ (kFor (I 232) x1 x2 x3) (rFor (I 232) x1.toNat x2.toNat x3) I J)) (GX G N0 SH RR gNo) args s 0 0 (ge G)) 75 [some (vR 231), some (vI x1), some (vI x2), some (vI x3), some (vI ((78 + (6 * x2)) + 5)), some (vI (I 232 (83 + 6 * x2.toNat))), some (vI fd), some (vI g)] [] := by
          intro fuel
          induction fuel with
          | zero => intro fd g Kg z1 hg hfd hKg hKr hf_75; exact absurd hf_75 (Nat.not_lt_zero _)
          | succ fuel ih_75 =>
            intro fd g Kg z1 hg hfd hKg hKr hf_75
            have hfb := af_b hfd
            obtain ⟨w9, hw9⟩ : ∃ w, Kg 232 (83 + 6 * x2.toNat) = w := ⟨_, rfl⟩
            have hKe := kg_e rfl hKg hw9
            have h59 : oMeas (I 232) x2.toNat w9 5 = I 232 5 := me_ne (by omega)
            refine gw_iload C dX8_angleFor_75 rfl ?_
            refine gw_sipush C dX8_angleFor_77 rfl ?_
            refine gw_icmp_gt C (tgt := 134) dX8_angleFor_80 (by decide) (by first | omega | exact hgi _ _) ⟨by decide, by decide⟩ (fun h_80 => ?_) (fun h_80 => ?_)
            · skip
              refine gw_aload_n C 0 dX8_angleFor_134 rfl rfl ?_
              refine gw_getRs (ci := 7) (Cn := RX8) (T0 := TX8) (N := 10) C 232 0 kX8_7 fX8 rfl (by decide) rfl rfl dX8_angleFor_135 xs_231 xn_231 xr_231_0 ?_
              refine gw_iload C dX8_angleFor_138 rfl ?_
              refine gw_iload C dX8_angleFor_140 rfl ?_
              refine gw_iast C (83 + 6 * x2.toNat) dX8_angleFor_142 xs_232 xn_232 (by omega) (by omega) (by decide) hI_63 ?_
              refine gw_iload C dX8_angleFor_143 rfl ?_
              exact gw_iret C (Nat.le_of_ble_eq_true rfl) (Nat.le_of_ble_eq_true rfl) dX8_angleFor_145 ((by rw [kg_f hKg]; exact mr_0 (by unfold kFor; (repeat (first | rw [if_pos (by omega)] | rw [if_neg (by omega)]))) (by first | exact af_e hfd (Or.inl (by omega)) (by omega) | exact af_e hfd (Or.inr (Or.inl (by omega))) (by omega) | exact af_e hfd (Or.inr (Or.inr (fun hh => absurd ((me_whl (j := x2.toNat) (g := w9) ho (by omega) (t := x1.toNat) (by omega)).mpr hh) (by omega)))) (by omega))))
            · skip
              refine gw_iload C dX8_angleFor_83 rfl ?_
              refine gw_ldc C (x := (-2000000000)) dX8_angleFor_85 kX8_105 (by decide) ?_
              refine gw_icmp_ne C (tgt := 134) dX8_angleFor_87 (by decide) (by first | omega | exact hgi _ _) ⟨by decide, by decide⟩ (fun h_87 => ?_) (fun h_87 => ?_)
              · skip
                refine gw_aload_n C 0 dX8_angleFor_134 rfl rfl ?_
                refine gw_getRs (ci := 7) (Cn := RX8) (T0 := TX8) (N := 10) C 232 0 kX8_7 fX8 rfl (by decide) rfl rfl dX8_angleFor_135 xs_231 xn_231 xr_231_0 ?_
                refine gw_iload C dX8_angleFor_138 rfl ?_
                refine gw_iload C dX8_angleFor_140 rfl ?_
                refine gw_iast C (83 + 6 * x2.toNat) dX8_angleFor_142 xs_232 xn_232 (by omega) (by omega) (by decide) hI_63 ?_
                refine gw_iload C dX8_angleFor_143 rfl ?_
                exact gw_iret C (Nat.le_of_ble_eq_true rfl) (Nat.le_of_ble_eq_true rfl) dX8_angleFor_145 ((by rw [kg_f hKg]; exact mr_0 (by unfold kFor; (repeat (first | rw [if_pos (by omega)] | rw [if_neg (by omega)]))) (by first | exact af_e hfd (Or.inl (by omega)) (by omega) | exact af_e hfd (Or.inr (Or.inl (by omega))) (by omega) | exact af_e hfd (Or.inr (Or.inr (fun hh => absurd ((me_whl (j := x2.toNat) (g := w9) ho (by omega) (t := x1.toNat) (by omega)).mpr hh) (by omega)))) (by omega))))
              · skip
                refine gw_aload_n C 0 dX8_angleFor_90 rfl rfl ?_
                refine gw_iload_n C 1 dX8_angleFor_91 rfl rfl ?_
                refine gw_callVb C (as := [vI x1]) (st := []) (ci := 7) (T0 := TX8) (N := 10) (c_X8_isWhole hl0 G Kg J (by rw [show Kg 232 = (oMeas (I 232) x2.toNat w9) from hKe]; exact (oks_meas ho (by omega) (by omega))) x1 (by first | (rw [show Kg 232 = (oMeas (I 232) x2.toNat w9) from hKe]; omega) | (omega))) dX8_angleFor_92 kX8_195 qX8_isWhole hdX8_isWhole ⟨Nat.le_of_ble_eq_true rfl, Nat.le_of_ble_eq_true rfl⟩ ⟨Nat.le_of_ble_eq_true rfl, Nat.le_of_ble_eq_true rfl⟩ (Nat.le_of_ble_eq_true rfl) rfl xs_231 xn_231 rfl (fun h_92 z_92 => ?_) (fun h_92 z_92 => ?_)
                · skip
                  rw [show Kg 232 = (oMeas (I 232) x2.toNat w9) from hKe] at h_92
                  refine gw_if_eq C (tgt := 134) dX8_angleFor_95 (by decide) ⟨by decide, by decide⟩ (fun h => absurd h (by decide)) (fun _ => ?_)
                  refine gw_aload_n C 0 dX8_angleFor_98 rfl rfl ?_
                  refine gw_getRs (ci := 7) (Cn := RX8) (T0 := TX8) (N := 10) C 232 0 kX8_7 fX8 rfl (by decide) rfl rfl dX8_angleFor_99 xs_231 xn_231 xr_231_0 ?_
                  refine gw_iload C dX8_angleFor_102 rfl ?_
                  refine gw_iload C dX8_angleFor_104 rfl ?_
                  refine gw_iast C (83 + 6 * x2.toNat) dX8_angleFor_106 xs_232 xn_232 (by omega) (by omega) (by decide) (by first | omega | exact hgi _ _) ?_
                  have hw1 := (me_whl (j := x2.toNat) (g := w9) ho (by omega) (t := x1.toNat) (by omega)).mp (by omega)
                  have hwg := (me_whl (j := x2.toNat) (g := g) ho (by omega) (t := x1.toNat) (by omega)).mpr hw1
                  have h6g := sTT_67 (S := oMeas (I 232) x2.toNat g) (t := x1.toNat)
                  have h5g : oMeas (I 232) x2.toNat g 5 = I 232 5 := me_ne (by omega)
                  refine gw_aload_n C 0 dX8_angleFor_107 rfl rfl ?_
                  refine gw_iload_n C 1 dX8_angleFor_108 rfl rfl ?_
                  refine gw_callVm C (as := [vI x1]) (st := []) (ci := 7) (T0 := TX8) (N := 10) (c_X8_gap hl0 G (up Kg 232 (83 + 6 * x2.toNat) g) J (by rw [show (up Kg 232 (83 + 6 * x2.toNat) g) 232 = (oMeas (I 232) x2.toNat g) from by rw [up_us, hKe]; exact us_us]; exact (oks_meas ho (by omega) (by omega))) x1 (by first | (rw [show (up Kg 232 (83 + 6 * x2.toNat) g) 232 = (oMeas (I 232) x2.toNat g) from by rw [up_us, hKe]; exact us_us]; omega) | (omega)) (by first | (rw [show (up Kg 232 (83 + 6 * x2.toNat) g) 232 = (oMeas (I 232) x2.toNat g) from by rw [up_us, hKe]; exact us_us]; omega) | (omega)) (by first | (rw [show (up Kg 232 (83 + 6 * x2.toNat) g) 232 = (oMeas (I 232) x2.toNat g) from by rw [up_us, hKe]; exact us_us]; omega) | (omega)) (by first | (rw [show (up Kg 232 (83 + 6 * x2.toNat) g) 232 = (oMeas (I 232) x2.toNat g) from by rw [up_us, hKe]; exact us_us]; omega) | (omega))) dX8_angleFor_109 kX8_170 qX8_gap hdX8_gap ⟨Nat.le_of_ble_eq_true rfl, Nat.le_of_ble_eq_true rfl⟩ ⟨Nat.le_of_ble_eq_true rfl, Nat.le_of_ble_eq_true rfl⟩ (Nat.le_of_ble_eq_true rfl) rfl xs_231 xn_231 rfl (fun z_109 => ?_)
                  rw [show (up Kg 232 (83 + 6 * x2.toNat) g) 232 = (oMeas (I 232) x2.toNat g) from by rw [up_us, hKe]; exact us_us]
                  have hr_109 := sG_b ((oMeas (I 232) x2.toNat g)) ((x1).toNat)
                  rw [me_G (j := x2.toNat) (g := g) ho (by omega) (t := x1.toNat) (by omega) hw1]
                  have hcz := centZ_b (sG (I 232) x1.toNat + sgF (x2.toNat : Int) (I 232 (102 + 28 * x1.toNat)) (I 232 (104 + 28 * x1.toNat)) * (sSt (I 232) x2.toNat g - sS0 (I 232) x2.toNat))
                  refine gw_callSm C (as := [vI (centZ (sG (I 232) x1.toNat + sgF (x2.toNat : Int) (I 232 (102 + 28 * x1.toNat)) (I 232 (104 + 28 * x1.toNat)) * (sSt (I 232) x2.toNat g - sS0 (I 232) x2.toNat)))]) (st := []) (c_X8_size hl0 G (centZ (sG (I 232) x1.toNat + sgF (x2.toNat : Int) (I 232 (102 + 28 * x1.toNat)) (I 232 (104 + 28 * x1.toNat)) * (sSt (I 232) x2.toNat g - sS0 (I 232) x2.toNat))) (by omega)) dX8_angleFor_112 kX8_99 qX8_size hdX8_size ⟨Nat.le_of_ble_eq_true rfl, Nat.le_of_ble_eq_true rfl⟩ ⟨Nat.le_of_ble_eq_true rfl, Nat.le_of_ble_eq_true rfl⟩ (Nat.le_of_ble_eq_true rfl) rfl (fun z_112 => ?_)
                  refine gw_iload_n C 3 dX8_angleFor_115 rfl rfl ?_
                  refine gw_icmp_gt C (tgt := 124) dX8_angleFor_116 (by decide) (by first | omega | exact hgi _ _) hx3 (fun h_116 => ?_) (fun h_116 => ?_)
                  · skip
                    refine gw_iload C dX8_angleFor_124 rfl ?_
                    refine gw_istore C (lo1 := [some (vR 231), some (vI x1), some (vI x2), some (vI x3), some (vI ((78 + (6 * x2)) + 5)), some (vI (I 232 (83 + 6 * x2.toNat))), some (vI fd), some (vI g)]) dX8_angleFor_126 (by decide) rfl ?_
                    refine gw_iinc C (lo1 := [some (vR 231), some (vI x1), some (vI x2), some (vI x3), some (vI ((78 + (6 * x2)) + 5)), some (vI (I 232 (83 + 6 * x2.toNat))), some (vI fd), some (vI (g + 1))]) dX8_angleFor_128 rfl (by decide) rfl ?_
                    refine gw_goto C (tgt := 75) dX8_angleFor_131 (by decide) ?_
                    exact gw_weak (lo' := [some (vR 231), some (vI x1), some (vI x2), some (vI x3), some (vI ((78 + (6 * x2)) + 5)), some (vI (I 232 (83 + 6 * x2.toNat))), some (vI fd), some (vI (g + 1))]) ⟨rfl, rfl, rfl, rfl, rfl, rfl, rfl, rfl, trivial⟩ (ih_75 fd (g + 1) (up Kg 232 (83 + 6 * x2.toNat) g) z_112 (by omega) (by first | exact af_1 hfd (by omega) hw1 (by omega) (by omega) | exact af_2 hfd (by omega) (by omega) (by omega)) (by exact kg_s hKg) (by rw [up_eq]; omega) (by omega))
                  · skip
                    refine gw_iload C dX8_angleFor_119 rfl ?_
                    refine gw_goto C (tgt := 126) dX8_angleFor_121 (by decide) ?_
                    refine gw_istore C (lo1 := [some (vR 231), some (vI x1), some (vI x2), some (vI x3), some (vI ((78 + (6 * x2)) + 5)), some (vI (I 232 (83 + 6 * x2.toNat))), some (vI g), some (vI g)]) dX8_angleFor_126 (by decide) rfl ?_
                    refine gw_iinc C (lo1 := [some (vR 231), some (vI x1), some (vI x2), some (vI x3), some (vI ((78 + (6 * x2)) + 5)), some (vI (I 232 (83 + 6 * x2.toNat))), some (vI g), some (vI (g + 1))]) dX8_angleFor_128 rfl (by decide) rfl ?_
                    refine gw_goto C (tgt := 75) dX8_angleFor_131 (by decide) ?_
                    exact gw_weak (lo' := [some (vR 231), some (vI x1), some (vI x2), some (vI x3), some (vI ((78 + (6 * x2)) + 5)), some (vI (I 232 (83 + 6 * x2.toNat))), some (vI g), some (vI (g + 1))]) ⟨rfl, rfl, rfl, rfl, rfl, rfl, rfl, rfl, trivial⟩ (ih_75 g (g + 1) (up Kg 232 (83 + 6 * x2.toNat) g) z_112 (by omega) (by first | exact af_1 hfd (by omega) hw1 (by omega) (by omega) | exact af_2 hfd (by omega) (by omega) (by omega)) (by exact kg_s hKg) (by rw [up_eq]; omega) (by omega))
                · skip
                  rw [show Kg 232 = (oMeas (I 232) x2.toNat w9) from hKe] at h_92
                  refine gw_if_eq C (tgt := 134) dX8_angleFor_95 (by decide) ⟨by decide, by decide⟩ (fun _ => ?_) (fun h => absurd h (by decide))
                  refine gw_aload_n C 0 dX8_angleFor_134 rfl rfl ?_
                  refine gw_getRs (ci := 7) (Cn := RX8) (T0 := TX8) (N := 10) C 232 0 kX8_7 fX8 rfl (by decide) rfl rfl dX8_angleFor_135 xs_231 xn_231 xr_231_0 ?_
                  refine gw_iload C dX8_angleFor_138 rfl ?_
                  refine gw_iload C dX8_angleFor_140 rfl ?_
                  refine gw_iast C (83 + 6 * x2.toNat) dX8_angleFor_142 xs_232 xn_232 (by omega) (by omega) (by decide) hI_63 ?_
                  refine gw_iload C dX8_angleFor_143 rfl ?_
                  exact gw_iret C (Nat.le_of_ble_eq_true rfl) (Nat.le_of_ble_eq_true rfl) dX8_angleFor_145 ((by rw [kg_f hKg]; exact mr_0 (by unfold kFor; (repeat (first | rw [if_pos (by omega)] | rw [if_neg (by omega)]))) (by first | exact af_e hfd (Or.inl (by omega)) (by omega) | exact af_e hfd (Or.inr (Or.inl (by omega))) (by omega) | exact af_e hfd (Or.inr (Or.inr (fun hh => absurd ((me_whl (j := x2.toNat) (g := w9) ho (by omega) (t := x1.toNat) (by omega)).mpr hh) (by omega)))) (by omega))))
        exact gw_weak (lo' := [some (vR 231), some (vI x1), some (vI x2), some (vI x3), some (vI ((78 + (6 * x2)) + 5)), some (vI (I 232 (83 + 6 * x2.toNat))), some (vI (-2000000000)), some (vI (-3600))]) ⟨rfl, rfl, rfl, rfl, rfl, rfl, rfl, rfl, trivial⟩ (loop_75 _ (-2000000000) (-3600) (up I 231 6 0) z_38 (by decide) (by exact Or.inl ⟨rfl, rfl⟩) (by exact fun _ _ _ => rfl) (by rw [up_nn (by omega)]; exact (ho.2.2.2.1 x2.toNat (by omega)).2.2.2) (Nat.lt_succ_self _))
      · skip
        refine gw_if_eq C (tgt := 37) dX8_angleFor_30 (by decide) ⟨by decide, by decide⟩ (fun _ => ?_) (fun h => absurd h (by decide))
        refine gw_iconst C dX8_angleFor_37 ?_
        refine gw_callVm C (as := [vI 2]) (st := []) (ci := 7) (T0 := TX8) (N := 10) (c_X8_throwsAt hl0 G I J 2 ⟨by decide, by decide⟩) dX8_angleFor_38 kX8_70 qX8_throwsAt hdX8_throwsAt ⟨Nat.le_of_ble_eq_true rfl, Nat.le_of_ble_eq_true rfl⟩ ⟨Nat.le_of_ble_eq_true rfl, Nat.le_of_ble_eq_true rfl⟩ (Nat.le_of_ble_eq_true rfl) rfl xs_231 xn_231 rfl (fun z_38_2 => ?_)
        rw [show (if (0 : Int) < 2 then (1 : Int) else 0) = 1 from by decide]
        refine gw_if_eq C (tgt := 46) dX8_angleFor_41 (by decide) ⟨by decide, by decide⟩ (fun h => absurd h (by decide)) (fun _ => ?_)
        refine gw_iconst C dX8_angleFor_44 ?_
        exact gw_iret C (Nat.le_of_ble_eq_true rfl) (Nat.le_of_ble_eq_true rfl) dX8_angleFor_45 (mr_1 (by unfold kFor; (repeat (first | rw [if_pos (by omega)] | rw [if_neg (by omega)]))) (by decide))
    · skip
      refine gw_if_ne C (tgt := 21) dX8_angleFor_14 (by decide) ⟨by decide, by decide⟩ (fun h => absurd h (by decide)) (fun _ => ?_)
      refine gw_iconst C dX8_angleFor_17 ?_
      refine gw_goto C (tgt := 38) dX8_angleFor_18 (by decide) ?_
      refine gw_callVm C (as := [vI 1]) (st := []) (ci := 7) (T0 := TX8) (N := 10) (c_X8_throwsAt hl0 G I J 1 ⟨by decide, by decide⟩) dX8_angleFor_38 kX8_70 qX8_throwsAt hdX8_throwsAt ⟨Nat.le_of_ble_eq_true rfl, Nat.le_of_ble_eq_true rfl⟩ ⟨Nat.le_of_ble_eq_true rfl, Nat.le_of_ble_eq_true rfl⟩ (Nat.le_of_ble_eq_true rfl) rfl xs_231 xn_231 rfl (fun z_38_3 => ?_)
      rw [show (if (0 : Int) < 1 then (1 : Int) else 0) = 1 from by decide]
      refine gw_if_eq C (tgt := 46) dX8_angleFor_41 (by decide) ⟨by decide, by decide⟩ (fun h => absurd h (by decide)) (fun _ => ?_)
      refine gw_iconst C dX8_angleFor_44 ?_
      exact gw_iret C (Nat.le_of_ble_eq_true rfl) (Nat.le_of_ble_eq_true rfl) dX8_angleFor_45 (mr_1 (by unfold kFor; (repeat (first | rw [if_pos (by omega)] | rw [if_neg (by omega)]))) (by decide))
  · skip
    refine gw_if_eq C (tgt := 17) dX8_angleFor_6 (by decide) ⟨by decide, by decide⟩ (fun _ => ?_) (fun h => absurd h (by decide))
    refine gw_iconst C dX8_angleFor_17 ?_
    refine gw_goto C (tgt := 38) dX8_angleFor_18 (by decide) ?_
    refine gw_callVm C (as := [vI 1]) (st := []) (ci := 7) (T0 := TX8) (N := 10) (c_X8_throwsAt hl0 G I J 1 ⟨by decide, by decide⟩) dX8_angleFor_38 kX8_70 qX8_throwsAt hdX8_throwsAt ⟨Nat.le_of_ble_eq_true rfl, Nat.le_of_ble_eq_true rfl⟩ ⟨Nat.le_of_ble_eq_true rfl, Nat.le_of_ble_eq_true rfl⟩ (Nat.le_of_ble_eq_true rfl) rfl xs_231 xn_231 rfl (fun z_38_4 => ?_)
    rw [show (if (0 : Int) < 1 then (1 : Int) else 0) = 1 from by decide]
    refine gw_if_eq C (tgt := 46) dX8_angleFor_41 (by decide) ⟨by decide, by decide⟩ (fun h => absurd h (by decide)) (fun _ => ?_)
    refine gw_iconst C dX8_angleFor_44 ?_
    exact gw_iret C (Nat.le_of_ble_eq_true rfl) (Nat.le_of_ble_eq_true rfl) dX8_angleFor_45 (mr_1 (by unfold kFor; (repeat (first | rw [if_pos (by omega)] | rw [if_neg (by omega)]))) (by decide))
