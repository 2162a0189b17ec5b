theorem oks_co {S : Nat → Int} {l a b c : Int} (ho : Oks S) (h : rfZ S l a b c = 0) : Oks (coS S l a b c) := by
  by_cases e1 : l = 116
  · rw [rfZ_t e1] at h
    have g := rf_wt h
    have hb := (ho.2.2.1 a.toNat (by omega)).1.2.2
    unfold coS
    rw [if_pos e1]
    exact oks_swing (n := (S (8 + 12 * a.toNat)).toNat) ho (by omega) (by omega) (by omega) g.2.1
  · by_cases e2 : l = 108
    · rw [rfZ_l e2] at h
      have g := rf_wl h
      have hb := (ho.2.2.2.2 a.toNat (by omega)).1.2.1
      unfold coS
      rw [if_neg e1, if_pos e2]
      exact oks_add (n := (S (103 + 28 * a.toNat)).toNat) ho (by omega) (by omega) (by omega) g.2.2.1 g.2.1.1 g.2.1.2
    · by_cases e3 : l = 107
      · rw [rfZ_k e3] at h
        have g := rf_wk h
        have hb := (ho.2.2.2.2 a.toNat (by omega)).1.2.1
        unfold coS
        rw [if_neg e1, if_neg e2, if_pos e3]
        exact oks_drop ho (by omega) (by omega)
      · rw [rfZ_a ⟨e1, e2, e3⟩] at h
        have g := rf_wa h
        unfold coS
        rw [if_neg e1, if_neg e2, if_neg e3]
        exact oks_adj ho (by omega)
theorem oks_ex {S : Nat → Int} {l a b c : Int} (ho : Oks S) : Oks (exS S l a b c) := by
  unfold exS
  split
  · exact oks_co ho (by assumption)
  · exact ho
set_option maxHeartbeats 4000000 in
set_option maxRecDepth 100000 in
theorem c_X8_isAt {l : Launch} (hl0 : l.stackTraces = false) (G : GG) (I J : GI) {z : Nat} (i : Nat) (hi : I 231 7 = (i : Int)) (hn : I 231 5 ≤ 90) (x y : Int) (hx : inI x) (hy : inI y) : GM l yX8_isAt (.code yX8_isAt cX8_isAt 3 (some .boolean)) 1 25 0 0 G N0 SH RR [vR 231, vI x, vI y] z I J (boolQ ((i : Int) < I 231 5 ∧ x ≤ I 234 i ∧ I 234 i ≤ y) I J) gNo := by
  refine gm_of (lo0 := [some (vR 231), some (vI x), some (vI y)]) hl0 (by decide) rfl (Nat.le_of_ble_eq_true rfl) ?_
  intro p e s m args below meth c C ht hgi
  have C : gC G p l s m args meth c cX8_isAt 3 RX8 (some .boolean) "isAt" := C
  refine gw_aload_n C 0 dX8_isAt_0 rfl rfl ?_
  refine gw_getI (ci := 7) (Cn := RX8) (T0 := TX8) (N := 10) C 7 kX8_244 fX8 rfl (by decide) rfl rfl dX8_isAt_1 xs_231 xn_231 (fun hI_1 => ?_)
  refine gw_aload_n C 0 dX8_isAt_4 rfl rfl ?_
  refine gw_getI (ci := 7) (Cn := RX8) (T0 := TX8) (N := 10) C 5 kX8_241 fX8 rfl (by decide) rfl rfl dX8_isAt_5 xs_231 xn_231 (fun hI_5 => ?_)
  refine gw_icmp_ge C (tgt := 35) dX8_isAt_8 (by decide) hI_1 hI_5 (fun h_8 => ?_) (fun h_8 => ?_)
  · skip
    refine gw_iconst C dX8_isAt_35 ?_
    exact gw_zret C (Nat.le_of_ble_eq_true rfl) (Nat.le_of_ble_eq_true rfl) dX8_isAt_36 (Or.inl rfl) (⟨Or.inr ⟨(by omega), rfl⟩, rfl, rfl⟩)
  · skip
    refine gw_aload_n C 0 dX8_isAt_11 rfl rfl ?_
    refine gw_getRs (ci := 7) (Cn := RX8) (T0 := TX8) (N := 10) C 234 4 kX8_16 fX8 rfl (by decide) rfl rfl dX8_isAt_12 xs_231 xn_231 xr_231_4 ?_
    refine gw_aload_n C 0 dX8_isAt_15 rfl rfl ?_
    refine gw_getI (ci := 7) (Cn := RX8) (T0 := TX8) (N := 10) C 7 kX8_244 fX8 rfl (by decide) rfl rfl dX8_isAt_16 xs_231 xn_231 (fun hI_16 => ?_)
    refine gw_iald C i dX8_isAt_19 xs_234 xn_234 (by omega) (by omega) (by decide) (fun hI_19 => ?_)
    refine gw_i2l C dX8_isAt_20 hI_19 ?_
    refine gw_iload_n C 1 dX8_isAt_21 rfl rfl ?_
    refine gw_i2l C dX8_isAt_22 hx ?_
    refine gw_iload_n C 2 dX8_isAt_23 rfl rfl ?_
    refine gw_i2l C dX8_isAt_24 hy ?_
    refine gw_callSb C (as := [vL (I 234 i), vL x, vL y]) (st := []) (c_X8_in hl0 G (I 234 i) x y (by omega) (by omega) (by omega)) dX8_isAt_25 kX8_62 qX8_in hdX8_in ⟨Nat.le_of_ble_eq_true rfl, Nat.le_of_ble_eq_true rfl⟩ ⟨Nat.le_of_ble_eq_true rfl, Nat.le_of_ble_eq_true rfl⟩ (Nat.le_of_ble_eq_true rfl) rfl (fun h_25 z_25 => ?_) (fun h_25 z_25 => ?_)
    · skip
      refine gw_if_eq C (tgt := 35) dX8_isAt_28 (by decide) ⟨by decide, by decide⟩ (fun h => absurd h (by decide)) (fun _ => ?_)
      refine gw_iconst C dX8_isAt_31 ?_
      refine gw_goto C (tgt := 36) dX8_isAt_32 (by decide) ?_
      exact gw_zret C (Nat.le_of_ble_eq_true rfl) (Nat.le_of_ble_eq_true rfl) dX8_isAt_36 (Or.inr rfl) (⟨Or.inl ⟨(by omega), rfl⟩, rfl, rfl⟩)
    · skip
      refine gw_if_eq C (tgt := 35) dX8_isAt_28 (by decide) ⟨by decide, by decide⟩ (fun _ => ?_) (fun h => absurd h (by decide))
      refine gw_iconst C dX8_isAt_35 ?_
      exact gw_zret C (Nat.le_of_ble_eq_true rfl) (Nat.le_of_ble_eq_true rfl) dX8_isAt_36 (Or.inl rfl) (⟨Or.inr ⟨(by omega), rfl⟩, rfl, rfl⟩)
def nuR (I K : GI) (k : Nat) (v : Int) (p : Nat) : Prop := (K 231 7 = (p : Int) ∧ K 235 = us (I 235) k v) ∧ ∀ q f, q ≠ 235 → ¬ (q = 231 ∧ f = 7) → K q f = I q f
def nuQ (I J : GI) (k p : Nat) (b : Int) : Option GV → Nat → GI → GI → Prop := fun v _ I' J' => ((((nrP (I 234) (I 231 5).toNat 7 p ≠ p ∧ nrP (I 234) (I 231 5).toNat 7 p < (I 231 5).toNat ∧ I 234 (nrP (I 234) (I 231 5).toNat 7 p) = b) ∧ v = some (vI 1)) ∧ nuR I I' k (nrV (I 234) (I 231 5).toNat 7 p 0) (nrP (I 234) (I 231 5).toNat 7 p + 1)) ∨ ((¬ (nrP (I 234) (I 231 5).toNat 7 p ≠ p ∧ nrP (I 234) (I 231 5).toNat 7 p < (I 231 5).toNat ∧ I 234 (nrP (I 234) (I 231 5).toNat 7 p) = b) ∧ v = some (vI 0)) ∧ nuR I I' k (nrV (I 234) (I 231 5).toNat 7 p 0) (nrP (I 234) (I 231 5).toNat 7 p))) ∧ J' = J
theorem nu_of {I K : GI} {k i p : Nat} {v x : Int} (h7 : x = (p : Int)) (hK : ∀ q f, ¬ (q = 231 ∧ f = 7) → K q f = I q f) : nuR I (up (up K 235 k v) 231 7 x) k v p := by
  subst h7
  refine ⟨⟨up_eq, ?_⟩, fun q f a b => ?_⟩
  · rw [up_ne (by decide), up_us, show K 235 = I 235 from funext (fun f => hK 235 f (by omega))]
  · rw [up_nn (by omega), up_nn (by omega)]; exact hK q f b
theorem nu_of2 {I K : GI} {k p : Nat} {v : Int} (h7 : K 231 7 = (p : Int)) (hK : ∀ q f, ¬ (q = 231 ∧ f = 7) → K q f = I q f) : nuR I (up K 235 k v) k v p := by
  refine ⟨⟨by rw [up_nn (by omega)]; exact h7, ?_⟩, fun q f a b => ?_⟩
  · rw [up_us, show K 235 = I 235 from funext (fun f => hK 235 f (by omega))]
  · rw [up_nn (by omega)]; exact hK q f b
theorem nr_e {T : Nat → Int} {n r i : Nat} (h : r = 0 ∨ ¬ (i < n ∧ 48 ≤ T i ∧ T i ≤ 57)) (v : Int) : nrP T n r i = i ∧ nrV T n r i v = v := by
  rcases r with _ | r
  · exact ⟨rfl, rfl⟩
  · have h2 := h.elim (fun q => absurd q (by omega)) id
    exact ⟨nrP_n h2, nrV_n h2⟩
set_option maxHeartbeats 4000000 in
set_option maxRecDepth 100000 in
theorem c_X8_number {l : Launch} (hl0 : l.stackTraces = false) (G : GG) (I J : GI) {z : Nat} (hn : 0 ≤ I 231 5 ∧ I 231 5 ≤ 90) (hT : ∀ k : Nat, (k : Int) < I 231 5 → 32 ≤ I 234 k ∧ I 234 k ≤ 126) (p9 : Nat) (hp7 : I 231 7 = (p9 : Int)) (hpn : (p9 : Int) ≤ I 231 5) (k : Nat) (hk : k < 3) (b : Int) (hb : inI b) : GM l yX8_number (.code yX8_number cX8_number 5 (some .boolean)) 2 47 0 0 G N0 SH RR [vR 231, vI (k : Int), vI b] z I J (nuQ I J k p9 b) gNo := by
  refine gm_of (lo0 := [some (vR 231), some (vI (k : Int)), some (vI b), none, none]) hl0 (by decide) rfl (Nat.le_of_ble_eq_true rfl) ?_
  intro p e s m args below meth c C ht hgi
  have C : gC G p l s m args meth c cX8_number 5 RX8 (some .boolean) "number" := C
  refine gw_aload_n C 0 dX8_number_0 rfl rfl ?_
  refine gw_getI (ci := 7) (Cn := RX8) (T0 := TX8) (N := 10) C 7 kX8_244 fX8 rfl (by decide) rfl rfl dX8_number_1 xs_231 xn_231 (fun hI_1 => ?_)
  refine gw_istore_n C (lo1 := [some (vR 231), some (vI (k : Int)), some (vI b), some (vI (I 231 7)), none]) 3 dX8_number_4 rfl (by decide) rfl ?_
  refine gw_iconst C dX8_number_5 ?_
  refine gw_istore C (lo1 := [some (vR 231), some (vI (k : Int)), some (vI b), some (vI (I 231 7)), some (vI 0)]) dX8_number_6 (by decide) rfl ?_
  have loop_8 : ∀ (fuel : Nat) (v : Int) (K : GI) (i : Nat) (z1 : Nat), (p9 ≤ i ∧ i ≤ p9 + 7 ∧ (i : Int) ≤ I 231 5) → (K 231 7 = (i : Int)) → (∀ q f, ¬ (q = 231 ∧ f = 7) → K q f = I q f) → (nrP (I 234) (I 231 5).toNat (7 - (i - p9)) i = nrP (I 234) (I 231 5).toNat 7 p9) → (nrV (I 234) (I 231 5).toNat (7 - (i - p9)) i v = nrV (I 234) (I 231 5).toNat 7 p9 0) → (0 ≤ v ∧ v < pwZ ((i : Int) - (p9 : Int)) ∧ v ≤ 9999999) → p9 + 8 - i < fuel → GW G p l e ({ frames := 2, cells := 0, slots := 0, locals := 47 } : Room) s m args below meth c 5 z1 N0 SH RR K J 0 0 (vx_MQ below (GQ G N0 SH RR (nuQ I J k p9 b)) (GX G N0 SH RR gNo) args s 0 0 (ge G)) 8 [some (vR 231), some (vI (k : Int)), some (vI b), some (vI (I 231 7)), some (vI v)] [] := by
    intro fuel
    induction fuel with
    | zero => intro v K i z1 hi hK7 hKo hP hV hv hf_8; exact absurd hf_8 (Nat.not_lt_zero _)
    | succ fuel ih_8 =>
      intro v K i z1 hi hK7 hKo hP hV hv hf_8
      refine gw_aload_n C 0 dX8_number_8 rfl rfl ?_
      refine gw_bipush C dX8_number_9 rfl ?_
      refine gw_bipush C dX8_number_11 rfl ?_
      refine gw_callVb C (as := [vI 48, vI 57]) (st := []) (ci := 7) (T0 := TX8) (N := 10) (c_X8_isAt hl0 G K J i hK7 (by rw [hKo 231 5 (by omega)]; omega) 48 57 ⟨by decide, by decide⟩ ⟨by decide, by decide⟩) dX8_number_13 kX8_247 qX8_isAt hdX8_isAt ⟨Nat.le_of_ble_eq_true rfl, Nat.le_of_ble_eq_true rfl⟩ ⟨Nat.le_of_ble_eq_true rfl, Nat.le_of_ble_eq_true rfl⟩ (Nat.le_of_ble_eq_true rfl) rfl xs_231 xn_231 rfl (fun h_13 z_13 => ?_) (fun h_13 z_13 => ?_)
      · skip
        rw [hKo 231 5 (by omega), hKo 234 i (by omega)] at h_13
        refine gw_if_eq C (tgt := 63) dX8_number_16 (by decide) ⟨by decide, by decide⟩ (fun h => absurd h (by decide)) (fun _ => ?_)
        refine gw_aload_n C 0 dX8_number_19 rfl rfl ?_
        refine gw_getI (ci := 7) (Cn := RX8) (T0 := TX8) (N := 10) C 7 kX8_244 fX8 rfl (by decide) rfl rfl dX8_number_20 xs_231 xn_231 (fun hI_20 => ?_)
        rw [show (K 231 7) = (i : Int) from by exact hK7] at hI_20 ⊢
        refine gw_iload_n C 3 dX8_number_23 rfl rfl ?_
        refine gw_isub C dX8_number_24 ?_
        refine gw_bipush C dX8_number_25 rfl ?_
        refine gw_icmp_ge C (tgt := 63) dX8_number_27 (by decide) (by omega) ⟨by decide, by decide⟩ (fun h_27 => ?_) (fun h_27 => ?_)
        · skip
          refine gw_aload_n C 0 dX8_number_63 rfl rfl ?_
          refine gw_getRs (ci := 7) (Cn := RX8) (T0 := TX8) (N := 10) C 235 8 kX8_19 fX8 rfl (by decide) rfl rfl dX8_number_64 xs_231 xn_231 xr_231_8 ?_
          refine gw_iload_n C 1 dX8_number_67 rfl rfl ?_
          refine gw_iload C dX8_number_68 rfl ?_
          refine gw_iast C k dX8_number_70 xs_235 xn_235 (by omega) (by omega) (by decide) (by omega) ?_
          refine gw_aload_n C 0 dX8_number_71 rfl rfl ?_
          refine gw_getI (ci := 7) (Cn := RX8) (T0 := TX8) (N := 10) C 7 kX8_244 fX8 rfl (by decide) rfl rfl dX8_number_72 xs_231 xn_231 (fun hI_72 => ?_)
          rw [show ((up K 235 k v) 231 7) = (i : Int) from by rw [up_ne (by decide)]; exact hK7] at hI_72 ⊢
          refine gw_iload_n C 3 dX8_number_75 rfl rfl ?_
          refine gw_icmp_eq C (tgt := 88) dX8_number_76 (by decide) hI_72 hI_1 (fun h_76 => ?_) (fun h_76 => ?_)
          · skip
            refine gw_iconst C dX8_number_88 ?_
            exact gw_zret C (Nat.le_of_ble_eq_true rfl) (Nat.le_of_ble_eq_true rfl) dX8_number_89 (Or.inl rfl) ((by have hq9 := nr_e (T := I 234) (n := (I 231 5).toNat) (r := 7 - (i - p9)) (i := i) (by first | (left; omega) | (right; omega)) v; rw [hP] at hq9; rw [hV] at hq9; rw [show v = nrV (I 234) (I 231 5).toNat 7 p9 0 from hq9.2.symm]; exact ⟨Or.inr ⟨⟨by rw [hq9.1]; omega, rfl⟩, nu_of2 (by rw [hq9.1]; exact hK7) hKo⟩, rfl⟩))
          · skip
            refine gw_aload_n C 0 dX8_number_79 rfl rfl ?_
            refine gw_iload_n C 2 dX8_number_80 rfl rfl ?_
            refine gw_iload_n C 2 dX8_number_81 rfl rfl ?_
            refine gw_callVb C (as := [vI b, vI b]) (st := []) (ci := 7) (T0 := TX8) (N := 10) (c_X8_isAt hl0 G (up K 235 k v) J i (by rw [up_ne (by decide)]; exact hK7) (by rw [up_ne (by decide), hKo 231 5 (by omega)]; omega) b b hb hb) dX8_number_82 kX8_247 qX8_isAt hdX8_isAt ⟨Nat.le_of_ble_eq_true rfl, Nat.le_of_ble_eq_true rfl⟩ ⟨Nat.le_of_ble_eq_true rfl, Nat.le_of_ble_eq_true rfl⟩ (Nat.le_of_ble_eq_true rfl) rfl xs_231 xn_231 rfl (fun h_82 z_82 => ?_) (fun h_82 z_82 => ?_)
            · skip
              rw [up_ne (by decide), up_ne (by decide), hKo 231 5 (by omega), hKo 234 i (by omega)] at h_82
              refine gw_if_ne C (tgt := 90) dX8_number_85 (by decide) ⟨by decide, by decide⟩ (fun _ => ?_) (fun h => absurd h (by decide))
              refine gw_aload_n C 0 dX8_number_90 rfl rfl ?_
              refine gw_dupR C dX8_number_91 ?_
              refine gw_getI (ci := 7) (Cn := RX8) (T0 := TX8) (N := 10) C 7 kX8_244 fX8 rfl (by decide) rfl rfl dX8_number_92 xs_231 xn_231 (fun hI_92 => ?_)
              rw [show ((up K 235 k v) 231 7) = (i : Int) from by rw [up_ne (by decide)]; exact hK7] at hI_92 ⊢
              refine gw_iconst C dX8_number_95 ?_
              refine gw_iadd C dX8_number_96 ?_
              refine gw_putI (ci := 7) (Cn := RX8) (T0 := TX8) (N := 10) C (ty := .int) 7 kX8_244 fX8 rfl (by decide) rfl rfl tyX8 tyX8_ok nmX8 rfl (by decide) rfl rfl (by omega) dX8_number_97 xs_231 xn_231 ?_
              refine gw_iconst C dX8_number_100 ?_
              exact gw_zret C (Nat.le_of_ble_eq_true rfl) (Nat.le_of_ble_eq_true rfl) dX8_number_101 (Or.inr rfl) ((by have hq9 := nr_e (T := I 234) (n := (I 231 5).toNat) (r := 7 - (i - p9)) (i := i) (by first | (left; omega) | (right; omega)) v; rw [hP] at hq9; rw [hV] at hq9; rw [show v = nrV (I 234) (I 231 5).toNat 7 p9 0 from hq9.2.symm]; exact ⟨Or.inl ⟨⟨by rw [hq9.1]; omega, rfl⟩, nu_of (i := i) (by rw [hq9.1]; omega) hKo⟩, rfl⟩))
            · skip
              rw [up_ne (by decide), up_ne (by decide), hKo 231 5 (by omega), hKo 234 i (by omega)] at h_82
              refine gw_if_ne C (tgt := 90) dX8_number_85 (by decide) ⟨by decide, by decide⟩ (fun h => absurd h (by decide)) (fun _ => ?_)
              refine gw_iconst C dX8_number_88 ?_
              exact gw_zret C (Nat.le_of_ble_eq_true rfl) (Nat.le_of_ble_eq_true rfl) dX8_number_89 (Or.inl rfl) ((by have hq9 := nr_e (T := I 234) (n := (I 231 5).toNat) (r := 7 - (i - p9)) (i := i) (by first | (left; omega) | (right; omega)) v; rw [hP] at hq9; rw [hV] at hq9; rw [show v = nrV (I 234) (I 231 5).toNat 7 p9 0 from hq9.2.symm]; exact ⟨Or.inr ⟨⟨by rw [hq9.1]; omega, rfl⟩, nu_of2 (by rw [hq9.1]; exact hK7) hKo⟩, rfl⟩))
        · skip
          refine gw_bipush C dX8_number_30 rfl ?_
          refine gw_iload C dX8_number_32 rfl ?_
          refine gw_imul C dX8_number_34 ?_
          refine gw_aload_n C 0 dX8_number_35 rfl rfl ?_
          refine gw_getRs (ci := 7) (Cn := RX8) (T0 := TX8) (N := 10) C 234 4 kX8_16 fX8 rfl (by decide) rfl rfl dX8_number_36 xs_231 xn_231 xr_231_4 ?_
          refine gw_aload_n C 0 dX8_number_39 rfl rfl ?_
          refine gw_getI (ci := 7) (Cn := RX8) (T0 := TX8) (N := 10) C 7 kX8_244 fX8 rfl (by decide) rfl rfl dX8_number_40 xs_231 xn_231 (fun hI_40 => ?_)
          rw [show (K 231 7) = (i : Int) from by exact hK7] at hI_40 ⊢
          refine gw_iald C i dX8_number_43 xs_234 xn_234 (by omega) (by omega) (by decide) (fun hI_43 => ?_)
          rw [show (K 234 i) = I 234 i from hKo 234 i (by omega)] at hI_43 ⊢; have hTi := hT i (by omega)
          refine gw_iadd C dX8_number_44 ?_
          refine gw_bipush C dX8_number_45 rfl ?_
          refine gw_isub C dX8_number_47 ?_
          refine gw_istore C (lo1 := [some (vR 231), some (vI (k : Int)), some (vI b), some (vI (I 231 7)), some (vI (((10 * v) + (I 234 i)) - 48))]) dX8_number_48 (by decide) rfl ?_
          refine gw_aload_n C 0 dX8_number_50 rfl rfl ?_
          refine gw_dupR C dX8_number_51 ?_
          refine gw_getI (ci := 7) (Cn := RX8) (T0 := TX8) (N := 10) C 7 kX8_244 fX8 rfl (by decide) rfl rfl dX8_number_52 xs_231 xn_231 (fun hI_52 => ?_)
          rw [show (K 231 7) = (i : Int) from by exact hK7] at hI_52 ⊢
          refine gw_iconst C dX8_number_55 ?_
          refine gw_iadd C dX8_number_56 ?_
          refine gw_putI (ci := 7) (Cn := RX8) (T0 := TX8) (N := 10) C (ty := .int) 7 kX8_244 fX8 rfl (by decide) rfl rfl tyX8 tyX8_ok nmX8 rfl (by decide) rfl rfl (by omega) dX8_number_57 xs_231 xn_231 ?_
          refine gw_goto C (tgt := 8) dX8_number_60 (by decide) ?_
          exact gw_weak (lo' := [some (vR 231), some (vI (k : Int)), some (vI b), some (vI (I 231 7)), some (vI (((10 * v) + (I 234 i)) - 48))]) ⟨rfl, rfl, rfl, rfl, rfl, trivial⟩ (ih_8 (((10 * v) + (I 234 i)) - 48) (up K 231 7 ((i : Int) + 1)) (i + 1) z_13 (by omega) (by rw [up_eq]; omega) (by intro q f hq; rw [up_nn hq]; exact hKo q f hq) (by rw [show 7 - (i + 1 - p9) = 7 - (i - p9) - 1 by omega, ← nrP_y (by omega), show 7 - (i - p9) - 1 + 1 = 7 - (i - p9) by omega]; exact hP) (by rw [show 7 - (i + 1 - p9) = 7 - (i - p9) - 1 by omega, show 10 * v + I 234 i - 48 = 10 * v + (I 234 i - 48) by omega, ← nrV_y (by omega), show 7 - (i - p9) - 1 + 1 = 7 - (i - p9) by omega]; exact hV) (by have pw := pw_s (g := (i : Int) - (p9 : Int)) (by omega); rw [show ((i + 1 : Nat) : Int) - (p9 : Int) = (i : Int) - (p9 : Int) + 1 by omega]; omega) (by omega))
      · skip
        rw [hKo 231 5 (by omega), hKo 234 i (by omega)] at h_13
        refine gw_if_eq C (tgt := 63) dX8_number_16 (by decide) ⟨by decide, by decide⟩ (fun _ => ?_) (fun h => absurd h (by decide))
        refine gw_aload_n C 0 dX8_number_63 rfl rfl ?_
        refine gw_getRs (ci := 7) (Cn := RX8) (T0 := TX8) (N := 10) C 235 8 kX8_19 fX8 rfl (by decide) rfl rfl dX8_number_64 xs_231 xn_231 xr_231_8 ?_
        refine gw_iload_n C 1 dX8_number_67 rfl rfl ?_
        refine gw_iload C dX8_number_68 rfl ?_
        refine gw_iast C k dX8_number_70 xs_235 xn_235 (by omega) (by omega) (by decide) (by omega) ?_
        refine gw_aload_n C 0 dX8_number_71 rfl rfl ?_
        refine gw_getI (ci := 7) (Cn := RX8) (T0 := TX8) (N := 10) C 7 kX8_244 fX8 rfl (by decide) rfl rfl dX8_number_72 xs_231 xn_231 (fun hI_72_2 => ?_)
        rw [show ((up K 235 k v) 231 7) = (i : Int) from by rw [up_ne (by decide)]; exact hK7] at hI_72_2 ⊢
        refine gw_iload_n C 3 dX8_number_75 rfl rfl ?_
        refine gw_icmp_eq C (tgt := 88) dX8_number_76 (by decide) hI_72_2 hI_1 (fun h_76_2 => ?_) (fun h_76_2 => ?_)
        · skip
          refine gw_iconst C dX8_number_88 ?_
          exact gw_zret C (Nat.le_of_ble_eq_true rfl) (Nat.le_of_ble_eq_true rfl) dX8_number_89 (Or.inl rfl) ((by have hq9 := nr_e (T := I 234) (n := (I 231 5).toNat) (r := 7 - (i - p9)) (i := i) (by first | (left; omega) | (right; omega)) v; rw [hP] at hq9; rw [hV] at hq9; rw [show v = nrV (I 234) (I 231 5).toNat 7 p9 0 from hq9.2.symm]; exact ⟨Or.inr ⟨⟨by rw [hq9.1]; omega, rfl⟩, nu_of2 (by rw [hq9.1]; exact hK7) hKo⟩, rfl⟩))
        · skip
          refine gw_aload_n C 0 dX8_number_79 rfl rfl ?_
          refine gw_iload_n C 2 dX8_number_80 rfl rfl ?_
          refine gw_iload_n C 2 dX8_number_81 rfl rfl ?_
          refine gw_callVb C (as := [vI b, vI b]) (st := []) (ci := 7) (T0 := TX8) (N := 10) (c_X8_isAt hl0 G (up K 235 k v) J i (by rw [up_ne (by decide)]; exact hK7) (by rw [up_ne (by decide), hKo 231 5 (by omega)]; omega) b b hb hb) dX8_number_82 kX8_247 qX8_isAt hdX8_isAt ⟨Nat.le_of_ble_eq_true rfl, Nat.le_of_ble_eq_true rfl⟩ ⟨Nat.le_of_ble_eq_true rfl, Nat.le_of_ble_eq_true rfl⟩ (Nat.le_of_ble_eq_true rfl) rfl xs_231 xn_231 rfl (fun h_82_2 z_82_2 => ?_) (fun h_82_2 z_82_2 => ?_)
          · skip
            rw [up_ne (by decide), up_ne (by decide), hKo 231 5 (by omega), hKo 234 i (by omega)] at h_82_2
            refine gw_if_ne C (tgt := 90) dX8_number_85 (by decide) ⟨by decide, by decide⟩ (fun _ => ?_) (fun h => absurd h (by decide))
            refine gw_aload_n C 0 dX8_number_90 rfl rfl ?_
            refine gw_dupR C dX8_number_91 ?_
            refine gw_getI (ci := 7) (Cn := RX8) (T0 := TX8) (N := 10) C 7 kX8_244 fX8 rfl (by decide) rfl rfl dX8_number_92 xs_231 xn_231 (fun hI_92_2 => ?_)
            rw [show ((up K 235 k v) 231 7) = (i : Int) from by rw [up_ne (by decide)]; exact hK7] at hI_92_2 ⊢
            refine gw_iconst C dX8_number_95 ?_
            refine gw_iadd C dX8_number_96 ?_
            refine gw_putI (ci := 7) (Cn := RX8) (T0 := TX8) (N := 10) C (ty := .int) 7 kX8_244 fX8 rfl (by decide) rfl rfl tyX8 tyX8_ok nmX8 rfl (by decide) rfl rfl (by omega) dX8_number_97 xs_231 xn_231 ?_
            refine gw_iconst C dX8_number_100 ?_
            exact gw_zret C (Nat.le_of_ble_eq_true rfl) (Nat.le_of_ble_eq_true rfl) dX8_number_101 (Or.inr rfl) ((by have hq9 := nr_e (T := I 234) (n := (I 231 5).toNat) (r := 7 - (i - p9)) (i := i) (by first | (left; omega) | (right; omega)) v; rw [hP] at hq9; rw [hV] at hq9; rw [show v = nrV (I 234) (I 231 5).toNat 7 p9 0 from hq9.2.symm]; exact ⟨Or.inl ⟨⟨by rw [hq9.1]; omega, rfl⟩, nu_of (i := i) (by rw [hq9.1]; omega) hKo⟩, rfl⟩))
          · skip
            rw [up_ne (by decide), up_ne (by decide), hKo 231 5 (by omega), hKo 234 i (by omega)] at h_82_2
            refine gw_if_ne C (tgt := 90) dX8_number_85 (by decide) ⟨by decide, by decide⟩ (fun h => absurd h (by decide)) (fun _ => ?_)
            refine gw_iconst C dX8_number_88 ?_
            exact gw_zret C (Nat.le_of_ble_eq_true rfl) (Nat.le_of_ble_eq_true rfl) dX8_number_89 (Or.inl rfl) ((by have hq9 := nr_e (T := I 234) (n := (I 231 5).toNat) (r := 7 - (i - p9)) (i := i) (by first | (left; omega) | (right; omega)) v; rw [hP] at hq9; rw [hV] at hq9; rw [show v = nrV (I 234) (I 231 5).toNat 7 p9 0 from hq9.2.symm]; exact ⟨Or.inr ⟨⟨by rw [hq9.1]; omega, rfl⟩, nu_of2 (by rw [hq9.1]; exact hK7) hKo⟩, rfl⟩))
  exact gw_weak (lo' := [some (vR 231), some (vI (k : Int)), some (vI b), some (vI (I 231 7)), some (vI 0)]) ⟨rfl, rfl, rfl, rfl, rfl, trivial⟩ (loop_8 _ 0 I p9 z (by omega) (by exact hp7) (by exact fun _ _ _ => rfl) (by rw [Nat.sub_self]) (by rw [Nat.sub_self]) (by rw [show (p9 : Int) - (p9 : Int) = 0 by omega]; decide) (Nat.lt_succ_self _))
