abbrev tN (I : GI) : Nat := (I 231 5).toNat
def tfr (I K : GI) : Prop := ∀ q f, q ≠ 235 → ¬ (q = 231 ∧ f = 7) → K q f = I q f
def rlA (I K : GI) (m p k pk : Nat) : Prop := k ≤ m ∧ (K 231 7 = (pk : Int) ∧ pk ≤ tN I) ∧ rdF (I 234) (tN I) (m - k) pk = rdF (I 234) (tN I) m (p + 1) ∧ rtF (I 234) (tN I) (m - k) k pk (K 235) = rtF (I 234) (tN I) m 0 (p + 1) (I 235)
def rlB (I K : GI) (m p : Nat) : Prop := K 231 7 = (((rdF (I 234) (tN I) m (p + 1)).2 : Nat) : Int) ∧ (rdF (I 234) (tN I) m (p + 1)).1 = false ∧ K 235 = rtF (I 234) (tN I) m 0 (p + 1) (I 235)
def rlI (I K : GI) (m p k : Nat) (x : Int) : Prop := ((x = 1 ∧ ∃ pk, rlA I K m p k pk) ∨ (x = 0 ∧ rlB I K m p)) ∧ tfr I K
theorem rl_A {I K : GI} {m p k : Nat} {x : Int} (h : rlI I K m p k x) (hx : x ≠ 0) : ∃ pk, rlA I K m p k pk := by
  rcases h.1 with h | h
  · exact h.2
  · exact absurd h.1 hx
theorem tfr_t {I K : GI} (h : tfr I K) : K 234 = I 234 ∧ K 231 5 = I 231 5 := ⟨funext (fun f => h 234 f (by decide) (by omega)), h 231 5 (by decide) (by omega)⟩
theorem tfr_n {I K K' : GI} {k q : Nat} {v : Int} (h : tfr I K) (g : nuR K K' k v q) : tfr I K' := fun a b c d => by rw [g.2 a b c d, h a b c d]
theorem rl_y {I K K' : GI} {m p k pk : Nat} {b : Int} (hf : tfr I K) (h : rlA I K m p k pk) (hk : k < m) (hb : b = if k + 1 = m then 59 else 44) (hc : nrP (K 234) (K 231 5).toNat 7 pk ≠ pk ∧ nrP (K 234) (K 231 5).toNat 7 pk < (K 231 5).toNat ∧ K 234 (nrP (K 234) (K 231 5).toNat 7 pk) = b) (hn : nuR K K' k (nrV (K 234) (K 231 5).toNat 7 pk 0) (nrP (K 234) (K 231 5).toNat 7 pk + 1)) : rlI I K' m p (k + 1) 1 := by
  have hf' := tfr_n hf hn
  have e := tfr_t hf
  rw [e.1, e.2] at hc hn
  obtain ⟨h1, h2, h3, h4⟩ := h
  have cc : nrP (I 234) (tN I) 7 pk ≠ pk ∧ nrP (I 234) (tN I) 7 pk < tN I ∧ I 234 (nrP (I 234) (tN I) 7 pk) = (if m - k - 1 = 0 then 59 else 44) := by
    refine ⟨hc.1, hc.2.1, ?_⟩
    rw [hc.2.2, hb]
    by_cases c : k + 1 = m
    · rw [if_pos c, if_pos (by omega)]
    · rw [if_neg c, if_neg (by omega)]
  rw [show m - k = m - k - 1 + 1 by omega, rdF_y cc] at h3
  rw [show m - k = m - k - 1 + 1 by omega, rt_y cc] at h4
  refine ⟨Or.inl ⟨rfl, _, by omega, ⟨hn.1.1, hc.2.1⟩, ?_, ?_⟩, hf'⟩
  · rw [← h3, show m - (k + 1) = m - k - 1 by omega]
  · rw [← h4, hn.1.2, show m - (k + 1) = m - k - 1 by omega]
theorem rl_n {I K K' : GI} {m p k pk : Nat} {b : Int} (hf : tfr I K) (h : rlA I K m p k pk) (hk : k < m) (hb : b = if k + 1 = m then 59 else 44) (hc : ¬ (nrP (K 234) (K 231 5).toNat 7 pk ≠ pk ∧ nrP (K 234) (K 231 5).toNat 7 pk < (K 231 5).toNat ∧ K 234 (nrP (K 234) (K 231 5).toNat 7 pk) = b)) (hn : nuR K K' k (nrV (K 234) (K 231 5).toNat 7 pk 0) (nrP (K 234) (K 231 5).toNat 7 pk)) : rlI I K' m p (k + 1) 0 := by
  have hf' := tfr_n hf hn
  have e := tfr_t hf
  rw [e.1, e.2] at hc hn
  obtain ⟨h1, h2, h3, h4⟩ := h
  have cc : ¬ (nrP (I 234) (tN I) 7 pk ≠ pk ∧ nrP (I 234) (tN I) 7 pk < tN I ∧ I 234 (nrP (I 234) (tN I) 7 pk) = (if m - k - 1 = 0 then 59 else 44)) := by
    intro q
    apply hc
    refine ⟨q.1, q.2.1, ?_⟩
    rw [q.2.2, hb]
    by_cases c : k + 1 = m
    · rw [if_pos c, if_pos (by omega)]
    · rw [if_neg c, if_neg (by omega)]
  rw [show m - k = m - k - 1 + 1 by omega, rdF_n cc] at h3
  rw [show m - k = m - k - 1 + 1 by omega, rt_n cc] at h4
  refine ⟨Or.inr ⟨rfl, ?_, ?_, ?_⟩, hf'⟩
  · rw [← h3]; exact hn.1.1
  · rw [← h3]
  · rw [← h4]; exact hn.1.2
def rsR (I K : GI) (m p : Nat) (x : Int) : Prop := (K 231 7 = (((rdF (I 234) (tN I) m (p + 1)).2 : Nat) : Int) ∧ K 235 = rtF (I 234) (tN I) m 0 (p + 1) (I 235)) ∧ (x = 1 ∧ (rdF (I 234) (tN I) m (p + 1)).1 = true ∨ x = 0 ∧ (rdF (I 234) (tN I) m (p + 1)).1 = false) ∧ tfr I K
theorem rl_e {I K : GI} {m p k : Nat} {x : Int} (h : rlI I K m p k x) (he : m ≤ k ∨ x = 0) : rsR I K m p x := by
  rcases h.1 with ⟨hx, pk, h1, h2, h3, h4⟩ | ⟨hx, h1, h2, h3⟩
  · have e0 : m - k = 0 := by omega
    rw [e0] at h3 h4
    refine ⟨⟨?_, h4⟩, Or.inl ⟨hx, ?_⟩, h.2⟩
    · rw [← h3]; exact h2.1
    · rw [← h3]; rfl
  · exact ⟨⟨h1, h3⟩, Or.inr ⟨hx, h2⟩, h.2⟩
def rsQ (I J : GI) (p : Nat) : Option GV → Nat → GI → GI → Prop := fun v _ I' J' => (∃ x, v = some (vI x) ∧ ((numZ (I 234 p) = 0 ∧ x = 0 ∧ I' = I) ∨ (numZ (I 234 p) ≠ 0 ∧ rsR I I' (numZ (I 234 p)).toNat p x))) ∧ J' = J
theorem rl_0 {I : GI} {m p : Nat} {x : Int} (hx : x = ((p + 1 : Nat) : Int)) (hp : p < tN I) : rlI I (up I 231 7 x) m p 0 1 := by
  subst hx
  refine ⟨Or.inl ⟨rfl, p + 1, by omega, ⟨up_eq, hp⟩, rfl, ?_⟩, fun q f a b => up_nn b⟩
  rw [up_ne (by decide)]
  rfl
set_option maxHeartbeats 4000000 in
set_option maxRecDepth 100000 in
theorem c_X8_reads {l : Launch} (hl0 : l.stackTraces = false) (G : GG) (I J : GI) {z : Nat} (hn : 0 ≤ I 231 5 ∧ I 231 5 ≤ 90) (hT : ∀ k : Nat, (k : Int) < I 231 5 → 32 ≤ I 234 k ∧ I 234 k ≤ 126) (p9 : Nat) (hp7 : I 231 7 = (p9 : Int)) (hpn : (p9 : Int) < I 231 5) : GM l yX8_reads (.code yX8_reads cX8_reads 4 (some .boolean)) 3 71 0 0 G N0 SH RR [vR 231] z I J (rsQ I J p9) gNo := by
  refine gm_of (lo0 := [some (vR 231), none, none, none]) hl0 (by decide) rfl (Nat.le_of_ble_eq_true rfl) ?_
  intro p e s m args below meth c C ht hgi
  have C : gC G p l s m args meth c cX8_reads 4 RX8 (some .boolean) "reads" := C
  have hzb := numZ_b (I 234 p9)
  refine gw_aload_n C 0 dX8_reads_0 rfl rfl ?_
  refine gw_getRs (ci := 7) (Cn := RX8) (T0 := TX8) (N := 10) C 234 4 kX8_16 fX8 rfl (by decide) rfl rfl dX8_reads_1 xs_231 xn_231 xr_231_4 ?_
  refine gw_aload_n C 0 dX8_reads_4 rfl rfl ?_
  refine gw_getI (ci := 7) (Cn := RX8) (T0 := TX8) (N := 10) C 7 kX8_244 fX8 rfl (by decide) rfl rfl dX8_reads_5 xs_231 xn_231 (fun hI_5 => ?_)
  rw [hp7] at hI_5 ⊢
  refine gw_iald C p9 dX8_reads_8 xs_234 xn_234 (by omega) (by omega) (by decide) (fun hI_8 => ?_)
  refine gw_callSm C (as := [vI (I 234 p9)]) (st := []) (c_X8_numbers hl0 G (I 234 p9) hI_8) dX8_reads_9 kX8_251 qX8_numbers hdX8_numbers ⟨Nat.le_of_ble_eq_true rfl, Nat.le_of_ble_eq_true rfl⟩ ⟨Nat.le_of_ble_eq_true rfl, Nat.le_of_ble_eq_true rfl⟩ (Nat.le_of_ble_eq_true rfl) rfl (fun z_9 => ?_)
  refine gw_istore_n C (lo1 := [some (vR 231), some (vI (numZ (I 234 p9))), none, none]) 1 dX8_reads_12 rfl (by decide) rfl ?_
  refine gw_iload_n C 1 dX8_reads_13 rfl rfl ?_
  refine gw_if_ne C (tgt := 19) dX8_reads_14 (by decide) (by omega) (fun h_14 => ?_) (fun h_14 => ?_)
  · skip
    refine gw_aload_n C 0 dX8_reads_19 rfl rfl ?_
    refine gw_dupR C dX8_reads_20 ?_
    refine gw_getI (ci := 7) (Cn := RX8) (T0 := TX8) (N := 10) C 7 kX8_244 fX8 rfl (by decide) rfl rfl dX8_reads_21 xs_231 xn_231 (fun hI_21 => ?_)
    rw [hp7] at hI_21 ⊢
    refine gw_iconst C dX8_reads_24 ?_
    refine gw_iadd C dX8_reads_25 ?_
    refine gw_putI (ci := 7) (Cn := RX8) (T0 := TX8) (N := 10) C (ty := .int) 7 kX8_244 fX8 rfl (by decide) rfl rfl tyX8 tyX8_ok nmX8 rfl (by decide) rfl rfl (by omega) dX8_reads_26 xs_231 xn_231 ?_
    refine gw_iconst C dX8_reads_29 ?_
    refine gw_istore_n C (lo1 := [some (vR 231), some (vI (numZ (I 234 p9))), some (vI 1), none]) 2 dX8_reads_30 rfl (by decide) rfl ?_
    refine gw_iconst C dX8_reads_31 ?_
    refine gw_istore_n C (lo1 := [some (vR 231), some (vI (numZ (I 234 p9))), some (vI 1), some (vI 0)]) 3 dX8_reads_32 rfl (by decide) rfl ?_
    have loop_33 : ∀ (fuel : Nat) (x : Int) (k : Nat) (K : GI) (z1 : Nat), ((k : Int) ≤ numZ (I 234 p9)) → (0 ≤ x ∧ x ≤ 1) → (rlI I K (numZ (I 234 p9)).toNat p9 k x) → 4 - k < fuel → GW G p l e ({ frames := 3, cells := 0, slots := 0, locals := 71 } : Room) s m args below meth c 4 z1 N0 SH RR K J 0 0 (vx_MQ below (GQ G N0 SH RR (rsQ I J p9)) (GX G N0 SH RR gNo) args s 0 0 (ge G)) 33 [some (vR 231), some (vI (numZ (I 234 p9))), some (vI x), some (vI (k : Int))] [] := by
      intro fuel
      induction fuel with
      | zero => intro x k K z1 hk hx hrl hf_33; exact absurd hf_33 (Nat.not_lt_zero _)
      | succ fuel ih_33 =>
        intro x k K z1 hk hx hrl hf_33
        refine gw_iload_n C 3 dX8_reads_33 rfl rfl ?_
        refine gw_iload_n C 1 dX8_reads_34 rfl rfl ?_
        refine gw_icmp_ge C (tgt := 68) dX8_reads_35 (by decide) (by omega) (by omega) (fun h_35 => ?_) (fun h_35 => ?_)
        · skip
          refine gw_iload_n C 2 dX8_reads_68 rfl rfl ?_
          exact gw_zret C (Nat.le_of_ble_eq_true rfl) (Nat.le_of_ble_eq_true rfl) dX8_reads_69 (by omega) (⟨⟨_, rfl, Or.inr ⟨by omega, rl_e hrl (by omega)⟩⟩, rfl⟩)
        · skip
          refine gw_iload_n C 2 dX8_reads_38 rfl rfl ?_
          refine gw_if_eq C (tgt := 68) dX8_reads_39 (by decide) (by omega) (fun h_39 => ?_) (fun h_39 => ?_)
          · skip
            refine gw_iload_n C 2 dX8_reads_68 rfl rfl ?_
            exact gw_zret C (Nat.le_of_ble_eq_true rfl) (Nat.le_of_ble_eq_true rfl) dX8_reads_69 (by omega) (⟨⟨_, rfl, Or.inr ⟨by omega, rl_e hrl (by omega)⟩⟩, rfl⟩)
          · skip
            obtain ⟨pk, hpk⟩ := rl_A hrl (by omega)
            have hfr := tfr_t hrl.2
            refine gw_aload_n C 0 dX8_reads_42 rfl rfl ?_
            refine gw_iload_n C 3 dX8_reads_43 rfl rfl ?_
            refine gw_iload_n C 3 dX8_reads_44 rfl rfl ?_
            refine gw_iload_n C 1 dX8_reads_45 rfl rfl ?_
            refine gw_iconst C dX8_reads_46 ?_
            refine gw_isub C dX8_reads_47 ?_
            refine gw_icmp_ne C (tgt := 56) dX8_reads_48 (by decide) (by omega) (by omega) (fun h_48 => ?_) (fun h_48 => ?_)
            · skip
              refine gw_bipush C dX8_reads_56 rfl ?_
              refine gw_callV C (as := [vI (k : Int), vI 44]) (st := []) (ci := 7) (T0 := TX8) (N := 10) (c_X8_number hl0 G K J (by rw [hfr.2]; exact hn) (fun j hj => by rw [hfr.1]; rw [hfr.2] at hj; exact hT j hj) pk hpk.2.1.1 (by have h9 := hpk.2.1.2; unfold tN at h9; rw [hfr.2]; omega) k (by omega) 44 ⟨by decide, by decide⟩) dX8_reads_58 kX8_254 qX8_number hdX8_number ⟨Nat.le_of_ble_eq_true rfl, Nat.le_of_ble_eq_true rfl⟩ ⟨Nat.le_of_ble_eq_true rfl, Nat.le_of_ble_eq_true rfl⟩ (Nat.le_of_ble_eq_true rfl) rfl xs_231 xn_231 rfl (fun _ _ _ _ h => h.elim) ?_
              intro v_58 z_58_2 Kn J_58 hv_58
              obtain ⟨hv_58, eJ_58⟩ := hv_58
              rw [eJ_58]
              rcases hv_58 with ⟨⟨hc9, ev_58⟩, hn9⟩ | ⟨⟨hc9, ev_58⟩, hn9⟩
              · rw [ev_58]
                have hnx := rl_y hrl.2 hpk (by omega) (by first | rw [if_pos (by omega)] | rw [if_neg (by omega)]) hc9 hn9
                show GW G p l e ({ frames := 3, cells := 0, slots := 0, locals := 71 } : Room) s m args below meth c 4 z_58_2 N0 SH RR Kn J 0 0 (vx_MQ below (GQ G N0 SH RR (rsQ I J p9)) (GX G N0 SH RR gNo) args s 0 0 (ge G)) 61 [some (vR 231), some (vI (numZ (I 234 p9))), some (vI x), some (vI (k : Int))] [vI 1]
                refine gw_istore_n C (lo1 := [some (vR 231), some (vI (numZ (I 234 p9))), some (vI 1), some (vI (k : Int))]) 2 dX8_reads_61 rfl (by decide) rfl ?_
                refine gw_iinc C (lo1 := [some (vR 231), some (vI (numZ (I 234 p9))), some (vI 1), some (vI ((k : Int) + 1))]) dX8_reads_62 rfl (by decide) rfl ?_
                refine gw_goto C (tgt := 33) dX8_reads_65 (by decide) ?_
                exact gw_weak (lo' := [some (vR 231), some (vI (numZ (I 234 p9))), some (vI 1), some (vI (((k + 1) : Nat) : Int))]) ⟨rfl, rfl, rfl, congrArg (fun q => some (vI q)) (by omega), trivial⟩ (ih_33 1 (k + 1) Kn z_58_2 (by omega) (by decide) (by exact hnx) (by omega))
              · rw [ev_58]
                have hnx := rl_n hrl.2 hpk (by omega) (by first | rw [if_pos (by omega)] | rw [if_neg (by omega)]) hc9 hn9
                show GW G p l e ({ frames := 3, cells := 0, slots := 0, locals := 71 } : Room) s m args below meth c 4 z_58_2 N0 SH RR Kn J 0 0 (vx_MQ below (GQ G N0 SH RR (rsQ I J p9)) (GX G N0 SH RR gNo) args s 0 0 (ge G)) 61 [some (vR 231), some (vI (numZ (I 234 p9))), some (vI x), some (vI (k : Int))] [vI 0]
                refine gw_istore_n C (lo1 := [some (vR 231), some (vI (numZ (I 234 p9))), some (vI 0), some (vI (k : Int))]) 2 dX8_reads_61 rfl (by decide) rfl ?_
                refine gw_iinc C (lo1 := [some (vR 231), some (vI (numZ (I 234 p9))), some (vI 0), some (vI ((k : Int) + 1))]) dX8_reads_62 rfl (by decide) rfl ?_
                refine gw_goto C (tgt := 33) dX8_reads_65 (by decide) ?_
                exact gw_weak (lo' := [some (vR 231), some (vI (numZ (I 234 p9))), some (vI 0), some (vI (((k + 1) : Nat) : Int))]) ⟨rfl, rfl, rfl, congrArg (fun q => some (vI q)) (by omega), trivial⟩ (ih_33 0 (k + 1) Kn z_58_2 (by omega) (by decide) (by exact hnx) (by omega))
            · skip
              refine gw_bipush C dX8_reads_51 rfl ?_
              refine gw_goto C (tgt := 58) dX8_reads_53 (by decide) ?_
              refine gw_callV C (as := [vI (k : Int), vI 59]) (st := []) (ci := 7) (T0 := TX8) (N := 10) (c_X8_number hl0 G K J (by rw [hfr.2]; exact hn) (fun j hj => by rw [hfr.1]; rw [hfr.2] at hj; exact hT j hj) pk hpk.2.1.1 (by have h9 := hpk.2.1.2; unfold tN at h9; rw [hfr.2]; omega) k (by omega) 59 ⟨by decide, by decide⟩) dX8_reads_58 kX8_254 qX8_number hdX8_number ⟨Nat.le_of_ble_eq_true rfl, Nat.le_of_ble_eq_true rfl⟩ ⟨Nat.le_of_ble_eq_true rfl, Nat.le_of_ble_eq_true rfl⟩ (Nat.le_of_ble_eq_true rfl) rfl xs_231 xn_231 rfl (fun _ _ _ _ h => h.elim) ?_
              intro v_58 z_58_4 Kn J_58 hv_58
              obtain ⟨hv_58, eJ_58⟩ := hv_58
              rw [eJ_58]
              rcases hv_58 with ⟨⟨hc9, ev_58⟩, hn9⟩ | ⟨⟨hc9, ev_58⟩, hn9⟩
              · rw [ev_58]
                have hnx := rl_y hrl.2 hpk (by omega) (by first | rw [if_pos (by omega)] | rw [if_neg (by omega)]) hc9 hn9
                show GW G p l e ({ frames := 3, cells := 0, slots := 0, locals := 71 } : Room) s m args below meth c 4 z_58_4 N0 SH RR Kn J 0 0 (vx_MQ below (GQ G N0 SH RR (rsQ I J p9)) (GX G N0 SH RR gNo) args s 0 0 (ge G)) 61 [some (vR 231), some (vI (numZ (I 234 p9))), some (vI x), some (vI (k : Int))] [vI 1]
                refine gw_istore_n C (lo1 := [some (vR 231), some (vI (numZ (I 234 p9))), some (vI 1), some (vI (k : Int))]) 2 dX8_reads_61 rfl (by decide) rfl ?_
                refine gw_iinc C (lo1 := [some (vR 231), some (vI (numZ (I 234 p9))), some (vI 1), some (vI ((k : Int) + 1))]) dX8_reads_62 rfl (by decide) rfl ?_
                refine gw_goto C (tgt := 33) dX8_reads_65 (by decide) ?_
                exact gw_weak (lo' := [some (vR 231), some (vI (numZ (I 234 p9))), some (vI 1), some (vI (((k + 1) : Nat) : Int))]) ⟨rfl, rfl, rfl, congrArg (fun q => some (vI q)) (by omega), trivial⟩ (ih_33 1 (k + 1) Kn z_58_4 (by omega) (by decide) (by exact hnx) (by omega))
              · rw [ev_58]
                have hnx := rl_n hrl.2 hpk (by omega) (by first | rw [if_pos (by omega)] | rw [if_neg (by omega)]) hc9 hn9
                show GW G p l e ({ frames := 3, cells := 0, slots := 0, locals := 71 } : Room) s m args below meth c 4 z_58_4 N0 SH RR Kn J 0 0 (vx_MQ below (GQ G N0 SH RR (rsQ I J p9)) (GX G N0 SH RR gNo) args s 0 0 (ge G)) 61 [some (vR 231), some (vI (numZ (I 234 p9))), some (vI x), some (vI (k : Int))] [vI 0]
                refine gw_istore_n C (lo1 := [some (vR 231), some (vI (numZ (I 234 p9))), some (vI 0), some (vI (k : Int))]) 2 dX8_reads_61 rfl (by decide) rfl ?_
                refine gw_iinc C (lo1 := [some (vR 231), some (vI (numZ (I 234 p9))), some (vI 0), some (vI ((k : Int) + 1))]) dX8_reads_62 rfl (by decide) rfl ?_
                refine gw_goto C (tgt := 33) dX8_reads_65 (by decide) ?_
                exact gw_weak (lo' := [some (vR 231), some (vI (numZ (I 234 p9))), some (vI 0), some (vI (((k + 1) : Nat) : Int))]) ⟨rfl, rfl, rfl, congrArg (fun q => some (vI q)) (by omega), trivial⟩ (ih_33 0 (k + 1) Kn z_58_4 (by omega) (by decide) (by exact hnx) (by omega))
    exact gw_weak (lo' := [some (vR 231), some (vI (numZ (I 234 p9))), some (vI 1), some (vI (0 : Int))]) ⟨rfl, rfl, rfl, congrArg (fun q => some (vI q)) (by omega), trivial⟩ (loop_33 _ 1 0 (up I 231 7 ((p9 : Int) + 1)) z_9 (by omega) (by decide) (by exact rl_0 (by omega) (by unfold tN; omega)) (Nat.lt_succ_self _))
  · skip
    refine gw_iconst C dX8_reads_17 ?_
    exact gw_zret C (Nat.le_of_ble_eq_true rfl) (Nat.le_of_ble_eq_true rfl) dX8_reads_18 (Or.inl rfl) (⟨⟨_, rfl, Or.inl ⟨by omega, rfl, rfl⟩⟩, rfl⟩)
def faI (I K : GI) (x : Int) : Prop := ((x = 1 ∧ ∃ p : Nat, (K 231 7 = (p : Int) ∧ p ≤ tN I) ∧ ffF (I 234) (tN I - p) p 0 0 = ffF (I 234) (tN I) 0 0 0) ∨ (x = 0 ∧ K 231 7 = ffF (I 234) (tN I) 0 0 0 ∧ 0 ≤ K 231 7)) ∧ tfr I K
theorem rd_next {T : Nat → Int} {n p : Nat} (hp : p < n) : ffF T (n - p) p 0 0 = if numZ (T p) = 0 then (p : Int) else if (rdF T n (numZ (T p)).toNat (p + 1)).1 = true then ffF T (n - (rdF T n (numZ (T p)).toNat (p + 1)).2) (rdF T n (numZ (T p)).toNat (p + 1)).2 0 0 else (((rdF T n (numZ (T p)).toNat (p + 1)).2 : Nat) : Int) := by
  have hz := numZ_b (T p)
  have g := rd_ff (T := T) (n := n) (numZ (T p)).toNat (p + 1) (by omega)
  rw [show (((numZ (T p)).toNat : Nat) : Int) = numZ (T p) by omega] at g
  rw [show n - p = n - (p + 1) + 1 by omega, ffF_s, if_pos rfl, g]
theorem fa_next {I K K' : GI} {p : Nat} {x : Int} (hf : tfr I K) (h7 : K 231 7 = (p : Int)) (hp : p < tN I) (hX : ffF (I 234) (tN I - p) p 0 0 = ffF (I 234) (tN I) 0 0 0) (h : (numZ (K 234 p) = 0 ∧ x = 0 ∧ K' = K) ∨ (numZ (K 234 p) ≠ 0 ∧ rsR K K' (numZ (K 234 p)).toNat p x)) : faI I K' x := by
  have e := tfr_t hf
  have en : tN K = tN I := by unfold tN; rw [e.2]
  rw [rd_next hp] at hX
  rw [e.1] at h
  rcases h with ⟨hz, hx, hK⟩ | ⟨hz, ⟨h1, h2⟩, h3, h4⟩
  · subst hK
    rw [if_pos hz] at hX
    exact ⟨Or.inr ⟨hx, by rw [h7]; exact hX, by omega⟩, hf⟩
  · rw [if_neg hz] at hX
    rw [e.1, en] at h1 h3
    have hb := rdF_b (T := I 234) (n := tN I) (numZ (I 234 p)).toNat (p + 1) (by omega)
    have hf' : tfr I K' := fun a b c d => by rw [h4 a b c d, hf a b c d]
    rcases h3 with ⟨hx, h3⟩ | ⟨hx, h3⟩
    · rw [if_pos h3] at hX
      exact ⟨Or.inl ⟨hx, _, ⟨h1, hb.2⟩, hX⟩, hf'⟩
    · rw [if_neg (by rw [h3]; decide)] at hX
      exact ⟨Or.inr ⟨hx, by rw [h1]; exact hX, by omega⟩, hf'⟩
def faQ (I J : GI) : Option GV → Nat → GI → GI → Prop := fun v _ I' J' => v = some (vI (ffF (I 234) (tN I) 0 0 0)) ∧ tfr I I' ∧ J' = J
theorem fa_e {I K : GI} {x : Int} (h : faI I K x) (hx : x ≠ 0) (h5 : K 231 5 ≤ K 231 7) : -2000000000 = ffF (I 234) (tN I) 0 0 0 := by
  have e := tfr_t h.2
  rcases h.1 with ⟨_, p, ⟨h1, h2⟩, h3⟩ | ⟨h0, _⟩
  · rw [← h3, show tN I - p = 0 by unfold tN; omega, ffF_0, if_pos rfl]
  · exact absurd h0 hx
theorem fa_p {I K : GI} {x : Int} (h : faI I K x) (hx : x ≠ 0) (h5 : K 231 7 < K 231 5) : ∃ p : Nat, (K 231 7 = (p : Int) ∧ p < tN I) ∧ ffF (I 234) (tN I - p) p 0 0 = ffF (I 234) (tN I) 0 0 0 := by
  have e := tfr_t h.2
  rcases h.1 with ⟨_, p, ⟨h1, h2⟩, h3⟩ | ⟨h0, _⟩
  · exact ⟨p, ⟨h1, by unfold tN; omega⟩, h3⟩
  · exact absurd h0 hx
theorem fa_step {I K K' : GI} {p : Nat} {x : Int} (hf : tfr I K) (h7 : K 231 7 = (p : Int)) (hp : p < tN I) (h : (numZ (K 234 p) = 0 ∧ x = 0 ∧ K' = K) ∨ (numZ (K 234 p) ≠ 0 ∧ rsR K K' (numZ (K 234 p)).toNat p x)) : x = 0 ∨ K 231 7 < K' 231 7 := by
  have e := tfr_t hf
  have en : tN K = tN I := by unfold tN; rw [e.2]
  rcases h with ⟨_, hx, _⟩ | ⟨_, ⟨h1, _⟩, _, _⟩
  · exact Or.inl hx
  · right
    rw [e.1, en] at h1
    have hb := rdF_b (T := I 234) (n := tN I) (numZ (I 234 p)).toNat (p + 1) (by omega)
    omega
set_option maxHeartbeats 4000000 in
set_option maxRecDepth 100000 in
theorem c_X8_faultAt {l : Launch} (hl0 : l.stackTraces = false) (G : GG) (I J : GI) {z : Nat} (hn : 0 ≤ I 231 5 ∧ I 231 5 ≤ 90) (hT : ∀ k : Nat, (k : Int) < I 231 5 → 32 ≤ I 234 k ∧ I 234 k ≤ 126) : GM l yX8_faultAt (.code yX8_faultAt cX8_faultAt 2 (some .int)) 4 94 0 0 G N0 SH RR [vR 231] z I J (faQ I J) gNo := by
  refine gm_of (lo0 := [some (vR 231), none]) hl0 (by decide) rfl (Nat.le_of_ble_eq_true rfl) ?_
  intro p e s m args below meth c C ht hgi
  have C : gC G p l s m args meth c cX8_faultAt 2 RX8 (some .int) "faultAt" := C
  refine gw_aload_n C 0 dX8_faultAt_0 rfl rfl ?_
  refine gw_iconst C dX8_faultAt_1 ?_
  refine gw_putI (ci := 7) (Cn := RX8) (T0 := TX8) (N := 10) C (ty := .int) 7 kX8_244 fX8 rfl (by decide) rfl rfl tyX8 tyX8_ok nmX8 rfl (by decide) rfl rfl ⟨by decide, by decide⟩ dX8_faultAt_2 xs_231 xn_231 ?_
  refine gw_iconst C dX8_faultAt_5 ?_
  refine gw_istore_n C (lo1 := [some (vR 231), some (vI 1)]) 1 dX8_faultAt_6 rfl (by decide) rfl ?_
  have loop_7 : ∀ (fuel : Nat) (x : Int) (K : GI) (fu : Nat) (z1 : Nat), (0 ≤ x ∧ x ≤ 1) → (faI I K x) → (x = 0 ∨ (I 231 5 - K 231 7 < (fu : Int) ∧ fu ≤ 91)) → fu + x.toNat < fuel → GW G p l e ({ frames := 4, cells := 0, slots := 0, locals := 94 } : Room) s m args below meth c 2 z1 N0 SH RR K J 0 0 (vx_MQ below (GQ G N0 SH RR (faQ I J)) (GX G N0 SH RR gNo) args s 0 0 (ge G)) 7 [some (vR 231), some (vI x)] [] := by
    intro fuel
    induction fuel with
    | zero => intro x K fu z1 hx hfa hfu hf_7; exact absurd hf_7 (Nat.not_lt_zero _)
    | succ fuel ih_7 =>
      intro x K fu z1 hx hfa hfu hf_7
      refine gw_iload_n C 1 dX8_faultAt_7 rfl rfl ?_
      refine gw_if_eq C (tgt := 30) dX8_faultAt_8 (by decide) (by omega) (fun h_8 => ?_) (fun h_8 => ?_)
      · skip
        refine gw_iload_n C 1 dX8_faultAt_30 rfl rfl ?_
        refine gw_if_eq C (tgt := 39) dX8_faultAt_31 (by decide) (by omega) (fun h_31 => ?_) (fun h_31 => ?_)
        · skip
          refine gw_aload_n C 0 dX8_faultAt_39 rfl rfl ?_
          refine gw_getI (ci := 7) (Cn := RX8) (T0 := TX8) (N := 10) C 7 kX8_244 fX8 rfl (by decide) rfl rfl dX8_faultAt_40 xs_231 xn_231 (fun hI_40 => ?_)
          exact gw_iret C (Nat.le_of_ble_eq_true rfl) (Nat.le_of_ble_eq_true rfl) dX8_faultAt_43 (⟨congrArg (fun q => some (vI q)) (by first | exact fa_e hfa (by omega) (by omega) | (rcases hfa.1 with ⟨q, _⟩ | ⟨_, q, _⟩; (exfalso; omega); exact q)), hfa.2, rfl⟩)
        · skip
          refine gw_ldc C (x := (-2000000000)) dX8_faultAt_34 kX8_105 (by decide) ?_
          refine gw_goto C (tgt := 43) dX8_faultAt_36 (by decide) ?_
          exact gw_iret C (Nat.le_of_ble_eq_true rfl) (Nat.le_of_ble_eq_true rfl) dX8_faultAt_43 (⟨congrArg (fun q => some (vI q)) (by first | exact fa_e hfa (by omega) (by omega) | (rcases hfa.1 with ⟨q, _⟩ | ⟨_, q, _⟩; (exfalso; omega); exact q)), hfa.2, rfl⟩)
      · skip
        refine gw_aload_n C 0 dX8_faultAt_11 rfl rfl ?_
        refine gw_getI (ci := 7) (Cn := RX8) (T0 := TX8) (N := 10) C 7 kX8_244 fX8 rfl (by decide) rfl rfl dX8_faultAt_12 xs_231 xn_231 (fun hI_12 => ?_)
        refine gw_aload_n C 0 dX8_faultAt_15 rfl rfl ?_
        refine gw_getI (ci := 7) (Cn := RX8) (T0 := TX8) (N := 10) C 5 kX8_241 fX8 rfl (by decide) rfl rfl dX8_faultAt_16 xs_231 xn_231 (fun hI_16 => ?_)
        refine gw_icmp_ge C (tgt := 30) dX8_faultAt_19 (by decide) hI_12 hI_16 (fun h_19 => ?_) (fun h_19 => ?_)
        · skip
          refine gw_iload_n C 1 dX8_faultAt_30 rfl rfl ?_
          refine gw_if_eq C (tgt := 39) dX8_faultAt_31 (by decide) (by omega) (fun h_31_2 => ?_) (fun h_31_2 => ?_)
          · skip
            refine gw_aload_n C 0 dX8_faultAt_39 rfl rfl ?_
            refine gw_getI (ci := 7) (Cn := RX8) (T0 := TX8) (N := 10) C 7 kX8_244 fX8 rfl (by decide) rfl rfl dX8_faultAt_40 xs_231 xn_231 (fun hI_40_2 => ?_)
            exact gw_iret C (Nat.le_of_ble_eq_true rfl) (Nat.le_of_ble_eq_true rfl) dX8_faultAt_43 (⟨congrArg (fun q => some (vI q)) (by first | exact fa_e hfa (by omega) (by omega) | (rcases hfa.1 with ⟨q, _⟩ | ⟨_, q, _⟩; (exfalso; omega); exact q)), hfa.2, rfl⟩)
          · skip
            refine gw_ldc C (x := (-2000000000)) dX8_faultAt_34 kX8_105 (by decide) ?_
            refine gw_goto C (tgt := 43) dX8_faultAt_36 (by decide) ?_
            exact gw_iret C (Nat.le_of_ble_eq_true rfl) (Nat.le_of_ble_eq_true rfl) dX8_faultAt_43 (⟨congrArg (fun q => some (vI q)) (by first | exact fa_e hfa (by omega) (by omega) | (rcases hfa.1 with ⟨q, _⟩ | ⟨_, q, _⟩; (exfalso; omega); exact q)), hfa.2, rfl⟩)
        · skip
          obtain ⟨p9, hp9, hX⟩ := fa_p hfa (by omega) (by omega)
          have hfr := tfr_t hfa.2
          refine gw_aload_n C 0 dX8_faultAt_22 rfl rfl ?_
          refine gw_callV C (as := []) (st := []) (ci := 7) (T0 := TX8) (N := 10) (c_X8_reads hl0 G K J (by rw [hfr.2]; exact hn) (fun j hj => by rw [hfr.1]; rw [hfr.2] at hj; exact hT j hj) p9 hp9.1 (by rw [hfr.2]; have h9 := hp9.2; unfold tN at h9; omega)) dX8_faultAt_23 kX8_257 qX8_reads hdX8_reads ⟨Nat.le_of_ble_eq_true rfl, Nat.le_of_ble_eq_true rfl⟩ ⟨Nat.le_of_ble_eq_true rfl, Nat.le_of_ble_eq_true rfl⟩ (Nat.le_of_ble_eq_true rfl) rfl xs_231 xn_231 rfl (fun _ _ _ _ h => h.elim) ?_
          intro v_23 z_23_2 Kd J_23 hv_23
          obtain ⟨⟨x9, ev_23, hx9⟩, eJ_23⟩ := hv_23
          rw [ev_23, eJ_23]
          have hfn := fa_next hfa.2 hp9.1 hp9.2 hX hx9
          have hxb : 0 ≤ x9 ∧ x9 ≤ 1 := by rcases hfn.1 with ⟨q, _⟩ | ⟨q, _⟩ <;> omega
          show GW G p l e ({ frames := 4, cells := 0, slots := 0, locals := 94 } : Room) s m args below meth c 2 z_23_2 N0 SH RR Kd J 0 0 (vx_MQ below (GQ G N0 SH RR (faQ I J)) (GX G N0 SH RR gNo) args s 0 0 (ge G)) 26 [some (vR 231), some (vI x)] [vI x9]
          refine gw_istore_n C (lo1 := [some (vR 231), some (vI x9)]) 1 dX8_faultAt_26 rfl (by decide) rfl ?_
          refine gw_goto C (tgt := 7) dX8_faultAt_27 (by decide) ?_
          exact gw_weak (lo' := [some (vR 231), some (vI x9)]) ⟨rfl, rfl, trivial⟩ (ih_7 x9 Kd (fu - 1) z_23_2 (by omega) (by exact hfn) (by have hst := fa_step hfa.2 hp9.1 hp9.2 hx9; have h9 := hp9.1; omega) (by have hst := fa_step hfa.2 hp9.1 hp9.2 hx9; have h9 := hp9.1; have h8 := hp9.2; unfold tN at h8; omega))
  exact gw_weak (lo' := [some (vR 231), some (vI 1)]) ⟨rfl, rfl, trivial⟩ (loop_7 _ 1 (up I 231 7 0) 91 z (by decide) (by exact ⟨Or.inl ⟨rfl, 0, ⟨up_eq, Nat.zero_le _⟩, rfl⟩, fun q f a b => up_nn b⟩) (by right; rw [up_eq]; omega) (Nat.lt_succ_self _))
