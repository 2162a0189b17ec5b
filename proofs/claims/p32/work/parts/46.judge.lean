theorem tr0_fr {K : GI} {r f q k : Nat} (h : q ≠ r + 3 ∧ q ≠ r + 4 ∧ q ≠ r + 5) (h2 : ¬ (q = r ∧ (k = 3 ∨ (5 ≤ k ∧ k ≤ 9)))) : trJ0 K r f q k = K q k := by
  have hl : lyF K r f q k = K q k := by
    unfold lyF
    by_cases e : q = r
    · subst e
      rw [lay_r (by omega), up_nn (by omega)]
    · rw [lay_o (by omega), up_ne e]
  unfold trJ0
  split
  · rw [up_nn (by omega)]
  · exact hl
theorem tr1_fr {K : GI} {r f g q k : Nat} {tol : Int} (h : q ≠ r + 3 ∧ q ≠ r + 4 ∧ q ≠ r + 5) (h2 : ¬ (q = r ∧ (k = 3 ∨ (5 ≤ k ∧ k ≤ 9)))) : trJ1 K r f g tol q k = K q k := by
  have hl : lyF K r f q k = K q k := by
    unfold lyF
    by_cases e : q = r
    · subst e
      rw [lay_r (by omega), up_nn (by omega)]
    · rw [lay_o (by omega), up_ne e]
  unfold trJ1
  split
  · rw [up_nn (by omega)]
  · split
    · rw [up_nn (by omega)]; exact hl
    · rw [up_nn (by omega), up_nn (by omega), up_nn (by omega), up_nn (by omega)]; exact hl
def JTc (b : Nat) (S : Nat → Int) (t : Nat) (K : GI) : Prop := K (tP b t) 3 = sTT S t ∧ ((sTT S t ≠ 5 ∧ sTT S t ≠ 6) → (K (tP b t) 6 = sEa S t (sLg S t) ∧ K (tP b t) 7 = sNo S t (sLg S t)) ∧ ∀ k : Nat, (k : Int) < S (103 + 28 * t) → K (tP b t + 3) k = sBr S t (k + 1) ∧ K (tP b t + 4) k = sEa S t (k + 1) ∧ K (tP b t + 5) k = sNo S t (k + 1)) ∧
    ((0 ≤ S (104 + 28 * t) ∧ (sTT S t = 0 ∨ sTT S t = 8)) → K (tP b t) 5 = sG S t ∧ K (tP b t) 8 = sME S t ∧ K (tP b t) 9 = sMN S t)
def JT (b : Nat) (S : Nat → Int) (n : Nat) (K : GI) : Prop := ∀ t : Nat, t < n → (t : Int) < S 5 → JTc b S t K
theorem jt_step {b t : Nat} {I K K' : GI} {S : Nat → Int} (ht9 : (t : Int) < S 5) (h4 : t < 4) (hW : JW b S 6 K) (hJ : JJ b S 4 K) (h : JT b S t K) (hf : frD b I K)
    (fr : ∀ q k, q ≠ tP b t + 3 ∧ q ≠ tP b t + 4 ∧ q ≠ tP b t + 5 → ¬ (q = tP b t ∧ (k = 3 ∨ (5 ≤ k ∧ k ≤ 9))) → K' q k = K q k) (hc : JTc b S t K') : JW b S 6 K' ∧ JJ b S 4 K' ∧ JT b S (t + 1) K' ∧ frD b I K' := by
  refine ⟨fun k hk hk3 => ?_, fun k hk hk3 => ?_, fun u hu hu5 => ?_, fun q f hq => ?_⟩
  · have ne : wP b k ≠ tP b t ∧ wP b k ≠ tP b t + 3 ∧ wP b k ≠ tP b t + 4 ∧ wP b k ≠ tP b t + 5 := by unfold wP tP; omega
    rw [fr _ _ ne.2 (fun hh => ne.1 hh.1), fr _ _ ne.2 (fun hh => ne.1 hh.1), fr _ _ ne.2 (fun hh => ne.1 hh.1)]
    exact hW k hk hk3
  · have ne : jP b k ≠ tP b t ∧ jP b k ≠ tP b t + 3 ∧ jP b k ≠ tP b t + 4 ∧ jP b k ≠ tP b t + 5 := by unfold jP tP; omega
    rw [fr _ _ ne.2 (fun hh => ne.1 hh.1), fr _ _ ne.2 (fun hh => ne.1 hh.1), fr _ _ ne.2 (fun hh => ne.1 hh.1), fr _ _ ne.2 (fun hh => ne.1 hh.1), fr _ _ ne.2 (fun hh => ne.1 hh.1), fr _ _ ne.2 (fun hh => ne.1 hh.1)]
    exact hJ k hk hk3
  · by_cases e : u = t
    · subst e; exact hc
    · have hh := h u (by omega) hu5
      have e0 : ∀ k, K' (tP b u) k = K (tP b u) k := fun k => fr _ _ (by unfold tP; omega) (by unfold tP; omega)
      have e3 : ∀ k, K' (tP b u + 3) k = K (tP b u + 3) k := fun k => fr _ _ (by unfold tP; omega) (by unfold tP; omega)
      have e4 : ∀ k, K' (tP b u + 4) k = K (tP b u + 4) k := fun k => fr _ _ (by unfold tP; omega) (by unfold tP; omega)
      have e5 : ∀ k, K' (tP b u + 5) k = K (tP b u + 5) k := fun k => fr _ _ (by unfold tP; omega) (by unfold tP; omega)
      unfold JTc
      rw [e0, e0, e0, e0, e0, e0]
      refine ⟨hh.1, fun c => ⟨(hh.2.1 c).1, fun k hk => ?_⟩, hh.2.2⟩
      rw [e3, e4, e5]
      exact (hh.2.1 c).2 k hk
  · rw [fr q f ?_ ?_]
    · exact hf q f hq
    · refine ⟨fun e => hq ⟨by unfold tP at e; omega, ?_⟩, fun e => hq ⟨by unfold tP at e; omega, ?_⟩, fun e => hq ⟨by unfold tP at e; omega, ?_⟩⟩ <;> (unfold derC; unfold tP at e; omega)
    · exact fun e => hq ⟨by have := e.1; unfold tP at this; omega, by have := e.1; have := e.2; unfold derC; unfold tP at *; omega⟩
theorem sTT_v (S : Nat → Int) (t : Nat) : sTT S t = 0 ∨ sTT S t = 5 ∨ sTT S t = 6 ∨ sTT S t = 7 ∨ sTT S t = 8 := by
  unfold sTT
  (repeat' split) <;> omega
theorem tc0 {b t : Nat} {K : GI} {S : Nat → Int} (hR : Rel b K S) (ho : Oks S) (hT9 : (t : Int) < S 5) (hJ : JJ b S 4 K) (hc : S (104 + 28 * t) < 0) : JTc b S t (trJ0 K (tP b t) (jP b (sFi S t))) := by
  have e := tF0_s hR ho hT9 hJ
  unfold JTc trJ0
  by_cases c1 : S (103 + 28 * t) = 0
  · rw [if_pos c1] at e
    have eT : sTT S t = 5 := by unfold sTT; rw [if_pos c1]
    rw [if_pos (by rw [e]; decide), e, eT]
    exact ⟨up_eq, fun h => absurd rfl h.1, fun h => by omega⟩
  · rw [if_neg c1] at e
    by_cases c2 : sJ S (sFi S t) ≠ 0
    · rw [if_pos c2] at e
      have eT : sTT S t = 6 := by unfold sTT; rw [if_neg c1, if_pos c2]
      rw [if_pos (by rw [e]; decide), e, eT]
      exact ⟨up_eq, fun h => absurd rfl h.2, fun h => by omega⟩
    · rw [if_neg c2] at e
      have eT : sTT S t = 0 := by unfold sTT; rw [if_neg c1, if_neg c2, if_pos hc]
      rw [if_neg (by rw [e]; decide)]
      have l := ly_v hR ho hT9 hJ (by omega)
      refine ⟨?_, fun _ => l, fun h => by omega⟩
      unfold lyF
      rw [lay_r (by decide), up_eq, eT]
theorem tc1 {b t : Nat} {K : GI} {S : Nat → Int} (hR : Rel b K S) (ho : Oks S) (hT9 : (t : Int) < S 5) (hJ : JJ b S 4 K) (hc : 0 ≤ S (104 + 28 * t)) : JTc b S t (trJ1 K (tP b t) (jP b (sFi S t)) (jP b (sLa S t)) (S 1)) := by
  have e := tF0_s hR ho hT9 hJ
  have lb := last_b ho hT9 hc
  have j6 := (hJ (sLa S t) lb.1 lb.2.1).2.1.2
  unfold JTc trJ1
  by_cases c1 : S (103 + 28 * t) = 0
  · rw [if_pos c1] at e
    have eT : sTT S t = 5 := by unfold sTT; rw [if_pos c1]
    rw [if_pos (by rw [e]; decide), e, eT]
    exact ⟨up_eq, fun h => absurd rfl h.1, fun h => by omega⟩
  · rw [if_neg c1] at e
    by_cases c2 : sJ S (sFi S t) ≠ 0
    · rw [if_pos c2] at e
      have eT : sTT S t = 6 := by unfold sTT; rw [if_neg c1, if_pos c2]
      rw [if_pos (by rw [e]; decide), e, eT]
      exact ⟨up_eq, fun h => absurd rfl h.2, fun h => by omega⟩
    · rw [if_neg c2] at e
      rw [if_neg (by rw [e]; decide), j6]
      have l := ly_v hR ho hT9 hJ (by omega)
      by_cases c3 : sJ S (sLa S t) ≠ 0
      · have eT : sTT S t = 7 := by unfold sTT; rw [if_neg c1, if_neg c2, if_neg (by omega), if_pos c3]
        rw [if_pos c3, up_eq, up_ne2 (by decide), up_ne2 (by decide), eT]
        refine ⟨rfl, fun _ => ⟨l.1, fun k hk => ?_⟩, fun h => by omega⟩
        rw [up_ne (by omega), up_ne (by omega), up_ne (by omega)]
        exact l.2 k hk
      · have c3' : sJ S (sLa S t) = 0 := by omega
        have c2' : sJ S (sFi S t) = 0 := by omega
        rw [if_neg c3]
        have ev := ea_v hR ho hT9 hJ c2'
        have lw := hJ (sLa S t) lb.1 lb.2.1
        refine ⟨?_, fun _ => ⟨⟨?_, ?_⟩, fun k hk => ?_⟩, fun _ => ⟨?_, ?_, ?_⟩⟩
        · rw [up_eq]; exact t8_v hR ho hT9 hJ c2' hc c3' c1
        · rw [up_ne2 (by decide), up_ne2 (by decide), up_ne2 (by decide), up_ne2 (by decide)]; exact l.1.1
        · rw [up_ne2 (by decide), up_ne2 (by decide), up_ne2 (by decide), up_ne2 (by decide)]; exact l.1.2
        · rw [up_ne (by omega), up_ne (by omega), up_ne (by omega), up_ne (by omega), up_ne (by omega), up_ne (by omega), up_ne (by omega), up_ne (by omega), up_ne (by omega), up_ne (by omega), up_ne (by omega), up_ne (by omega)]
          exact l.2 k hk
        · rw [up_ne2 (by decide), up_ne2 (by decide), up_ne2 (by decide), up_eq]; exact gp_v hR ho hT9 hJ c2' hc c3'
        · rw [up_ne2 (by decide), up_ne2 (by decide), up_eq, ev.1, lw.1.1]; rfl
        · rw [up_ne2 (by decide), up_eq, ev.2, lw.1.2]; rfl
theorem jt0 {b t : Nat} {I K : GI} {S : Nat → Int} (hR : Rel b K S) (ho : Oks S) (hT9 : (t : Int) < S 5) (h4 : t < 4) (hW : JW b S 6 K) (hJ : JJ b S 4 K) (h : JT b S t K) (hf : frD b I K) (hc : S (104 + 28 * t) < 0) {f : Nat} (hf9 : f = jP b (sFi S t)) : JW b S 6 (trJ0 K (tP b t) f) ∧ JJ b S 4 (trJ0 K (tP b t) f) ∧ JT b S (t + 1) (trJ0 K (tP b t) f) ∧ frD b I (trJ0 K (tP b t) f) := by
  subst hf9
  exact jt_step hT9 h4 hW hJ h hf (fun q k h1 h2 => tr0_fr h1 h2) (tc0 hR ho hT9 hJ hc)
theorem jt1 {b t : Nat} {I K : GI} {S : Nat → Int} (hR : Rel b K S) (ho : Oks S) (hT9 : (t : Int) < S 5) (h4 : t < 4) (hW : JW b S 6 K) (hJ : JJ b S 4 K) (h : JT b S t K) (hf : frD b I K) (hc : 0 ≤ S (104 + 28 * t)) {f g : Nat} (hf9 : f = jP b (sFi S t)) (hg9 : g = jP b (sLa S t)) : JW b S 6 (trJ1 K (tP b t) f g (S 1)) ∧ JJ b S 4 (trJ1 K (tP b t) f g (S 1)) ∧ JT b S (t + 1) (trJ1 K (tP b t) f g (S 1)) ∧ frD b I (trJ1 K (tP b t) f g (S 1)) := by
  subst hf9 hg9
  exact jt_step hT9 h4 hW hJ h hf (fun q k h1 h2 => tr1_fr h1 h2) (tc1 hR ho hT9 hJ hc)
theorem jj_h0 {b j : Nat} {K : GI} {S : Nat → Int} (hR : Rel b K S) (hw : Raw b K) (ho : Oks S) (hj : (j : Int) < S 4) (hW : JW b S 6 K) {p q : Nat} (hp : p = wP b (sNear S j)) (hq : q = wP b (sFar S j)) : jC K p q = 0 → (0 ≤ K p 3 ∧ K p 3 ≤ 999) ∧ (0 ≤ K q 3 ∧ K q 3 ≤ 999) := by
  subst hp hq
  intro h
  rw [jj_c hR ho hj hW] at h
  have h0 := sC_0 h
  have n := near_b ho hj
  have w1 := wR_b (hw.1 (sNear S j) n.1.1)
  have w2 := wR_b (hw.1 (sFar S j) n.2.1)
  rw [rel_wR hR n.1.2, (rel_w hR n.1.2).1.2.2] at w1
  rw [rel_wR hR n.2.2, (rel_w hR n.2.2).1.2.2] at w2
  rw [(hW (sNear S j) n.1.1 n.1.2).1, (hW (sFar S j) n.2.1 n.2.2).1]
  exact ⟨w1.2 (sT_n h0.1), w2.2 (sT_n h0.2)⟩
theorem jj_rng {b j : Nat} {K : GI} {S : Nat → Int} (ho : Oks S) (hj : j < 4) (hj4 : (j : Int) < S 4) (hJ : JJ b S 4 K) {p : Nat} (hp : p = jP b j) : (K p 6 = 0 → 0 ≤ K p 7 ∧ K p 7 < 1296000) ∧ (-1000000 ≤ K p 3 ∧ K p 3 ≤ 1000000) ∧ (-1000000 ≤ K p 4 ∧ K p 4 ≤ 1000000) := by
  subst hp
  have h := hJ j hj hj4
  have n := near_b ho hj4
  have w := (ho.2.2.1 (sNear S j) n.1.2).1
  refine ⟨fun e => ?_, ?_, ?_⟩
  · rw [h.2.1.2] at e
    rw [h.2.2.2, if_neg (by omega)]
    exact sS0_b S j
  · rw [h.1.1]; exact w.1
  · rw [h.1.2]; exact w.2.1
def jdQ (b : Nat) (S : Nat → Int) (I J : GI) : Option GV → Nat → GI → GI → Prop := fun v _ I' J' => v = none ∧ (frD b I I' ∧ Jdg b I' S) ∧ J' = J
set_option maxHeartbeats 4000000 in
set_option maxRecDepth 100000 in
theorem c_X2_judge {l : Launch} (hl0 : l.stackTraces = false) (G : GG) (I J : GI) {z : Nat} {b : Nat} (hb : mineQ b) {S : Nat → Int} (hRel : Rel b I S) (ho : Oks S) (hraw : Raw b I) : GM l yX2_judge (.code yX2_judge cX2_judge 4 none) 4 96 0 0 G N0 SH RR [vR b] z I J (jdQ b S I J) gNo := by
  refine gm_of (lo0 := [some (vR b), none, none, none]) hl0 (by decide) rfl (Nat.le_of_ble_eq_true rfl) ?_
  intro p e s m args below meth c C ht hgi
  have C : gC G p l s m args meth c cX2_judge 4 RX2 none "judge" := C
  refine gw_iconst C dX2_judge_0 ?_
  refine gw_istore_n C (lo1 := [some (vR b), some (vI 0), none, none]) 1 dX2_judge_1 rfl (by decide) rfl ?_
  have loop_2 : ∀ (fuel : Nat) (i : Nat) (K1 : GI) (z1 : Nat), (i ≤ 6 ∧ (i : Int) ≤ S 3) → (frD b I K1) → (JW b S i K1) → 7 - i < fuel → GW G p l e ({ frames := 4, cells := 0, slots := 0, locals := 96 } : Room) s m args below meth c 4 z1 N0 SH RR K1 J 0 0 (vx_MQ below (GQ G N0 SH RR (jdQ b S I J)) (GX G N0 SH RR gNo) args s 0 0 (ge G)) 2 [some (vR b), some (vI (i : Int)), none, none] [] := by
    intro fuel
    induction fuel with
    | zero => intro i K1 z1 hi hK1 hW1 hf_2; exact absurd hf_2 (Nat.not_lt_zero _)
    | succ fuel ih_2 =>
      intro i K1 z1 hi hK1 hW1 hf_2
      have hR := rel_fr hRel ho hK1
      have hRw := raw_fr hraw hK1
      have h3 := ho.2.1
      have hS0 := ho.1
      have eC := hR.2.1
      refine gw_iload_n C 1 dX2_judge_2 rfl rfl ?_
      refine gw_aload_n C 0 dX2_judge_3 rfl rfl ?_
      refine gw_getI (ci := 2) (Cn := RX2) (T0 := TX2) (N := 7) C 1 kX2_42 fX2 rfl (by decide) rfl rfl dX2_judge_4 (mq_s hb) (mq_n hb) (fun hI_4 => ?_)
      refine gw_icmp_ge C (tgt := 37) dX2_judge_7 (by decide) (by omega) hI_4 (fun h_7 => ?_) (fun h_7 => ?_)
      · skip
        refine gw_iconst C dX2_judge_37 ?_
        refine gw_istore_n C (lo1 := [some (vR b), some (vI 0), none, none]) 1 dX2_judge_38 rfl (by decide) rfl ?_
        have loop_39 : ∀ (fuel : Nat) (j : Nat) (K2 : GI) (z2 : Nat), (j ≤ 4 ∧ (j : Int) ≤ S 4) → (frD b I K2) → (JW b S 6 K2) → (JJ b S j K2) → 5 - j < fuel → GW G p l e ({ frames := 4, cells := 0, slots := 0, locals := 96 } : Room) s m args below meth c 4 z2 N0 SH RR K2 J 0 0 (vx_MQ below (GQ G N0 SH RR (jdQ b S I J)) (GX G N0 SH RR gNo) args s 0 0 (ge G)) 39 [some (vR b), some (vI (j : Int)), none, none] [] := by
          intro fuel
          induction fuel with
          | zero => intro j K2 z2 hj hK2 hW2 hJ2 hf_39; exact absurd hf_39 (Nat.not_lt_zero _)
          | succ fuel ih_39 =>
            intro j K2 z2 hj hK2 hW2 hJ2 hf_39
            have hR := rel_fr hRel ho hK2
            have hRw := raw_fr hraw hK2
            have h3 := ho.2.1
            have hS0 := ho.1
            have eC := hR.2.1
            refine gw_iload_n C 1 dX2_judge_39 rfl rfl ?_
            refine gw_aload_n C 0 dX2_judge_40 rfl rfl ?_
            refine gw_getI (ci := 2) (Cn := RX2) (T0 := TX2) (N := 7) C 2 kX2_46 fX2 rfl (by decide) rfl rfl dX2_judge_41 (mq_s hb) (mq_n hb) (fun hI_41 => ?_)
            refine gw_icmp_ge C (tgt := 93) dX2_judge_44 (by decide) (by omega) hI_41 (fun h_44 => ?_) (fun h_44 => ?_)
            · skip
              refine gw_iconst C dX2_judge_93 ?_
              refine gw_istore_n C (lo1 := [some (vR b), some (vI 0), none, none]) 1 dX2_judge_94 rfl (by decide) rfl ?_
              have loop_95 : ∀ (fuel : Nat) (t : Nat) (K3 : GI) (z3 : Nat), (t ≤ 4 ∧ (t : Int) ≤ S 5) → (frD b I K3) → (JW b S 6 K3) → (JJ b S 4 K3) → (JT b S t K3) → 5 - t < fuel → GW G p l e ({ frames := 4, cells := 0, slots := 0, locals := 96 } : Room) s m args below meth c 4 z3 N0 SH RR K3 J 0 0 (vx_MQ below (GQ G N0 SH RR (jdQ b S I J)) (GX G N0 SH RR gNo) args s 0 0 (ge G)) 95 [some (vR b), some (vI (t : Int)), none, none] [] := by
                intro fuel
                induction fuel with
                | zero => intro t K3 z3 hT hK3 hW3 hJ3 hT3 hf_95; exact absurd hf_95 (Nat.not_lt_zero _)
                | succ fuel ih_95 =>
                  intro t K3 z3 hT hK3 hW3 hJ3 hT3 hf_95
                  have hR := rel_fr hRel ho hK3
                  have hRw := raw_fr hraw hK3
                  have h3 := ho.2.1
                  have hS0 := ho.1
                  have eC := hR.2.1
                  refine gw_iload_n C 1 dX2_judge_95 rfl rfl ?_
                  refine gw_aload_n C 0 dX2_judge_96 rfl rfl ?_
                  refine gw_getI (ci := 2) (Cn := RX2) (T0 := TX2) (N := 7) C 3 kX2_49 fX2 rfl (by decide) rfl rfl dX2_judge_97 (mq_s hb) (mq_n hb) (fun hI_97 => ?_)
                  refine gw_icmp_ge C (tgt := 159) dX2_judge_100 (by decide) (by omega) hI_97 (fun h_100 => ?_) (fun h_100 => ?_)
                  · skip
                    exact gw_vret C (Nat.le_of_ble_eq_true rfl) (Nat.le_of_ble_eq_true rfl) dX2_judge_159 (⟨rfl, ⟨hK3, fun k hk => hW3 k (by omega) hk, fun k hk => hJ3 k (by omega) hk, fun k hk => hT3 k (by omega) hk⟩, rfl⟩)
                  · skip
                    refine gw_iload_n C 1 dX2_judge_103 rfl rfl ?_
                    refine gw_iconst C dX2_judge_104 ?_
                    refine gw_icmp_ge C (tgt := 159) dX2_judge_105 (by decide) (by omega) ⟨by decide, by decide⟩ (fun h => absurd h (by omega)) (fun _ => ?_)
                    have hn3 := (ho.2.2.2.2 t (by omega)).1
                    refine gw_aload_n C 0 dX2_judge_108 rfl rfl ?_
                    refine gw_aload_n C 0 dX2_judge_109 rfl rfl ?_
                    refine gw_getRs (ci := 2) (Cn := RX2) (T0 := TX2) (N := 7) C (b + 4) 6 kX2_29 fX2 rfl (by decide) rfl rfl dX2_judge_110 (mq_s hb) (mq_n hb) (mq_R4 hb) ?_
                    refine gw_iload_n C 1 dX2_judge_113 rfl rfl ?_
                    refine gw_aalds C (t := 5) (b + 21 + 6 * t) t dX2_judge_114 rfl (by decide) (mq_s4 hb) (mq_n4 hb) (by omega) (by omega) (by decide) (mq_t hb t (by omega)) ?_
                    refine gw_getI (ci := 4) (Cn := RX5) (T0 := TX5) (N := 15) C 0 kX2_79 fX5 rfl (by decide) rfl rfl dX2_judge_115 (tq_s (mq_tq hb t (by omega))) (tq_n (mq_tq hb t (by omega))) (fun hI_115 => ?_)
                    rw [show (K3 (b + 21 + 6 * t) 0) = (S (102 + 28 * t)) from (rel_tr hR (t := t) (by omega)).1.1] at hI_115 ⊢
                    refine gw_callV C (as := [vI (S (102 + 28 * t))]) (st := []) (ci := 2) (T0 := TX2) (N := 7) (c_X2_joinAt hl0 G K3 J hb (by omega) (S (102 + 28 * t)) hI_115) dX2_judge_118 kX2_82 qX2_joinAt hdX2_joinAt ⟨Nat.le_of_ble_eq_true rfl, Nat.le_of_ble_eq_true rfl⟩ ⟨Nat.le_of_ble_eq_true rfl, Nat.le_of_ble_eq_true rfl⟩ (Nat.le_of_ble_eq_true rfl) rfl (mq_s hb) (mq_n hb) rfl (fun _ _ _ _ h => h.elim) ?_
                    intro v_118 zq_118 I_118 J_118 hq_118_2
                    obtain ⟨⟨hq_118_2, rfl⟩ | ⟨hq_118_2, rfl⟩, eI_118, eJ_118⟩ := hq_118_2
                    all_goals rw [eI_118, eJ_118]
                    · skip
                      show GW G p l e ({ frames := 4, cells := 0, slots := 0, locals := 96 } : Room) s m args below meth c 4 zq_118 N0 SH RR K3 J 0 0 (vx_MQ below (GQ G N0 SH RR (jdQ b S I J)) (GX G N0 SH RR gNo) args s 0 0 (ge G)) 121 [some (vR b), some (vI (t : Int)), none, none] [vR (b + 17 + ((S (102 + 28 * t))).toNat)]
                      have hfb := first_b ho (t := t) (by omega)
                      have hg1 := jj_rng ho hfb.1 hfb.2.1 hJ3 (p := b + 17 + ((S (102 + 28 * t))).toNat) rfl
                      refine gw_astore_n C (lo1 := [some (vR b), some (vI (t : Int)), some (vR (b + 17 + ((S (102 + 28 * t))).toNat)), none]) 2 dX2_judge_121 rfl (by decide) rfl ?_
                      refine gw_aload_n C 0 dX2_judge_122 rfl rfl ?_
                      refine gw_aload_n C 0 dX2_judge_123 rfl rfl ?_
                      refine gw_getRs (ci := 2) (Cn := RX2) (T0 := TX2) (N := 7) C (b + 4) 6 kX2_29 fX2 rfl (by decide) rfl rfl dX2_judge_124 (mq_s hb) (mq_n hb) (mq_R4 hb) ?_
                      refine gw_iload_n C 1 dX2_judge_127 rfl rfl ?_
                      refine gw_aalds C (t := 5) (b + 21 + 6 * t) t dX2_judge_128 rfl (by decide) (mq_s4 hb) (mq_n4 hb) (by omega) (by omega) (by decide) (mq_t hb t (by omega)) ?_
                      refine gw_getI (ci := 4) (Cn := RX5) (T0 := TX5) (N := 15) C 1 kX2_86 fX5 rfl (by decide) rfl rfl dX2_judge_129 (tq_s (mq_tq hb t (by omega))) (tq_n (mq_tq hb t (by omega))) (fun hI_129 => ?_)
                      refine gw_callV C (as := [vI (K3 (b + 21 + 6 * t) 1)]) (st := []) (ci := 2) (T0 := TX2) (N := 7) (c_X2_joinAt hl0 G K3 J hb (by omega) (K3 (b + 21 + 6 * t) 1) hI_129) dX2_judge_132 kX2_82 qX2_joinAt hdX2_joinAt ⟨Nat.le_of_ble_eq_true rfl, Nat.le_of_ble_eq_true rfl⟩ ⟨Nat.le_of_ble_eq_true rfl, Nat.le_of_ble_eq_true rfl⟩ (Nat.le_of_ble_eq_true rfl) rfl (mq_s hb) (mq_n hb) rfl (fun _ _ _ _ h => h.elim) ?_
                      intro v_132 zq_132 I_132 J_132 hq_132_2
                      obtain ⟨⟨hq_132_2, rfl⟩ | ⟨hq_132_2, rfl⟩, eI_132, eJ_132⟩ := hq_132_2
                      all_goals rw [eI_132, eJ_132]
                      · skip
                        show GW G p l e ({ frames := 4, cells := 0, slots := 0, locals := 96 } : Room) s m args below meth c 4 zq_132 N0 SH RR K3 J 0 0 (vx_MQ below (GQ G N0 SH RR (jdQ b S I J)) (GX G N0 SH RR gNo) args s 0 0 (ge G)) 135 [some (vR b), some (vI (t : Int)), some (vR (b + 17 + ((S (102 + 28 * t))).toNat)), none] [vR (b + 17 + ((K3 (b + 21 + 6 * t) 1)).toNat)]
                        have hcl : 0 ≤ S (104 + 28 * t) := Int.not_lt.mp (fun hn => by have h5 := (rel_tr hR (t := t) (by omega)).2.1.2 hn; unfold tP at h5; have := hq_132_2; omega)
                        have hlb := last_b ho (t := t) (by omega) hcl
                        have e104 := ((rel_tr hR (t := t) (by omega)).2.1.1 hcl).1
                        have eg9 : b + 17 + ((K3 (b + 21 + 6 * t) 1)).toNat = jP b (sLa S t) := by unfold tP at e104; unfold jP; omega
                        have hg2 := jj_rng ho hlb.1 hlb.2.1 hJ3 eg9
                        have hg4 := ((ho.2.2.2.2 t (by omega)).2.1 hcl).1
                        rw [← ((rel_tr hR (t := t) (by omega)).2.1.1 hcl).2] at hg4
                        refine gw_astore_n C (lo1 := [some (vR b), some (vI (t : Int)), some (vR (b + 17 + ((S (102 + 28 * t))).toNat)), some (vR (b + 17 + ((K3 (b + 21 + 6 * t) 1)).toNat))]) 3 dX2_judge_135 rfl (by decide) rfl ?_
                        refine gw_aload_n C 0 dX2_judge_136 rfl rfl ?_
                        refine gw_getRs (ci := 2) (Cn := RX2) (T0 := TX2) (N := 7) C (b + 4) 6 kX2_29 fX2 rfl (by decide) rfl rfl dX2_judge_137 (mq_s hb) (mq_n hb) (mq_R4 hb) ?_
                        refine gw_iload_n C 1 dX2_judge_140 rfl rfl ?_
                        refine gw_aalds C (t := 5) (b + 21 + 6 * t) t dX2_judge_141 rfl (by decide) (mq_s4 hb) (mq_n4 hb) (by omega) (by omega) (by decide) (mq_t hb t (by omega)) ?_
                        refine gw_aload_n C 2 dX2_judge_142 rfl rfl ?_
                        refine gw_aload_n C 3 dX2_judge_143 rfl rfl ?_
                        refine gw_aload_n C 0 dX2_judge_144 rfl rfl ?_
                        refine gw_getRs (ci := 2) (Cn := RX2) (T0 := TX2) (N := 7) C (b + 1) 0 kX2_9 fX2 rfl (by decide) rfl rfl dX2_judge_145 (mq_s hb) (mq_n hb) (mq_R1 hb) ?_
                        refine gw_iconst C dX2_judge_148 ?_
                        refine gw_iald C 1 dX2_judge_149 (mq_s1 hb) (mq_n1 hb) (by omega) (by omega) (by decide) (fun hI_149 => ?_)
                        rw [show (K3 (b + 1) 1) = S 1 from hR.1 1 (by decide)] at hI_149 ⊢
                        refine gw_callVm C (as := [vR (b + 17 + ((S (102 + 28 * t))).toNat), vR (b + 17 + ((K3 (b + 21 + 6 * t) 1)).toNat), vI (S 1)]) (st := []) (ci := 4) (T0 := TX5) (N := 15) (c_X5_judge_j hl0 G K3 J (mq_tq hb t (by omega)) (mq_jq hb ((S (102 + 28 * t))).toNat (by omega)) (hRw.2 t (by omega)) (by omega) hg1.1 hg1.2.1 hg1.2.2 (mq_jq hb ((K3 (b + 21 + 6 * t) 1)).toNat (by omega)) (by omega) hg2.1 hg2.2.1 hg2.2.2 hg4 (S 1) hS0.2.1) dX2_judge_150 kX2_89 qX5_judge hdX5_judge ⟨Nat.le_of_ble_eq_true rfl, Nat.le_of_ble_eq_true rfl⟩ ⟨Nat.le_of_ble_eq_true rfl, Nat.le_of_ble_eq_true rfl⟩ (Nat.le_of_ble_eq_true rfl) rfl (tq_s (mq_tq hb t (by omega))) (tq_n (mq_tq hb t (by omega))) rfl (fun z_150 => ?_)
                        refine gw_iinc C (lo1 := [some (vR b), some (vI ((t : Int) + 1)), some (vR (b + 17 + ((S (102 + 28 * t))).toNat)), some (vR (b + 17 + ((K3 (b + 21 + 6 * t) 1)).toNat))]) dX2_judge_153 rfl (by decide) rfl ?_
                        refine gw_goto C (tgt := 95) dX2_judge_156 (by decide) ?_
                        exact gw_weak (lo' := [some (vR b), some (vI (((t + 1) : Nat) : Int)), none, none]) ⟨rfl, congrArg (fun q => some (vI q)) (by omega), trivial⟩ (ih_95 (t + 1) (trJ1 K3 (b + 21 + 6 * t) (b + 17 + ((S (102 + 28 * t))).toNat) (b + 17 + ((K3 (b + 21 + 6 * t) 1)).toNat) (S 1)) z_150 (by omega) (by exact (jt1 hR ho (by omega) (by omega) hW3 hJ3 hT3 hK3 hcl rfl eg9).2.2.2) (by exact (jt1 hR ho (by omega) (by omega) hW3 hJ3 hT3 hK3 hcl rfl eg9).1) (by exact (jt1 hR ho (by omega) (by omega) hW3 hJ3 hT3 hK3 hcl rfl eg9).2.1) (by exact (jt1 hR ho (by omega) (by omega) hW3 hJ3 hT3 hK3 hcl rfl eg9).2.2.1) (by omega))
                      · skip
                        show GW G p l e ({ frames := 4, cells := 0, slots := 0, locals := 96 } : Room) s m args below meth c 4 zq_132 N0 SH RR K3 J 0 0 (vx_MQ below (GQ G N0 SH RR (jdQ b S I J)) (GX G N0 SH RR gNo) args s 0 0 (ge G)) 135 [some (vR b), some (vI (t : Int)), some (vR (b + 17 + ((S (102 + 28 * t))).toNat)), none] [vN]
                        have hcl : S (104 + 28 * t) < 0 := Int.not_le.mp (fun hn => by have h5 := (rel_tr hR (t := t) (by omega)).2.1.1 hn; unfold tP at h5; have h6 := (ho.2.2.2.2 t (by omega)).1.2.2; have := hq_132_2; omega)
                        refine gw_astoreN_n C (lo1 := [some (vR b), some (vI (t : Int)), some (vR (b + 17 + ((S (102 + 28 * t))).toNat)), some (vN)]) 3 dX2_judge_135 rfl (by decide) rfl ?_
                        refine gw_aload_n C 0 dX2_judge_136 rfl rfl ?_
                        refine gw_getRs (ci := 2) (Cn := RX2) (T0 := TX2) (N := 7) C (b + 4) 6 kX2_29 fX2 rfl (by decide) rfl rfl dX2_judge_137 (mq_s hb) (mq_n hb) (mq_R4 hb) ?_
                        refine gw_iload_n C 1 dX2_judge_140 rfl rfl ?_
                        refine gw_aalds C (t := 5) (b + 21 + 6 * t) t dX2_judge_141 rfl (by decide) (mq_s4 hb) (mq_n4 hb) (by omega) (by omega) (by decide) (mq_t hb t (by omega)) ?_
                        refine gw_aload_n C 2 dX2_judge_142 rfl rfl ?_
                        refine gw_aloadN_n C 3 dX2_judge_143 rfl rfl ?_
                        refine gw_aload_n C 0 dX2_judge_144 rfl rfl ?_
                        refine gw_getRs (ci := 2) (Cn := RX2) (T0 := TX2) (N := 7) C (b + 1) 0 kX2_9 fX2 rfl (by decide) rfl rfl dX2_judge_145 (mq_s hb) (mq_n hb) (mq_R1 hb) ?_
                        refine gw_iconst C dX2_judge_148 ?_
                        refine gw_iald C 1 dX2_judge_149 (mq_s1 hb) (mq_n1 hb) (by omega) (by omega) (by decide) (fun hI_149_2 => ?_)
                        rw [show (K3 (b + 1) 1) = S 1 from hR.1 1 (by decide)] at hI_149_2 ⊢
                        refine gw_callVm C (as := [vR (b + 17 + ((S (102 + 28 * t))).toNat), vN, vI (S 1)]) (st := []) (ci := 4) (T0 := TX5) (N := 15) (c_X5_judge_n hl0 G K3 J (mq_tq hb t (by omega)) (mq_jq hb ((S (102 + 28 * t))).toNat (by omega)) (hRw.2 t (by omega)) (by omega) hg1.1 hg1.2.1 hg1.2.2 (S 1) hS0.2.1) dX2_judge_150 kX2_89 qX5_judge hdX5_judge ⟨Nat.le_of_ble_eq_true rfl, Nat.le_of_ble_eq_true rfl⟩ ⟨Nat.le_of_ble_eq_true rfl, Nat.le_of_ble_eq_true rfl⟩ (Nat.le_of_ble_eq_true rfl) rfl (tq_s (mq_tq hb t (by omega))) (tq_n (mq_tq hb t (by omega))) rfl (fun z_150_2 => ?_)
                        refine gw_iinc C (lo1 := [some (vR b), some (vI ((t : Int) + 1)), some (vR (b + 17 + ((S (102 + 28 * t))).toNat)), some (vN)]) dX2_judge_153 rfl (by decide) rfl ?_
                        refine gw_goto C (tgt := 95) dX2_judge_156 (by decide) ?_
                        exact gw_weak (lo' := [some (vR b), some (vI (((t + 1) : Nat) : Int)), none, none]) ⟨rfl, congrArg (fun q => some (vI q)) (by omega), trivial⟩ (ih_95 (t + 1) (trJ0 K3 (b + 21 + 6 * t) (b + 17 + ((S (102 + 28 * t))).toNat)) z_150_2 (by omega) (by exact (jt0 hR ho (by omega) (by omega) hW3 hJ3 hT3 hK3 hcl rfl).2.2.2) (by exact (jt0 hR ho (by omega) (by omega) hW3 hJ3 hT3 hK3 hcl rfl).1) (by exact (jt0 hR ho (by omega) (by omega) hW3 hJ3 hT3 hK3 hcl rfl).2.1) (by exact (jt0 hR ho (by omega) (by omega) hW3 hJ3 hT3 hK3 hcl rfl).2.2.1) (by omega))
                    · exact absurd True.intro (by omega)
              exact gw_weak (lo' := [some (vR b), some (vI (0 : Int)), none, none]) ⟨rfl, congrArg (fun q => some (vI q)) (by omega), trivial⟩ (loop_95 _ 0 K2 z2 (by have := ho.2.1; omega) (by exact hK2) (by exact hW2) (by exact fun k hk h9 => hJ2 k (by omega) h9) (by intro k hk; omega) (Nat.lt_succ_self _))
            · skip
              refine gw_iload_n C 1 dX2_judge_47 rfl rfl ?_
              refine gw_iconst C dX2_judge_48 ?_
              refine gw_icmp_ge C (tgt := 93) dX2_judge_49 (by decide) (by omega) ⟨by decide, by decide⟩ (fun h => absurd h (by omega)) (fun _ => ?_)
              have hn3 := (ho.2.2.2.1 j (by omega)).1
              refine gw_aload_n C 0 dX2_judge_52 rfl rfl ?_
              refine gw_getRs (ci := 2) (Cn := RX2) (T0 := TX2) (N := 7) C (b + 3) 5 kX2_23 fX2 rfl (by decide) rfl rfl dX2_judge_53 (mq_s hb) (mq_n hb) (mq_R3 hb) ?_
              refine gw_iload_n C 1 dX2_judge_56 rfl rfl ?_
              refine gw_aalds C (t := 4) (b + 17 + j) j dX2_judge_57 rfl (by decide) (mq_s3 hb) (mq_n3 hb) (by omega) (by omega) (by decide) (mq_j hb j (by omega)) ?_
              refine gw_aload_n C 0 dX2_judge_58 rfl rfl ?_
              refine gw_aload_n C 0 dX2_judge_59 rfl rfl ?_
              refine gw_getRs (ci := 2) (Cn := RX2) (T0 := TX2) (N := 7) C (b + 3) 5 kX2_23 fX2 rfl (by decide) rfl rfl dX2_judge_60 (mq_s hb) (mq_n hb) (mq_R3 hb) ?_
              refine gw_iload_n C 1 dX2_judge_63 rfl rfl ?_
              refine gw_aalds C (t := 4) (b + 17 + j) j dX2_judge_64 rfl (by decide) (mq_s3 hb) (mq_n3 hb) (by omega) (by omega) (by decide) (mq_j hb j (by omega)) ?_
              refine gw_getI (ci := 1) (Cn := RX1) (T0 := TX1) (N := 12) C 0 kX2_66 fX1 rfl (by decide) rfl rfl dX2_judge_65 (jq_s (mq_jq hb j (by omega))) (jq_n (mq_jq hb j (by omega))) (fun hI_65 => ?_)
              rw [show (K2 (b + 17 + j) 0) = (S (78 + 6 * j)) from (hR.2.2.2.1 j (by omega)).1.1] at hI_65 ⊢
              refine gw_callV C (as := [vI (S (78 + 6 * j))]) (st := [vR (b + 17 + j)]) (ci := 2) (T0 := TX2) (N := 7) (c_X2_wireAt hl0 G K2 J hb (by omega) (S (78 + 6 * j)) hI_65) dX2_judge_68 kX2_69 qX2_wireAt hdX2_wireAt ⟨Nat.le_of_ble_eq_true rfl, Nat.le_of_ble_eq_true rfl⟩ ⟨Nat.le_of_ble_eq_true rfl, Nat.le_of_ble_eq_true rfl⟩ (Nat.le_of_ble_eq_true rfl) rfl (mq_s hb) (mq_n hb) rfl (fun _ _ _ _ h => h.elim) ?_
              intro v_68 zq_68 I_68 J_68 hq_68_2
              obtain ⟨⟨hq_68_2, rfl⟩ | ⟨hq_68_2, rfl⟩, eI_68, eJ_68⟩ := hq_68_2
              all_goals rw [eI_68, eJ_68]
              · skip
                show GW G p l e ({ frames := 4, cells := 0, slots := 0, locals := 96 } : Room) s m args below meth c 4 zq_68 N0 SH RR K2 J 0 0 (vx_MQ below (GQ G N0 SH RR (jdQ b S I J)) (GX G N0 SH RR gNo) args s 0 0 (ge G)) 71 [some (vR b), some (vI (j : Int)), none, none] [vR (b + 5 + 2 * ((S (78 + 6 * j))).toNat), vR (b + 17 + j)]
                refine gw_aload_n C 0 dX2_judge_71 rfl rfl ?_
                refine gw_aload_n C 0 dX2_judge_72 rfl rfl ?_
                refine gw_getRs (ci := 2) (Cn := RX2) (T0 := TX2) (N := 7) C (b + 3) 5 kX2_23 fX2 rfl (by decide) rfl rfl dX2_judge_73 (mq_s hb) (mq_n hb) (mq_R3 hb) ?_
                refine gw_iload_n C 1 dX2_judge_76 rfl rfl ?_
                refine gw_aalds C (t := 4) (b + 17 + j) j dX2_judge_77 rfl (by decide) (mq_s3 hb) (mq_n3 hb) (by omega) (by omega) (by decide) (mq_j hb j (by omega)) ?_
                refine gw_getI (ci := 1) (Cn := RX1) (T0 := TX1) (N := 12) C 1 kX2_73 fX1 rfl (by decide) rfl rfl dX2_judge_78 (jq_s (mq_jq hb j (by omega))) (jq_n (mq_jq hb j (by omega))) (fun hI_78 => ?_)
                rw [show (K2 (b + 17 + j) 1) = (S (79 + 6 * j)) from (hR.2.2.2.1 j (by omega)).1.2.1] at hI_78 ⊢
                refine gw_callV C (as := [vI (S (79 + 6 * j))]) (st := [vR (b + 5 + 2 * ((S (78 + 6 * j))).toNat), vR (b + 17 + j)]) (ci := 2) (T0 := TX2) (N := 7) (c_X2_wireAt hl0 G K2 J hb (by omega) (S (79 + 6 * j)) hI_78) dX2_judge_81 kX2_69 qX2_wireAt hdX2_wireAt ⟨Nat.le_of_ble_eq_true rfl, Nat.le_of_ble_eq_true rfl⟩ ⟨Nat.le_of_ble_eq_true rfl, Nat.le_of_ble_eq_true rfl⟩ (Nat.le_of_ble_eq_true rfl) rfl (mq_s hb) (mq_n hb) rfl (fun _ _ _ _ h => h.elim) ?_
                intro v_81 zq_81 I_81 J_81 hq_81_2
                obtain ⟨⟨hq_81_2, rfl⟩ | ⟨hq_81_2, rfl⟩, eI_81, eJ_81⟩ := hq_81_2
                all_goals rw [eI_81, eJ_81]
                · skip
                  show GW G p l e ({ frames := 4, cells := 0, slots := 0, locals := 96 } : Room) s m args below meth c 4 zq_81 N0 SH RR K2 J 0 0 (vx_MQ below (GQ G N0 SH RR (jdQ b S I J)) (GX G N0 SH RR gNo) args s 0 0 (ge G)) 84 [some (vR b), some (vI (j : Int)), none, none] [vR (b + 5 + 2 * ((S (79 + 6 * j))).toNat), vR (b + 5 + 2 * ((S (78 + 6 * j))).toNat), vR (b + 17 + j)]
                  refine gw_callVm C (as := [vR (b + 5 + 2 * ((S (78 + 6 * j))).toNat), vR (b + 5 + 2 * ((S (79 + 6 * j))).toNat)]) (st := []) (ci := 1) (T0 := TX1) (N := 12) (c_X1_judge hl0 G K2 J (mq_jq hb j (by omega)) (mq_wq hb ((S (78 + 6 * j))).toNat (by omega)) (mq_wq hb ((S (79 + 6 * j))).toNat (by omega)) (rel_jOk hR ho (j := j) (by omega)) (by omega) (by omega) (jj_h0 hR hRw ho (j := j) (by omega) hW2 rfl rfl)) dX2_judge_84 kX2_76 qX1_judge hdX1_judge ⟨Nat.le_of_ble_eq_true rfl, Nat.le_of_ble_eq_true rfl⟩ ⟨Nat.le_of_ble_eq_true rfl, Nat.le_of_ble_eq_true rfl⟩ (Nat.le_of_ble_eq_true rfl) rfl (jq_s (mq_jq hb j (by omega))) (jq_n (mq_jq hb j (by omega))) rfl (fun z_84 => ?_)
                  refine gw_iinc C (lo1 := [some (vR b), some (vI ((j : Int) + 1)), none, none]) dX2_judge_87 rfl (by decide) rfl ?_
                  refine gw_goto C (tgt := 39) dX2_judge_90 (by decide) ?_
                  exact gw_weak (lo' := [some (vR b), some (vI (((j + 1) : Nat) : Int)), none, none]) ⟨rfl, congrArg (fun q => some (vI q)) (by omega), trivial⟩ (ih_39 (j + 1) (jJ K2 (b + 17 + j) (b + 5 + 2 * ((S (78 + 6 * j))).toNat) (b + 5 + 2 * ((S (79 + 6 * j))).toNat)) z_84 (by omega) (by exact (jj_step hR ho (j := j) (by omega) (by omega) hW2 hJ2 hK2).2.2) (by exact (jj_step hR ho (j := j) (by omega) (by omega) hW2 hJ2 hK2).1) (by exact (jj_step hR ho (j := j) (by omega) (by omega) hW2 hJ2 hK2).2.1) (by omega))
                · exact absurd True.intro (by omega)
              · exact absurd True.intro (by omega)
        exact gw_weak (lo' := [some (vR b), some (vI (0 : Int)), none, none]) ⟨rfl, congrArg (fun q => some (vI q)) (by omega), trivial⟩ (loop_39 _ 0 K1 z1 (by have := ho.2.1; omega) (by exact hK1) (by exact fun k hk h9 => hW1 k (by omega) h9) (by intro k hk; omega) (Nat.lt_succ_self _))
      · skip
        refine gw_iload_n C 1 dX2_judge_10 rfl rfl ?_
        refine gw_bipush C dX2_judge_11 rfl ?_
        refine gw_icmp_ge C (tgt := 37) dX2_judge_13 (by decide) (by omega) ⟨by decide, by decide⟩ (fun h => absurd h (by omega)) (fun _ => ?_)
        refine gw_aload_n C 0 dX2_judge_16 rfl rfl ?_
        refine gw_getRs (ci := 2) (Cn := RX2) (T0 := TX2) (N := 7) C (b + 2) 4 kX2_17 fX2 rfl (by decide) rfl rfl dX2_judge_17 (mq_s hb) (mq_n hb) (mq_R2 hb) ?_
        refine gw_iload_n C 1 dX2_judge_20 rfl rfl ?_
        refine gw_aalds C (t := 3) (b + 5 + 2 * i) i dX2_judge_21 rfl (by decide) (mq_s2 hb) (mq_n2 hb) (by omega) (by omega) (by decide) (mq_w hb i (by omega)) ?_
        refine gw_aload_n C 0 dX2_judge_22 rfl rfl ?_
        refine gw_getRs (ci := 2) (Cn := RX2) (T0 := TX2) (N := 7) C (b + 1) 0 kX2_9 fX2 rfl (by decide) rfl rfl dX2_judge_23 (mq_s hb) (mq_n hb) (mq_R1 hb) ?_
        refine gw_iconst C dX2_judge_26 ?_
        refine gw_iald C 0 dX2_judge_27 (mq_s1 hb) (mq_n1 hb) (by omega) (by omega) (by decide) (fun hI_27 => ?_)
        rw [show (K1 (b + 1) 0) = S 0 from hR.1 0 (by decide)] at hI_27 ⊢
        refine gw_callVm C (as := [vI (S 0)]) (st := []) (ci := 5) (T0 := TX6) (N := 7) (c_X6_judge hl0 G K1 J (mq_wq hb i (by omega)) (hRw.1 i (by omega)) (S 0) hS0.1) dX2_judge_28 kX2_62 qX6_judge hdX6_judge ⟨Nat.le_of_ble_eq_true rfl, Nat.le_of_ble_eq_true rfl⟩ ⟨Nat.le_of_ble_eq_true rfl, Nat.le_of_ble_eq_true rfl⟩ (Nat.le_of_ble_eq_true rfl) rfl (wq_s (mq_wq hb i (by omega))) (wq_n (mq_wq hb i (by omega))) rfl (fun z_28 => ?_)
        refine gw_iinc C (lo1 := [some (vR b), some (vI ((i : Int) + 1)), none, none]) dX2_judge_31 rfl (by decide) rfl ?_
        refine gw_goto C (tgt := 2) dX2_judge_34 (by decide) ?_
        exact gw_weak (lo' := [some (vR b), some (vI (((i + 1) : Nat) : Int)), none, none]) ⟨rfl, congrArg (fun q => some (vI q)) (by omega), trivial⟩ (ih_2 (i + 1) (jW K1 (b + 5 + 2 * i) (S 0)) z_28 (by omega) (by exact (jw_step hR (by omega) (by omega) hW1 hK1).2) (by exact (jw_step hR (by omega) (by omega) hW1 hK1).1) (by omega))
  exact gw_weak (lo' := [some (vR b), some (vI (0 : Int)), none, none]) ⟨rfl, congrArg (fun q => some (vI q)) (by omega), trivial⟩ (loop_2 _ 0 I z (by have := ho.2.1; omega) (by exact frD_refl b I) (by intro k hk; omega) (Nat.lt_succ_self _))
