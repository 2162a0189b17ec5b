abbrev wP (b i : Nat) : Nat := b + 5 + 2 * i
abbrev jP (b j : Nat) : Nat := b + 17 + j
abbrev tP (b t : Nat) : Nat := b + 21 + 6 * t
def sTu (S : Nat → Int) (i : Nat) : Nat → Int := fun k => S (9 + 12 * i + k)
def sR (S : Nat → Int) (i : Nat) : Int := restF (S (8 + 12 * i)).toNat (sTu S i)
def sD (S : Nat → Int) (i : Nat) : Int := drF (S (8 + 12 * i)).toNat (sTu S i)
def sT (S : Nat → Int) (i : Nat) : Int := wtF (S (8 + 12 * i)).toNat (sTu S i) (S 0)
abbrev sNear (S : Nat → Int) (j : Nat) : Nat := (S (78 + 6 * j)).toNat
abbrev sFar (S : Nat → Int) (j : Nat) : Nat := (S (79 + 6 * j)).toNat
def sC (S : Nat → Int) (j : Nat) : Int := if sT S (sNear S j) ≠ 0 then sT S (sNear S j) else sT S (sFar S j)
def sJ (S : Nat → Int) (j : Nat) : Int := if sC S j ≠ 0 then 3 else if 3 * S (81 + 6 * j) < S (82 + 6 * j) then 4 else 0
def sSw (S : Nat → Int) (j : Nat) : Int := ((sR S (sFar S j) - sR S (sNear S j)) * 20626).tdiv (S (81 + 6 * j))
def sSt (S : Nat → Int) (j : Nat) (g : Int) : Int := normZ (S (80 + 6 * j) + (g * S (82 + 6 * j)).tdiv (S (81 + 6 * j)) + sSw S j)
abbrev sFi (S : Nat → Int) (t : Nat) : Nat := (S (102 + 28 * t)).toNat
abbrev sLa (S : Nat → Int) (t : Nat) : Nat := (S (104 + 28 * t)).toNat
abbrev sLg (S : Nat → Int) (t : Nat) : Nat := (S (103 + 28 * t)).toNat
def sAn (S : Nat → Int) (t : Nat) : Nat → Int := fun k => S (106 + 28 * t + 2 * k)
def sLe (S : Nat → Int) (t : Nat) : Nat → Int := fun k => S (107 + 28 * t + 2 * k)
def sS0 (S : Nat → Int) (j : Nat) : Int := sSt S j (S (83 + 6 * j))
def sBr (S : Nat → Int) (t k : Nat) : Int := bF (sS0 S (sFi S t)) (sAn S t) k
def sEa (S : Nat → Int) (t k : Nat) : Int := pF 0 (S (6 + 12 * sNear S (sFi S t))) (sS0 S (sFi S t)) (sAn S t) (sLe S t) k
def sNo (S : Nat → Int) (t k : Nat) : Int := pF 324000 (S (7 + 12 * sNear S (sFi S t))) (sS0 S (sFi S t)) (sAn S t) (sLe S t) k
def sG (S : Nat → Int) (t : Nat) : Int := centZ (sBr S t (sLg S t) + S (105 + 28 * t) + 648000 - sS0 S (sLa S t))
def sME (S : Nat → Int) (t : Nat) : Int := sEa S t (sLg S t) - S (6 + 12 * sNear S (sLa S t))
def sMN (S : Nat → Int) (t : Nat) : Int := sNo S t (sLg S t) - S (7 + 12 * sNear S (sLa S t))
def sTT (S : Nat → Int) (t : Nat) : Int := if S (103 + 28 * t) = 0 then 5 else if sJ S (sFi S t) ≠ 0 then 6 else if S (104 + 28 * t) < 0 then 0 else if sJ S (sLa S t) ≠ 0 then 7 else if S 1 * rootZ (S (103 + 28 * t) + 1) < ((sG S t).natAbs : Int) then 8 else 0
def Rel (b : Nat) (I : GI) (S : Nat → Int) : Prop := (∀ k, k < 3 → I (b + 1) k = S k) ∧ (I b 1 = S 3 ∧ I b 2 = S 4 ∧ I b 3 = S 5) ∧
  (∀ i : Nat, (i : Int) < S 3 → (I (wP b i) 0 = S (6 + 12 * i) ∧ I (wP b i) 1 = S (7 + 12 * i) ∧ I (wP b i) 2 = S (8 + 12 * i)) ∧ ∀ k : Nat, (k : Int) < S (8 + 12 * i) → I (wP b i + 1) k = S (9 + 12 * i + k)) ∧
  (∀ j : Nat, (j : Int) < S 4 → (I (jP b j) 0 = S (78 + 6 * j) ∧ I (jP b j) 1 = S (79 + 6 * j) ∧ I (jP b j) 8 = S (80 + 6 * j)) ∧ I (jP b j) 9 = S (81 + 6 * j) ∧ I (jP b j) 10 = S (82 + 6 * j) ∧ I (jP b j) 2 = S (83 + 6 * j)) ∧
  ∀ t : Nat, (t : Int) < S 5 → (I (tP b t) 0 = S (102 + 28 * t) ∧ I (tP b t) 2 = S (103 + 28 * t)) ∧ ((0 ≤ S (104 + 28 * t) → I (tP b t) 1 = S (104 + 28 * t) ∧ I (tP b t) 4 = S (105 + 28 * t)) ∧ (S (104 + 28 * t) < 0 → I (tP b t) 1 = -2000000000 ∧ I (tP b t) 4 = -2000000000)) ∧
    ∀ k : Nat, (k : Int) < S (103 + 28 * t) → I (tP b t + 1) k = S (106 + 28 * t + 2 * k) ∧ I (tP b t + 2) k = S (107 + 28 * t + 2 * k)
def Oks (S : Nat → Int) : Prop := ((0 ≤ S 0 ∧ S 0 ≤ 999) ∧ (1 ≤ S 1 ∧ S 1 ≤ 600) ∧ (0 ≤ S 2 ∧ S 2 ≤ 999999)) ∧ ((0 ≤ S 3 ∧ S 3 ≤ 6) ∧ (0 ≤ S 4 ∧ S 4 ≤ 4) ∧ (0 ≤ S 5 ∧ S 5 ≤ 4)) ∧
  (∀ i : Nat, (i : Int) < S 3 → ((-1000000 ≤ S (6 + 12 * i) ∧ S (6 + 12 * i) ≤ 1000000) ∧ (-1000000 ≤ S (7 + 12 * i) ∧ S (7 + 12 * i) ≤ 1000000) ∧ (0 ≤ S (8 + 12 * i) ∧ S (8 + 12 * i) ≤ 9)) ∧ ∀ k : Nat, (k : Int) < S (8 + 12 * i) → 0 ≤ S (9 + 12 * i + k) ∧ S (9 + 12 * i + k) ≤ 999) ∧
  (∀ j : Nat, (j : Int) < S 4 → ((0 ≤ S (78 + 6 * j) ∧ S (78 + 6 * j) < S 3) ∧ (0 ≤ S (79 + 6 * j) ∧ S (79 + 6 * j) < S 3) ∧ (0 ≤ S (80 + 6 * j) ∧ S (80 + 6 * j) ≤ 1295999)) ∧ (100 ≤ S (81 + 6 * j) ∧ S (81 + 6 * j) ≤ 20000) ∧ (100 ≤ S (82 + 6 * j) ∧ S (82 + 6 * j) ≤ 50000) ∧ (-3600 ≤ S (83 + 6 * j) ∧ S (83 + 6 * j) ≤ 3600)) ∧
  ∀ t : Nat, (t : Int) < S 5 → ((0 ≤ S (102 + 28 * t) ∧ S (102 + 28 * t) < S 4) ∧ (0 ≤ S (103 + 28 * t) ∧ S (103 + 28 * t) ≤ 12) ∧ (-1 ≤ S (104 + 28 * t) ∧ S (104 + 28 * t) < S 4 ∧ S (104 + 28 * t) ≠ S (102 + 28 * t))) ∧ (0 ≤ S (104 + 28 * t) → (0 ≤ S (105 + 28 * t) ∧ S (105 + 28 * t) ≤ 1295999) ∧ 1 ≤ S (103 + 28 * t)) ∧
    ∀ k : Nat, (k : Int) < S (103 + 28 * t) → (0 ≤ S (106 + 28 * t + 2 * k) ∧ S (106 + 28 * t + 2 * k) ≤ 1295999) ∧ (1 ≤ S (107 + 28 * t + 2 * k) ∧ S (107 + 28 * t + 2 * k) ≤ 200000)
def Raw (b : Nat) (I : GI) : Prop := (∀ i, i < 6 → wOk I (wP b i)) ∧ ∀ t, t < 4 → tOk I (tP b t)
def rawC (k f : Nat) : Prop := (k = 0 ∧ 1 ≤ f ∧ f ≤ 3) ∨ (k = 1 ∧ f < 3) ∨ (5 ≤ k ∧ k < 17 ∧ (k - 5) % 2 = 0 ∧ f < 3) ∨ (5 ≤ k ∧ k < 17 ∧ (k - 5) % 2 = 1 ∧ f < 9) ∨ (17 ≤ k ∧ k < 21 ∧ (f < 3 ∨ (8 ≤ f ∧ f ≤ 10))) ∨ (21 ≤ k ∧ k < 45 ∧ (((k - 21) % 6 = 0 ∧ (f < 3 ∨ f = 4)) ∨ (((k - 21) % 6 = 1 ∨ (k - 21) % 6 = 2) ∧ f < 12)))
def Jdg (b : Nat) (I : GI) (S : Nat → Int) : Prop :=
  (∀ i : Nat, (i : Int) < S 3 → I (wP b i) 3 = sR S i ∧ I (wP b i) 4 = sD S i ∧ I (wP b i) 5 = sT S i) ∧
  (∀ j : Nat, (j : Int) < S 4 → (I (jP b j) 3 = S (6 + 12 * sNear S j) ∧ I (jP b j) 4 = S (7 + 12 * sNear S j)) ∧ (I (jP b j) 5 = sC S j ∧ I (jP b j) 6 = sJ S j) ∧ (I (jP b j) 11 = if sC S j ≠ 0 then 0 else sSw S j) ∧ I (jP b j) 7 = if sJ S j ≠ 0 then -2000000000 else sS0 S j) ∧
  ∀ t : Nat, (t : Int) < S 5 → I (tP b t) 3 = sTT S t ∧ ((sTT S t ≠ 5 ∧ sTT S t ≠ 6) → (I (tP b t) 6 = sEa S t (sLg S t) ∧ I (tP b t) 7 = sNo S t (sLg S t)) ∧ ∀ k : Nat, (k : Int) < S (103 + 28 * t) → I (tP b t + 3) k = sBr S t (k + 1) ∧ I (tP b t + 4) k = sEa S t (k + 1) ∧ I (tP b t + 5) k = sNo S t (k + 1)) ∧
    ((0 ≤ S (104 + 28 * t) ∧ (sTT S t = 0 ∨ sTT S t = 8)) → I (tP b t) 5 = sG S t ∧ I (tP b t) 8 = sME S t ∧ I (tP b t) 9 = sMN S t)
def refQ (c : Prop) (r : Nat) (I1 J1 : GI) : Option GV → Nat → GI → GI → Prop := fun v _ I' J' => (c ∧ v = some (vR r) ∨ ¬ c ∧ v = some vN) ∧ I' = I1 ∧ J' = J1
set_option maxHeartbeats 4000000 in
set_option maxRecDepth 100000 in
theorem c_X2_wireAt {l : Launch} (hl0 : l.stackTraces = false) (G : GG) (I J : GI) {z : Nat} {b : Nat} (hb : mineQ b) (hc : 0 ≤ I b 1 ∧ I b 1 ≤ 6) (x : Int) (hx : inI x) : GM l yX2_wireAt (.code yX2_wireAt cX2_wireAt 2 (some (.object "ShaftPlumb$Wire"))) 1 22 0 0 G N0 SH RR [vR b, vI x] z I J (refQ (0 ≤ x ∧ x < I b 1) (b + 5 + 2 * x.toNat) I J) gNo := by
  refine gm_of (lo0 := [some (vR b), some (vI x)]) hl0 (by decide) rfl (Nat.le_of_ble_eq_true rfl) ?_
  intro p e s m args below meth c C ht hgi
  have C : gC G p l s m args meth c cX2_wireAt 2 RX2 (some (.object "ShaftPlumb$Wire")) "wireAt" := C
  refine gw_iload_n C 1 dX2_wireAt_0 rfl rfl ?_
  refine gw_iconst C dX2_wireAt_1 ?_
  refine gw_aload_n C 0 dX2_wireAt_2 rfl rfl ?_
  refine gw_getI (ci := 2) (Cn := RX2) (T0 := TX2) (N := 7) C 1 kX2_42 fX2 rfl (by decide) rfl rfl dX2_wireAt_3 (mq_s hb) (mq_n hb) (fun hI_3 => ?_)
  refine gw_iconst C dX2_wireAt_6 ?_
  refine gw_isub C dX2_wireAt_7 ?_
  refine gw_callSNb C (as := [vI x, vI 0, vI ((I b 1) - 1)]) (st := []) (c_X7_isIn hl0 G x 0 ((I b 1) - 1) hx ⟨by decide, by decide⟩ (by omega)) dX2_wireAt_8 (List.mem_of_getElem? (i := 5) rfl) qX7_isIn hdX7_isIn ⟨Nat.le_of_ble_eq_true rfl, Nat.le_of_ble_eq_true rfl⟩ ⟨Nat.le_of_ble_eq_true rfl, Nat.le_of_ble_eq_true rfl⟩ (Nat.le_of_ble_eq_true rfl) rfl (fun h_8 z_8 => ?_) (fun h_8 z_8 => ?_)
  · skip
    refine gw_if_eq C (tgt := 29) dX2_wireAt_11 (by decide) ⟨by decide, by decide⟩ (fun h => absurd h (by decide)) (fun _ => ?_)
    refine gw_iload_n C 1 dX2_wireAt_14 rfl rfl ?_
    refine gw_bipush C dX2_wireAt_15 rfl ?_
    refine gw_icmp_ge C (tgt := 29) dX2_wireAt_17 (by decide) hx ⟨by decide, by decide⟩ (fun h => absurd h (by omega)) (fun _ => ?_)
    refine gw_aload_n C 0 dX2_wireAt_20 rfl rfl ?_
    refine gw_getRs (ci := 2) (Cn := RX2) (T0 := TX2) (N := 7) C (b + 2) 4 kX2_17 fX2 rfl (by decide) rfl rfl dX2_wireAt_21 (mq_s hb) (mq_n hb) (mq_R2 hb) ?_
    refine gw_iload_n C 1 dX2_wireAt_24 rfl rfl ?_
    refine gw_aalds C (t := 3) (b + 5 + 2 * ((x).toNat)) ((x).toNat) dX2_wireAt_25 rfl (by decide) (mq_s2 hb) (mq_n2 hb) (by omega) (by omega) (by decide) (mq_w hb ((x).toNat) (by omega)) ?_
    refine gw_goto C (tgt := 30) dX2_wireAt_26 (by decide) ?_
    exact gw_aret C (Nat.le_of_ble_eq_true rfl) (Nat.le_of_ble_eq_true rfl) dX2_wireAt_30 (⟨Or.inl ⟨by omega, rfl⟩, rfl, rfl⟩)
  · skip
    refine gw_if_eq C (tgt := 29) dX2_wireAt_11 (by decide) ⟨by decide, by decide⟩ (fun _ => ?_) (fun h => absurd h (by decide))
    refine gw_null C dX2_wireAt_29 ?_
    exact gw_aret C (Nat.le_of_ble_eq_true rfl) (Nat.le_of_ble_eq_true rfl) dX2_wireAt_30 (⟨Or.inr ⟨by omega, rfl⟩, rfl, rfl⟩)
set_option maxHeartbeats 4000000 in
set_option maxRecDepth 100000 in
theorem c_X2_joinAt {l : Launch} (hl0 : l.stackTraces = false) (G : GG) (I J : GI) {z : Nat} {b : Nat} (hb : mineQ b) (hc : 0 ≤ I b 2 ∧ I b 2 ≤ 4) (x : Int) (hx : inI x) : GM l yX2_joinAt (.code yX2_joinAt cX2_joinAt 2 (some (.object "ShaftPlumb$Join"))) 1 22 0 0 G N0 SH RR [vR b, vI x] z I J (refQ (0 ≤ x ∧ x < I b 2) (b + 17 + x.toNat) I J) gNo := by
  refine gm_of (lo0 := [some (vR b), some (vI x)]) hl0 (by decide) rfl (Nat.le_of_ble_eq_true rfl) ?_
  intro p e s m args below meth c C ht hgi
  have C : gC G p l s m args meth c cX2_joinAt 2 RX2 (some (.object "ShaftPlumb$Join")) "joinAt" := C
  refine gw_iload_n C 1 dX2_joinAt_0 rfl rfl ?_
  refine gw_iconst C dX2_joinAt_1 ?_
  refine gw_aload_n C 0 dX2_joinAt_2 rfl rfl ?_
  refine gw_getI (ci := 2) (Cn := RX2) (T0 := TX2) (N := 7) C 2 kX2_46 fX2 rfl (by decide) rfl rfl dX2_joinAt_3 (mq_s hb) (mq_n hb) (fun hI_3 => ?_)
  refine gw_iconst C dX2_joinAt_6 ?_
  refine gw_isub C dX2_joinAt_7 ?_
  refine gw_callSNb C (as := [vI x, vI 0, vI ((I b 2) - 1)]) (st := []) (c_X7_isIn hl0 G x 0 ((I b 2) - 1) hx ⟨by decide, by decide⟩ (by omega)) dX2_joinAt_8 (List.mem_of_getElem? (i := 5) rfl) qX7_isIn hdX7_isIn ⟨Nat.le_of_ble_eq_true rfl, Nat.le_of_ble_eq_true rfl⟩ ⟨Nat.le_of_ble_eq_true rfl, Nat.le_of_ble_eq_true rfl⟩ (Nat.le_of_ble_eq_true rfl) rfl (fun h_8 z_8 => ?_) (fun h_8 z_8 => ?_)
  · skip
    refine gw_if_eq C (tgt := 28) dX2_joinAt_11 (by decide) ⟨by decide, by decide⟩ (fun h => absurd h (by decide)) (fun _ => ?_)
    refine gw_iload_n C 1 dX2_joinAt_14 rfl rfl ?_
    refine gw_iconst C dX2_joinAt_15 ?_
    refine gw_icmp_ge C (tgt := 28) dX2_joinAt_16 (by decide) hx ⟨by decide, by decide⟩ (fun h => absurd h (by omega)) (fun _ => ?_)
    refine gw_aload_n C 0 dX2_joinAt_19 rfl rfl ?_
    refine gw_getRs (ci := 2) (Cn := RX2) (T0 := TX2) (N := 7) C (b + 3) 5 kX2_23 fX2 rfl (by decide) rfl rfl dX2_joinAt_20 (mq_s hb) (mq_n hb) (mq_R3 hb) ?_
    refine gw_iload_n C 1 dX2_joinAt_23 rfl rfl ?_
    refine gw_aalds C (t := 4) (b + 17 + ((x).toNat)) ((x).toNat) dX2_joinAt_24 rfl (by decide) (mq_s3 hb) (mq_n3 hb) (by omega) (by omega) (by decide) (mq_j hb ((x).toNat) (by omega)) ?_
    refine gw_goto C (tgt := 29) dX2_joinAt_25 (by decide) ?_
    exact gw_aret C (Nat.le_of_ble_eq_true rfl) (Nat.le_of_ble_eq_true rfl) dX2_joinAt_29 (⟨Or.inl ⟨by omega, rfl⟩, rfl, rfl⟩)
  · skip
    refine gw_if_eq C (tgt := 28) dX2_joinAt_11 (by decide) ⟨by decide, by decide⟩ (fun _ => ?_) (fun h => absurd h (by decide))
    refine gw_null C dX2_joinAt_28 ?_
    exact gw_aret C (Nat.le_of_ble_eq_true rfl) (Nat.le_of_ble_eq_true rfl) dX2_joinAt_29 (⟨Or.inr ⟨by omega, rfl⟩, rfl, rfl⟩)
set_option maxHeartbeats 4000000 in
set_option maxRecDepth 100000 in
theorem c_X2_traverseAt {l : Launch} (hl0 : l.stackTraces = false) (G : GG) (I J : GI) {z : Nat} {b : Nat} (hb : mineQ b) (hc : 0 ≤ I b 3 ∧ I b 3 ≤ 4) (x : Int) (hx : inI x) : GM l yX2_traverseAt (.code yX2_traverseAt cX2_traverseAt 2 (some (.object "ShaftPlumb$Traverse"))) 1 22 0 0 G N0 SH RR [vR b, vI x] z I J (refQ (0 ≤ x ∧ x < I b 3) (b + 21 + 6 * x.toNat) I J) gNo := by
  refine gm_of (lo0 := [some (vR b), some (vI x)]) hl0 (by decide) rfl (Nat.le_of_ble_eq_true rfl) ?_
  intro p e s m args below meth c C ht hgi
  have C : gC G p l s m args meth c cX2_traverseAt 2 RX2 (some (.object "ShaftPlumb$Traverse")) "traverseAt" := C
  refine gw_iload_n C 1 dX2_traverseAt_0 rfl rfl ?_
  refine gw_iconst C dX2_traverseAt_1 ?_
  refine gw_aload_n C 0 dX2_traverseAt_2 rfl rfl ?_
  refine gw_getI (ci := 2) (Cn := RX2) (T0 := TX2) (N := 7) C 3 kX2_49 fX2 rfl (by decide) rfl rfl dX2_traverseAt_3 (mq_s hb) (mq_n hb) (fun hI_3 => ?_)
  refine gw_iconst C dX2_traverseAt_6 ?_
  refine gw_isub C dX2_traverseAt_7 ?_
  refine gw_callSNb C (as := [vI x, vI 0, vI ((I b 3) - 1)]) (st := []) (c_X7_isIn hl0 G x 0 ((I b 3) - 1) hx ⟨by decide, by decide⟩ (by omega)) dX2_traverseAt_8 (List.mem_of_getElem? (i := 5) rfl) qX7_isIn hdX7_isIn ⟨Nat.le_of_ble_eq_true rfl, Nat.le_of_ble_eq_true rfl⟩ ⟨Nat.le_of_ble_eq_true rfl, Nat.le_of_ble_eq_true rfl⟩ (Nat.le_of_ble_eq_true rfl) rfl (fun h_8 z_8 => ?_) (fun h_8 z_8 => ?_)
  · skip
    refine gw_if_eq C (tgt := 28) dX2_traverseAt_11 (by decide) ⟨by decide, by decide⟩ (fun h => absurd h (by decide)) (fun _ => ?_)
    refine gw_iload_n C 1 dX2_traverseAt_14 rfl rfl ?_
    refine gw_iconst C dX2_traverseAt_15 ?_
    refine gw_icmp_ge C (tgt := 28) dX2_traverseAt_16 (by decide) hx ⟨by decide, by decide⟩ (fun h => absurd h (by omega)) (fun _ => ?_)
    refine gw_aload_n C 0 dX2_traverseAt_19 rfl rfl ?_
    refine gw_getRs (ci := 2) (Cn := RX2) (T0 := TX2) (N := 7) C (b + 4) 6 kX2_29 fX2 rfl (by decide) rfl rfl dX2_traverseAt_20 (mq_s hb) (mq_n hb) (mq_R4 hb) ?_
    refine gw_iload_n C 1 dX2_traverseAt_23 rfl rfl ?_
    refine gw_aalds C (t := 5) (b + 21 + 6 * ((x).toNat)) ((x).toNat) dX2_traverseAt_24 rfl (by decide) (mq_s4 hb) (mq_n4 hb) (by omega) (by omega) (by decide) (mq_t hb ((x).toNat) (by omega)) ?_
    refine gw_goto C (tgt := 29) dX2_traverseAt_25 (by decide) ?_
    exact gw_aret C (Nat.le_of_ble_eq_true rfl) (Nat.le_of_ble_eq_true rfl) dX2_traverseAt_29 (⟨Or.inl ⟨by omega, rfl⟩, rfl, rfl⟩)
  · skip
    refine gw_if_eq C (tgt := 28) dX2_traverseAt_11 (by decide) ⟨by decide, by decide⟩ (fun _ => ?_) (fun h => absurd h (by decide))
    refine gw_null C dX2_traverseAt_28 ?_
    exact gw_aret C (Nat.le_of_ble_eq_true rfl) (Nat.le_of_ble_eq_true rfl) dX2_traverseAt_29 (⟨Or.inr ⟨by omega, rfl⟩, rfl, rfl⟩)
