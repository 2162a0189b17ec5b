theorem i0_z {q : Nat} (h : q ≠ 2 ∧ q ≠ 49 ∧ q ≠ 94 ∧ q ≠ 139 ∧ q ≠ 184 ∧ q ≠ 232) : II0 q = fun _ => 0 := by
  unfold II0 modelI plumbI scriptI copiesI mineI
  (repeat rw [up_ne (by omega)])
  rfl
theorem i0_3 {q f : Nat} (h : 3 ≤ f) : II0 q f = 0 := by
  unfold II0 modelI plumbI scriptI copiesI mineI
  (repeat rw [up_ne2 (by omega)])
  rfl
theorem i0_raw {b : Nat} (h : b = 1 ∨ b = 48 ∨ b = 93 ∨ b = 138 ∨ b = 183) : Raw b II0 := by
  refine ⟨fun i hi => ?_, fun t ht => ?_⟩
  · unfold wP wOk
    rw [i0_z (q := b + 5 + 2 * i) (by omega), i0_z (q := b + 5 + 2 * i + 1) (by omega)]
    exact ⟨⟨by decide, by decide⟩, by decide, fun _ _ => ⟨show (0 : Int) ≤ 0 by decide, show (0 : Int) ≤ 999 by decide⟩⟩
  · unfold tP tOk
    rw [i0_z (q := b + 21 + 6 * t) (by omega), i0_z (q := b + 21 + 6 * t + 1) (by omega), i0_z (q := b + 21 + 6 * t + 2) (by omega)]
    exact ⟨⟨by decide, by decide⟩, ⟨by decide, by decide⟩, fun _ _ => ⟨show (0 : Int) ≤ 0 by decide, show (0 : Int) ≤ 1295999 by decide⟩, fun _ _ => ⟨show (0 : Int) ≤ 0 by decide, show (0 : Int) ≤ 200000 by decide⟩⟩
theorem i0_S {k : Nat} (h : 3 ≤ k) : II0 232 k = 0 := i0_3 h
theorem li_0 : LI II0 := by
  have a3 : II0 232 3 = 0 := i0_3 (by decide)
  have a4 : II0 232 4 = 0 := i0_3 (by decide)
  have a5 : II0 232 5 = 0 := i0_3 (by decide)
  have e231 : II0 231 = fun _ => 0 := i0_z (by decide)
  have e228 : II0 228 = fun _ => 0 := i0_z (by decide)
  have e229 : II0 229 = fun _ => 0 := i0_z (by decide)
  have e230 : II0 230 = fun _ => 0 := i0_z (by decide)
  have e234 : II0 234 = fun _ => 0 := i0_z (by decide)
  have e46 : II0 46 = fun _ => 0 := i0_z (by decide)
  have e1 : II0 1 = fun _ => 0 := i0_z (by decide)
  have hok : Oks (II0 232) := ⟨by decide +kernel, by rw [a3, a4, a5]; decide, fun i hi => by rw [a3] at hi; omega, fun j hj => by rw [a4] at hj; omega, fun t ht => by rw [a5] at ht; omega⟩
  have hrel : Rel 1 II0 (II0 232) := ⟨fun k hk => by rcases (show k = 0 ∨ k = 1 ∨ k = 2 by omega) with h | h | h <;> subst h <;> decide +kernel, by rw [a3, a4, a5, e1]; exact ⟨rfl, rfl, rfl⟩, fun i hi => by rw [a3] at hi; omega, fun j hj => by rw [a4] at hj; omega, fun t ht => by rw [a5] at ht; omega⟩
  have hjd : Jdg 1 II0 (II0 232) := ⟨fun i hi => by rw [a3] at hi; omega, fun j hj => by rw [a4] at hj; omega, fun t ht => by rw [a5] at ht; omega⟩
  have hring : Ring II0 (fun _ _ => 0) (II0 231 2).toNat := by
    rw [e231]
    exact ⟨⟨by rw [e46]; decide, by rw [e46]; exact ⟨rfl, by decide⟩⟩, fun q hq => i0_raw (by omega), fun d hd => absurd hd (Nat.not_lt_zero _)⟩
  refine ⟨⟨fun _ _ => 0, ⟨⟨⟨hrel, hok, i0_raw (Or.inl rfl)⟩, hring⟩, hjd⟩, fun d k hd => ?_⟩, fun k hk => i0_S (by omega), ⟨by rw [e231]; decide, by rw [e231]⟩, ⟨by rw [e228, e231]; exact ⟨rfl, by decide, by decide⟩, by rw [e230, e234], fun k hk => ?_, fun j _ => by rw [e229]; exact ⟨show (0 : Int) ≤ 0 by decide, show (0 : Int) ≤ 9999999 by decide⟩, by rw [e228]; decide⟩⟩
  · rw [e231] at hd; exact absurd hd (Nat.not_lt_zero _)
  · rw [e231] at hk; exact absurd hk (by simp)
theorem and_31 (x : Int32) : ∃ y : Int, (0 ≤ y ∧ y ≤ 31) ∧ x &&& Int32.ofInt 31 = Int32.ofInt y := by
  refine ⟨(x &&& Int32.ofInt 31).toInt, ?_, (Int32.ofInt_toInt _).symm⟩
  have h1 : (x &&& Int32.ofInt 31).toBitVec.toNat ≤ 31 := by
    rw [Int32.toBitVec_and, BitVec.toNat_and]
    exact Nat.and_le_right
  have h2 : (x &&& Int32.ofInt 31).toInt = ((x &&& Int32.ofInt 31).toBitVec.toNat : Int) := BitVec.toInt_eq_toNat_of_lt (by omega)
  omega
set_option maxHeartbeats 4000000 in
set_option maxRecDepth 100000 in
theorem law_loop {l : Launch} (hl0 : l.stackTraces = false) {G : GG} {p : Program} {e : Env} {s : State} {m : MethodId} {args : Array Value} {below : List Frame} {meth : Method} {c : Code} {Q : State → Prop} {nm9 : String} (C : gC G p l s m args meth c cL_law 7 RL (some .boolean) nm9) {b L : Nat} {xs : Nat → Int32} (hX : va_X b L xs s s.heap) (hb : b < G.1) (hL : L ≤ 3584) (hQ : ∀ (z : Nat) (I J : GI) (k1 k2 : Nat) (lo : List (Option GV)), k1 ≤ 601024 → k2 ≤ 7293034 → GW G p l e room_1 s m args below meth c 7 z N0 SH RR I J k1 k2 Q 1972 lo [vI 1]) : ∀ (n i q z : Nat) (I J : GI) (k1 k2 : Nat), L + 7 < n + i → i = 7 * q → k1 ≤ 237 + q → k2 ≤ 3622 + 6 * q → LI I → i ≤ L + 7 → GW G p l e room_1 s m args below meth c 7 z N0 SH RR I J k1 k2 Q 23 [some (vA b), some (vR 0), some (vR 231), some (vR 236), some (vI (i : Int)), none, none] [] := by
  intro n
  induction n with
  | zero => intro i q z I J k1 k2 h; omega
  | succ n ih0 =>
    intro i q z I J k1 k2 hn hq hk1 hk2 hLI hiL
    have ih := fun (i q z : Nat) (I J : GI) (k1 k2 : Nat) => ih0 i q z I J k1 k2
    refine gw_iload C dL_law_23 rfl ?_
    refine gw_aloadA_n C 0 dL_law_25 rfl rfl ?_
    refine gw_lenX C hX hb (by omega) dL_law_26 ?_
    refine gw_bipush C dL_law_27 rfl ?_
    refine gw_isub C dL_law_29 ?_
    refine gw_icmp_gt C (tgt := 1971) dL_law_30 (by decide) (by omega) (by omega) (fun h_30 => ?_) (fun h_30 => ?_)
    · skip
      refine gw_iconst C dL_law_1971 ?_
      exact hQ _ _ _ _ _ _ (by omega) (by omega)
    · skip
      refine gw_aloadA_n C 0 dL_law_33 rfl rfl ?_
      refine gw_iload C dL_law_34 rfl ?_
      obtain ⟨x0, hx0, ex0⟩ := xi_ex (xs i)
      refine gw_ialdX C hX hb (x := x0) i (by omega) (by omega) (by omega) ex0 dL_law_36 ?_
      refine gw_bipush C dL_law_37 rfl ?_
      obtain ⟨y0, hy0, ey0⟩ := and_31 (xs i)
      rw [ex0] at ey0
      refine gw_iand31 C y0 dL_law_39 ey0 ?_
      have hback : ∀ (z2 : Nat) (I2 J2 : GI) (a1 a2 : Nat), a1 ≤ k1 + 1 → a2 ≤ k2 + 6 → LI I2 → GW G p l e room_1 s m args below meth c 7 z2 N0 SH RR I2 J2 a1 a2 Q 1965 [some (vA b), some (vR 0), some (vR 231), some (vR 236), some (vI (i : Int)), none, none] [] := by
        intro z2 I2 J2 a1 a2 ha1 ha2 hLI2
        refine gw_iinc C (lo1 := [some (vA b), some (vR 0), some (vR 231), some (vR 236), some (vI ((i : Int) + 7)), none, none]) dL_law_1965 rfl (by decide) rfl ?_
        refine gw_goto C (tgt := 23) dL_law_1968 (by decide) ?_
        exact gw_weak (lo' := [some (vA b), some (vR 0), some (vR 231), some (vR 236), some (vI ((i + 7 : Nat) : Int)), none, none]) ⟨rfl, rfl, rfl, rfl, congrArg (fun q => some (vI q)) (by omega), trivial⟩ (ih (i + 7) (q + 1) z2 I2 J2 a1 a2 (by omega) (by omega) (by omega) (by omega) hLI2 (by omega))
      rcases (show y0 = 0 ∨ y0 = 1 ∨ y0 = 2 ∨ y0 = 3 ∨ y0 = 4 ∨ y0 = 5 ∨ y0 = 6 ∨ y0 = 7 ∨ y0 = 8 ∨ y0 = 9 ∨ y0 = 10 ∨ y0 = 11 ∨ y0 = 12 ∨ y0 = 13 ∨ y0 = 14 ∨ y0 = 15 ∨ y0 = 16 ∨ y0 = 17 ∨ y0 = 18 ∨ y0 = 19 ∨ y0 = 20 ∨ y0 = 21 ∨ y0 = 22 ∨ y0 = 23 ∨ y0 = 24 ∨ y0 = 25 ∨ y0 = 26 ∨ y0 = 27 ∨ y0 = 28 ∨ (y0 < 0 ∨ 28 < y0) from by omega) with h_40 | h_40 | h_40 | h_40 | h_40 | h_40 | h_40 | h_40 | h_40 | h_40 | h_40 | h_40 | h_40 | h_40 | h_40 | h_40 | h_40 | h_40 | h_40 | h_40 | h_40 | h_40 | h_40 | h_40 | h_40 | h_40 | h_40 | h_40 | h_40 | h_40
      · skip
        refine gw_tableIn C (tgt := 172) (off := 132) dL_law_40 ⟨by omega, by omega⟩ (by omega) (by omega) (by rw [h_40]; rfl) (by decide) ?_
        exact law_set hl0 C hX hb hL (by omega) (by omega) (by omega) hLI hback
      · skip
        refine gw_tableIn C (tgt := 240) (off := 200) dL_law_40 ⟨by omega, by omega⟩ (by omega) (by omega) (by rw [h_40]; rfl) (by decide) ?_
        exact law_info hl0 C hX hb hL (by omega) (by omega) (by omega) hLI hback
      · skip
        refine gw_tableIn C (tgt := 296) (off := 256) dL_law_40 ⟨by omega, by omega⟩ (by omega) (by omega) (by rw [h_40]; rfl) (by decide) ?_
        exact law_hang hl0 C hX hb hL (by omega) (by omega) (by omega) hLI hback
      · skip
        refine gw_tableIn C (tgt := 364) (off := 324) dL_law_40 ⟨by omega, by omega⟩ (by omega) (by omega) (by rw [h_40]; rfl) (by decide) ?_
        exact law_swing hl0 C hX hb hL (by omega) (by omega) (by omega) hLI hback
      · skip
        refine gw_tableIn C (tgt := 432) (off := 392) dL_law_40 ⟨by omega, by omega⟩ (by omega) (by omega) (by rw [h_40]; rfl) (by decide) ?_
        exact law_still hl0 C hX hb hL (by omega) (by omega) (by omega) hLI hback
      · skip
        refine gw_tableIn C (tgt := 488) (off := 448) dL_law_40 ⟨by omega, by omega⟩ (by omega) (by omega) (by rw [h_40]; rfl) (by decide) ?_
        exact law_wire hl0 C hX hb hL (by omega) (by omega) (by omega) hLI hback
      · skip
        refine gw_tableIn C (tgt := 556) (off := 516) dL_law_40 ⟨by omega, by omega⟩ (by omega) (by omega) (by rw [h_40]; rfl) (by decide) ?_
        exact law_join hl0 C hX hb hL (by omega) (by omega) (by omega) hLI hback
      · skip
        refine gw_tableIn C (tgt := 674) (off := 634) dL_law_40 ⟨by omega, by omega⟩ (by omega) (by omega) (by rw [h_40]; rfl) (by decide) ?_
        exact law_measure hl0 C hX hb hL (by omega) (by omega) (by omega) hLI hback
      · skip
        refine gw_tableIn C (tgt := 742) (off := 702) dL_law_40 ⟨by omega, by omega⟩ (by omega) (by omega) (by rw [h_40]; rfl) (by decide) ?_
        exact law_joinOf hl0 C hX hb hL (by omega) (by omega) (by omega) hLI hback
      · skip
        refine gw_tableIn C (tgt := 810) (off := 770) dL_law_40 ⟨by omega, by omega⟩ (by omega) (by omega) (by rw [h_40]; rfl) (by decide) ?_
        exact law_begin hl0 C hX hb hL (by omega) (by omega) (by omega) hLI hback
      · skip
        refine gw_tableIn C (tgt := 866) (off := 826) dL_law_40 ⟨by omega, by omega⟩ (by omega) (by omega) (by rw [h_40]; rfl) (by decide) ?_
        exact law_addLeg hl0 C hX hb hL (by omega) (by omega) (by omega) hLI hback
      · skip
        refine gw_tableIn C (tgt := 946) (off := 906) dL_law_40 ⟨by omega, by omega⟩ (by omega) (by omega) (by rw [h_40]; rfl) (by decide) ?_
        exact law_dropLeg hl0 C hX hb hL (by omega) (by omega) (by omega) hLI hback
      · skip
        refine gw_tableIn C (tgt := 1002) (off := 962) dL_law_40 ⟨by omega, by omega⟩ (by omega) (by omega) (by rw [h_40]; rfl) (by decide) ?_
        exact law_close hl0 C hX hb hL (by omega) (by omega) (by omega) hLI hback
      · skip
        refine gw_tableIn C (tgt := 1082) (off := 1042) dL_law_40 ⟨by omega, by omega⟩ (by omega) (by omega) (by rw [h_40]; rfl) (by decide) ?_
        exact law_adjust hl0 C hX hb hL (by omega) (by omega) (by omega) hLI hback
      · skip
        refine gw_tableIn C (tgt := 1138) (off := 1098) dL_law_40 ⟨by omega, by omega⟩ (by omega) (by omega) (by rw [h_40]; rfl) (by decide) ?_
        exact law_traverse hl0 C hX hb hL (by omega) (by omega) (by omega) hLI hback
      · skip
        refine gw_tableIn C (tgt := 1206) (off := 1166) dL_law_40 ⟨by omega, by omega⟩ (by omega) (by omega) (by rw [h_40]; rfl) (by decide) ?_
        exact law_leg hl0 C hX hb hL (by omega) (by omega) (by omega) hLI hback
      · skip
        refine gw_tableIn C (tgt := 1286) (off := 1246) dL_law_40 ⟨by omega, by omega⟩ (by omega) (by omega) (by rw [h_40]; rfl) (by decide) ?_
        exact law_trouble hl0 C hX hb hL (by omega) (by omega) (by omega) hLI hback
      · skip
        refine gw_tableIn C (tgt := 1354) (off := 1314) dL_law_40 ⟨by omega, by omega⟩ (by omega) (by omega) (by rw [h_40]; rfl) (by decide) ?_
        exact law_apart hl0 C hX hb hL (by omega) (by omega) (by omega) hLI hback
      · skip
        refine gw_tableIn C (tgt := 1422) (off := 1382) dL_law_40 ⟨by omega, by omega⟩ (by omega) (by omega) (by rw [h_40]; rfl) (by decide) ?_
        exact law_meets hl0 C hX hb hL (by omega) (by omega) (by omega) hLI hback
      · skip
        refine gw_tableIn C (tgt := 1497) (off := 1457) dL_law_40 ⟨by omega, by omega⟩ (by omega) (by omega) (by rw [h_40]; rfl) (by decide) ?_
        exact law_sine hl0 C hX hb hL (by omega) (by omega) (by omega) hLI hback
      · skip
        refine gw_tableIn C (tgt := 1553) (off := 1513) dL_law_40 ⟨by omega, by omega⟩ (by omega) (by omega) (by rw [h_40]; rfl) (by decide) ?_
        exact law_suspect hl0 C hX hb hL (by omega) (by omega) (by omega) hLI hback
      · skip
        refine gw_tableIn C (tgt := 1609) (off := 1569) dL_law_40 ⟨by omega, by omega⟩ (by omega) (by omega) (by rw [h_40]; rfl) (by decide) ?_
        exact law_angleFor hl0 C hX hb hL (by omega) (by omega) (by omega) hLI hback
      · skip
        refine gw_tableIn C (tgt := 1689) (off := 1649) dL_law_40 ⟨by omega, by omega⟩ (by omega) (by omega) (by rw [h_40]; rfl) (by decide) ?_
        exact law_reachBy hl0 C hX hb hL (by omega) (by omega) (by omega) hLI hback
      · skip
        refine gw_tableIn C (tgt := 1781) (off := 1741) dL_law_40 ⟨by omega, by omega⟩ (by omega) (by omega) (by rw [h_40]; rfl) (by decide) ?_
        exact law_type hl0 C hX hb hL (by omega) (by omega) (by omega) hLI hback
      · skip
        refine gw_tableIn C (tgt := 1837) (off := 1797) dL_law_40 ⟨by omega, by omega⟩ (by omega) (by omega) (by rw [h_40]; rfl) (by decide) ?_
        exact law_clearText hl0 C hX hb hL (by omega) (by omega) (by omega) hLI hback
      · skip
        refine gw_tableIn C (tgt := 1850) (off := 1810) dL_law_40 ⟨by omega, by omega⟩ (by omega) (by omega) (by rw [h_40]; rfl) (by decide) ?_
        exact law_fault hl0 C hX hb hL (by omega) (by omega) (by omega) hLI hback
      · skip
        refine gw_tableIn C (tgt := 1863) (off := 1823) dL_law_40 ⟨by omega, by omega⟩ (by omega) (by omega) (by rw [h_40]; rfl) (by decide) ?_
        exact law_run hl0 C hX hb hL (by omega) (by omega) (by omega) hLI hback
      · skip
        refine gw_tableIn C (tgt := 1907) (off := 1867) dL_law_40 ⟨by omega, by omega⟩ (by omega) (by omega) (by rw [h_40]; rfl) (by decide) ?_
        exact law_undo hl0 C hX hb hL (by omega) (by omega) (by omega) hLI hback
      · skip
        refine gw_tableIn C (tgt := 1951) (off := 1911) dL_law_40 ⟨by omega, by omega⟩ (by omega) (by omega) (by rw [h_40]; rfl) (by decide) ?_
        exact law_checksum hl0 C hX hb hL (by omega) (by omega) (by omega) hLI hback
      · skip
        refine gw_tableOut C (tgt := 1965) dL_law_40 ⟨by omega, by omega⟩ h_40 (by decide) ?_
        exact hback _ _ _ _ _ (by omega) (by omega) hLI
set_option maxHeartbeats 4000000 in
set_option maxRecDepth 100000 in
theorem law_all {l : Launch} (hl0 : l.stackTraces = false) {G : GG} {p : Program} {e : Env} {s : State} {m : MethodId} {args : Array Value} {below : List Frame} {meth : Method} {c : Code} {Q : State → Prop} {nm9 : String} (C : gC G p l s m args meth c cL_law 7 RL (some .boolean) nm9) {b L : Nat} {xs : Nat → Int32} (hX : va_X b L xs s s.heap) (hb : b < G.1) (hL : L ≤ 3584) (hQ : ∀ (z : Nat) (I J : GI) (k1 k2 : Nat) (lo : List (Option GV)), k1 ≤ 601024 → k2 ≤ 7293034 → GW G p l e room_1 s m args below meth c 7 z N0 SH RR I J k1 k2 Q 1972 lo [vI 1]) : GW G p l e room_1 s m args below meth c 7 0 0 z0S z0R z0I z0I 0 0 Q 0 [some (vA b), none, none, none, none, none, none] [] := by
  have fr0 : gFr 0 z0R z0I z0I := fun _ _ _ => ⟨rfl, rfl, rfl⟩
  refine gw_new C (ci := 6) (Cn := RX7) (T0 := TX7) (N := 3) tyX7 tyX7_ok (by intro j hj; match j, hj with | 0, _ => rfl | 1, _ => rfl | 2, _ => rfl) fX7 rfl rfl kL_8 mX7 nX7 dL_law_0 rfl fr0 (Nat.le_of_ble_eq_true rfl) (Nat.le_of_ble_eq_true rfl) ?_
  have fr1 : gFr 1 z0R z0I z0I := fr0.mono (by omega)
  refine gw_dupR C dL_law_3 ?_
  refine gw_callI C (as := []) (st := [vR 0]) (c_X7_init hl0 G rfl fr1 (by rw [upS_eq]) (by omega)) dL_law_4 kL_100 rfl qX7_init hdX7_init ⟨(Nat.le_of_ble_eq_true rfl), (Nat.le_of_ble_eq_true rfl)⟩ ⟨(Nat.le_of_ble_eq_true rfl), (Nat.le_of_ble_eq_true rfl)⟩ (Nat.le_of_ble_eq_true rfl) rfl ?_
  rintro z1 n1 sh1 R1 I1 J1 ⟨e1, e2, e3, e4, e5, e6⟩
  subst z1 n1 sh1 R1 I1 J1
  show GW G p l e room_1 s m args below meth c 7 231 231 (plumbS (upS z0S 0 (.inl 6)) 1) (plumbR z0R 0 1) (plumbI z0I 1) z0I 231 2448 Q 7 [some (vA b), none, none, none, none, none, none] [vR 0]
  have fr2 : gFr 231 (plumbR z0R 0 1) (plumbI z0I 1) z0I := c_fr_X7_init fr1 (by omega)
  refine gw_astore_n C (lo1 := [some (vA b), some (vR 0), none, none, none, none, none]) 1 dL_law_7 rfl (by decide) rfl ?_
  refine gw_new C (ci := 7) (Cn := RX8) (T0 := TX8) (N := 10) tyX8 tyX8_ok (by intro j hj; match j, hj with | 0, _ => rfl | 1, _ => rfl | 2, _ => rfl | 3, _ => rfl | 4, _ => rfl | 5, _ => rfl | 6, _ => rfl | 7, _ => rfl | 8, _ => rfl | 9, _ => rfl) fX8 rfl rfl kL_101 mX8 nX8 dL_law_8 rfl fr2 (Nat.le_of_ble_eq_true rfl) (Nat.le_of_ble_eq_true rfl) ?_
  have fr3 : gFr 232 (plumbR z0R 0 1) (plumbI z0I 1) z0I := fr2.mono (by omega)
  refine gw_dupR C dL_law_11 ?_
  refine gw_callI C (as := []) (st := [vR 231]) (c_X8_init hl0 G rfl fr3 (by rw [upS_eq]) (by omega)) dL_law_12 kL_103 rfl qX8_init hdX8_init ⟨(Nat.le_of_ble_eq_true rfl), (Nat.le_of_ble_eq_true rfl)⟩ ⟨(Nat.le_of_ble_eq_true rfl), (Nat.le_of_ble_eq_true rfl)⟩ (Nat.le_of_ble_eq_true rfl) rfl ?_
  rintro z1 n1 sh1 R1 I1 J1 ⟨e1, e2, e3, e4, e5, e6⟩
  subst z1 n1 sh1 R1 I1 J1
  show GW G p l e room_1 s m args below meth c 7 236 236 (modelS (upS (plumbS (upS z0S 0 (.inl 6)) 1) 231 (.inl 7)) 232) RR II0 z0I 236 3621 Q 15 [some (vA b), some (vR 0), none, none, none, none, none] [vR 231]
  have fr4 : gFr 236 RR II0 z0I := c_fr_X8_init fr3 (by omega)
  refine gw_astore_n C (lo1 := [some (vA b), some (vR 0), some (vR 231), none, none, none, none]) 2 dL_law_15 rfl (by decide) rfl ?_
  refine gw_iconst C dL_law_16 ?_
  refine gw_newarr C (len := 1) (t := 1) (ty := .long) rfl a_long rfl rfl (fun _ => rfl) dL_law_17 (by decide) (by decide) rfl fr4 (Nat.le_of_ble_eq_true rfl) (Nat.le_of_ble_eq_true rfl) ?_
  refine gw_astore_n C (lo1 := [some (vA b), some (vR 0), some (vR 231), some (vR 236), none, none, none]) 3 dL_law_19 rfl (by decide) rfl ?_
  refine gw_iconst C dL_law_20 ?_
  refine gw_istore C (lo1 := [some (vA b), some (vR 0), some (vR 231), some (vR 236), some (vI 0), none, none]) dL_law_21 (by decide) rfl ?_
  exact law_loop hl0 C hX hb hL hQ (L + 8) 0 0 237 II0 z0I 237 3622 (by omega) rfl (Nat.le_refl _) (Nat.le_refl _) li_0 (by omega)
