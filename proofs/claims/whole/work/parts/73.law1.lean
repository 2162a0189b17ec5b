def lgQ (k r : Int) (I J : GI) (P : GI → Prop) : Option GV → Nat → GI → GI → Prop := fun v _ I' J' => v = some (vI k) ∧ (k = 0 → P I' ∧ J' = up J 236 0 r) ∧ (k ≠ 0 → I' = I ∧ J' = J)
theorem lg_0 {k r : Int} {I J I' : GI} {P : GI → Prop} {z : Nat} (h : k = 0) (hh : P I') : lgQ k r I J P (some (vI 0)) z I' (up J 236 0 r) := ⟨by rw [h], fun _ => ⟨hh, rfl⟩, fun q => absurd h q⟩
theorem lg_1 {k r c : Int} {I J : GI} {P : GI → Prop} {z : Nat} (h : k = c) (hc : c ≠ 0) : lgQ k r I J P (some (vI c)) z I J := ⟨by rw [h], fun q => absurd (h.symm.trans q) hc, fun _ => ⟨rfl, rfl⟩⟩
set_option maxHeartbeats 4000000 in
set_option maxRecDepth 100000 in
theorem c_L_type {l : Launch} (hl0 : l.stackTraces = false) (G : GG) (I J : GI) {z : Nat} (hn : 0 ≤ I 228 0 ∧ I 228 0 ≤ 90) (x1 : Int) (hx1 : inI x1) : GM l yL_type (.codeWith yL_type cL_type 4 (some .int) [(0, 9, 12, 13), (0, 9, 15, 22)]) 7 111 1 6 G N0 SH RR [vR 0, vI x1, vR 236] z I J (lgQ (kType (I 228 0) x1) (i32 (I 228 0 + 1)) I J (fun I9 => I9 = up (up I 230 (I 228 0).toNat x1) 228 0 (I 228 0 + 1))) gNo := by
  refine gm_ofH (lo0 := [some (vR 0), some (vI x1), some (vR 236), none]) hl0 (by decide) rfl (Nat.le_of_ble_eq_true rfl) ?_
  intro p e s m args below meth c C ht hgi
  have C : gC G p l s m args meth c cL_type 4 RL (some .int) "type" := C
  refine gw_aload_n C 2 dL_type_0 rfl rfl ?_
  refine gw_iconst C dL_type_1 ?_
  refine gw_aload_n C 0 dL_type_2 rfl rfl ?_
  refine gw_iload_n C 1 dL_type_3 rfl rfl ?_
  refine gw_callV C (as := [vI x1]) (st := [vI 0, vR 236]) (ci := 6) (T0 := TX7) (N := 3) (c_X7_type hl0 G I J hn x1 hx1) dL_type_4 kL_90 qX7_type hdX7_type ⟨Nat.le_of_ble_eq_true rfl, Nat.le_of_ble_eq_true rfl⟩ ⟨Nat.le_of_ble_eq_true rfl, Nat.le_of_ble_eq_true rfl⟩ (Nat.le_of_ble_eq_true rfl) rfl xs_0 xn_0 rfl ?_ ?_
  · intro E9 z9 I9 J9 hx9
    obtain ⟨hx9, eI, eJ⟩ := hx9
    rw [eI, eJ]
    rcases hx9 with ⟨hk, e9⟩ | ⟨hk, e9⟩ | ⟨hk, e9⟩
    · skip
      rw [e9]
      refine gwx_catch C (name := "java/lang/IllegalArgumentException") [] (⟨0, 9, 12, 13⟩ : ExceptionTableEntry) [(⟨0, 9, 15, 22⟩ : ExceptionTableEntry)] ht (fun y hy => absurd hy List.not_mem_nil) (by decide) (by decide) kL_13 (List.mem_of_getElem? (i := 0) rfl) (fun q9 => ?_)
      refine gw_astoreA_n C (lo1 := [some (vR 0), some (vI x1), some (vR 236), some (vA q9)]) 3 dL_type_12 rfl (by decide) rfl ?_
      refine gw_iconst C dL_type_13 ?_
      exact gw_iret C (Nat.le_of_ble_eq_true rfl) (Nat.le_of_ble_eq_true rfl) dL_type_14 (lg_1 (hk) (by decide))
    · skip
      rw [e9]
      refine gwx_catch C (name := "java/lang/IllegalStateException") [(⟨0, 9, 12, 13⟩ : ExceptionTableEntry)] (⟨0, 9, 15, 22⟩ : ExceptionTableEntry) [] ht (List.forall_mem_cons.mpr ⟨Or.inr ⟨by decide, "java/lang/IllegalArgumentException", kL_13, List.mem_of_getElem? (i := 2) rfl⟩, fun _ h => absurd h List.not_mem_nil⟩) (by decide) (by decide) kL_22 (List.mem_of_getElem? (i := 1) rfl) (fun q9 => ?_)
      refine gw_astoreA_n C (lo1 := [some (vR 0), some (vI x1), some (vR 236), some (vA q9)]) 3 dL_type_15 rfl (by decide) rfl ?_
      refine gw_iconst C dL_type_16 ?_
      exact gw_iret C (Nat.le_of_ble_eq_true rfl) (Nat.le_of_ble_eq_true rfl) dL_type_17 (lg_1 (hk) (by decide))
    · skip
      exact absurd hk (by unfold kType; (repeat' split) <;> decide)
  · intro v9 z9 I9 J9 hv9
    obtain ⟨⟨hk0, ev⟩, hm, eJ⟩ := hv9
    rw [ev, eJ]
    refine gw_norm ?_
    show GW G p l e ({ frames := 7, cells := 1, slots := 6, locals := 111 } : Room) s m args below meth c 4 z9 N0 SH RR I9 J 1 6 (vx_MQ below (GQ G N0 SH RR (lgQ (kType (I 228 0) x1) (i32 (I 228 0 + 1)) I J (fun I9 => I9 = up (up I 230 (I 228 0).toNat x1) 228 0 (I 228 0 + 1)))) (GX G N0 SH RR gNo) args s 1 6 (ge G)) 7 [some (vR 0), some (vI x1), some (vR 236), none] [vI (i32 (I 228 0 + 1)), vI 0, vR 236]
    refine gw_i2l C dL_type_7 (i32_in _) ?_
    refine gw_last C 0 dL_type_8 xs_236 xn_236 (by omega) (by omega) (by decide) ?_
    refine gw_goto C (tgt := 18) dL_type_9 (by decide) ?_
    refine gw_iconst C dL_type_18 ?_
    exact gw_iret C (Nat.le_of_ble_eq_true rfl) (Nat.le_of_ble_eq_true rfl) dL_type_19 (lg_0 hk0 hm)
set_option maxHeartbeats 4000000 in
set_option maxRecDepth 100000 in
theorem c_L_run {l : Launch} (hl0 : l.stackTraces = false) (G : GG) (I J : GI) {z : Nat} {S : Nat → Int} {D9 : Nat → Nat → Int} {c9 : Nat} (hCI : CI I S D9 c9) (hn : 0 ≤ I 228 0 ∧ I 228 0 ≤ 90) (hT : ∀ k : Nat, (k : Int) < I 228 0 → 32 ≤ I 230 k ∧ I 230 k ≤ 126) (hb9 : ∀ j, j < 3 → 0 ≤ I 229 j ∧ I 229 j ≤ 9999999) (ha9 : 0 ≤ I 228 3 ∧ I 228 3 ≤ 3) : GM l yL_run (.codeWith yL_run cL_run 3 (some .int) [(0, 8, 11, 13)]) 7 163 1 6 G N0 SH RR [vR 0, vR 236] z I J (lgQ (kRun (I 230) (I 228 0).toNat) (i32 ((crF (I 230) (I 228 0).toNat 0 (I 228 1) (I 228 3).toNat (I 229) S 0).2)) I J (fun I9 => CI I9 (crF (I 230) (I 228 0).toNat 0 (I 228 1) (I 228 3).toNat (I 229) S 0).1 (psh S D9) (cN c9) ∧ scR I I9)) gNo := by
  refine gm_ofH (lo0 := [some (vR 0), some (vR 236), none]) hl0 (by decide) rfl (Nat.le_of_ble_eq_true rfl) ?_
  intro p e s m args below meth c C ht hgi
  have C : gC G p l s m args meth c cL_run 3 RL (some .int) "run" := C
  refine gw_aload_n C 1 dL_run_0 rfl rfl ?_
  refine gw_iconst C dL_run_1 ?_
  refine gw_aload_n C 0 dL_run_2 rfl rfl ?_
  refine gw_callV C (as := []) (st := [vI 0, vR 236]) (ci := 6) (T0 := TX7) (N := 3) (c_X7_run hl0 G I J hCI hn hT hb9 ha9  ) dL_run_3 kL_93 qX7_run hdX7_run ⟨Nat.le_of_ble_eq_true rfl, Nat.le_of_ble_eq_true rfl⟩ ⟨Nat.le_of_ble_eq_true rfl, Nat.le_of_ble_eq_true rfl⟩ (Nat.le_of_ble_eq_true rfl) rfl xs_0 xn_0 rfl ?_ ?_
  · intro E9 z9 I9 J9 hx9
    obtain ⟨hx9, eI, eJ⟩ := hx9
    rw [eI, eJ]
    rcases hx9 with ⟨hk, e9⟩ | ⟨hk, e9⟩ | ⟨hk, e9⟩
    · skip
      rw [e9]
      refine gwx_catch C (name := "java/lang/IllegalArgumentException") [] (⟨0, 8, 11, 13⟩ : ExceptionTableEntry) [] ht (fun y hy => absurd hy List.not_mem_nil) (by decide) (by decide) kL_13 (List.mem_of_getElem? (i := 0) rfl) (fun q9 => ?_)
      refine gw_astoreA_n C (lo1 := [some (vR 0), some (vR 236), some (vA q9)]) 2 dL_run_11 rfl (by decide) rfl ?_
      refine gw_iconst C dL_run_12 ?_
      exact gw_iret C (Nat.le_of_ble_eq_true rfl) (Nat.le_of_ble_eq_true rfl) dL_run_13 (lg_1 (hk) (by decide))
    · skip
      exact absurd hk (by unfold kRun; (repeat' split) <;> decide)
    · skip
      exact absurd hk (by unfold kRun; (repeat' split) <;> decide)
  · intro v9 z9 I9 J9 hv9
    obtain ⟨⟨hk0, ev⟩, hm, eJ⟩ := hv9
    rw [ev, eJ]
    refine gw_norm ?_
    show GW G p l e ({ frames := 7, cells := 1, slots := 6, locals := 163 } : Room) s m args below meth c 3 z9 N0 SH RR I9 J 1 6 (vx_MQ below (GQ G N0 SH RR (lgQ (kRun (I 230) (I 228 0).toNat) (i32 ((crF (I 230) (I 228 0).toNat 0 (I 228 1) (I 228 3).toNat (I 229) S 0).2)) I J (fun I9 => CI I9 (crF (I 230) (I 228 0).toNat 0 (I 228 1) (I 228 3).toNat (I 229) S 0).1 (psh S D9) (cN c9) ∧ scR I I9))) (GX G N0 SH RR gNo) args s 1 6 (ge G)) 6 [some (vR 0), some (vR 236), none] [vI (i32 ((crF (I 230) (I 228 0).toNat 0 (I 228 1) (I 228 3).toNat (I 229) S 0).2)), vI 0, vR 236]
    refine gw_i2l C dL_run_6 (i32_in _) ?_
    refine gw_last C 0 dL_run_7 xs_236 xn_236 (by omega) (by omega) (by decide) ?_
    refine gw_goto C (tgt := 14) dL_run_8 (by decide) ?_
    refine gw_iconst C dL_run_14 ?_
    exact gw_iret C (Nat.le_of_ble_eq_true rfl) (Nat.le_of_ble_eq_true rfl) dL_run_15 (lg_0 hk0 hm)
theorem z_set {S : Nat → Int} (ho : Oks S) {x1 x2 : Int} (h : kSet x1 x2 = 0) {q : Nat} (hq : 214 ≤ q) : oSet S x1.toNat x2 q = S q := by
  have o3 := ho.2.1
  unfold kSet at h
  (repeat' split at h) <;> first | exact absurd h (by decide) | skip
  all_goals (unfold oSet; (repeat rw [us_ne (by omega)]))
theorem z_hang {S : Nat → Int} (ho : Oks S) {x1 x2 : Int} (h : kHang S x1 x2 = 0) {q : Nat} (hq : 214 ≤ q) : oHang S (S 3).toNat x1 x2 q = S q := by
  have o3 := ho.2.1
  unfold kHang at h
  (repeat' split at h) <;> first | exact absurd h (by decide) | skip
  all_goals (unfold oHang; (repeat rw [us_ne (by omega)]))
theorem z_join {S : Nat → Int} (ho : Oks S) {x1 x2 x3 x4 x5 x6 : Int} (h : kJoin S x1 x2 x3 x4 x5 x6 = 0) {q : Nat} (hq : 214 ≤ q) : oJoin S (S 4).toNat x1 x2 x3 x4 x5 x6 q = S q := by
  have o3 := ho.2.1
  unfold kJoin at h
  (repeat' split at h) <;> first | exact absurd h (by decide) | skip
  all_goals (unfold oJoin; (repeat rw [us_ne (by omega)]))
theorem z_begin {S : Nat → Int} (ho : Oks S) {x1 : Int} (h : kBegin S x1 = 0) {q : Nat} (hq : 214 ≤ q) : oBegin S (S 5).toNat x1 q = S q := by
  have o3 := ho.2.1
  unfold kBegin at h
  (repeat' split at h) <;> first | exact absurd h (by decide) | skip
  all_goals (unfold oBegin; (repeat rw [us_ne (by omega)]))
theorem z_still {S : Nat → Int} (ho : Oks S) {x1 : Int} (h : kStill S x1 = 0) {q : Nat} (hq : 214 ≤ q) : oStill S x1.toNat q = S q := by
  have o3 := ho.2.1
  unfold kStill at h
  (repeat' split at h) <;> first | exact absurd h (by decide) | skip
  all_goals (unfold oStill; (repeat rw [us_ne (by omega)]))
theorem z_measure {S : Nat → Int} (ho : Oks S) {x1 x2 : Int} (h : kMeas S x1 x2 = 0) {q : Nat} (hq : 214 ≤ q) : oMeas S x1.toNat x2 q = S q := by
  have o3 := ho.2.1
  unfold kMeas at h
  (repeat' split at h) <;> first | exact absurd h (by decide) | skip
  all_goals (unfold oMeas; (repeat rw [us_ne (by omega)]))
theorem z_close {S : Nat → Int} (ho : Oks S) {x1 x2 x3 : Int} (h : kClose S x1 x2 x3 = 0) {q : Nat} (hq : 214 ≤ q) : oClose S x1.toNat x2 x3 q = S q := by
  have o3 := ho.2.1
  unfold kClose at h
  (repeat' split at h) <;> first | exact absurd h (by decide) | skip
  all_goals (unfold oClose; (repeat rw [us_ne (by omega)]))
theorem z_swing {S : Nat → Int} (ho : Oks S) {a b : Int} (h : rfT S a b = 0) {q : Nat} (hq : 214 ≤ q) : oSwing S a.toNat (S (8 + 12 * a.toNat)).toNat b q = S q := by
  have o3 := ho.2.1
  unfold rfT at h
  (repeat' split at h) <;> first | exact absurd h (by decide) | skip
  all_goals (have o := (ho.2.2.1 a.toNat (by omega)).1.2.2); (unfold oSwing; (repeat rw [us_ne (by omega)]))
theorem z_addLeg {S : Nat → Int} (ho : Oks S) {a b c : Int} (h : rfL S a b c = 0) {q : Nat} (hq : 214 ≤ q) : oAdd S a.toNat (S (103 + 28 * a.toNat)).toNat b c q = S q := by
  have o3 := ho.2.1
  unfold rfL at h
  (repeat' split at h) <;> first | exact absurd h (by decide) | skip
  all_goals (have o := (okT ho (t := a.toNat) (by omega)).1.2.1); (unfold oAdd; (repeat rw [us_ne (by omega)]))
theorem z_dropLeg {S : Nat → Int} (ho : Oks S) {a : Int} (h : kDrop S a = 0) {q : Nat} (hq : 214 ≤ q) : oDrop S a.toNat q = S q := by
  have o3 := ho.2.1
  unfold kDrop at h
  (repeat' split at h) <;> first | exact absurd h (by decide) | skip
  all_goals (unfold oDrop; (repeat rw [us_ne (by omega)]))
theorem z_adjust {S : Nat → Int} (ho : Oks S) {a : Int} (h : kAdj S a = 0) {q : Nat} (hq : 214 ≤ q) : oAdj S a.toNat q = S q := by
  have o3 := ho.2.1
  unfold kAdj at h
  (repeat' split at h) <;> first | exact absurd h (by decide) | skip
  exact adj_o (okT ho (t := a.toNat) (by omega)).1.2.1.2 (by omega)
theorem z_ex {S : Nat → Int} (ho : Oks S) {l a b c : Int} {q : Nat} (hq : 214 ≤ q) : exS S l a b c q = S q := by
  unfold exS
  by_cases h : rfZ S l a b c = 0
  · rw [if_pos h]
    unfold coS
    unfold rfZ at h
    by_cases e1 : l = 116
    · rw [if_pos e1] at h ⊢; exact z_swing ho h hq
    · rw [if_neg e1] at h ⊢
      by_cases e2 : l = 108
      · rw [if_pos e2] at h ⊢; exact z_addLeg ho h hq
      · rw [if_neg e2] at h ⊢
        by_cases e3 : l = 107
        · rw [if_pos e3] at h ⊢; exact z_dropLeg ho (drop_3.1 h) hq
        · rw [if_neg e3] at h ⊢; exact z_adjust ho (adj_3.1 h) hq
  · rw [if_neg h]
theorem z_cr {T : Nat → Int} {q : Nat} (hq : 214 ≤ q) : ∀ (r i : Nat) (l : Int) (a : Nat) (w S : Nat → Int) (k : Int), Oks S → (crF T r i l a w S k).1 q = S q := by
  intro r
  induction r with
  | zero => intro i l a w S k _; rfl
  | succ r ih =>
    intro i l a w S k ho
    rw [crF_s]
    by_cases h1 : T i = 44
    · rw [if_pos h1]; exact ih _ _ _ _ _ _ ho
    · rw [if_neg h1]
      by_cases h2 : 48 ≤ T i ∧ T i ≤ 57
      · rw [if_pos h2]; exact ih _ _ _ _ _ _ ho
      · rw [if_neg h2]
        by_cases h3 : T i = 59
        · rw [if_pos h3, ih _ _ _ _ _ _ (oks_ex ho)]; exact z_ex ho hq
        · rw [if_neg h3]; exact ih _ _ _ _ _ _ ho
def pstD (I : GI) (D : Nat → Nat → Int) : Prop := ∀ d k, d < (I 231 2).toNat → D d k = if k < 214 then I 233 (214 * ((I 231 2).toNat - 1 - d) + k) else 0
def scI (I : GI) : Prop := (I 228 0 = I 231 5 ∧ 0 ≤ I 231 5 ∧ I 231 5 ≤ 90) ∧ I 230 = I 234 ∧ (∀ k : Nat, (k : Int) < I 231 5 → 32 ≤ I 234 k ∧ I 234 k ≤ 126) ∧ (∀ j, j < 3 → 0 ≤ I 229 j ∧ I 229 j ≤ 9999999) ∧ 0 ≤ I 228 3 ∧ I 228 3 ≤ 3
def LI (I : GI) : Prop := (∃ D, CI I (I 232) D (I 231 2).toNat ∧ pstD I D) ∧ (∀ k, 214 ≤ k → I 232 k = 0) ∧ ((0 ≤ I 231 2 ∧ I 231 2 ≤ 4) ∧ I 231 3 = 0) ∧ scI I
theorem sc_of {I K : GI} (h : scI I) (e0 : K 228 0 = I 228 0) (e5 : K 231 5 = I 231 5) (e30 : K 230 = I 230) (e34 : K 234 = I 234) (hb : ∀ j, j < 3 → 0 ≤ K 229 j ∧ K 229 j ≤ 9999999) (ha : 0 ≤ K 228 3 ∧ K 228 3 ≤ 3) : scI K := by
  obtain ⟨a1, a2, a3, a4, a5⟩ := h
  exact ⟨by rw [e0, e5]; exact a1, by rw [e30, e34]; exact a2, by rw [e5, e34]; exact a3, hb, ha⟩
theorem li_fr {I K : GI} (h : LI I) (g : ∀ q f, q ≠ 235 → ¬ (q = 231 ∧ (f = 6 ∨ f = 7)) → K q f = I q f) : LI K := by
  obtain ⟨⟨D, hC, hD⟩, hz, ⟨hp, h30⟩, hs⟩ := h
  have g2 : K 231 2 = I 231 2 := g 231 2 (by decide) (by omega)
  have gf : ∀ q, q ≠ 235 → q ≠ 231 → K q = I q := fun q a b => funext (fun f => g q f a (by omega))
  refine ⟨⟨D, by rw [gf 232 (by decide) (by decide), g2]; exact ci_eq hC (fun q f hq => g q f (by omega) (by omega)), fun d k hd => ?_⟩, fun k hk => by rw [gf 232 (by decide) (by decide)]; exact hz k hk, ⟨by rw [g2]; exact hp, by rw [g 231 3 (by decide) (by omega)]; exact h30⟩, sc_of hs (by rw [gf 228 (by decide) (by decide)]) (g 231 5 (by decide) (by omega)) (gf 230 (by decide) (by decide)) (gf 234 (by decide) (by decide)) (by rw [gf 229 (by decide) (by decide)]; exact hs.2.2.2.1) (by rw [gf 228 (by decide) (by decide)]; exact hs.2.2.2.2)⟩
  rw [g2] at hd ⊢
  rw [gf 233 (by decide) (by decide)]
  exact hD d k hd
theorem li_psh {I I1 I2 : GI} {D : Nat → Nat → Int} {S' : Nat → Int} (hp : 0 ≤ I 231 2 ∧ I 231 2 ≤ 4) (hz : ∀ k, 214 ≤ k → I 232 k = 0) (hD : pstD I D) (e2 : I1 231 2 = I 231 2) (e32 : I1 232 = I 232) (e33 : I1 233 = I 233) (h1 : CI I1 S' (psh (I 232) D) (cN (I 231 2).toNat)) (h2 : pshR I1 I2) (h3 : I2 232 = S') (h4 : ∀ q f, q < 228 → I2 q f = I1 q f) : (∃ D', CI I2 (I2 232) D' (I2 231 2).toNat ∧ pstD I2 D') ∧ 0 ≤ I2 231 2 ∧ I2 231 2 ≤ 4 := by
  obtain ⟨p1, p2, p3⟩ := h2
  rw [e2] at p1
  have ec : (I2 231 2).toNat = cN (I 231 2).toNat := by
    rw [p1]; unfold cN
    split <;> split <;> omega
  have e5 : 0 ≤ I2 231 2 ∧ I2 231 2 ≤ 4 := by rw [p1]; split <;> omega
  refine ⟨⟨psh (I 232) D, by rw [h3, ec]; exact ci_eq h1 h4, fun d k hd => ?_⟩, e5⟩
  rcases d with _ | d
  · show I 232 k = _
    by_cases hk : k < 214
    · rw [if_pos hk, Nat.sub_zero, p2 k hk, e32]
    · rw [if_neg hk]; exact hz k (by omega)
  · show D d k = _
    have hd2 : d < (I 231 2).toNat := by
      rw [ec] at hd; unfold cN at hd
      split at hd <;> omega
    rw [hD d k hd2]
    by_cases hk : k < 214
    · rw [if_pos hk, if_pos hk, p3 d k (by omega) hk, e2, e33]
    · rw [if_neg hk, if_neg hk]
theorem li_mut {I I1 I2 : GI} {D : Nat → Nat → Int} {S' : Nat → Int} (h : LI I) (hD : pstD I D) (h1 : CI I1 S' (psh (I 232) D) (cN (I 231 2).toNat) ∧ frC I I1) (h2 : mdR I1 I2 S') (hz' : ∀ q, 214 ≤ q → S' q = I 232 q) : LI I2 := by
  obtain ⟨-, hz, ⟨hp, h30⟩, hs⟩ := h
  obtain ⟨hC1, hf⟩ := h1
  obtain ⟨⟨m1, -⟩, m2, m3⟩ := h2
  have gf : ∀ q, 228 ≤ q → I1 q = I q := fun q hq => funext (fun f => hf q f hq)
  have mf : ∀ q, q ≠ 231 → q ≠ 232 → q ≠ 233 → I2 q = I1 q := fun q a b c => funext (fun f => m3 q f b c (by omega))
  have hh := li_psh hp hz hD (by rw [gf 231 (by decide)]) (gf 232 (by decide)) (gf 233 (by decide)) hC1 (m1 (by rw [gf 231 (by decide)]; exact h30)) m2 (fun q f hq => m3 q f (by omega) (by omega) (by omega))
  refine ⟨hh.1, fun k hk => by rw [m2, hz' k hk]; exact hz k hk, ⟨hh.2, by rw [m3 231 3 (by decide) (by decide) (by omega), gf 231 (by decide)]; exact h30⟩, sc_of hs (by rw [mf 228 (by decide) (by decide) (by decide), gf 228 (by decide)]) (by rw [m3 231 5 (by decide) (by decide) (by omega), gf 231 (by decide)]) (by rw [mf 230 (by decide) (by decide) (by decide), gf 230 (by decide)]) (by rw [mf 234 (by decide) (by decide) (by decide), gf 234 (by decide)]) (by rw [mf 229 (by decide) (by decide) (by decide), gf 229 (by decide)]; exact hs.2.2.2.1) (by rw [mf 228 (by decide) (by decide) (by decide), gf 228 (by decide)]; exact hs.2.2.2.2)⟩
theorem li_run {I I1 I2 : GI} {D : Nat → Nat → Int} {S' : Nat → Int} (h : LI I) (hD : pstD I D) (h1 : CI I1 S' (psh (I 232) D) (cN (I 231 2).toNat) ∧ scR I I1) (h2 : I2 232 = S') (h3 : I2 231 6 = 0 ∧ I2 231 3 = 0) (h4 : pshR I1 I2) (m3 : ∀ q f, q ≠ 232 → q ≠ 233 → q ≠ 235 → ¬ (q = 231 ∧ (f = 2 ∨ f = 3 ∨ f = 6 ∨ f = 7)) → I2 q f = I1 q f) (hz' : ∀ q, 214 ≤ q → S' q = I 232 q) : LI I2 := by
  obtain ⟨-, hz, ⟨hp, h30⟩, hs⟩ := h
  obtain ⟨hC1, hf, f0, fb, fa⟩ := h1
  have gf : ∀ q, 230 ≤ q → I1 q = I q := fun q hq => funext (fun f => hf q f hq)
  have mf : ∀ q, q ≠ 231 → q ≠ 232 → q ≠ 233 → q ≠ 235 → I2 q = I1 q := fun q a b c d => funext (fun f => m3 q f b c d (by omega))
  have hh := li_psh hp hz hD (by rw [gf 231 (by decide)]) (gf 232 (by decide)) (gf 233 (by decide)) hC1 h4 h2 (fun q f hq => m3 q f (by omega) (by omega) (by omega) (by omega))
  refine ⟨hh.1, fun k hk => by rw [h2, hz' k hk]; exact hz k hk, ⟨hh.2, h3.2⟩, sc_of hs (by rw [mf 228 (by decide) (by decide) (by decide) (by decide), f0]) (by rw [m3 231 5 (by decide) (by decide) (by decide) (by omega), gf 231 (by decide)]) (by rw [mf 230 (by decide) (by decide) (by decide) (by decide), gf 230 (by decide)]) (by rw [mf 234 (by decide) (by decide) (by decide) (by decide), gf 234 (by decide)]) (by rw [mf 229 (by decide) (by decide) (by decide) (by decide)]; exact fb) (by rw [mf 228 (by decide) (by decide) (by decide) (by decide)]; exact fa)⟩
theorem li_undo {I I1 I2 : GI} {D : Nat → Nat → Int} (h : LI I) (hD : pstD I D) (hc : I 231 2 ≠ 0) (h1 : CI I1 (D 0) (fun d => D (d + 1)) ((I 231 2).toNat - 1) ∧ frC I I1) (h2 : (I2 231 2 = I1 231 2 - 1 ∧ I2 231 6 = 0) ∧ (∀ f, f < 214 → I2 232 f = I1 233 (214 * ((I1 231 2).toNat - 1) + f)) ∧ (∀ f, 214 ≤ f → I2 232 f = I1 232 f) ∧ ∀ q f, q ≠ 232 → ¬ (q = 231 ∧ (f = 2 ∨ f = 6)) → I2 q f = I1 q f) : LI I2 := by
  obtain ⟨-, hz, ⟨hp, h30⟩, hs⟩ := h
  obtain ⟨hC1, hf⟩ := h1
  obtain ⟨⟨u1, u2⟩, u3, u4, u5⟩ := h2
  have gf : ∀ q, 228 ≤ q → I1 q = I q := fun q hq => funext (fun f => hf q f hq)
  have mf : ∀ q, q ≠ 231 → q ≠ 232 → I2 q = I1 q := fun q a b => funext (fun f => u5 q f b (by omega))
  rw [gf 231 (by decide)] at u1 u3
  rw [gf 233 (by decide)] at u3
  rw [gf 232 (by decide)] at u4
  have e0 : I2 232 = D 0 := by
    funext f
    by_cases hk : f < 214
    · rw [u3 f hk, hD 0 f (by omega), if_pos hk, Nat.sub_zero]
    · rw [u4 f (by omega), hD 0 f (by omega), if_neg hk]; exact hz f (by omega)
  refine ⟨⟨fun d => D (d + 1), ?_, fun d k hd => ?_⟩, fun k hk => by rw [u4 k hk]; exact hz k hk, ⟨by omega, by rw [u5 231 3 (by decide) (by omega), gf 231 (by decide)]; exact h30⟩, sc_of hs (by rw [mf 228 (by decide) (by decide), gf 228 (by decide)]) (by rw [u5 231 5 (by decide) (by omega), gf 231 (by decide)]) (by rw [mf 230 (by decide) (by decide), gf 230 (by decide)]) (by rw [mf 234 (by decide) (by decide), gf 234 (by decide)]) (by rw [mf 229 (by decide) (by decide), gf 229 (by decide)]; exact hs.2.2.2.1) (by rw [mf 228 (by decide) (by decide), gf 228 (by decide)]; exact hs.2.2.2.2)⟩
  · rw [e0, show (I2 231 2).toNat = (I 231 2).toNat - 1 by omega]
    exact ci_eq hC1 (fun q f hq => u5 q f (by omega) (by omega))
  · show D (d + 1) k = _
    rw [hD (d + 1) k (by omega), mf 233 (by decide) (by decide), gf 233 (by decide), show (I2 231 2).toNat - 1 - d = (I 231 2).toNat - 1 - (d + 1) by omega]
theorem li_type {I : GI} {x : Int} (h : LI I) (hk : kType (I 231 5) x = 0) : LI (up (up (up (up (up I 230 (I 231 5).toNat x) 228 0 (I 231 5 + 1)) 231 6 0) 234 (I 231 5).toNat x) 231 5 (I 231 5 + 1)) := by
  obtain ⟨⟨D, hC, hD⟩, hz, ⟨hp, h30⟩, ⟨⟨a1, a2, a3⟩, a4, a5, a6, a7⟩⟩ := h
  have hx : (32 ≤ x ∧ x ≤ 126) ∧ I 231 5 ≤ 89 := by
    unfold kType at hk
    (repeat' split at hk) <;> first | exact absurd hk (by decide) | omega
  refine ⟨⟨D, ?_, fun d k hd => ?_⟩, fun k hk => ?_, ⟨?_, ?_⟩, ⟨?_, ?_, ?_⟩, ?_, fun k hk => ?_, fun j hj => ?_, ?_⟩
  · rw [show (up (up (up (up (up I 230 (I 231 5).toNat x) 228 0 (I 231 5 + 1)) 231 6 0) 234 (I 231 5).toNat x) 231 5 (I 231 5 + 1)) 231 2 = I 231 2 by (repeat rw [up_nn (by omega)]), show (up (up (up (up (up I 230 (I 231 5).toNat x) 228 0 (I 231 5 + 1)) 231 6 0) 234 (I 231 5).toNat x) 231 5 (I 231 5 + 1)) 232 = I 232 by (repeat rw [up_ne (by decide)])]
    exact ci_eq hC (fun q f hq => by (repeat rw [up_nn (by omega)]))
  · rw [show (up (up (up (up (up I 230 (I 231 5).toNat x) 228 0 (I 231 5 + 1)) 231 6 0) 234 (I 231 5).toNat x) 231 5 (I 231 5 + 1)) 231 2 = I 231 2 by (repeat rw [up_nn (by omega)])] at hd ⊢
    rw [show (up (up (up (up (up I 230 (I 231 5).toNat x) 228 0 (I 231 5 + 1)) 231 6 0) 234 (I 231 5).toNat x) 231 5 (I 231 5 + 1)) 233 = I 233 by (repeat rw [up_ne (by decide)])]
    exact hD d k hd
  · rw [show (up (up (up (up (up I 230 (I 231 5).toNat x) 228 0 (I 231 5 + 1)) 231 6 0) 234 (I 231 5).toNat x) 231 5 (I 231 5 + 1)) 232 = I 232 by (repeat rw [up_ne (by decide)])]; exact hz k hk
  · rw [show (up (up (up (up (up I 230 (I 231 5).toNat x) 228 0 (I 231 5 + 1)) 231 6 0) 234 (I 231 5).toNat x) 231 5 (I 231 5 + 1)) 231 2 = I 231 2 by (repeat rw [up_nn (by omega)])]; exact hp
  · rw [show (up (up (up (up (up I 230 (I 231 5).toNat x) 228 0 (I 231 5 + 1)) 231 6 0) 234 (I 231 5).toNat x) 231 5 (I 231 5 + 1)) 231 3 = I 231 3 by (repeat rw [up_nn (by omega)])]; exact h30
  · rw [up_eq, up_nn (by omega), up_nn (by omega), up_nn (by omega), up_eq]
  · rw [up_eq]; omega
  · rw [up_eq]; omega
  · rw [up_ne (by decide), up_ne (by decide), up_ne (by decide), up_ne (by decide), up_us, up_ne (by decide), up_us, up_ne (by decide), up_ne (by decide), up_ne (by decide), a4]
  · rw [up_eq] at hk
    rw [up_ne (by decide)]
    by_cases e : k = (I 231 5).toNat
    · rw [e, up_eq]; exact hx.1
    · rw [up_nn (by omega), up_nn (by omega), up_nn (by omega), up_nn (by omega)]; exact a5 k (by omega)
  · rw [up_ne (by decide), up_ne (by decide), up_ne (by decide), up_ne (by decide), up_ne (by decide)]; exact a6 j hj
  · rw [up_ne (by decide), up_ne (by decide), up_ne (by decide), up_nn (by omega), up_nn (by omega)]; exact a7
theorem li_clear {I : GI} (h : LI I) : LI (up (up (up I 228 0 0) 231 6 0) 231 5 0) := by
  obtain ⟨⟨D, hC, hD⟩, hz, ⟨hp, h30⟩, ⟨⟨a1, a2, a3⟩, a4, a5, a6, a7⟩⟩ := h
  have e2 : up (up (up I 228 0 0) 231 6 0) 231 5 0 231 2 = I 231 2 := by (repeat rw [up_nn (by omega)])
  have ef : ∀ q, q ≠ 228 → q ≠ 231 → up (up (up I 228 0 0) 231 6 0) 231 5 0 q = I q := fun q a b => by rw [up_ne b, up_ne b, up_ne a]
  refine ⟨⟨D, ?_, fun d k hd => ?_⟩, fun k hk => ?_, ⟨?_, ?_⟩, ⟨?_, ?_, ?_⟩, ?_, fun k hk => ?_, fun j hj => ?_, ?_⟩
  · rw [e2, ef 232 (by decide) (by decide)]
    exact ci_eq hC (fun q f hq => by (repeat rw [up_nn (by omega)]))
  · rw [e2] at hd ⊢
    rw [ef 233 (by decide) (by decide)]
    exact hD d k hd
  · rw [ef 232 (by decide) (by decide)]; exact hz k hk
  · rw [e2]; exact hp
  · rw [up_nn (by omega), up_nn (by omega), up_nn (by omega)]; exact h30
  · rw [up_eq, up_nn (by omega), up_nn (by omega), up_eq]
  · rw [up_eq]; decide
  · rw [up_eq]; decide
  · rw [ef 230 (by decide) (by decide), ef 234 (by decide) (by decide)]; exact a4
  · rw [up_eq] at hk; omega
  · rw [ef 229 (by decide) (by decide)]; exact a6 j hj
  · rw [up_nn (by omega), up_nn (by omega), up_nn (by omega)]; exact a7
