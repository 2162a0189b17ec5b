section GR11
variable {G : GG} {p : Program} {l : Launch} {e : Env} {R0 : Room} {s : State} {m : MethodId} {args : Array Value} {below : List Frame} {meth : Method} {c : Code} {cc : ByteArray} {nL z n : Nat} {sh : GSh} {R : GR} {I J : GI} {k1 k2 pc : Nat} {Q : State → Prop} {lo : List (Option GV)} {st : List GV} {own nm Cn : String} {ret : Option FieldType}
theorem gw_mem {M : GI} (h : M = I) (k : GW G p l e R0 s m args below meth c nL z n sh R M J k1 k2 Q pc lo st) : GW G p l e R0 s m args below meth c nL z n sh R I J k1 k2 Q pc lo st := by
  subst h
  exact k
end GR11
def pshR (I K : GI) : Prop := K 231 2 = (if I 231 2 < 4 then I 231 2 + 1 else 4) ∧ (∀ k, k < 214 → K 233 (214 * ((K 231 2).toNat - 1) + k) = I 232 k) ∧ ∀ d k : Nat, (d : Int) + 1 < K 231 2 → k < 214 → K 233 (214 * ((K 231 2).toNat - 1 - (d + 1)) + k) = I 233 (214 * ((I 231 2).toNat - 1 - d) + k)
def sameR (I K : GI) : Prop := K 231 2 = I 231 2 ∧ K 233 = I 233
def svR (I K : GI) : Prop := (I 231 3 = 0 → pshR I K) ∧ (I 231 3 ≠ 0 → sameR I K) ∧ ∀ q f, ¬ (q = 231 ∧ f = 2) → q ≠ 233 → K q f = I q f
def svQ (I J : GI) : Option GV → Nat → GI → GI → Prop := fun v _ I' J' => v = none ∧ svR I I' ∧ J' = J
theorem sv_same {I : GI} (h : I 231 3 ≠ 0) : svR I I := ⟨fun e => absurd e h, fun _ => ⟨rfl, rfl⟩, fun _ _ _ _ => rfl⟩
def mM (I M : GI) (p : Nat) : Prop := (M 231 2 = (p : Int) ∧ (p ≤ 3 ∧ (I 231 2 < 4 → (p : Int) = I 231 2) ∧ (4 ≤ I 231 2 → p = 3))) ∧ (∀ q f, ¬ (q = 231 ∧ f = 2) → q ≠ 233 → M q f = I q f) ∧ ∀ d k : Nat, d < p → k < 214 → M 233 (214 * (p - 1 - d) + k) = I 233 (214 * ((I 231 2).toNat - 1 - d) + k)
theorem mM_0 {I : GI} {p : Nat} (h : I 231 2 = (p : Int)) (h4 : I 231 2 ≠ 4) (hp : 0 ≤ I 231 2 ∧ I 231 2 ≤ 4) : mM I I p :=
  ⟨⟨h, by omega, fun _ => by omega, fun _ => by omega⟩, fun _ _ _ _ => rfl, fun d k _ _ => by rw [show (I 231 2).toNat = p by omega]⟩
theorem mM_1 {I K : GI} {x : Int} (h4 : I 231 2 = 4) (hx : x = 3) (h1 : ∀ q f, q ≠ 233 → K q f = I q f) (h2 : ∀ j, j < 642 → K 233 j = I 233 (j + 214)) : mM I (up K 231 2 x) 3 := by
  subst hx
  refine ⟨⟨up_eq, by omega, fun _ => by omega, fun _ => rfl⟩, fun q f a b => ?_, fun d k a b => ?_⟩
  · rw [up_nn (by omega), h1 q f b]
  · rw [up_ne (by decide), h2 _ (by omega), show (I 231 2).toNat = 4 by omega]
    congr 1
    omega
theorem sv_of {I M K : GI} {p : Nat} {x : Int} (h0 : I 231 3 = 0) (hb : 0 ≤ I 231 2 ∧ I 231 2 ≤ 4) (hx : x = (p : Int) + 1) (hM : mM I M p) (h1 : ∀ q f, q ≠ 233 → K q f = M q f) (h2 : ∀ j, j < 214 → K 233 (214 * p + j) = I 232 j) (h3 : ∀ j, (j < 214 * p ∨ 214 * p + 214 ≤ j) → K 233 j = M 233 j) : svR I (up K 231 2 x) := by
  subst hx
  obtain ⟨⟨m1, m2, m3, m6⟩, m4, m5⟩ := hM
  refine ⟨fun _ => ⟨?_, fun k hk => ?_, fun d k hd hk => ?_⟩, fun e => absurd h0 e, fun q f a b => ?_⟩
  · rw [up_eq]
    by_cases c : I 231 2 < 4
    · rw [if_pos c, m3 c]
    · rw [if_neg c]
      have := m6 (by omega)
      omega
  · rw [up_eq, up_ne (by decide), show ((p : Int) + 1).toNat - 1 = p by omega]
    exact h2 k hk
  · rw [up_eq] at hd ⊢
    rw [up_ne (by decide), show ((p : Int) + 1).toNat - 1 - (d + 1) = p - 1 - d by omega, h3 _ (Or.inl (by omega))]
    exact m5 d k (by omega) hk
  · rw [up_nn (by omega), h1 q f b, m4 q f a b]
def mdR (I K : GI) (S' : Nat → Int) : Prop := ((I 231 3 = 0 → pshR I K) ∧ (I 231 3 ≠ 0 → sameR I K)) ∧ K 232 = S' ∧ ∀ q f, q ≠ 232 → q ≠ 233 → ¬ (q = 231 ∧ (f = 2 ∨ f = 6)) → K q f = I q f
def mmQ (k r : Int) (I J : GI) (S' : Nat → Int) : Option GV → Nat → GI → GI → Prop := fun v _ I' J' => v = some (vI (if k = 0 then r else 0)) ∧ (I' 231 6 = k ∧ (k ≠ 0 → ∀ q f, ¬ (q = 231 ∧ f = 6) → I' q f = I q f) ∧ (k = 0 → mdR I I' S')) ∧ J' = J
theorem md_of {I K M : GI} {S' : Nat → Int} (hsv : svR (up I 231 6 0) K) (hM : M 232 = S') (hfr : ∀ q f, q ≠ 232 → M q f = K q f) : M 231 6 = 0 ∧ mdR I M S' := by
  obtain ⟨h1, h2, h3⟩ := hsv
  have e3 : up I 231 6 0 231 3 = I 231 3 := up_ne2 (by decide)
  have e2 : up I 231 6 0 231 2 = I 231 2 := up_ne2 (by decide)
  have ea : up I 231 6 0 232 = I 232 := up_ne (by decide)
  have eb : up I 231 6 0 233 = I 233 := up_ne (by decide)
  have m3 : M 233 = K 233 := funext (fun f => hfr 233 f (by decide))
  have m2 : M 231 2 = K 231 2 := hfr 231 2 (by decide)
  refine ⟨?_, ⟨fun h => ?_, fun h => ?_⟩, hM, fun q f a b c => ?_⟩
  · rw [hfr 231 6 (by decide), h3 231 6 (by omega) (by decide), up_eq]
  · have q := h1 (by rw [e3]; exact h)
    unfold pshR at q ⊢
    rw [e2, ea, eb] at q
    rw [m2, m3]
    exact q
  · have q := h2 (by rw [e3]; exact h)
    unfold sameR at q ⊢
    rw [e2, eb] at q
    rw [m2, m3]
    exact q
  · rw [hfr q f a, h3 q f (by omega) b, up_nn (by omega)]
theorem mm_0 {I M J : GI} {k r x : Int} {S' : Nat → Int} {z : Nat} (hk : k = 0) (hx : x = r) (h : M 231 6 = 0 ∧ mdR I M S') : mmQ k r I J S' (some (vI x)) z M J := by
  subst hk hx
  exact ⟨by rw [if_pos rfl], ⟨h.1, fun e => absurd rfl e, fun _ => h.2⟩, rfl⟩
theorem mm_1 {I J : GI} {k r x : Int} {S' : Nat → Int} {z : Nat} (hk : k = x) (h0 : x ≠ 0) : mmQ k r I J S' (some (vI 0)) z (up I 231 6 x) J := by
  subst hk
  exact ⟨by rw [if_neg h0], ⟨up_eq, fun _ q f hq => up_nn (by omega), fun e => absurd e h0⟩, rfl⟩
def mrQ (k r : Int) (I J : GI) : Option GV → Nat → GI → GI → Prop := fun v _ I' J' => v = some (vI (if k = 0 then r else 0)) ∧ I' = up I 231 6 k ∧ J' = J
set_option maxHeartbeats 4000000 in
set_option maxRecDepth 100000 in
theorem c_X8_throwsAt {l : Launch} (hl0 : l.stackTraces = false) (G : GG) (I J : GI) {z : Nat} (x : Int) (hx : inI x) : GM l yX8_throwsAt (.code yX8_throwsAt cX8_throwsAt 2 (some .boolean)) 0 0 0 0 G N0 SH RR [vR 231, vI x] z I J (memQ (some (vI (if 0 < x then 1 else 0))) (up I 231 6 x) J) gNo := by
  refine gm_of (lo0 := [some (vR 231), some (vI x)]) hl0 (by decide) rfl (Nat.le_of_ble_eq_true rfl) ?_
  intro p e s m args below meth c C ht hgi
  have C : gC G p l s m args meth c cX8_throwsAt 2 RX8 (some .boolean) "throwsAt" := C
  refine gw_aload_n C 0 dX8_throwsAt_0 rfl rfl ?_
  refine gw_iload_n C 1 dX8_throwsAt_1 rfl rfl ?_
  refine gw_putI (ci := 7) (Cn := RX8) (T0 := TX8) (N := 10) C (ty := .int) 6 kX8_22 fX8 rfl (by decide) rfl rfl tyX8 tyX8_ok nmX8 rfl (by decide) rfl rfl hx dX8_throwsAt_2 xs_231 xn_231 ?_
  refine gw_iload_n C 1 dX8_throwsAt_5 rfl rfl ?_
  refine gw_if_le C (tgt := 13) dX8_throwsAt_6 (by decide) hx (fun h_6 => ?_) (fun h_6 => ?_)
  · skip
    refine gw_iconst C dX8_throwsAt_13 ?_
    exact gw_zret C (Nat.le_of_ble_eq_true rfl) (Nat.le_of_ble_eq_true rfl) dX8_throwsAt_14 (Or.inl rfl) (⟨congrArg (fun q => some (vI q)) (by first | rw [if_pos (by omega)] | rw [if_neg (by omega)]), rfl, rfl⟩)
  · skip
    refine gw_iconst C dX8_throwsAt_9 ?_
    refine gw_goto C (tgt := 14) dX8_throwsAt_10 (by decide) ?_
    exact gw_zret C (Nat.le_of_ble_eq_true rfl) (Nat.le_of_ble_eq_true rfl) dX8_throwsAt_14 (Or.inr rfl) (⟨congrArg (fun q => some (vI q)) (by first | rw [if_pos (by omega)] | rw [if_neg (by omega)]), rfl, rfl⟩)
set_option maxHeartbeats 4000000 in
set_option maxRecDepth 100000 in
theorem c_X8_thrown {l : Launch} (hl0 : l.stackTraces = false) (G : GG) (I J : GI) {z : Nat} : GM l yX8_thrown (.code yX8_thrown cX8_thrown 1 (some .int)) 0 0 0 0 G N0 SH RR [vR 231] z I J (memQ (some (vI (I 231 6))) I J) gNo := by
  refine gm_of (lo0 := [some (vR 231)]) hl0 (by decide) rfl (Nat.le_of_ble_eq_true rfl) ?_
  intro p e s m args below meth c C ht hgi
  have C : gC G p l s m args meth c cX8_thrown 1 RX8 (some .int) "thrown" := C
  refine gw_aload_n C 0 dX8_thrown_0 rfl rfl ?_
  refine gw_getI (ci := 7) (Cn := RX8) (T0 := TX8) (N := 10) C 6 kX8_22 fX8 rfl (by decide) rfl rfl dX8_thrown_1 xs_231 xn_231 (fun hI_1 => ?_)
  exact gw_iret C (Nat.le_of_ble_eq_true rfl) (Nat.le_of_ble_eq_true rfl) dX8_thrown_4 (⟨congrArg (fun q => some (vI q)) (by rfl), rfl, rfl⟩)
set_option maxHeartbeats 4000000 in
set_option maxRecDepth 100000 in
theorem c_X8_saves {l : Launch} (hl0 : l.stackTraces = false) (G : GG) (I J : GI) {z : Nat} (hp : 0 ≤ I 231 2 ∧ I 231 2 ≤ 4) (hru : 0 ≤ I 231 3 ∧ I 231 3 ≤ 1) : GM l yX8_saves (.code yX8_saves cX8_saves 2 none) 0 0 0 0 G N0 SH RR [vR 231] z I J (svQ I J) gNo := by
  refine gm_of (lo0 := [some (vR 231), none]) hl0 (by decide) rfl (Nat.le_of_ble_eq_true rfl) ?_
  intro p e s m args below meth c C ht hgi
  have C : gC G p l s m args meth c cX8_saves 2 RX8 none "saves" := C
  refine gw_aload_n C 0 dX8_saves_0 rfl rfl ?_
  refine gw_getI (ci := 7) (Cn := RX8) (T0 := TX8) (N := 10) C 3 kX8_26 fX8 rfl (by decide) rfl rfl dX8_saves_1 xs_231 xn_231 (fun hI_1 => ?_)
  refine gw_if_eq C (tgt := 8) dX8_saves_4 (by decide) hI_1 (fun h_4 => ?_) (fun h_4 => ?_)
  · skip
    refine gw_aload_n C 0 dX8_saves_8 rfl rfl ?_
    refine gw_getI (ci := 7) (Cn := RX8) (T0 := TX8) (N := 10) C 2 kX8_30 fX8 rfl (by decide) rfl rfl dX8_saves_9 xs_231 xn_231 (fun hI_9 => ?_)
    refine gw_iconst C dX8_saves_12 ?_
    refine gw_icmp_ne C (tgt := 57) dX8_saves_13 (by decide) hI_9 ⟨by decide, by decide⟩ (fun h_13 => ?_) (fun h_13 => ?_)
    · skip
      obtain ⟨M, hM⟩ : ∃ M, M = I := ⟨_, rfl⟩
      obtain ⟨p9, hp9⟩ : ∃ p : Nat, I 231 2 = (p : Int) := ⟨(I 231 2).toNat, by omega⟩
      have hmM : mM I M p9 := by rw [hM]; exact mM_0 hp9 (by omega) hp
      refine gw_mem hM ?_
      have hp3 := hmM.1.2.1
      refine gw_iconst C dX8_saves_57 ?_
      refine gw_istore_n C (lo1 := [some (vR 231), some (vI 0)]) 1 dX8_saves_58 rfl (by decide) rfl ?_
      have loop_59 : ∀ (fuel : Nat) (k2 : Nat) (K2 : GI), (k2 ≤ 214) → (∀ q f, q ≠ 233 → K2 q f = M q f) → (∀ j, j < k2 → K2 233 (214 * p9 + j) = I 232 j) → (∀ j, (j < 214 * p9 ∨ 214 * p9 + k2 ≤ j) → K2 233 j = M 233 j) → 215 - k2 < fuel → GW G p l e ({ frames := 0, cells := 0, slots := 0, locals := 0 } : Room) s m args below meth c 2 z N0 SH RR K2 J 0 0 (vx_MQ below (GQ G N0 SH RR (svQ I J)) (GX G N0 SH RR gNo) args s 0 0 (ge G)) 59 [some (vR 231), some (vI (k2 : Int))] [] := by
        intro fuel
        induction fuel with
        | zero => intro k2 K2 hk2 hL1 hL2 hL3 hf_59; exact absurd hf_59 (Nat.not_lt_zero _)
        | succ fuel ih_59 =>
          intro k2 K2 hk2 hL1 hL2 hL3 hf_59
          refine gw_iload_n C 1 dX8_saves_59 rfl rfl ?_
          refine gw_sipush C dX8_saves_60 rfl ?_
          refine gw_icmp_ge C (tgt := 93) dX8_saves_63 (by decide) (by omega) ⟨by decide, by decide⟩ (fun h_63 => ?_) (fun h_63 => ?_)
          · skip
            refine gw_aload_n C 0 dX8_saves_93 rfl rfl ?_
            refine gw_dupR C dX8_saves_94 ?_
            refine gw_getI (ci := 7) (Cn := RX8) (T0 := TX8) (N := 10) C 2 kX8_30 fX8 rfl (by decide) rfl rfl dX8_saves_95 xs_231 xn_231 (fun hI_95 => ?_)
            rw [show (K2 231 2) = (p9 : Int) from by rw [hL1 231 2 (by decide)]; exact hmM.1.1] at hI_95 ⊢
            refine gw_iconst C dX8_saves_98 ?_
            refine gw_iadd C dX8_saves_99 ?_
            refine gw_putI (ci := 7) (Cn := RX8) (T0 := TX8) (N := 10) C (ty := .int) 2 kX8_30 fX8 rfl (by decide) rfl rfl tyX8 tyX8_ok nmX8 rfl (by decide) rfl rfl (by omega) dX8_saves_100 xs_231 xn_231 ?_
            exact gw_vret C (Nat.le_of_ble_eq_true rfl) (Nat.le_of_ble_eq_true rfl) dX8_saves_103 (⟨rfl, sv_of (by omega) hp rfl hmM hL1 (fun j hj => hL2 j (by omega)) (fun j hj => hL3 j (by omega)), rfl⟩)
          · skip
            refine gw_aload_n C 0 dX8_saves_66 rfl rfl ?_
            refine gw_getRs (ci := 7) (Cn := RX8) (T0 := TX8) (N := 10) C 233 1 kX8_13 fX8 rfl (by decide) rfl rfl dX8_saves_67 xs_231 xn_231 xr_231_1 ?_
            refine gw_sipush C dX8_saves_70 rfl ?_
            refine gw_aload_n C 0 dX8_saves_73 rfl rfl ?_
            refine gw_getI (ci := 7) (Cn := RX8) (T0 := TX8) (N := 10) C 2 kX8_30 fX8 rfl (by decide) rfl rfl dX8_saves_74 xs_231 xn_231 (fun hI_74 => ?_)
            rw [show (K2 231 2) = (p9 : Int) from by rw [hL1 231 2 (by decide)]; exact hmM.1.1] at hI_74 ⊢
            refine gw_imul C dX8_saves_77 ?_
            refine gw_iload_n C 1 dX8_saves_78 rfl rfl ?_
            refine gw_iadd C dX8_saves_79 ?_
            refine gw_aload_n C 0 dX8_saves_80 rfl rfl ?_
            refine gw_getRs (ci := 7) (Cn := RX8) (T0 := TX8) (N := 10) C 232 0 kX8_7 fX8 rfl (by decide) rfl rfl dX8_saves_81 xs_231 xn_231 xr_231_0 ?_
            refine gw_iload_n C 1 dX8_saves_84 rfl rfl ?_
            refine gw_iald C k2 dX8_saves_85 xs_232 xn_232 (by omega) (by omega) (by decide) (fun hI_85 => ?_)
            rw [show (K2 232 k2) = I 232 k2 from by rw [hL1 232 k2 (by decide)]; exact hmM.2.1 232 k2 (by omega) (by decide)] at hI_85 ⊢
            refine gw_iast C (214 * p9 + k2) dX8_saves_86 xs_233 xn_233 (by omega) (by omega) (by decide) hI_85 ?_
            refine gw_iinc C (lo1 := [some (vR 231), some (vI ((k2 : Int) + 1))]) dX8_saves_87 rfl (by decide) rfl ?_
            refine gw_goto C (tgt := 59) dX8_saves_90 (by decide) ?_
            exact gw_weak (lo' := [some (vR 231), some (vI (((k2 + 1) : Nat) : Int))]) ⟨rfl, congrArg (fun q => some (vI q)) (by omega), trivial⟩ (ih_59 (k2 + 1) (up K2 233 (214 * p9 + k2) (I 232 k2)) (by omega) (by intro q f hq; rw [up_ne hq]; exact hL1 q f hq) (by intro j hj; by_cases e : j = k2; (subst e; rw [up_eq]); (rw [up_ne2 (by omega)]; exact hL2 j (by omega))) (by intro j hj; rw [up_ne2 (by omega)]; exact hL3 j (by omega)) (by omega))
      exact gw_weak (lo' := [some (vR 231), some (vI (0 : Int))]) ⟨rfl, congrArg (fun q => some (vI q)) (by omega), trivial⟩ (loop_59 _ 0 M (by omega) (by intro q f _; rfl) (by intro j hj; omega) (by intro j _; rfl) (Nat.lt_succ_self _))
    · skip
      refine gw_iconst C dX8_saves_16 ?_
      refine gw_istore_n C (lo1 := [some (vR 231), some (vI 0)]) 1 dX8_saves_17 rfl (by decide) rfl ?_
      have loop_18 : ∀ (fuel : Nat) (k : Nat) (K1 : GI), (k ≤ 642) → (∀ q f, q ≠ 233 → K1 q f = I q f) → (∀ j, j < k → K1 233 j = I 233 (j + 214)) → (∀ j, k ≤ j → K1 233 j = I 233 j) → 643 - k < fuel → GW G p l e ({ frames := 0, cells := 0, slots := 0, locals := 0 } : Room) s m args below meth c 2 z N0 SH RR K1 J 0 0 (vx_MQ below (GQ G N0 SH RR (svQ I J)) (GX G N0 SH RR gNo) args s 0 0 (ge G)) 18 [some (vR 231), some (vI (k : Int))] [] := by
        intro fuel
        induction fuel with
        | zero => intro k K1 hk hK1 hK2 hK3 hf_18; exact absurd hf_18 (Nat.not_lt_zero _)
        | succ fuel ih_18 =>
          intro k K1 hk hK1 hK2 hK3 hf_18
          refine gw_iload_n C 1 dX8_saves_18 rfl rfl ?_
          refine gw_sipush C dX8_saves_19 rfl ?_
          refine gw_icmp_ge C (tgt := 47) dX8_saves_22 (by decide) (by omega) ⟨by decide, by decide⟩ (fun h_22 => ?_) (fun h_22 => ?_)
          · skip
            refine gw_aload_n C 0 dX8_saves_47 rfl rfl ?_
            refine gw_dupR C dX8_saves_48 ?_
            refine gw_getI (ci := 7) (Cn := RX8) (T0 := TX8) (N := 10) C 2 kX8_30 fX8 rfl (by decide) rfl rfl dX8_saves_49 xs_231 xn_231 (fun hI_49 => ?_)
            rw [show (K1 231 2) = I 231 2 from hK1 231 2 (by decide)] at hI_49 ⊢
            refine gw_iconst C dX8_saves_52 ?_
            refine gw_isub C dX8_saves_53 ?_
            refine gw_putI (ci := 7) (Cn := RX8) (T0 := TX8) (N := 10) C (ty := .int) 2 kX8_30 fX8 rfl (by decide) rfl rfl tyX8 tyX8_ok nmX8 rfl (by decide) rfl rfl (by omega) dX8_saves_54 xs_231 xn_231 ?_
            obtain ⟨M, hM⟩ : ∃ M, M = (up K1 231 2 ((I 231 2) - 1)) := ⟨_, rfl⟩
            obtain ⟨p9, hp9⟩ : ∃ p : Nat, p = 3 := ⟨3, rfl⟩
            have hmM : mM I M p9 := by rw [hM, hp9]; exact mM_1 (by omega) (by omega) hK1 (fun j hj => hK2 j (by omega))
            refine gw_mem hM ?_
            have hp3 := hmM.1.2.1
            refine gw_iconst C dX8_saves_57 ?_
            refine gw_istore_n C (lo1 := [some (vR 231), some (vI 0)]) 1 dX8_saves_58 rfl (by decide) rfl ?_
            have loop_59 : ∀ (fuel : Nat) (k2 : Nat) (K2 : GI), (k2 ≤ 214) → (∀ q f, q ≠ 233 → K2 q f = M q f) → (∀ j, j < k2 → K2 233 (214 * p9 + j) = I 232 j) → (∀ j, (j < 214 * p9 ∨ 214 * p9 + k2 ≤ j) → K2 233 j = M 233 j) → 215 - k2 < fuel → GW G p l e ({ frames := 0, cells := 0, slots := 0, locals := 0 } : Room) s m args below meth c 2 z N0 SH RR K2 J 0 0 (vx_MQ below (GQ G N0 SH RR (svQ I J)) (GX G N0 SH RR gNo) args s 0 0 (ge G)) 59 [some (vR 231), some (vI (k2 : Int))] [] := by
              intro fuel
              induction fuel with
              | zero => intro k2 K2 hk2 hL1 hL2 hL3 hf_59; exact absurd hf_59 (Nat.not_lt_zero _)
              | succ fuel ih_59 =>
                intro k2 K2 hk2 hL1 hL2 hL3 hf_59
                refine gw_iload_n C 1 dX8_saves_59 rfl rfl ?_
                refine gw_sipush C dX8_saves_60 rfl ?_
                refine gw_icmp_ge C (tgt := 93) dX8_saves_63 (by decide) (by omega) ⟨by decide, by decide⟩ (fun h_63_2 => ?_) (fun h_63_2 => ?_)
                · skip
                  refine gw_aload_n C 0 dX8_saves_93 rfl rfl ?_
                  refine gw_dupR C dX8_saves_94 ?_
                  refine gw_getI (ci := 7) (Cn := RX8) (T0 := TX8) (N := 10) C 2 kX8_30 fX8 rfl (by decide) rfl rfl dX8_saves_95 xs_231 xn_231 (fun hI_95_2 => ?_)
                  rw [show (K2 231 2) = (p9 : Int) from by rw [hL1 231 2 (by decide)]; exact hmM.1.1] at hI_95_2 ⊢
                  refine gw_iconst C dX8_saves_98 ?_
                  refine gw_iadd C dX8_saves_99 ?_
                  refine gw_putI (ci := 7) (Cn := RX8) (T0 := TX8) (N := 10) C (ty := .int) 2 kX8_30 fX8 rfl (by decide) rfl rfl tyX8 tyX8_ok nmX8 rfl (by decide) rfl rfl (by omega) dX8_saves_100 xs_231 xn_231 ?_
                  exact gw_vret C (Nat.le_of_ble_eq_true rfl) (Nat.le_of_ble_eq_true rfl) dX8_saves_103 (⟨rfl, sv_of (by omega) hp rfl hmM hL1 (fun j hj => hL2 j (by omega)) (fun j hj => hL3 j (by omega)), rfl⟩)
                · skip
                  refine gw_aload_n C 0 dX8_saves_66 rfl rfl ?_
                  refine gw_getRs (ci := 7) (Cn := RX8) (T0 := TX8) (N := 10) C 233 1 kX8_13 fX8 rfl (by decide) rfl rfl dX8_saves_67 xs_231 xn_231 xr_231_1 ?_
                  refine gw_sipush C dX8_saves_70 rfl ?_
                  refine gw_aload_n C 0 dX8_saves_73 rfl rfl ?_
                  refine gw_getI (ci := 7) (Cn := RX8) (T0 := TX8) (N := 10) C 2 kX8_30 fX8 rfl (by decide) rfl rfl dX8_saves_74 xs_231 xn_231 (fun hI_74_2 => ?_)
                  rw [show (K2 231 2) = (p9 : Int) from by rw [hL1 231 2 (by decide)]; exact hmM.1.1] at hI_74_2 ⊢
                  refine gw_imul C dX8_saves_77 ?_
                  refine gw_iload_n C 1 dX8_saves_78 rfl rfl ?_
                  refine gw_iadd C dX8_saves_79 ?_
                  refine gw_aload_n C 0 dX8_saves_80 rfl rfl ?_
                  refine gw_getRs (ci := 7) (Cn := RX8) (T0 := TX8) (N := 10) C 232 0 kX8_7 fX8 rfl (by decide) rfl rfl dX8_saves_81 xs_231 xn_231 xr_231_0 ?_
                  refine gw_iload_n C 1 dX8_saves_84 rfl rfl ?_
                  refine gw_iald C k2 dX8_saves_85 xs_232 xn_232 (by omega) (by omega) (by decide) (fun hI_85_2 => ?_)
                  rw [show (K2 232 k2) = I 232 k2 from by rw [hL1 232 k2 (by decide)]; exact hmM.2.1 232 k2 (by omega) (by decide)] at hI_85_2 ⊢
                  refine gw_iast C (214 * p9 + k2) dX8_saves_86 xs_233 xn_233 (by omega) (by omega) (by decide) hI_85_2 ?_
                  refine gw_iinc C (lo1 := [some (vR 231), some (vI ((k2 : Int) + 1))]) dX8_saves_87 rfl (by decide) rfl ?_
                  refine gw_goto C (tgt := 59) dX8_saves_90 (by decide) ?_
                  exact gw_weak (lo' := [some (vR 231), some (vI (((k2 + 1) : Nat) : Int))]) ⟨rfl, congrArg (fun q => some (vI q)) (by omega), trivial⟩ (ih_59 (k2 + 1) (up K2 233 (214 * p9 + k2) (I 232 k2)) (by omega) (by intro q f hq; rw [up_ne hq]; exact hL1 q f hq) (by intro j hj; by_cases e : j = k2; (subst e; rw [up_eq]); (rw [up_ne2 (by omega)]; exact hL2 j (by omega))) (by intro j hj; rw [up_ne2 (by omega)]; exact hL3 j (by omega)) (by omega))
            exact gw_weak (lo' := [some (vR 231), some (vI (0 : Int))]) ⟨rfl, congrArg (fun q => some (vI q)) (by omega), trivial⟩ (loop_59 _ 0 M (by omega) (by intro q f _; rfl) (by intro j hj; omega) (by intro j _; rfl) (Nat.lt_succ_self _))
          · skip
            refine gw_aload_n C 0 dX8_saves_25 rfl rfl ?_
            refine gw_getRs (ci := 7) (Cn := RX8) (T0 := TX8) (N := 10) C 233 1 kX8_13 fX8 rfl (by decide) rfl rfl dX8_saves_26 xs_231 xn_231 xr_231_1 ?_
            refine gw_iload_n C 1 dX8_saves_29 rfl rfl ?_
            refine gw_aload_n C 0 dX8_saves_30 rfl rfl ?_
            refine gw_getRs (ci := 7) (Cn := RX8) (T0 := TX8) (N := 10) C 233 1 kX8_13 fX8 rfl (by decide) rfl rfl dX8_saves_31 xs_231 xn_231 xr_231_1 ?_
            refine gw_iload_n C 1 dX8_saves_34 rfl rfl ?_
            refine gw_sipush C dX8_saves_35 rfl ?_
            refine gw_iadd C dX8_saves_38 ?_
            refine gw_iald C (k + 214) dX8_saves_39 xs_233 xn_233 (by omega) (by omega) (by decide) (fun hI_39 => ?_)
            rw [show (K1 233 (k + 214)) = I 233 (k + 214) from hK3 _ (by omega)] at hI_39 ⊢
            refine gw_iast C k dX8_saves_40 xs_233 xn_233 (by omega) (by omega) (by decide) hI_39 ?_
            refine gw_iinc C (lo1 := [some (vR 231), some (vI ((k : Int) + 1))]) dX8_saves_41 rfl (by decide) rfl ?_
            refine gw_goto C (tgt := 18) dX8_saves_44 (by decide) ?_
            exact gw_weak (lo' := [some (vR 231), some (vI (((k + 1) : Nat) : Int))]) ⟨rfl, congrArg (fun q => some (vI q)) (by omega), trivial⟩ (ih_18 (k + 1) (up K1 233 k (I 233 (k + 214))) (by omega) (by intro q f hq; rw [up_ne hq]; exact hK1 q f hq) (by intro j hj; by_cases e : j = k; (subst e; rw [up_eq]); (rw [up_ne2 e]; exact hK2 j (by omega))) (by intro j hj; rw [up_ne2 (by omega)]; exact hK3 j (by omega)) (by omega))
      exact gw_weak (lo' := [some (vR 231), some (vI (0 : Int))]) ⟨rfl, congrArg (fun q => some (vI q)) (by omega), trivial⟩ (loop_18 _ 0 I (by omega) (by intro q f _; rfl) (by intro j hj; omega) (by intro j _; rfl) (Nat.lt_succ_self _))
  · skip
    exact gw_vret C (Nat.le_of_ble_eq_true rfl) (Nat.le_of_ble_eq_true rfl) dX8_saves_7 (⟨rfl, sv_same (by omega), rfl⟩)
