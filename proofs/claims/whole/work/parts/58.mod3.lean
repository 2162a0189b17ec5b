theorem sq2 {x y : Int} (hx : -20000000 ≤ x ∧ x ≤ 20000000) (hy : -20000000 ≤ y ∧ y ≤ 20000000) : 0 ≤ x * x + y * y ∧ x * x + y * y < 10000000000000000 := by
  have m1 := mul_b (a := x) (b := x) (m := 20000000) (k := 20000000) hx hx
  have m2 := mul_b (a := y) (b := y) (m := 20000000) (k := 20000000) hy hy
  have p : ∀ q : Int, 0 ≤ q * q := fun q => by
    rcases Int.le_total 0 q with h | h
    · exact Int.mul_nonneg h h
    · exact Int.mul_nonneg_of_nonpos_of_nonpos h h
  have s1 := p x
  have s2 := p y
  omega
theorem inf_v {S : Nat → Int} {a : Int} (h : 0 ≤ a ∧ a ≤ 5) : S a.toNat = rInfo S a := by
  rcases (show a = 0 ∨ a = 1 ∨ a = 2 ∨ a = 3 ∨ a = 4 ∨ a = 5 by omega) with e | e | e | e | e | e <;> subst e <;> rfl
def suI (v : Nat → Int) (k : Nat) (f l : Int) : Prop := (k = 0 ∧ f = 0 ∧ l = -1) ∨ (1 ≤ k ∧ agK (fun k => (k : Int)) v k = (f, l) ∧ 0 ≤ f ∧ f ≤ 12 ∧ 0 ≤ l ∧ l ≤ 1000000000000)
theorem su_t {v : Nat → Int} {k : Nat} {f l x : Int} (h : suI v k f l) (hx : x = v k) (hc : l < 0 ∨ x < l) (hv : 0 ≤ x ∧ x ≤ 1000000000000) (hk : k < 12) : suI v (k + 1) (k : Int) x := by
  subst hx
  refine Or.inr ⟨by omega, ?_, by omega, by omega, hv⟩
  rcases h with ⟨e, _, _⟩ | ⟨h1, h2, h3⟩
  · subst e
    exact agK_t (a := -2000000000) (b := 0) rfl (Or.inl rfl)
  · exact agK_t h2 (Or.inr (by omega))
theorem su_f {v : Nat → Int} {k : Nat} {f l x : Int} (h : suI v k f l) (hx : x = v k) (hc : ¬ (l < 0 ∨ x < l)) : suI v (k + 1) f l := by
  subst hx
  rcases h with ⟨e, _, _⟩ | ⟨h1, h2, h3⟩
  · omega
  · exact Or.inr ⟨by omega, agK_f h2 (by omega), h3⟩
theorem su_b {v : Nat → Int} {k : Nat} {f l : Int} (h : suI v k f l) : (0 ≤ f ∧ f ≤ 12) ∧ -1 ≤ l ∧ l ≤ 1000000000000 := by
  rcases h with ⟨_, _, _⟩ | ⟨_, _, _⟩ <;> omega
theorem su_e {v : Nat → Int} {k : Nat} {f l : Int} (h : suI v k f l) (hk : 1 ≤ k) : f = (agK (fun k => (k : Int)) v k).1 := by
  rcases h with ⟨_, _, _⟩ | ⟨_, h2, _⟩
  · omega
  · rw [h2]
theorem sJ_c9 (S : Nat → Int) (j : Nat) : (sJ S j = 3 ↔ sC S j ≠ 0) ∧ (sJ S j = 0 → sC S j = 0) := by
  unfold sJ
  split
  · omega
  · split <;> omega
set_option maxHeartbeats 4000000 in
set_option maxRecDepth 100000 in
theorem c_X8_traverseOf {l : Launch} (hl0 : l.stackTraces = false) (G : GG) (I J : GI) {z : Nat} (ho : Oks (I 232)) (w a : Int) (hq : 0 ≤ w ∧ w < I 232 5) (ha : 0 ≤ a ∧ a ≤ 9) : GM l yX8_traverseOf (.code yX8_traverseOf cX8_traverseOf 5 (some .int)) 7 157 0 0 G N0 SH RR [vR 231, vI w, vI a] z I J (memQ (some (vI (rTrav (I 232) w.toNat a))) I J) gNo := by
  refine gm_of (lo0 := [some (vR 231), some (vI w), some (vI a), none, none]) hl0 (by decide) rfl (Nat.le_of_ble_eq_true rfl) ?_
  intro p e s m args below meth c C ht hgi
  have C : gC G p l s m args meth c cX8_traverseOf 5 RX8 (some .int) "traverseOf" := C
  have h3 := ho.2.1
  have h0 := ho.1
  have hot := okT ho (t := w.toNat) (by omega)
  have h67 := sTT_67 (S := I 232) (t := w.toNat)
  refine gw_iload_n C 2 dX8_traverseOf_0 rfl rfl ?_
  rcases (show a = 0 ∨ a = 1 ∨ a = 2 ∨ a = 3 ∨ a = 4 ∨ a = 5 ∨ a = 6 ∨ a = 7 ∨ a = 8 ∨ (a < 0 ∨ 8 < a) from by omega) with h_1 | h_1 | h_1 | h_1 | h_1 | h_1 | h_1 | h_1 | h_1 | h_1
  · skip
    refine gw_tableIn C (tgt := 52) (off := 51) dX8_traverseOf_1 (by first | omega | exact hgi _ _) (by omega) (by omega) (by rw [h_1]; rfl) (by decide) ?_
    refine gw_aload_n C 0 dX8_traverseOf_52 rfl rfl ?_
    refine gw_iload_n C 1 dX8_traverseOf_53 rfl rfl ?_
    refine gw_iload_n C 2 dX8_traverseOf_54 rfl rfl ?_
    refine gw_callVm C (as := [vI w, vI a]) (st := []) (ci := 7) (T0 := TX8) (N := 10) (c_X8_of hl0 G I J ho w a (by omega)) dX8_traverseOf_55 kX8_33 qX8_of hdX8_of ⟨Nat.le_of_ble_eq_true rfl, Nat.le_of_ble_eq_true rfl⟩ ⟨Nat.le_of_ble_eq_true rfl, Nat.le_of_ble_eq_true rfl⟩ (Nat.le_of_ble_eq_true rfl) rfl xs_231 xn_231 rfl (fun z_55 => ?_)
    exact gw_iret C (Nat.le_of_ble_eq_true rfl) (Nat.le_of_ble_eq_true rfl) dX8_traverseOf_58 (⟨congrArg (fun q => some (vI q)) (by first | (exfalso; omega) | (unfold rTrav; (repeat (first | rw [if_pos (by omega)] | rw [if_neg (by omega)])); first | done | rfl | (congr 1; omega))), rfl, rfl⟩)
  · skip
    refine gw_tableIn C (tgt := 52) (off := 51) dX8_traverseOf_1 (by first | omega | exact hgi _ _) (by omega) (by omega) (by rw [h_1]; rfl) (by decide) ?_
    refine gw_aload_n C 0 dX8_traverseOf_52 rfl rfl ?_
    refine gw_iload_n C 1 dX8_traverseOf_53 rfl rfl ?_
    refine gw_iload_n C 2 dX8_traverseOf_54 rfl rfl ?_
    refine gw_callVm C (as := [vI w, vI a]) (st := []) (ci := 7) (T0 := TX8) (N := 10) (c_X8_of hl0 G I J ho w a (by omega)) dX8_traverseOf_55 kX8_33 qX8_of hdX8_of ⟨Nat.le_of_ble_eq_true rfl, Nat.le_of_ble_eq_true rfl⟩ ⟨Nat.le_of_ble_eq_true rfl, Nat.le_of_ble_eq_true rfl⟩ (Nat.le_of_ble_eq_true rfl) rfl xs_231 xn_231 rfl (fun z_55_2 => ?_)
    exact gw_iret C (Nat.le_of_ble_eq_true rfl) (Nat.le_of_ble_eq_true rfl) dX8_traverseOf_58 (⟨congrArg (fun q => some (vI q)) (by first | (exfalso; omega) | (unfold rTrav; (repeat (first | rw [if_pos (by omega)] | rw [if_neg (by omega)])); first | done | rfl | (congr 1; omega))), rfl, rfl⟩)
  · skip
    refine gw_tableIn C (tgt := 59) (off := 58) dX8_traverseOf_1 (by first | omega | exact hgi _ _) (by omega) (by omega) (by rw [h_1]; rfl) (by decide) ?_
    refine gw_aload_n C 0 dX8_traverseOf_59 rfl rfl ?_
    refine gw_iload_n C 1 dX8_traverseOf_60 rfl rfl ?_
    refine gw_callVb C (as := [vI w]) (st := []) (ci := 7) (T0 := TX8) (N := 10) (c_X8_isClosed hl0 G I J ho w (by omega)) dX8_traverseOf_61 kX8_158 qX8_isClosed hdX8_isClosed ⟨Nat.le_of_ble_eq_true rfl, Nat.le_of_ble_eq_true rfl⟩ ⟨Nat.le_of_ble_eq_true rfl, Nat.le_of_ble_eq_true rfl⟩ (Nat.le_of_ble_eq_true rfl) rfl xs_231 xn_231 rfl (fun h_61 z_61 => ?_) (fun h_61 z_61 => ?_)
    · skip
      refine gw_if_eq C (tgt := 76) dX8_traverseOf_64 (by decide) ⟨by decide, by decide⟩ (fun h => absurd h (by decide)) (fun _ => ?_)
      refine gw_aload_n C 0 dX8_traverseOf_67 rfl rfl ?_
      refine gw_iload_n C 1 dX8_traverseOf_68 rfl rfl ?_
      refine gw_iload_n C 2 dX8_traverseOf_69 rfl rfl ?_
      refine gw_callVm C (as := [vI w, vI a]) (st := []) (ci := 7) (T0 := TX8) (N := 10) (c_X8_of hl0 G I J ho w a (by omega)) dX8_traverseOf_70 kX8_33 qX8_of hdX8_of ⟨Nat.le_of_ble_eq_true rfl, Nat.le_of_ble_eq_true rfl⟩ ⟨Nat.le_of_ble_eq_true rfl, Nat.le_of_ble_eq_true rfl⟩ (Nat.le_of_ble_eq_true rfl) rfl xs_231 xn_231 rfl (fun z_70 => ?_)
      refine gw_goto C (tgt := 78) dX8_traverseOf_73 (by decide) ?_
      exact gw_iret C (Nat.le_of_ble_eq_true rfl) (Nat.le_of_ble_eq_true rfl) dX8_traverseOf_78 (⟨congrArg (fun q => some (vI q)) (by first | (exfalso; omega) | (unfold rTrav; (repeat (first | rw [if_pos (by omega)] | rw [if_neg (by omega)])); first | done | rfl | (congr 1; omega))), rfl, rfl⟩)
    · skip
      refine gw_if_eq C (tgt := 76) dX8_traverseOf_64 (by decide) ⟨by decide, by decide⟩ (fun _ => ?_) (fun h => absurd h (by decide))
      refine gw_ldc C (x := (-2000000000)) dX8_traverseOf_76 kX8_105 (by decide) ?_
      exact gw_iret C (Nat.le_of_ble_eq_true rfl) (Nat.le_of_ble_eq_true rfl) dX8_traverseOf_78 (⟨congrArg (fun q => some (vI q)) (by first | (exfalso; omega) | (unfold rTrav; (repeat (first | rw [if_pos (by omega)] | rw [if_neg (by omega)])); first | done | rfl | (congr 1; omega))), rfl, rfl⟩)
  · skip
    refine gw_tableIn C (tgt := 59) (off := 58) dX8_traverseOf_1 (by first | omega | exact hgi _ _) (by omega) (by omega) (by rw [h_1]; rfl) (by decide) ?_
    refine gw_aload_n C 0 dX8_traverseOf_59 rfl rfl ?_
    refine gw_iload_n C 1 dX8_traverseOf_60 rfl rfl ?_
    refine gw_callVb C (as := [vI w]) (st := []) (ci := 7) (T0 := TX8) (N := 10) (c_X8_isClosed hl0 G I J ho w (by omega)) dX8_traverseOf_61 kX8_158 qX8_isClosed hdX8_isClosed ⟨Nat.le_of_ble_eq_true rfl, Nat.le_of_ble_eq_true rfl⟩ ⟨Nat.le_of_ble_eq_true rfl, Nat.le_of_ble_eq_true rfl⟩ (Nat.le_of_ble_eq_true rfl) rfl xs_231 xn_231 rfl (fun h_61_2 z_61_2 => ?_) (fun h_61_2 z_61_2 => ?_)
    · skip
      refine gw_if_eq C (tgt := 76) dX8_traverseOf_64 (by decide) ⟨by decide, by decide⟩ (fun h => absurd h (by decide)) (fun _ => ?_)
      refine gw_aload_n C 0 dX8_traverseOf_67 rfl rfl ?_
      refine gw_iload_n C 1 dX8_traverseOf_68 rfl rfl ?_
      refine gw_iload_n C 2 dX8_traverseOf_69 rfl rfl ?_
      refine gw_callVm C (as := [vI w, vI a]) (st := []) (ci := 7) (T0 := TX8) (N := 10) (c_X8_of hl0 G I J ho w a (by omega)) dX8_traverseOf_70 kX8_33 qX8_of hdX8_of ⟨Nat.le_of_ble_eq_true rfl, Nat.le_of_ble_eq_true rfl⟩ ⟨Nat.le_of_ble_eq_true rfl, Nat.le_of_ble_eq_true rfl⟩ (Nat.le_of_ble_eq_true rfl) rfl xs_231 xn_231 rfl (fun z_70_2 => ?_)
      refine gw_goto C (tgt := 78) dX8_traverseOf_73 (by decide) ?_
      exact gw_iret C (Nat.le_of_ble_eq_true rfl) (Nat.le_of_ble_eq_true rfl) dX8_traverseOf_78 (⟨congrArg (fun q => some (vI q)) (by first | (exfalso; omega) | (unfold rTrav; (repeat (first | rw [if_pos (by omega)] | rw [if_neg (by omega)])); first | done | rfl | (congr 1; omega))), rfl, rfl⟩)
    · skip
      refine gw_if_eq C (tgt := 76) dX8_traverseOf_64 (by decide) ⟨by decide, by decide⟩ (fun _ => ?_) (fun h => absurd h (by decide))
      refine gw_ldc C (x := (-2000000000)) dX8_traverseOf_76 kX8_105 (by decide) ?_
      exact gw_iret C (Nat.le_of_ble_eq_true rfl) (Nat.le_of_ble_eq_true rfl) dX8_traverseOf_78 (⟨congrArg (fun q => some (vI q)) (by first | (exfalso; omega) | (unfold rTrav; (repeat (first | rw [if_pos (by omega)] | rw [if_neg (by omega)])); first | done | rfl | (congr 1; omega))), rfl, rfl⟩)
  · skip
    refine gw_tableIn C (tgt := 79) (off := 78) dX8_traverseOf_1 (by first | omega | exact hgi _ _) (by omega) (by omega) (by rw [h_1]; rfl) (by decide) ?_
    refine gw_aload_n C 0 dX8_traverseOf_79 rfl rfl ?_
    refine gw_iload_n C 1 dX8_traverseOf_80 rfl rfl ?_
    refine gw_callVm C (as := [vI w]) (st := []) (ci := 7) (T0 := TX8) (N := 10) (c_X8_troubleOf hl0 G I J ho w (by omega)) dX8_traverseOf_81 kX8_176 qX8_troubleOf hdX8_troubleOf ⟨Nat.le_of_ble_eq_true rfl, Nat.le_of_ble_eq_true rfl⟩ ⟨Nat.le_of_ble_eq_true rfl, Nat.le_of_ble_eq_true rfl⟩ (Nat.le_of_ble_eq_true rfl) rfl xs_231 xn_231 rfl (fun z_81 => ?_)
    have hr_81 := sTT_v (I 232) ((w).toNat)
    exact gw_iret C (Nat.le_of_ble_eq_true rfl) (Nat.le_of_ble_eq_true rfl) dX8_traverseOf_84 (⟨congrArg (fun q => some (vI q)) (by first | (exfalso; omega) | (unfold rTrav; (repeat (first | rw [if_pos (by omega)] | rw [if_neg (by omega)])); first | done | rfl | (congr 1; omega))), rfl, rfl⟩)
  · skip
    refine gw_tableIn C (tgt := 85) (off := 84) dX8_traverseOf_1 (by first | omega | exact hgi _ _) (by omega) (by omega) (by rw [h_1]; rfl) (by decide) ?_
    refine gw_aload_n C 0 dX8_traverseOf_85 rfl rfl ?_
    refine gw_iload_n C 1 dX8_traverseOf_86 rfl rfl ?_
    refine gw_callVb C (as := [vI w]) (st := []) (ci := 7) (T0 := TX8) (N := 10) (c_X8_isWhole hl0 G I J ho w (by omega)) dX8_traverseOf_87 kX8_195 qX8_isWhole hdX8_isWhole ⟨Nat.le_of_ble_eq_true rfl, Nat.le_of_ble_eq_true rfl⟩ ⟨Nat.le_of_ble_eq_true rfl, Nat.le_of_ble_eq_true rfl⟩ (Nat.le_of_ble_eq_true rfl) rfl xs_231 xn_231 rfl (fun h_87 z_87 => ?_) (fun h_87 z_87 => ?_)
    · skip
      refine gw_if_eq C (tgt := 101) dX8_traverseOf_90 (by decide) ⟨by decide, by decide⟩ (fun h => absurd h (by decide)) (fun _ => ?_)
      refine gw_aload_n C 0 dX8_traverseOf_93 rfl rfl ?_
      refine gw_iload_n C 1 dX8_traverseOf_94 rfl rfl ?_
      refine gw_callVm C (as := [vI w]) (st := []) (ci := 7) (T0 := TX8) (N := 10) (c_X8_gap hl0 G I J ho w (by omega) (by omega) (by omega) (by omega)) dX8_traverseOf_95 kX8_170 qX8_gap hdX8_gap ⟨Nat.le_of_ble_eq_true rfl, Nat.le_of_ble_eq_true rfl⟩ ⟨Nat.le_of_ble_eq_true rfl, Nat.le_of_ble_eq_true rfl⟩ (Nat.le_of_ble_eq_true rfl) rfl xs_231 xn_231 rfl (fun z_95 => ?_)
      have hr_95 := sG_b (I 232) ((w).toNat)
      refine gw_goto C (tgt := 103) dX8_traverseOf_98 (by decide) ?_
      exact gw_iret C (Nat.le_of_ble_eq_true rfl) (Nat.le_of_ble_eq_true rfl) dX8_traverseOf_103 (⟨congrArg (fun q => some (vI q)) (by first | (exfalso; omega) | (unfold rTrav; (repeat (first | rw [if_pos (by omega)] | rw [if_neg (by omega)])); first | done | rfl | (congr 1; omega))), rfl, rfl⟩)
    · skip
      refine gw_if_eq C (tgt := 101) dX8_traverseOf_90 (by decide) ⟨by decide, by decide⟩ (fun _ => ?_) (fun h => absurd h (by decide))
      refine gw_ldc C (x := (-2000000000)) dX8_traverseOf_101 kX8_105 (by decide) ?_
      exact gw_iret C (Nat.le_of_ble_eq_true rfl) (Nat.le_of_ble_eq_true rfl) dX8_traverseOf_103 (⟨congrArg (fun q => some (vI q)) (by first | (exfalso; omega) | (unfold rTrav; (repeat (first | rw [if_pos (by omega)] | rw [if_neg (by omega)])); first | done | rfl | (congr 1; omega))), rfl, rfl⟩)
  · skip
    refine gw_tableIn C (tgt := 104) (off := 103) dX8_traverseOf_1 (by first | omega | exact hgi _ _) (by omega) (by omega) (by rw [h_1]; rfl) (by decide) ?_
    refine gw_iconst C dX8_traverseOf_104 ?_
    refine gw_istore_n C (lo1 := [some (vR 231), some (vI w), some (vI a), some (vI 0), none]) 3 dX8_traverseOf_105 rfl (by decide) rfl ?_
    refine gw_iconst C dX8_traverseOf_106 ?_
    refine gw_istore C (lo1 := [some (vR 231), some (vI w), some (vI a), some (vI 0), some (vI 0)]) dX8_traverseOf_107 (by decide) rfl ?_
    have loop_109 : ∀ (fuel : Nat) (u : Int) (k : Nat) (z1 : Nat), ((k : Int) ≤ I 232 (103 + 28 * w.toNat)) → (u = smF k (sLe (I 232) w.toNat)) → (0 ≤ u ∧ u ≤ 200000 * (k : Int)) → 13 - k < fuel → GW G p l e ({ frames := 7, cells := 0, slots := 0, locals := 157 } : Room) s m args below meth c 5 z1 N0 SH RR I J 0 0 (vx_MQ below (GQ G N0 SH RR (memQ (some (vI (rTrav (I 232) w.toNat a))) I J)) (GX G N0 SH RR gNo) args s 0 0 (ge G)) 109 [some (vR 231), some (vI w), some (vI a), some (vI u), some (vI (k : Int))] [] := by
      intro fuel
      induction fuel with
      | zero => intro u k z1 hk hu hub hf_109; exact absurd hf_109 (Nat.not_lt_zero _)
      | succ fuel ih_109 =>
        intro u k z1 hk hu hub hf_109
        refine gw_iload C dX8_traverseOf_109 rfl ?_
        refine gw_aload_n C 0 dX8_traverseOf_111 rfl rfl ?_
        refine gw_iload_n C 1 dX8_traverseOf_112 rfl rfl ?_
        refine gw_callVm C (as := [vI w]) (st := [vI (k : Int)]) (ci := 7) (T0 := TX8) (N := 10) (c_X8_legs hl0 G I J ho w (by omega)) dX8_traverseOf_113 kX8_77 qX8_legs hdX8_legs ⟨Nat.le_of_ble_eq_true rfl, Nat.le_of_ble_eq_true rfl⟩ ⟨Nat.le_of_ble_eq_true rfl, Nat.le_of_ble_eq_true rfl⟩ (Nat.le_of_ble_eq_true rfl) rfl xs_231 xn_231 rfl (fun z_113 => ?_)
        refine gw_icmp_ge C (tgt := 135) dX8_traverseOf_116 (by decide) (by first | omega | exact hgi _ _) (by first | omega | exact hgi _ _) (fun h_116 => ?_) (fun h_116 => ?_)
        · skip
          refine gw_iload_n C 3 dX8_traverseOf_135 rfl rfl ?_
          exact gw_iret C (Nat.le_of_ble_eq_true rfl) (Nat.le_of_ble_eq_true rfl) dX8_traverseOf_136 (⟨congrArg (fun q => some (vI q)) (by unfold rTrav; (repeat (first | rw [if_pos (by omega)] | rw [if_neg (by omega)])); rw [hu]; congr 1; unfold sLg; omega), rfl, rfl⟩)
        · skip
          refine gw_iload_n C 3 dX8_traverseOf_119 rfl rfl ?_
          refine gw_aload_n C 0 dX8_traverseOf_120 rfl rfl ?_
          refine gw_iload_n C 1 dX8_traverseOf_121 rfl rfl ?_
          refine gw_iload C dX8_traverseOf_122 rfl ?_
          refine gw_callVm C (as := [vI w, vI (k : Int)]) (st := [vI u]) (ci := 7) (T0 := TX8) (N := 10) (c_X8_length hl0 G I J ho w (k : Int) (by omega)) dX8_traverseOf_124 kX8_183 qX8_length hdX8_length ⟨Nat.le_of_ble_eq_true rfl, Nat.le_of_ble_eq_true rfl⟩ ⟨Nat.le_of_ble_eq_true rfl, Nat.le_of_ble_eq_true rfl⟩ (Nat.le_of_ble_eq_true rfl) rfl xs_231 xn_231 rfl (fun z_124 => ?_)
          rw [show (k : Int).toNat = k from by omega]
          have ha9 := hot.2.2 k (by omega)
          refine gw_iadd C dX8_traverseOf_127 ?_
          refine gw_istore_n C (lo1 := [some (vR 231), some (vI w), some (vI a), some (vI (u + (I 232 (107 + 28 * ((w).toNat) + 2 * k)))), some (vI (k : Int))]) 3 dX8_traverseOf_128 rfl (by decide) rfl ?_
          refine gw_iinc C (lo1 := [some (vR 231), some (vI w), some (vI a), some (vI (u + (I 232 (107 + 28 * ((w).toNat) + 2 * k)))), some (vI ((k : Int) + 1))]) dX8_traverseOf_129 rfl (by decide) rfl ?_
          refine gw_goto C (tgt := 109) dX8_traverseOf_132 (by decide) ?_
          exact gw_weak (lo' := [some (vR 231), some (vI w), some (vI a), some (vI (u + (I 232 (107 + 28 * ((w).toNat) + 2 * k)))), some (vI (((k + 1) : Nat) : Int))]) ⟨rfl, rfl, rfl, rfl, congrArg (fun q => some (vI q)) (by omega), trivial⟩ (ih_109 (u + (I 232 (107 + 28 * ((w).toNat) + 2 * k))) (k + 1) z_124 (by omega) (by rw [smF_s, ← hu]; rfl) (by omega) (by omega))
    exact gw_weak (lo' := [some (vR 231), some (vI w), some (vI a), some (vI 0), some (vI (0 : Int))]) ⟨rfl, rfl, rfl, rfl, congrArg (fun q => some (vI q)) (by omega), trivial⟩ (loop_109 _ 0 0 z (by omega) (by rfl) (by omega) (Nat.lt_succ_self _))
  · skip
    refine gw_tableIn C (tgt := 137) (off := 136) dX8_traverseOf_1 (by first | omega | exact hgi _ _) (by omega) (by omega) (by rw [h_1]; rfl) (by decide) ?_
    refine gw_aload_n C 0 dX8_traverseOf_137 rfl rfl ?_
    refine gw_iload_n C 1 dX8_traverseOf_138 rfl rfl ?_
    refine gw_callVb C (as := [vI w]) (st := []) (ci := 7) (T0 := TX8) (N := 10) (c_X8_isWhole hl0 G I J ho w (by omega)) dX8_traverseOf_139 kX8_195 qX8_isWhole hdX8_isWhole ⟨Nat.le_of_ble_eq_true rfl, Nat.le_of_ble_eq_true rfl⟩ ⟨Nat.le_of_ble_eq_true rfl, Nat.le_of_ble_eq_true rfl⟩ (Nat.le_of_ble_eq_true rfl) rfl xs_231 xn_231 rfl (fun h_139 z_139 => ?_) (fun h_139 z_139 => ?_)
    · skip
      refine gw_if_eq C (tgt := 164) dX8_traverseOf_142 (by decide) ⟨by decide, by decide⟩ (fun h => absurd h (by decide)) (fun _ => ?_)
      refine gw_aload_n C 0 dX8_traverseOf_145 rfl rfl ?_
      refine gw_iload_n C 1 dX8_traverseOf_146 rfl rfl ?_
      refine gw_iload_n C 2 dX8_traverseOf_147 rfl rfl ?_
      refine gw_bipush C dX8_traverseOf_148 rfl ?_
      refine gw_icmp_ne C (tgt := 157) dX8_traverseOf_150 (by decide) (by first | omega | exact hgi _ _) ⟨by decide, by decide⟩ (fun h_150 => ?_) (fun h_150 => ?_)
      · skip
        refine gw_iconst C dX8_traverseOf_157 ?_
        refine gw_callVm C (as := [vI w, vI 0]) (st := []) (ci := 7) (T0 := TX8) (N := 10) (c_X8_miss_0 hl0 G I J ho w (by omega) (by omega) (by omega)) dX8_traverseOf_158 kX8_198 qX8_miss hdX8_miss ⟨Nat.le_of_ble_eq_true rfl, Nat.le_of_ble_eq_true rfl⟩ ⟨Nat.le_of_ble_eq_true rfl, Nat.le_of_ble_eq_true rfl⟩ (Nat.le_of_ble_eq_true rfl) rfl xs_231 xn_231 rfl (fun z_158 => ?_)
        have hr_158 := sME_c ho (t := ((w).toNat)) (by omega) (by omega)
        refine gw_goto C (tgt := 166) dX8_traverseOf_161 (by decide) ?_
        exact gw_iret C (Nat.le_of_ble_eq_true rfl) (Nat.le_of_ble_eq_true rfl) dX8_traverseOf_166 (⟨congrArg (fun q => some (vI q)) (by first | (exfalso; omega) | (unfold rTrav; (repeat (first | rw [if_pos (by omega)] | rw [if_neg (by omega)])); first | done | rfl | (congr 1; omega))), rfl, rfl⟩)
      · skip
        refine gw_iconst C dX8_traverseOf_153 ?_
        refine gw_goto C (tgt := 158) dX8_traverseOf_154 (by decide) ?_
        refine gw_callVm C (as := [vI w, vI 1]) (st := []) (ci := 7) (T0 := TX8) (N := 10) (c_X8_miss_1 hl0 G I J ho w (by omega) (by omega) (by omega)) dX8_traverseOf_158 kX8_198 qX8_miss hdX8_miss ⟨Nat.le_of_ble_eq_true rfl, Nat.le_of_ble_eq_true rfl⟩ ⟨Nat.le_of_ble_eq_true rfl, Nat.le_of_ble_eq_true rfl⟩ (Nat.le_of_ble_eq_true rfl) rfl xs_231 xn_231 rfl (fun z_158_2 => ?_)
        have hr_158_2 := sME_c ho (t := ((w).toNat)) (by omega) (by omega)
        refine gw_goto C (tgt := 166) dX8_traverseOf_161 (by decide) ?_
        exact gw_iret C (Nat.le_of_ble_eq_true rfl) (Nat.le_of_ble_eq_true rfl) dX8_traverseOf_166 (⟨congrArg (fun q => some (vI q)) (by first | (exfalso; omega) | (unfold rTrav; (repeat (first | rw [if_pos (by omega)] | rw [if_neg (by omega)])); first | done | rfl | (congr 1; omega))), rfl, rfl⟩)
    · skip
      refine gw_if_eq C (tgt := 164) dX8_traverseOf_142 (by decide) ⟨by decide, by decide⟩ (fun _ => ?_) (fun h => absurd h (by decide))
      refine gw_ldc C (x := (-2000000000)) dX8_traverseOf_164 kX8_105 (by decide) ?_
      exact gw_iret C (Nat.le_of_ble_eq_true rfl) (Nat.le_of_ble_eq_true rfl) dX8_traverseOf_166 (⟨congrArg (fun q => some (vI q)) (by first | (exfalso; omega) | (unfold rTrav; (repeat (first | rw [if_pos (by omega)] | rw [if_neg (by omega)])); first | done | rfl | (congr 1; omega))), rfl, rfl⟩)
  · skip
    refine gw_tableIn C (tgt := 137) (off := 136) dX8_traverseOf_1 (by first | omega | exact hgi _ _) (by omega) (by omega) (by rw [h_1]; rfl) (by decide) ?_
    refine gw_aload_n C 0 dX8_traverseOf_137 rfl rfl ?_
    refine gw_iload_n C 1 dX8_traverseOf_138 rfl rfl ?_
    refine gw_callVb C (as := [vI w]) (st := []) (ci := 7) (T0 := TX8) (N := 10) (c_X8_isWhole hl0 G I J ho w (by omega)) dX8_traverseOf_139 kX8_195 qX8_isWhole hdX8_isWhole ⟨Nat.le_of_ble_eq_true rfl, Nat.le_of_ble_eq_true rfl⟩ ⟨Nat.le_of_ble_eq_true rfl, Nat.le_of_ble_eq_true rfl⟩ (Nat.le_of_ble_eq_true rfl) rfl xs_231 xn_231 rfl (fun h_139_2 z_139_2 => ?_) (fun h_139_2 z_139_2 => ?_)
    · skip
      refine gw_if_eq C (tgt := 164) dX8_traverseOf_142 (by decide) ⟨by decide, by decide⟩ (fun h => absurd h (by decide)) (fun _ => ?_)
      refine gw_aload_n C 0 dX8_traverseOf_145 rfl rfl ?_
      refine gw_iload_n C 1 dX8_traverseOf_146 rfl rfl ?_
      refine gw_iload_n C 2 dX8_traverseOf_147 rfl rfl ?_
      refine gw_bipush C dX8_traverseOf_148 rfl ?_
      refine gw_icmp_ne C (tgt := 157) dX8_traverseOf_150 (by decide) (by first | omega | exact hgi _ _) ⟨by decide, by decide⟩ (fun h_150_2 => ?_) (fun h_150_2 => ?_)
      · skip
        refine gw_iconst C dX8_traverseOf_157 ?_
        refine gw_callVm C (as := [vI w, vI 0]) (st := []) (ci := 7) (T0 := TX8) (N := 10) (c_X8_miss_0 hl0 G I J ho w (by omega) (by omega) (by omega)) dX8_traverseOf_158 kX8_198 qX8_miss hdX8_miss ⟨Nat.le_of_ble_eq_true rfl, Nat.le_of_ble_eq_true rfl⟩ ⟨Nat.le_of_ble_eq_true rfl, Nat.le_of_ble_eq_true rfl⟩ (Nat.le_of_ble_eq_true rfl) rfl xs_231 xn_231 rfl (fun z_158_3 => ?_)
        have hr_158_3 := sME_c ho (t := ((w).toNat)) (by omega) (by omega)
        refine gw_goto C (tgt := 166) dX8_traverseOf_161 (by decide) ?_
        exact gw_iret C (Nat.le_of_ble_eq_true rfl) (Nat.le_of_ble_eq_true rfl) dX8_traverseOf_166 (⟨congrArg (fun q => some (vI q)) (by first | (exfalso; omega) | (unfold rTrav; (repeat (first | rw [if_pos (by omega)] | rw [if_neg (by omega)])); first | done | rfl | (congr 1; omega))), rfl, rfl⟩)
      · skip
        refine gw_iconst C dX8_traverseOf_153 ?_
        refine gw_goto C (tgt := 158) dX8_traverseOf_154 (by decide) ?_
        refine gw_callVm C (as := [vI w, vI 1]) (st := []) (ci := 7) (T0 := TX8) (N := 10) (c_X8_miss_1 hl0 G I J ho w (by omega) (by omega) (by omega)) dX8_traverseOf_158 kX8_198 qX8_miss hdX8_miss ⟨Nat.le_of_ble_eq_true rfl, Nat.le_of_ble_eq_true rfl⟩ ⟨Nat.le_of_ble_eq_true rfl, Nat.le_of_ble_eq_true rfl⟩ (Nat.le_of_ble_eq_true rfl) rfl xs_231 xn_231 rfl (fun z_158_4 => ?_)
        have hr_158_4 := sME_c ho (t := ((w).toNat)) (by omega) (by omega)
        refine gw_goto C (tgt := 166) dX8_traverseOf_161 (by decide) ?_
        exact gw_iret C (Nat.le_of_ble_eq_true rfl) (Nat.le_of_ble_eq_true rfl) dX8_traverseOf_166 (⟨congrArg (fun q => some (vI q)) (by first | (exfalso; omega) | (unfold rTrav; (repeat (first | rw [if_pos (by omega)] | rw [if_neg (by omega)])); first | done | rfl | (congr 1; omega))), rfl, rfl⟩)
    · skip
      refine gw_if_eq C (tgt := 164) dX8_traverseOf_142 (by decide) ⟨by decide, by decide⟩ (fun _ => ?_) (fun h => absurd h (by decide))
      refine gw_ldc C (x := (-2000000000)) dX8_traverseOf_164 kX8_105 (by decide) ?_
      exact gw_iret C (Nat.le_of_ble_eq_true rfl) (Nat.le_of_ble_eq_true rfl) dX8_traverseOf_166 (⟨congrArg (fun q => some (vI q)) (by first | (exfalso; omega) | (unfold rTrav; (repeat (first | rw [if_pos (by omega)] | rw [if_neg (by omega)])); first | done | rfl | (congr 1; omega))), rfl, rfl⟩)
  · skip
    refine gw_tableOut C (tgt := 167) dX8_traverseOf_1 (by first | omega | exact hgi _ _) h_1 (by decide) ?_
    refine gw_aload_n C 0 dX8_traverseOf_167 rfl rfl ?_
    refine gw_iload_n C 1 dX8_traverseOf_168 rfl rfl ?_
    refine gw_callVb C (as := [vI w]) (st := []) (ci := 7) (T0 := TX8) (N := 10) (c_X8_isWhole hl0 G I J ho w (by omega)) dX8_traverseOf_169 kX8_195 qX8_isWhole hdX8_isWhole ⟨Nat.le_of_ble_eq_true rfl, Nat.le_of_ble_eq_true rfl⟩ ⟨Nat.le_of_ble_eq_true rfl, Nat.le_of_ble_eq_true rfl⟩ (Nat.le_of_ble_eq_true rfl) rfl xs_231 xn_231 rfl (fun h_169 z_169 => ?_) (fun h_169 z_169 => ?_)
    · skip
      refine gw_if_eq C (tgt := 195) dX8_traverseOf_172 (by decide) ⟨by decide, by decide⟩ (fun h => absurd h (by decide)) (fun _ => ?_)
      refine gw_aload_n C 0 dX8_traverseOf_175 rfl rfl ?_
      refine gw_iload_n C 1 dX8_traverseOf_176 rfl rfl ?_
      refine gw_iconst C dX8_traverseOf_177 ?_
      refine gw_callVm C (as := [vI w, vI 1]) (st := []) (ci := 7) (T0 := TX8) (N := 10) (c_X8_miss_1 hl0 G I J ho w (by omega) (by omega) (by omega)) dX8_traverseOf_178 kX8_198 qX8_miss hdX8_miss ⟨Nat.le_of_ble_eq_true rfl, Nat.le_of_ble_eq_true rfl⟩ ⟨Nat.le_of_ble_eq_true rfl, Nat.le_of_ble_eq_true rfl⟩ (Nat.le_of_ble_eq_true rfl) rfl xs_231 xn_231 rfl (fun z_178 => ?_)
      have hr_178 := sME_c ho (t := ((w).toNat)) (by omega) (by omega)
      refine gw_i2l C dX8_traverseOf_181 (by first | omega | exact hgi _ _) ?_
      refine gw_aload_n C 0 dX8_traverseOf_182 rfl rfl ?_
      refine gw_iload_n C 1 dX8_traverseOf_183 rfl rfl ?_
      refine gw_iconst C dX8_traverseOf_184 ?_
      refine gw_callVm C (as := [vI w, vI 0]) (st := [vL (sME (I 232) ((w).toNat))]) (ci := 7) (T0 := TX8) (N := 10) (c_X8_miss_0 hl0 G I J ho w (by omega) (by omega) (by omega)) dX8_traverseOf_185 kX8_198 qX8_miss hdX8_miss ⟨Nat.le_of_ble_eq_true rfl, Nat.le_of_ble_eq_true rfl⟩ ⟨Nat.le_of_ble_eq_true rfl, Nat.le_of_ble_eq_true rfl⟩ (Nat.le_of_ble_eq_true rfl) rfl xs_231 xn_231 rfl (fun z_185 => ?_)
      have hr_185 := sME_c ho (t := ((w).toNat)) (by omega) (by omega)
      refine gw_i2l C dX8_traverseOf_188 (by first | omega | exact hgi _ _) ?_
      refine gw_callSm C (as := [vL (sME (I 232) ((w).toNat)), vL (sMN (I 232) ((w).toNat))]) (st := []) (c_X8_far hl0 G (sME (I 232) ((w).toNat)) (sMN (I 232) ((w).toNat)) (sq2 (by have := sME_c ho (t := w.toNat) (by omega) (by omega); omega) (by have := sME_c ho (t := w.toNat) (by omega) (by omega); omega))) dX8_traverseOf_189 kX8_202 qX8_far hdX8_far ⟨Nat.le_of_ble_eq_true rfl, Nat.le_of_ble_eq_true rfl⟩ ⟨Nat.le_of_ble_eq_true rfl, Nat.le_of_ble_eq_true rfl⟩ (Nat.le_of_ble_eq_true rfl) rfl (fun z_189 => ?_)
      refine gw_goto C (tgt := 197) dX8_traverseOf_192 (by decide) ?_
      exact gw_iret C (Nat.le_of_ble_eq_true rfl) (Nat.le_of_ble_eq_true rfl) dX8_traverseOf_197 (⟨congrArg (fun q => some (vI q)) (by first | (exfalso; omega) | (unfold rTrav; (repeat (first | rw [if_pos (by omega)] | rw [if_neg (by omega)])); first | done | rfl | (congr 1; omega))), rfl, rfl⟩)
    · skip
      refine gw_if_eq C (tgt := 195) dX8_traverseOf_172 (by decide) ⟨by decide, by decide⟩ (fun _ => ?_) (fun h => absurd h (by decide))
      refine gw_ldc C (x := (-2000000000)) dX8_traverseOf_195 kX8_105 (by decide) ?_
      exact gw_iret C (Nat.le_of_ble_eq_true rfl) (Nat.le_of_ble_eq_true rfl) dX8_traverseOf_197 (⟨congrArg (fun q => some (vI q)) (by first | (exfalso; omega) | (unfold rTrav; (repeat (first | rw [if_pos (by omega)] | rw [if_neg (by omega)])); first | done | rfl | (congr 1; omega))), rfl, rfl⟩)
set_option maxHeartbeats 4000000 in
set_option maxRecDepth 100000 in
theorem c_X8_legOf {l : Launch} (hl0 : l.stackTraces = false) (G : GG) (I J : GI) {z : Nat} (ho : Oks (I 232)) (w b a : Int) (hq : 0 ≤ w ∧ w < I 232 5) (hb : 0 ≤ b ∧ b < I 232 (103 + 28 * w.toNat)) (ha : 0 ≤ a ∧ a ≤ 4) : GM l yX8_legOf (.code yX8_legOf cX8_legOf 4 (some .int)) 5 120 0 0 G N0 SH RR [vR 231, vI w, vI b, vI a] z I J (memQ (some (vI (rLeg (I 232) w.toNat b.toNat a))) I J) gNo := by
  refine gm_of (lo0 := [some (vR 231), some (vI w), some (vI b), some (vI a)]) hl0 (by decide) rfl (Nat.le_of_ble_eq_true rfl) ?_
  intro p e s m args below meth c C ht hgi
  have C : gC G p l s m args meth c cX8_legOf 4 RX8 (some .int) "legOf" := C
  have h3 := ho.2.1
  have h0 := ho.1
  have hot := okT ho (t := w.toNat) (by omega)
  have h67 := sTT_67 (S := I 232) (t := w.toNat)
  have h59 := sTT_5 (S := I 232) (t := w.toNat)
  refine gw_iload_n C 3 dX8_legOf_0 rfl rfl ?_
  refine gw_iconst C dX8_legOf_1 ?_
  refine gw_icmp_ge C (tgt := 25) dX8_legOf_2 (by decide) (by first | omega | exact hgi _ _) ⟨by decide, by decide⟩ (fun h_2 => ?_) (fun h_2 => ?_)
  · skip
    refine gw_aload_n C 0 dX8_legOf_25 rfl rfl ?_
    refine gw_aload_n C 0 dX8_legOf_26 rfl rfl ?_
    refine gw_iload_n C 1 dX8_legOf_27 rfl rfl ?_
    refine gw_iconst C dX8_legOf_28 ?_
    refine gw_callVm C (as := [vI w, vI 0]) (st := [vR 231]) (ci := 7) (T0 := TX8) (N := 10) (c_X8_of hl0 G I J ho w 0 (by omega)) dX8_legOf_29 kX8_33 qX8_of hdX8_of ⟨Nat.le_of_ble_eq_true rfl, Nat.le_of_ble_eq_true rfl⟩ ⟨Nat.le_of_ble_eq_true rfl, Nat.le_of_ble_eq_true rfl⟩ (Nat.le_of_ble_eq_true rfl) rfl xs_231 xn_231 rfl (fun z_29 => ?_)
    rw [show (0 : Int).toNat = 0 from rfl]
    rw [show I 232 (102 + 28 * ((w).toNat) + 0) = (I 232 (102 + 28 * ((w).toNat))) from by first | rfl | (congr 1 <;> omega) | (congr 1; congr 1 <;> omega)]
    refine gw_callVm C (as := [vI (I 232 (102 + 28 * ((w).toNat)))]) (st := []) (ci := 7) (T0 := TX8) (N := 10) (c_X8_troubleOfJoin hl0 G I J ho (I 232 (102 + 28 * ((w).toNat))) (by omega)) dX8_legOf_32 kX8_144 qX8_troubleOfJoin hdX8_troubleOfJoin ⟨Nat.le_of_ble_eq_true rfl, Nat.le_of_ble_eq_true rfl⟩ ⟨Nat.le_of_ble_eq_true rfl, Nat.le_of_ble_eq_true rfl⟩ (Nat.le_of_ble_eq_true rfl) rfl xs_231 xn_231 rfl (fun z_32 => ?_)
    rw [show (I 232 (102 + 28 * ((w).toNat))).toNat = (sFi (I 232) ((w).toNat)) from rfl]
    have hr_32 := sJ_v (I 232) (sFi (I 232) ((w).toNat))
    refine gw_if_le C (tgt := 41) dX8_legOf_35 (by decide) (by first | omega | exact hgi _ _) (fun h_35 => ?_) (fun h_35 => ?_)
    · skip
      refine gw_iload_n C 3 dX8_legOf_41 rfl rfl ?_
      refine gw_iconst C dX8_legOf_42 ?_
      refine gw_icmp_ne C (tgt := 55) dX8_legOf_43 (by decide) (by first | omega | exact hgi _ _) ⟨by decide, by decide⟩ (fun h_43 => ?_) (fun h_43 => ?_)
      · skip
        refine gw_aload_n C 0 dX8_legOf_55 rfl rfl ?_
        refine gw_iload_n C 1 dX8_legOf_56 rfl rfl ?_
        refine gw_iload_n C 2 dX8_legOf_57 rfl rfl ?_
        refine gw_iload_n C 3 dX8_legOf_58 rfl rfl ?_
        refine gw_iconst C dX8_legOf_59 ?_
        refine gw_icmp_ne C (tgt := 67) dX8_legOf_60 (by decide) (by first | omega | exact hgi _ _) ⟨by decide, by decide⟩ (fun h_60 => ?_) (fun h_60 => ?_)
        · skip
          refine gw_iconst C dX8_legOf_67 ?_
          refine gw_callVm C (as := [vI w, vI b, vI 0]) (st := []) (ci := 7) (T0 := TX8) (N := 10) (c_X8_end_0 hl0 G I J ho w b (by omega) (by omega) (by omega)) dX8_legOf_68 kX8_191 qX8_end hdX8_end ⟨Nat.le_of_ble_eq_true rfl, Nat.le_of_ble_eq_true rfl⟩ ⟨Nat.le_of_ble_eq_true rfl, Nat.le_of_ble_eq_true rfl⟩ (Nat.le_of_ble_eq_true rfl) rfl xs_231 xn_231 rfl (fun z_68 => ?_)
          have he_68 := (sEa_b ho (t := ((w).toNat)) (by omega) (b + 1).toNat (by omega)).2
          exact gw_iret C (Nat.le_of_ble_eq_true rfl) (Nat.le_of_ble_eq_true rfl) dX8_legOf_71 (⟨congrArg (fun q => some (vI q)) (by first | (exfalso; omega) | (unfold rLeg; (repeat (first | rw [if_pos (by omega)] | rw [if_neg (by omega)])); first | done | rfl | (congr 1; omega))), rfl, rfl⟩)
        · skip
          refine gw_iconst C dX8_legOf_63 ?_
          refine gw_goto C (tgt := 68) dX8_legOf_64 (by decide) ?_
          refine gw_callVm C (as := [vI w, vI b, vI 1]) (st := []) (ci := 7) (T0 := TX8) (N := 10) (c_X8_end_1 hl0 G I J ho w b (by omega) (by omega) (by omega)) dX8_legOf_68 kX8_191 qX8_end hdX8_end ⟨Nat.le_of_ble_eq_true rfl, Nat.le_of_ble_eq_true rfl⟩ ⟨Nat.le_of_ble_eq_true rfl, Nat.le_of_ble_eq_true rfl⟩ (Nat.le_of_ble_eq_true rfl) rfl xs_231 xn_231 rfl (fun z_68_2 => ?_)
          have he_68 := (sEa_b ho (t := ((w).toNat)) (by omega) (b + 1).toNat (by omega)).1
          exact gw_iret C (Nat.le_of_ble_eq_true rfl) (Nat.le_of_ble_eq_true rfl) dX8_legOf_71 (⟨congrArg (fun q => some (vI q)) (by first | (exfalso; omega) | (unfold rLeg; (repeat (first | rw [if_pos (by omega)] | rw [if_neg (by omega)])); first | done | rfl | (congr 1; omega))), rfl, rfl⟩)
      · skip
        refine gw_aload_n C 0 dX8_legOf_46 rfl rfl ?_
        refine gw_iload_n C 1 dX8_legOf_47 rfl rfl ?_
        refine gw_iload_n C 2 dX8_legOf_48 rfl rfl ?_
        refine gw_callVm C (as := [vI w, vI b]) (st := []) (ci := 7) (T0 := TX8) (N := 10) (c_X8_bearing hl0 G I J ho w b (by omega) (by omega) (by omega)) dX8_legOf_49 kX8_164 qX8_bearing hdX8_bearing ⟨Nat.le_of_ble_eq_true rfl, Nat.le_of_ble_eq_true rfl⟩ ⟨Nat.le_of_ble_eq_true rfl, Nat.le_of_ble_eq_true rfl⟩ (Nat.le_of_ble_eq_true rfl) rfl xs_231 xn_231 rfl (fun z_49 => ?_)
        have hr_49 := bg_b (I 232) ((w).toNat) ((b).toNat)
        rw [bg_1 (S := I 232) (t := w.toNat) (k := b.toNat) (by omega)]
        refine gw_goto C (tgt := 71) dX8_legOf_52 (by decide) ?_
        exact gw_iret C (Nat.le_of_ble_eq_true rfl) (Nat.le_of_ble_eq_true rfl) dX8_legOf_71 (⟨congrArg (fun q => some (vI q)) (by first | (exfalso; omega) | (unfold rLeg; (repeat (first | rw [if_pos (by omega)] | rw [if_neg (by omega)])); first | done | rfl | (congr 1; omega))), rfl, rfl⟩)
    · skip
      refine gw_ldc C (x := (-2000000000)) dX8_legOf_38 kX8_105 (by decide) ?_
      exact gw_iret C (Nat.le_of_ble_eq_true rfl) (Nat.le_of_ble_eq_true rfl) dX8_legOf_40 (⟨congrArg (fun q => some (vI q)) (by first | (exfalso; omega) | (unfold rLeg; (repeat (first | rw [if_pos (by omega)] | rw [if_neg (by omega)])); first | done | rfl | (congr 1; omega))), rfl, rfl⟩)
  · skip
    refine gw_iload_n C 3 dX8_legOf_5 rfl rfl ?_
    refine gw_if_ne C (tgt := 18) dX8_legOf_6 (by decide) (by first | omega | exact hgi _ _) (fun h_6 => ?_) (fun h_6 => ?_)
    · skip
      refine gw_aload_n C 0 dX8_legOf_18 rfl rfl ?_
      refine gw_iload_n C 1 dX8_legOf_19 rfl rfl ?_
      refine gw_iload_n C 2 dX8_legOf_20 rfl rfl ?_
      refine gw_callVm C (as := [vI w, vI b]) (st := []) (ci := 7) (T0 := TX8) (N := 10) (c_X8_length hl0 G I J ho w b (by omega)) dX8_legOf_21 kX8_183 qX8_length hdX8_length ⟨Nat.le_of_ble_eq_true rfl, Nat.le_of_ble_eq_true rfl⟩ ⟨Nat.le_of_ble_eq_true rfl, Nat.le_of_ble_eq_true rfl⟩ (Nat.le_of_ble_eq_true rfl) rfl xs_231 xn_231 rfl (fun z_21 => ?_)
      exact gw_iret C (Nat.le_of_ble_eq_true rfl) (Nat.le_of_ble_eq_true rfl) dX8_legOf_24 (⟨congrArg (fun q => some (vI q)) (by first | (exfalso; omega) | (unfold rLeg; (repeat (first | rw [if_pos (by omega)] | rw [if_neg (by omega)])); first | done | rfl | (congr 1; omega))), rfl, rfl⟩)
    · skip
      refine gw_aload_n C 0 dX8_legOf_9 rfl rfl ?_
      refine gw_iload_n C 1 dX8_legOf_10 rfl rfl ?_
      refine gw_iload_n C 2 dX8_legOf_11 rfl rfl ?_
      refine gw_callVm C (as := [vI w, vI b]) (st := []) (ci := 7) (T0 := TX8) (N := 10) (c_X8_angle hl0 G I J ho w b (by omega)) dX8_legOf_12 kX8_161 qX8_angle hdX8_angle ⟨Nat.le_of_ble_eq_true rfl, Nat.le_of_ble_eq_true rfl⟩ ⟨Nat.le_of_ble_eq_true rfl, Nat.le_of_ble_eq_true rfl⟩ (Nat.le_of_ble_eq_true rfl) rfl xs_231 xn_231 rfl (fun z_12 => ?_)
      refine gw_goto C (tgt := 24) dX8_legOf_15 (by decide) ?_
      exact gw_iret C (Nat.le_of_ble_eq_true rfl) (Nat.le_of_ble_eq_true rfl) dX8_legOf_24 (⟨congrArg (fun q => some (vI q)) (by first | (exfalso; omega) | (unfold rLeg; (repeat (first | rw [if_pos (by omega)] | rw [if_neg (by omega)])); first | done | rfl | (congr 1; omega))), rfl, rfl⟩)
set_option maxHeartbeats 4000000 in
set_option maxRecDepth 100000 in
theorem c_X8_troubleAt {l : Launch} (hl0 : l.stackTraces = false) (G : GG) (I J : GI) {z : Nat} (ho : Oks (I 232)) (w a : Int) (hq : 0 ≤ w ∧ w < I 232 5) (hai : inI a) : GM l yX8_troubleAt (.code yX8_troubleAt cX8_troubleAt 8 (some .int)) 6 136 0 0 G N0 SH RR [vR 231, vI w, vI a] z I J (memQ (some (vI (rTrb (I 232) w.toNat a))) I J) gNo := by
  refine gm_of (lo0 := [some (vR 231), some (vI w), some (vI a), none, none, none, none, none]) hl0 (by decide) rfl (Nat.le_of_ble_eq_true rfl) ?_
  intro p e s m args below meth c C ht hgi
  have C : gC G p l s m args meth c cX8_troubleAt 8 RX8 (some .int) "troubleAt" := C
  have h3 := ho.2.1
  have h0 := ho.1
  have hot := okT ho (t := w.toNat) (by omega)
  have h67 := sTT_67 (S := I 232) (t := w.toNat)
  have h7c := sTT_v (I 232) w.toNat
  have jcf := sJ_c9 (I 232) (sFi (I 232) w.toNat)
  have jcl := sJ_c9 (I 232) (sLa (I 232) w.toNat)
  have hlb : 0 ≤ I 232 (104 + 28 * w.toNat) → sLa (I 232) w.toNat < 4 ∧ (sLa (I 232) w.toNat : Int) < I 232 4 ∧ I 232 (104 + 28 * w.toNat) = (sLa (I 232) w.toNat : Int) := fun h => last_b ho (by omega) h
  refine gw_aload_n C 0 dX8_troubleAt_0 rfl rfl ?_
  refine gw_iload_n C 1 dX8_troubleAt_1 rfl rfl ?_
  refine gw_callVm C (as := [vI w]) (st := []) (ci := 7) (T0 := TX8) (N := 10) (c_X8_troubleOf hl0 G I J ho w (by omega)) dX8_troubleAt_2 kX8_176 qX8_troubleOf hdX8_troubleOf ⟨Nat.le_of_ble_eq_true rfl, Nat.le_of_ble_eq_true rfl⟩ ⟨Nat.le_of_ble_eq_true rfl, Nat.le_of_ble_eq_true rfl⟩ (Nat.le_of_ble_eq_true rfl) rfl xs_231 xn_231 rfl (fun z_2 => ?_)
  have hr_2 := sTT_v (I 232) ((w).toNat)
  refine gw_istore_n C (lo1 := [some (vR 231), some (vI w), some (vI a), some (vI (sTT (I 232) ((w).toNat))), none, none, none, none]) 3 dX8_troubleAt_5 rfl (by decide) rfl ?_
  refine gw_iload_n C 3 dX8_troubleAt_6 rfl rfl ?_
  refine gw_bipush C dX8_troubleAt_7 rfl ?_
  refine gw_icmp_ne C (tgt := 21) dX8_troubleAt_9 (by decide) (by first | omega | exact hgi _ _) ⟨by decide, by decide⟩ (fun h_9 => ?_) (fun h_9 => ?_)
  · skip
    refine gw_iload_n C 3 dX8_troubleAt_21 rfl rfl ?_
    refine gw_bipush C dX8_troubleAt_22 rfl ?_
    refine gw_icmp_ne C (tgt := 36) dX8_troubleAt_24 (by decide) (by first | omega | exact hgi _ _) ⟨by decide, by decide⟩ (fun h_24 => ?_) (fun h_24 => ?_)
    · skip
      refine gw_ldc C (x := (-2000000000)) dX8_troubleAt_36 kX8_105 (by decide) ?_
      refine gw_istore C (lo1 := [some (vR 231), some (vI w), some (vI a), some (vI (sTT (I 232) ((w).toNat))), some (vI (-2000000000)), none, none, none]) dX8_troubleAt_38 (by decide) rfl ?_
      refine gw_iload C dX8_troubleAt_40 rfl ?_
      refine gw_if_ge C (tgt := 49) dX8_troubleAt_42 (by decide) ⟨by decide, by decide⟩ (fun h => absurd h (by decide)) (fun _ => ?_)
      refine gw_iconst C dX8_troubleAt_45 ?_
      refine gw_goto C (tgt := 55) dX8_troubleAt_46 (by decide) ?_
      refine gw_istore C (lo1 := [some (vR 231), some (vI w), some (vI a), some (vI (sTT (I 232) ((w).toNat))), some (vI (-2000000000)), some (vI 0), none, none]) dX8_troubleAt_55 (by decide) rfl ?_
      refine gw_iload C dX8_troubleAt_57 rfl ?_
      refine gw_iconst C dX8_troubleAt_59 ?_
      refine gw_icmp_ne C (tgt := 72) dX8_troubleAt_60 (by decide) ⟨by decide, by decide⟩ ⟨by decide, by decide⟩ (fun _ => ?_) (fun h => absurd h (by decide))
      refine gw_iconst C dX8_troubleAt_72 ?_
      refine gw_istore C (lo1 := [some (vR 231), some (vI w), some (vI a), some (vI (sTT (I 232) ((w).toNat))), some (vI (-2000000000)), some (vI 0), some (vI 0), none]) dX8_troubleAt_73 (by decide) rfl ?_
      refine gw_iload_n C 2 dX8_troubleAt_75 rfl rfl ?_
      refine gw_if_ne C (tgt := 83) dX8_troubleAt_76 (by decide) (by first | omega | exact hgi _ _) (fun h_76 => ?_) (fun h_76 => ?_)
      · skip
        refine gw_iload_n C 2 dX8_troubleAt_83 rfl rfl ?_
        refine gw_iconst C dX8_troubleAt_84 ?_
        refine gw_icmp_ne C (tgt := 93) dX8_troubleAt_85 (by decide) (by first | omega | exact hgi _ _) ⟨by decide, by decide⟩ (fun h_85 => ?_) (fun h_85 => ?_)
        · skip
          refine gw_iload_n C 2 dX8_troubleAt_93 rfl rfl ?_
          refine gw_iconst C dX8_troubleAt_94 ?_
          refine gw_icmp_ne C (tgt := 103) dX8_troubleAt_95 (by decide) (by first | omega | exact hgi _ _) ⟨by decide, by decide⟩ (fun h_95 => ?_) (fun h_95 => ?_)
          · skip
            refine gw_iconst C dX8_troubleAt_103 ?_
            refine gw_istore C (lo1 := [some (vR 231), some (vI w), some (vI a), some (vI (sTT (I 232) ((w).toNat))), some (vI (-2000000000)), some (vI 0), some (vI 0), some (vI 0)]) dX8_troubleAt_104 (by decide) rfl ?_
            refine gw_iload C dX8_troubleAt_106 rfl ?_
            refine gw_if_ne C (tgt := 116) dX8_troubleAt_108 (by decide) ⟨by decide, by decide⟩ (fun h => absurd h (by decide)) (fun _ => ?_)
            refine gw_ldc C (x := (-2000000000)) dX8_troubleAt_111 kX8_105 (by decide) ?_
            refine gw_goto C (tgt := 118) dX8_troubleAt_113 (by decide) ?_
            exact gw_iret C (Nat.le_of_ble_eq_true rfl) (Nat.le_of_ble_eq_true rfl) dX8_troubleAt_118 (⟨congrArg (fun q => some (vI q)) (by first | (exfalso; omega) | (unfold rTrb; (repeat (first | rw [if_pos (by omega)] | rw [if_neg (by omega)])); first | done | rfl | (unfold jlS; (repeat (first | rw [if_pos (by omega)] | rw [if_neg (by omega)])); first | done | rfl | omega))), rfl, rfl⟩)
          · skip
            refine gw_iload C dX8_troubleAt_98 rfl ?_
            refine gw_goto C (tgt := 104) dX8_troubleAt_100 (by decide) ?_
            refine gw_istore C (lo1 := [some (vR 231), some (vI w), some (vI a), some (vI (sTT (I 232) ((w).toNat))), some (vI (-2000000000)), some (vI 0), some (vI 0), some (vI 0)]) dX8_troubleAt_104 (by decide) rfl ?_
            refine gw_iload C dX8_troubleAt_106 rfl ?_
            refine gw_if_ne C (tgt := 116) dX8_troubleAt_108 (by decide) ⟨by decide, by decide⟩ (fun h => absurd h (by decide)) (fun _ => ?_)
            refine gw_ldc C (x := (-2000000000)) dX8_troubleAt_111 kX8_105 (by decide) ?_
            refine gw_goto C (tgt := 118) dX8_troubleAt_113 (by decide) ?_
            exact gw_iret C (Nat.le_of_ble_eq_true rfl) (Nat.le_of_ble_eq_true rfl) dX8_troubleAt_118 (⟨congrArg (fun q => some (vI q)) (by first | (exfalso; omega) | (unfold rTrb; (repeat (first | rw [if_pos (by omega)] | rw [if_neg (by omega)])); first | done | rfl | (unfold jlS; (repeat (first | rw [if_pos (by omega)] | rw [if_neg (by omega)])); first | done | rfl | omega))), rfl, rfl⟩)
        · skip
          refine gw_iload C dX8_troubleAt_88 rfl ?_
          refine gw_goto C (tgt := 104) dX8_troubleAt_90 (by decide) ?_
          refine gw_istore C (lo1 := [some (vR 231), some (vI w), some (vI a), some (vI (sTT (I 232) ((w).toNat))), some (vI (-2000000000)), some (vI 0), some (vI 0), some (vI 0)]) dX8_troubleAt_104 (by decide) rfl ?_
          refine gw_iload C dX8_troubleAt_106 rfl ?_
          refine gw_if_ne C (tgt := 116) dX8_troubleAt_108 (by decide) ⟨by decide, by decide⟩ (fun h => absurd h (by decide)) (fun _ => ?_)
          refine gw_ldc C (x := (-2000000000)) dX8_troubleAt_111 kX8_105 (by decide) ?_
          refine gw_goto C (tgt := 118) dX8_troubleAt_113 (by decide) ?_
          exact gw_iret C (Nat.le_of_ble_eq_true rfl) (Nat.le_of_ble_eq_true rfl) dX8_troubleAt_118 (⟨congrArg (fun q => some (vI q)) (by first | (exfalso; omega) | (unfold rTrb; (repeat (first | rw [if_pos (by omega)] | rw [if_neg (by omega)])); first | done | rfl | (unfold jlS; (repeat (first | rw [if_pos (by omega)] | rw [if_neg (by omega)])); first | done | rfl | omega))), rfl, rfl⟩)
      · skip
        refine gw_iload_n C 3 dX8_troubleAt_79 rfl rfl ?_
        refine gw_goto C (tgt := 104) dX8_troubleAt_80 (by decide) ?_
        refine gw_istore C (lo1 := [some (vR 231), some (vI w), some (vI a), some (vI (sTT (I 232) ((w).toNat))), some (vI (-2000000000)), some (vI 0), some (vI 0), some (vI (sTT (I 232) ((w).toNat)))]) dX8_troubleAt_104 (by decide) rfl ?_
        refine gw_iload C dX8_troubleAt_106 rfl ?_
        refine gw_if_ne C (tgt := 116) dX8_troubleAt_108 (by decide) (by first | omega | exact hgi _ _) (fun h_108 => ?_) (fun h_108 => ?_)
        · skip
          refine gw_iload C dX8_troubleAt_116 rfl ?_
          exact gw_iret C (Nat.le_of_ble_eq_true rfl) (Nat.le_of_ble_eq_true rfl) dX8_troubleAt_118 (⟨congrArg (fun q => some (vI q)) (by first | (exfalso; omega) | (unfold rTrb; (repeat (first | rw [if_pos (by omega)] | rw [if_neg (by omega)])); first | done | rfl | (unfold jlS; (repeat (first | rw [if_pos (by omega)] | rw [if_neg (by omega)])); first | done | rfl | omega))), rfl, rfl⟩)
        · skip
          refine gw_ldc C (x := (-2000000000)) dX8_troubleAt_111 kX8_105 (by decide) ?_
          refine gw_goto C (tgt := 118) dX8_troubleAt_113 (by decide) ?_
          exact gw_iret C (Nat.le_of_ble_eq_true rfl) (Nat.le_of_ble_eq_true rfl) dX8_troubleAt_118 (⟨congrArg (fun q => some (vI q)) (by first | (exfalso; omega) | (unfold rTrb; (repeat (first | rw [if_pos (by omega)] | rw [if_neg (by omega)])); first | done | rfl | (unfold jlS; (repeat (first | rw [if_pos (by omega)] | rw [if_neg (by omega)])); first | done | rfl | omega))), rfl, rfl⟩)
    · skip
      refine gw_aload_n C 0 dX8_troubleAt_27 rfl rfl ?_
      refine gw_iload_n C 1 dX8_troubleAt_28 rfl rfl ?_
      refine gw_iconst C dX8_troubleAt_29 ?_
      refine gw_callVm C (as := [vI w, vI 2]) (st := []) (ci := 7) (T0 := TX8) (N := 10) (c_X8_of hl0 G I J ho w 2 (by omega)) dX8_troubleAt_30 kX8_33 qX8_of hdX8_of ⟨Nat.le_of_ble_eq_true rfl, Nat.le_of_ble_eq_true rfl⟩ ⟨Nat.le_of_ble_eq_true rfl, Nat.le_of_ble_eq_true rfl⟩ (Nat.le_of_ble_eq_true rfl) rfl xs_231 xn_231 rfl (fun z_30 => ?_)
      rw [show (2 : Int).toNat = 2 from rfl]
      rw [show I 232 (102 + 28 * ((w).toNat) + 2) = (I 232 (104 + 28 * ((w).toNat))) from by first | rfl | (congr 1 <;> omega) | (congr 1; congr 1 <;> omega)]
      refine gw_goto C (tgt := 38) dX8_troubleAt_33 (by decide) ?_
      refine gw_istore C (lo1 := [some (vR 231), some (vI w), some (vI a), some (vI (sTT (I 232) ((w).toNat))), some (vI (I 232 (104 + 28 * ((w).toNat)))), none, none, none]) dX8_troubleAt_38 (by decide) rfl ?_
      refine gw_iload C dX8_troubleAt_40 rfl ?_
      refine gw_if_ge C (tgt := 49) dX8_troubleAt_42 (by decide) (by first | omega | exact hgi _ _) (fun h_42 => ?_) (fun h_42 => ?_)
      · skip
        refine gw_aload_n C 0 dX8_troubleAt_49 rfl rfl ?_
        refine gw_iload C dX8_troubleAt_50 rfl ?_
        refine gw_callVm C (as := [vI (I 232 (104 + 28 * ((w).toNat)))]) (st := []) (ci := 7) (T0 := TX8) (N := 10) (c_X8_troubleOfJoin hl0 G I J ho (I 232 (104 + 28 * ((w).toNat))) (by omega)) dX8_troubleAt_52 kX8_144 qX8_troubleOfJoin hdX8_troubleOfJoin ⟨Nat.le_of_ble_eq_true rfl, Nat.le_of_ble_eq_true rfl⟩ ⟨Nat.le_of_ble_eq_true rfl, Nat.le_of_ble_eq_true rfl⟩ (Nat.le_of_ble_eq_true rfl) rfl xs_231 xn_231 rfl (fun z_52 => ?_)
        rw [show (I 232 (104 + 28 * ((w).toNat))).toNat = (sLa (I 232) ((w).toNat)) from rfl]
        have hr_52 := sJ_v (I 232) (sLa (I 232) ((w).toNat))
        refine gw_istore C (lo1 := [some (vR 231), some (vI w), some (vI a), some (vI (sTT (I 232) ((w).toNat))), some (vI (I 232 (104 + 28 * ((w).toNat)))), some (vI (sJ (I 232) (sLa (I 232) ((w).toNat)))), none, none]) dX8_troubleAt_55 (by decide) rfl ?_
        refine gw_iload C dX8_troubleAt_57 rfl ?_
        refine gw_iconst C dX8_troubleAt_59 ?_
        refine gw_icmp_ne C (tgt := 72) dX8_troubleAt_60 (by decide) (by first | omega | exact hgi _ _) ⟨by decide, by decide⟩ (fun h_60 => ?_) (fun h_60 => ?_)
        · skip
          refine gw_iconst C dX8_troubleAt_72 ?_
          refine gw_istore C (lo1 := [some (vR 231), some (vI w), some (vI a), some (vI (sTT (I 232) ((w).toNat))), some (vI (I 232 (104 + 28 * ((w).toNat)))), some (vI (sJ (I 232) (sLa (I 232) ((w).toNat)))), some (vI 0), none]) dX8_troubleAt_73 (by decide) rfl ?_
          refine gw_iload_n C 2 dX8_troubleAt_75 rfl rfl ?_
          refine gw_if_ne C (tgt := 83) dX8_troubleAt_76 (by decide) (by first | omega | exact hgi _ _) (fun h_76_2 => ?_) (fun h_76_2 => ?_)
          · skip
            refine gw_iload_n C 2 dX8_troubleAt_83 rfl rfl ?_
            refine gw_iconst C dX8_troubleAt_84 ?_
            refine gw_icmp_ne C (tgt := 93) dX8_troubleAt_85 (by decide) (by first | omega | exact hgi _ _) ⟨by decide, by decide⟩ (fun h_85_2 => ?_) (fun h_85_2 => ?_)
            · skip
              refine gw_iload_n C 2 dX8_troubleAt_93 rfl rfl ?_
              refine gw_iconst C dX8_troubleAt_94 ?_
              refine gw_icmp_ne C (tgt := 103) dX8_troubleAt_95 (by decide) (by first | omega | exact hgi _ _) ⟨by decide, by decide⟩ (fun h_95_2 => ?_) (fun h_95_2 => ?_)
              · skip
                refine gw_iconst C dX8_troubleAt_103 ?_
                refine gw_istore C (lo1 := [some (vR 231), some (vI w), some (vI a), some (vI (sTT (I 232) ((w).toNat))), some (vI (I 232 (104 + 28 * ((w).toNat)))), some (vI (sJ (I 232) (sLa (I 232) ((w).toNat)))), some (vI 0), some (vI 0)]) dX8_troubleAt_104 (by decide) rfl ?_
                refine gw_iload C dX8_troubleAt_106 rfl ?_
                refine gw_if_ne C (tgt := 116) dX8_troubleAt_108 (by decide) ⟨by decide, by decide⟩ (fun h => absurd h (by decide)) (fun _ => ?_)
                refine gw_ldc C (x := (-2000000000)) dX8_troubleAt_111 kX8_105 (by decide) ?_
                refine gw_goto C (tgt := 118) dX8_troubleAt_113 (by decide) ?_
                exact gw_iret C (Nat.le_of_ble_eq_true rfl) (Nat.le_of_ble_eq_true rfl) dX8_troubleAt_118 (⟨congrArg (fun q => some (vI q)) (by first | (exfalso; omega) | (unfold rTrb; (repeat (first | rw [if_pos (by omega)] | rw [if_neg (by omega)])); first | done | rfl | (unfold jlS; (repeat (first | rw [if_pos (by omega)] | rw [if_neg (by omega)])); first | done | rfl | omega))), rfl, rfl⟩)
              · skip
                refine gw_iload C dX8_troubleAt_98 rfl ?_
                refine gw_goto C (tgt := 104) dX8_troubleAt_100 (by decide) ?_
                refine gw_istore C (lo1 := [some (vR 231), some (vI w), some (vI a), some (vI (sTT (I 232) ((w).toNat))), some (vI (I 232 (104 + 28 * ((w).toNat)))), some (vI (sJ (I 232) (sLa (I 232) ((w).toNat)))), some (vI 0), some (vI 0)]) dX8_troubleAt_104 (by decide) rfl ?_
                refine gw_iload C dX8_troubleAt_106 rfl ?_
                refine gw_if_ne C (tgt := 116) dX8_troubleAt_108 (by decide) ⟨by decide, by decide⟩ (fun h => absurd h (by decide)) (fun _ => ?_)
                refine gw_ldc C (x := (-2000000000)) dX8_troubleAt_111 kX8_105 (by decide) ?_
                refine gw_goto C (tgt := 118) dX8_troubleAt_113 (by decide) ?_
                exact gw_iret C (Nat.le_of_ble_eq_true rfl) (Nat.le_of_ble_eq_true rfl) dX8_troubleAt_118 (⟨congrArg (fun q => some (vI q)) (by first | (exfalso; omega) | (unfold rTrb; (repeat (first | rw [if_pos (by omega)] | rw [if_neg (by omega)])); first | done | rfl | (unfold jlS; (repeat (first | rw [if_pos (by omega)] | rw [if_neg (by omega)])); first | done | rfl | omega))), rfl, rfl⟩)
            · skip
              refine gw_iload C dX8_troubleAt_88 rfl ?_
              refine gw_goto C (tgt := 104) dX8_troubleAt_90 (by decide) ?_
              refine gw_istore C (lo1 := [some (vR 231), some (vI w), some (vI a), some (vI (sTT (I 232) ((w).toNat))), some (vI (I 232 (104 + 28 * ((w).toNat)))), some (vI (sJ (I 232) (sLa (I 232) ((w).toNat)))), some (vI 0), some (vI (sJ (I 232) (sLa (I 232) ((w).toNat))))]) dX8_troubleAt_104 (by decide) rfl ?_
              refine gw_iload C dX8_troubleAt_106 rfl ?_
              refine gw_if_ne C (tgt := 116) dX8_troubleAt_108 (by decide) (by first | omega | exact hgi _ _) (fun h_108_2 => ?_) (fun h_108_2 => ?_)
              · skip
                refine gw_iload C dX8_troubleAt_116 rfl ?_
                exact gw_iret C (Nat.le_of_ble_eq_true rfl) (Nat.le_of_ble_eq_true rfl) dX8_troubleAt_118 (⟨congrArg (fun q => some (vI q)) (by first | (exfalso; omega) | (unfold rTrb; (repeat (first | rw [if_pos (by omega)] | rw [if_neg (by omega)])); first | done | rfl | (unfold jlS; (repeat (first | rw [if_pos (by omega)] | rw [if_neg (by omega)])); first | done | rfl | omega))), rfl, rfl⟩)
              · skip
                refine gw_ldc C (x := (-2000000000)) dX8_troubleAt_111 kX8_105 (by decide) ?_
                refine gw_goto C (tgt := 118) dX8_troubleAt_113 (by decide) ?_
                exact gw_iret C (Nat.le_of_ble_eq_true rfl) (Nat.le_of_ble_eq_true rfl) dX8_troubleAt_118 (⟨congrArg (fun q => some (vI q)) (by first | (exfalso; omega) | (unfold rTrb; (repeat (first | rw [if_pos (by omega)] | rw [if_neg (by omega)])); first | done | rfl | (unfold jlS; (repeat (first | rw [if_pos (by omega)] | rw [if_neg (by omega)])); first | done | rfl | omega))), rfl, rfl⟩)
          · skip
            refine gw_iload_n C 3 dX8_troubleAt_79 rfl rfl ?_
            refine gw_goto C (tgt := 104) dX8_troubleAt_80 (by decide) ?_
            refine gw_istore C (lo1 := [some (vR 231), some (vI w), some (vI a), some (vI (sTT (I 232) ((w).toNat))), some (vI (I 232 (104 + 28 * ((w).toNat)))), some (vI (sJ (I 232) (sLa (I 232) ((w).toNat)))), some (vI 0), some (vI (sTT (I 232) ((w).toNat)))]) dX8_troubleAt_104 (by decide) rfl ?_
            refine gw_iload C dX8_troubleAt_106 rfl ?_
            refine gw_if_ne C (tgt := 116) dX8_troubleAt_108 (by decide) (by first | omega | exact hgi _ _) (fun h_108_3 => ?_) (fun h_108_3 => ?_)
            · skip
              refine gw_iload C dX8_troubleAt_116 rfl ?_
              exact gw_iret C (Nat.le_of_ble_eq_true rfl) (Nat.le_of_ble_eq_true rfl) dX8_troubleAt_118 (⟨congrArg (fun q => some (vI q)) (by first | (exfalso; omega) | (unfold rTrb; (repeat (first | rw [if_pos (by omega)] | rw [if_neg (by omega)])); first | done | rfl | (unfold jlS; (repeat (first | rw [if_pos (by omega)] | rw [if_neg (by omega)])); first | done | rfl | omega))), rfl, rfl⟩)
            · skip
              refine gw_ldc C (x := (-2000000000)) dX8_troubleAt_111 kX8_105 (by decide) ?_
              refine gw_goto C (tgt := 118) dX8_troubleAt_113 (by decide) ?_
              exact gw_iret C (Nat.le_of_ble_eq_true rfl) (Nat.le_of_ble_eq_true rfl) dX8_troubleAt_118 (⟨congrArg (fun q => some (vI q)) (by first | (exfalso; omega) | (unfold rTrb; (repeat (first | rw [if_pos (by omega)] | rw [if_neg (by omega)])); first | done | rfl | (unfold jlS; (repeat (first | rw [if_pos (by omega)] | rw [if_neg (by omega)])); first | done | rfl | omega))), rfl, rfl⟩)
        · skip
          refine gw_aload_n C 0 dX8_troubleAt_63 rfl rfl ?_
          refine gw_iload C dX8_troubleAt_64 rfl ?_
          refine gw_callVm C (as := [vI (I 232 (104 + 28 * ((w).toNat)))]) (st := []) (ci := 7) (T0 := TX8) (N := 10) (c_X8_wiresOf hl0 G I J ho (I 232 (104 + 28 * ((w).toNat))) (by omega)) dX8_troubleAt_66 kX8_141 qX8_wiresOf hdX8_wiresOf ⟨Nat.le_of_ble_eq_true rfl, Nat.le_of_ble_eq_true rfl⟩ ⟨Nat.le_of_ble_eq_true rfl, Nat.le_of_ble_eq_true rfl⟩ (Nat.le_of_ble_eq_true rfl) rfl xs_231 xn_231 rfl (fun z_66 => ?_)
          rw [show (I 232 (104 + 28 * ((w).toNat))).toNat = (sLa (I 232) ((w).toNat)) from rfl]
          have hr_66 := sC_v (I 232) (sLa (I 232) ((w).toNat))
          refine gw_goto C (tgt := 73) dX8_troubleAt_69 (by decide) ?_
          refine gw_istore C (lo1 := [some (vR 231), some (vI w), some (vI a), some (vI (sTT (I 232) ((w).toNat))), some (vI (I 232 (104 + 28 * ((w).toNat)))), some (vI (sJ (I 232) (sLa (I 232) ((w).toNat)))), some (vI (sC (I 232) (sLa (I 232) ((w).toNat)))), none]) dX8_troubleAt_73 (by decide) rfl ?_
          refine gw_iload_n C 2 dX8_troubleAt_75 rfl rfl ?_
          refine gw_if_ne C (tgt := 83) dX8_troubleAt_76 (by decide) (by first | omega | exact hgi _ _) (fun h_76_3 => ?_) (fun h_76_3 => ?_)
          · skip
            refine gw_iload_n C 2 dX8_troubleAt_83 rfl rfl ?_
            refine gw_iconst C dX8_troubleAt_84 ?_
            refine gw_icmp_ne C (tgt := 93) dX8_troubleAt_85 (by decide) (by first | omega | exact hgi _ _) ⟨by decide, by decide⟩ (fun h_85_3 => ?_) (fun h_85_3 => ?_)
            · skip
              refine gw_iload_n C 2 dX8_troubleAt_93 rfl rfl ?_
              refine gw_iconst C dX8_troubleAt_94 ?_
              refine gw_icmp_ne C (tgt := 103) dX8_troubleAt_95 (by decide) (by first | omega | exact hgi _ _) ⟨by decide, by decide⟩ (fun h_95_3 => ?_) (fun h_95_3 => ?_)
              · skip
                refine gw_iconst C dX8_troubleAt_103 ?_
                refine gw_istore C (lo1 := [some (vR 231), some (vI w), some (vI a), some (vI (sTT (I 232) ((w).toNat))), some (vI (I 232 (104 + 28 * ((w).toNat)))), some (vI (sJ (I 232) (sLa (I 232) ((w).toNat)))), some (vI (sC (I 232) (sLa (I 232) ((w).toNat)))), some (vI 0)]) dX8_troubleAt_104 (by decide) rfl ?_
                refine gw_iload C dX8_troubleAt_106 rfl ?_
                refine gw_if_ne C (tgt := 116) dX8_troubleAt_108 (by decide) ⟨by decide, by decide⟩ (fun h => absurd h (by decide)) (fun _ => ?_)
                refine gw_ldc C (x := (-2000000000)) dX8_troubleAt_111 kX8_105 (by decide) ?_
                refine gw_goto C (tgt := 118) dX8_troubleAt_113 (by decide) ?_
                exact gw_iret C (Nat.le_of_ble_eq_true rfl) (Nat.le_of_ble_eq_true rfl) dX8_troubleAt_118 (⟨congrArg (fun q => some (vI q)) (by first | (exfalso; omega) | (unfold rTrb; (repeat (first | rw [if_pos (by omega)] | rw [if_neg (by omega)])); first | done | rfl | (unfold jlS; (repeat (first | rw [if_pos (by omega)] | rw [if_neg (by omega)])); first | done | rfl | omega))), rfl, rfl⟩)
              · skip
                refine gw_iload C dX8_troubleAt_98 rfl ?_
                refine gw_goto C (tgt := 104) dX8_troubleAt_100 (by decide) ?_
                refine gw_istore C (lo1 := [some (vR 231), some (vI w), some (vI a), some (vI (sTT (I 232) ((w).toNat))), some (vI (I 232 (104 + 28 * ((w).toNat)))), some (vI (sJ (I 232) (sLa (I 232) ((w).toNat)))), some (vI (sC (I 232) (sLa (I 232) ((w).toNat)))), some (vI (sC (I 232) (sLa (I 232) ((w).toNat))))]) dX8_troubleAt_104 (by decide) rfl ?_
                refine gw_iload C dX8_troubleAt_106 rfl ?_
                refine gw_if_ne C (tgt := 116) dX8_troubleAt_108 (by decide) (by first | omega | exact hgi _ _) (fun h_108_4 => ?_) (fun h_108_4 => ?_)
                · skip
                  refine gw_iload C dX8_troubleAt_116 rfl ?_
                  exact gw_iret C (Nat.le_of_ble_eq_true rfl) (Nat.le_of_ble_eq_true rfl) dX8_troubleAt_118 (⟨congrArg (fun q => some (vI q)) (by first | (exfalso; omega) | (unfold rTrb; (repeat (first | rw [if_pos (by omega)] | rw [if_neg (by omega)])); first | done | rfl | (unfold jlS; (repeat (first | rw [if_pos (by omega)] | rw [if_neg (by omega)])); first | done | rfl | omega))), rfl, rfl⟩)
                · skip
                  refine gw_ldc C (x := (-2000000000)) dX8_troubleAt_111 kX8_105 (by decide) ?_
                  refine gw_goto C (tgt := 118) dX8_troubleAt_113 (by decide) ?_
                  exact gw_iret C (Nat.le_of_ble_eq_true rfl) (Nat.le_of_ble_eq_true rfl) dX8_troubleAt_118 (⟨congrArg (fun q => some (vI q)) (by first | (exfalso; omega) | (unfold rTrb; (repeat (first | rw [if_pos (by omega)] | rw [if_neg (by omega)])); first | done | rfl | (unfold jlS; (repeat (first | rw [if_pos (by omega)] | rw [if_neg (by omega)])); first | done | rfl | omega))), rfl, rfl⟩)
            · skip
              refine gw_iload C dX8_troubleAt_88 rfl ?_
              refine gw_goto C (tgt := 104) dX8_troubleAt_90 (by decide) ?_
              refine gw_istore C (lo1 := [some (vR 231), some (vI w), some (vI a), some (vI (sTT (I 232) ((w).toNat))), some (vI (I 232 (104 + 28 * ((w).toNat)))), some (vI (sJ (I 232) (sLa (I 232) ((w).toNat)))), some (vI (sC (I 232) (sLa (I 232) ((w).toNat)))), some (vI (sJ (I 232) (sLa (I 232) ((w).toNat))))]) dX8_troubleAt_104 (by decide) rfl ?_
              refine gw_iload C dX8_troubleAt_106 rfl ?_
              refine gw_if_ne C (tgt := 116) dX8_troubleAt_108 (by decide) (by first | omega | exact hgi _ _) (fun h_108_5 => ?_) (fun h_108_5 => ?_)
              · skip
                refine gw_iload C dX8_troubleAt_116 rfl ?_
                exact gw_iret C (Nat.le_of_ble_eq_true rfl) (Nat.le_of_ble_eq_true rfl) dX8_troubleAt_118 (⟨congrArg (fun q => some (vI q)) (by first | (exfalso; omega) | (unfold rTrb; (repeat (first | rw [if_pos (by omega)] | rw [if_neg (by omega)])); first | done | rfl | (unfold jlS; (repeat (first | rw [if_pos (by omega)] | rw [if_neg (by omega)])); first | done | rfl | omega))), rfl, rfl⟩)
              · skip
                refine gw_ldc C (x := (-2000000000)) dX8_troubleAt_111 kX8_105 (by decide) ?_
                refine gw_goto C (tgt := 118) dX8_troubleAt_113 (by decide) ?_
                exact gw_iret C (Nat.le_of_ble_eq_true rfl) (Nat.le_of_ble_eq_true rfl) dX8_troubleAt_118 (⟨congrArg (fun q => some (vI q)) (by first | (exfalso; omega) | (unfold rTrb; (repeat (first | rw [if_pos (by omega)] | rw [if_neg (by omega)])); first | done | rfl | (unfold jlS; (repeat (first | rw [if_pos (by omega)] | rw [if_neg (by omega)])); first | done | rfl | omega))), rfl, rfl⟩)
          · skip
            refine gw_iload_n C 3 dX8_troubleAt_79 rfl rfl ?_
            refine gw_goto C (tgt := 104) dX8_troubleAt_80 (by decide) ?_
            refine gw_istore C (lo1 := [some (vR 231), some (vI w), some (vI a), some (vI (sTT (I 232) ((w).toNat))), some (vI (I 232 (104 + 28 * ((w).toNat)))), some (vI (sJ (I 232) (sLa (I 232) ((w).toNat)))), some (vI (sC (I 232) (sLa (I 232) ((w).toNat)))), some (vI (sTT (I 232) ((w).toNat)))]) dX8_troubleAt_104 (by decide) rfl ?_
            refine gw_iload C dX8_troubleAt_106 rfl ?_
            refine gw_if_ne C (tgt := 116) dX8_troubleAt_108 (by decide) (by first | omega | exact hgi _ _) (fun h_108_6 => ?_) (fun h_108_6 => ?_)
            · skip
              refine gw_iload C dX8_troubleAt_116 rfl ?_
              exact gw_iret C (Nat.le_of_ble_eq_true rfl) (Nat.le_of_ble_eq_true rfl) dX8_troubleAt_118 (⟨congrArg (fun q => some (vI q)) (by first | (exfalso; omega) | (unfold rTrb; (repeat (first | rw [if_pos (by omega)] | rw [if_neg (by omega)])); first | done | rfl | (unfold jlS; (repeat (first | rw [if_pos (by omega)] | rw [if_neg (by omega)])); first | done | rfl | omega))), rfl, rfl⟩)
            · skip
              refine gw_ldc C (x := (-2000000000)) dX8_troubleAt_111 kX8_105 (by decide) ?_
              refine gw_goto C (tgt := 118) dX8_troubleAt_113 (by decide) ?_
              exact gw_iret C (Nat.le_of_ble_eq_true rfl) (Nat.le_of_ble_eq_true rfl) dX8_troubleAt_118 (⟨congrArg (fun q => some (vI q)) (by first | (exfalso; omega) | (unfold rTrb; (repeat (first | rw [if_pos (by omega)] | rw [if_neg (by omega)])); first | done | rfl | (unfold jlS; (repeat (first | rw [if_pos (by omega)] | rw [if_neg (by omega)])); first | done | rfl | omega))), rfl, rfl⟩)
      · skip
        refine gw_iconst C dX8_troubleAt_45 ?_
        refine gw_goto C (tgt := 55) dX8_troubleAt_46 (by decide) ?_
        refine gw_istore C (lo1 := [some (vR 231), some (vI w), some (vI a), some (vI (sTT (I 232) ((w).toNat))), some (vI (I 232 (104 + 28 * ((w).toNat)))), some (vI 0), none, none]) dX8_troubleAt_55 (by decide) rfl ?_
        refine gw_iload C dX8_troubleAt_57 rfl ?_
        refine gw_iconst C dX8_troubleAt_59 ?_
        refine gw_icmp_ne C (tgt := 72) dX8_troubleAt_60 (by decide) ⟨by decide, by decide⟩ ⟨by decide, by decide⟩ (fun _ => ?_) (fun h => absurd h (by decide))
        refine gw_iconst C dX8_troubleAt_72 ?_
        refine gw_istore C (lo1 := [some (vR 231), some (vI w), some (vI a), some (vI (sTT (I 232) ((w).toNat))), some (vI (I 232 (104 + 28 * ((w).toNat)))), some (vI 0), some (vI 0), none]) dX8_troubleAt_73 (by decide) rfl ?_
        refine gw_iload_n C 2 dX8_troubleAt_75 rfl rfl ?_
        refine gw_if_ne C (tgt := 83) dX8_troubleAt_76 (by decide) (by first | omega | exact hgi _ _) (fun h_76_4 => ?_) (fun h_76_4 => ?_)
        · skip
          refine gw_iload_n C 2 dX8_troubleAt_83 rfl rfl ?_
          refine gw_iconst C dX8_troubleAt_84 ?_
          refine gw_icmp_ne C (tgt := 93) dX8_troubleAt_85 (by decide) (by first | omega | exact hgi _ _) ⟨by decide, by decide⟩ (fun h_85_4 => ?_) (fun h_85_4 => ?_)
          · skip
            refine gw_iload_n C 2 dX8_troubleAt_93 rfl rfl ?_
            refine gw_iconst C dX8_troubleAt_94 ?_
            refine gw_icmp_ne C (tgt := 103) dX8_troubleAt_95 (by decide) (by first | omega | exact hgi _ _) ⟨by decide, by decide⟩ (fun h_95_4 => ?_) (fun h_95_4 => ?_)
            · skip
              refine gw_iconst C dX8_troubleAt_103 ?_
              refine gw_istore C (lo1 := [some (vR 231), some (vI w), some (vI a), some (vI (sTT (I 232) ((w).toNat))), some (vI (I 232 (104 + 28 * ((w).toNat)))), some (vI 0), some (vI 0), some (vI 0)]) dX8_troubleAt_104 (by decide) rfl ?_
              refine gw_iload C dX8_troubleAt_106 rfl ?_
              refine gw_if_ne C (tgt := 116) dX8_troubleAt_108 (by decide) ⟨by decide, by decide⟩ (fun h => absurd h (by decide)) (fun _ => ?_)
              refine gw_ldc C (x := (-2000000000)) dX8_troubleAt_111 kX8_105 (by decide) ?_
              refine gw_goto C (tgt := 118) dX8_troubleAt_113 (by decide) ?_
              exact gw_iret C (Nat.le_of_ble_eq_true rfl) (Nat.le_of_ble_eq_true rfl) dX8_troubleAt_118 (⟨congrArg (fun q => some (vI q)) (by first | (exfalso; omega) | (unfold rTrb; (repeat (first | rw [if_pos (by omega)] | rw [if_neg (by omega)])); first | done | rfl | (unfold jlS; (repeat (first | rw [if_pos (by omega)] | rw [if_neg (by omega)])); first | done | rfl | omega))), rfl, rfl⟩)
            · skip
              refine gw_iload C dX8_troubleAt_98 rfl ?_
              refine gw_goto C (tgt := 104) dX8_troubleAt_100 (by decide) ?_
              refine gw_istore C (lo1 := [some (vR 231), some (vI w), some (vI a), some (vI (sTT (I 232) ((w).toNat))), some (vI (I 232 (104 + 28 * ((w).toNat)))), some (vI 0), some (vI 0), some (vI 0)]) dX8_troubleAt_104 (by decide) rfl ?_
              refine gw_iload C dX8_troubleAt_106 rfl ?_
              refine gw_if_ne C (tgt := 116) dX8_troubleAt_108 (by decide) ⟨by decide, by decide⟩ (fun h => absurd h (by decide)) (fun _ => ?_)
              refine gw_ldc C (x := (-2000000000)) dX8_troubleAt_111 kX8_105 (by decide) ?_
              refine gw_goto C (tgt := 118) dX8_troubleAt_113 (by decide) ?_
              exact gw_iret C (Nat.le_of_ble_eq_true rfl) (Nat.le_of_ble_eq_true rfl) dX8_troubleAt_118 (⟨congrArg (fun q => some (vI q)) (by first | (exfalso; omega) | (unfold rTrb; (repeat (first | rw [if_pos (by omega)] | rw [if_neg (by omega)])); first | done | rfl | (unfold jlS; (repeat (first | rw [if_pos (by omega)] | rw [if_neg (by omega)])); first | done | rfl | omega))), rfl, rfl⟩)
          · skip
            refine gw_iload C dX8_troubleAt_88 rfl ?_
            refine gw_goto C (tgt := 104) dX8_troubleAt_90 (by decide) ?_
            refine gw_istore C (lo1 := [some (vR 231), some (vI w), some (vI a), some (vI (sTT (I 232) ((w).toNat))), some (vI (I 232 (104 + 28 * ((w).toNat)))), some (vI 0), some (vI 0), some (vI 0)]) dX8_troubleAt_104 (by decide) rfl ?_
            refine gw_iload C dX8_troubleAt_106 rfl ?_
            refine gw_if_ne C (tgt := 116) dX8_troubleAt_108 (by decide) ⟨by decide, by decide⟩ (fun h => absurd h (by decide)) (fun _ => ?_)
            refine gw_ldc C (x := (-2000000000)) dX8_troubleAt_111 kX8_105 (by decide) ?_
            refine gw_goto C (tgt := 118) dX8_troubleAt_113 (by decide) ?_
            exact gw_iret C (Nat.le_of_ble_eq_true rfl) (Nat.le_of_ble_eq_true rfl) dX8_troubleAt_118 (⟨congrArg (fun q => some (vI q)) (by first | (exfalso; omega) | (unfold rTrb; (repeat (first | rw [if_pos (by omega)] | rw [if_neg (by omega)])); first | done | rfl | (unfold jlS; (repeat (first | rw [if_pos (by omega)] | rw [if_neg (by omega)])); first | done | rfl | omega))), rfl, rfl⟩)
        · skip
          refine gw_iload_n C 3 dX8_troubleAt_79 rfl rfl ?_
          refine gw_goto C (tgt := 104) dX8_troubleAt_80 (by decide) ?_
          refine gw_istore C (lo1 := [some (vR 231), some (vI w), some (vI a), some (vI (sTT (I 232) ((w).toNat))), some (vI (I 232 (104 + 28 * ((w).toNat)))), some (vI 0), some (vI 0), some (vI (sTT (I 232) ((w).toNat)))]) dX8_troubleAt_104 (by decide) rfl ?_
          refine gw_iload C dX8_troubleAt_106 rfl ?_
          refine gw_if_ne C (tgt := 116) dX8_troubleAt_108 (by decide) (by first | omega | exact hgi _ _) (fun h_108_7 => ?_) (fun h_108_7 => ?_)
          · skip
            refine gw_iload C dX8_troubleAt_116 rfl ?_
            exact gw_iret C (Nat.le_of_ble_eq_true rfl) (Nat.le_of_ble_eq_true rfl) dX8_troubleAt_118 (⟨congrArg (fun q => some (vI q)) (by first | (exfalso; omega) | (unfold rTrb; (repeat (first | rw [if_pos (by omega)] | rw [if_neg (by omega)])); first | done | rfl | (unfold jlS; (repeat (first | rw [if_pos (by omega)] | rw [if_neg (by omega)])); first | done | rfl | omega))), rfl, rfl⟩)
          · skip
            refine gw_ldc C (x := (-2000000000)) dX8_troubleAt_111 kX8_105 (by decide) ?_
            refine gw_goto C (tgt := 118) dX8_troubleAt_113 (by decide) ?_
            exact gw_iret C (Nat.le_of_ble_eq_true rfl) (Nat.le_of_ble_eq_true rfl) dX8_troubleAt_118 (⟨congrArg (fun q => some (vI q)) (by first | (exfalso; omega) | (unfold rTrb; (repeat (first | rw [if_pos (by omega)] | rw [if_neg (by omega)])); first | done | rfl | (unfold jlS; (repeat (first | rw [if_pos (by omega)] | rw [if_neg (by omega)])); first | done | rfl | omega))), rfl, rfl⟩)
  · skip
    refine gw_aload_n C 0 dX8_troubleAt_12 rfl rfl ?_
    refine gw_iload_n C 1 dX8_troubleAt_13 rfl rfl ?_
    refine gw_iconst C dX8_troubleAt_14 ?_
    refine gw_callVm C (as := [vI w, vI 0]) (st := []) (ci := 7) (T0 := TX8) (N := 10) (c_X8_of hl0 G I J ho w 0 (by omega)) dX8_troubleAt_15 kX8_33 qX8_of hdX8_of ⟨Nat.le_of_ble_eq_true rfl, Nat.le_of_ble_eq_true rfl⟩ ⟨Nat.le_of_ble_eq_true rfl, Nat.le_of_ble_eq_true rfl⟩ (Nat.le_of_ble_eq_true rfl) rfl xs_231 xn_231 rfl (fun z_15 => ?_)
    rw [show (0 : Int).toNat = 0 from rfl]
    rw [show I 232 (102 + 28 * ((w).toNat) + 0) = (I 232 (102 + 28 * ((w).toNat))) from by first | rfl | (congr 1 <;> omega) | (congr 1; congr 1 <;> omega)]
    refine gw_goto C (tgt := 38) dX8_troubleAt_18 (by decide) ?_
    refine gw_istore C (lo1 := [some (vR 231), some (vI w), some (vI a), some (vI (sTT (I 232) ((w).toNat))), some (vI (I 232 (102 + 28 * ((w).toNat)))), none, none, none]) dX8_troubleAt_38 (by decide) rfl ?_
    refine gw_iload C dX8_troubleAt_40 rfl ?_
    refine gw_if_ge C (tgt := 49) dX8_troubleAt_42 (by decide) (by first | omega | exact hgi _ _) (fun h_42_2 => ?_) (fun h_42_2 => ?_)
    · skip
      refine gw_aload_n C 0 dX8_troubleAt_49 rfl rfl ?_
      refine gw_iload C dX8_troubleAt_50 rfl ?_
      refine gw_callVm C (as := [vI (I 232 (102 + 28 * ((w).toNat)))]) (st := []) (ci := 7) (T0 := TX8) (N := 10) (c_X8_troubleOfJoin hl0 G I J ho (I 232 (102 + 28 * ((w).toNat))) (by omega)) dX8_troubleAt_52 kX8_144 qX8_troubleOfJoin hdX8_troubleOfJoin ⟨Nat.le_of_ble_eq_true rfl, Nat.le_of_ble_eq_true rfl⟩ ⟨Nat.le_of_ble_eq_true rfl, Nat.le_of_ble_eq_true rfl⟩ (Nat.le_of_ble_eq_true rfl) rfl xs_231 xn_231 rfl (fun z_52_2 => ?_)
      rw [show (I 232 (102 + 28 * ((w).toNat))).toNat = (sFi (I 232) ((w).toNat)) from rfl]
      have hr_52_2 := sJ_v (I 232) (sFi (I 232) ((w).toNat))
      refine gw_istore C (lo1 := [some (vR 231), some (vI w), some (vI a), some (vI (sTT (I 232) ((w).toNat))), some (vI (I 232 (102 + 28 * ((w).toNat)))), some (vI (sJ (I 232) (sFi (I 232) ((w).toNat)))), none, none]) dX8_troubleAt_55 (by decide) rfl ?_
      refine gw_iload C dX8_troubleAt_57 rfl ?_
      refine gw_iconst C dX8_troubleAt_59 ?_
      refine gw_icmp_ne C (tgt := 72) dX8_troubleAt_60 (by decide) (by first | omega | exact hgi _ _) ⟨by decide, by decide⟩ (fun h_60_2 => ?_) (fun h_60_2 => ?_)
      · skip
        refine gw_iconst C dX8_troubleAt_72 ?_
        refine gw_istore C (lo1 := [some (vR 231), some (vI w), some (vI a), some (vI (sTT (I 232) ((w).toNat))), some (vI (I 232 (102 + 28 * ((w).toNat)))), some (vI (sJ (I 232) (sFi (I 232) ((w).toNat)))), some (vI 0), none]) dX8_troubleAt_73 (by decide) rfl ?_
        refine gw_iload_n C 2 dX8_troubleAt_75 rfl rfl ?_
        refine gw_if_ne C (tgt := 83) dX8_troubleAt_76 (by decide) (by first | omega | exact hgi _ _) (fun h_76_5 => ?_) (fun h_76_5 => ?_)
        · skip
          refine gw_iload_n C 2 dX8_troubleAt_83 rfl rfl ?_
          refine gw_iconst C dX8_troubleAt_84 ?_
          refine gw_icmp_ne C (tgt := 93) dX8_troubleAt_85 (by decide) (by first | omega | exact hgi _ _) ⟨by decide, by decide⟩ (fun h_85_5 => ?_) (fun h_85_5 => ?_)
          · skip
            refine gw_iload_n C 2 dX8_troubleAt_93 rfl rfl ?_
            refine gw_iconst C dX8_troubleAt_94 ?_
            refine gw_icmp_ne C (tgt := 103) dX8_troubleAt_95 (by decide) (by first | omega | exact hgi _ _) ⟨by decide, by decide⟩ (fun h_95_5 => ?_) (fun h_95_5 => ?_)
            · skip
              refine gw_iconst C dX8_troubleAt_103 ?_
              refine gw_istore C (lo1 := [some (vR 231), some (vI w), some (vI a), some (vI (sTT (I 232) ((w).toNat))), some (vI (I 232 (102 + 28 * ((w).toNat)))), some (vI (sJ (I 232) (sFi (I 232) ((w).toNat)))), some (vI 0), some (vI 0)]) dX8_troubleAt_104 (by decide) rfl ?_
              refine gw_iload C dX8_troubleAt_106 rfl ?_
              refine gw_if_ne C (tgt := 116) dX8_troubleAt_108 (by decide) ⟨by decide, by decide⟩ (fun h => absurd h (by decide)) (fun _ => ?_)
              refine gw_ldc C (x := (-2000000000)) dX8_troubleAt_111 kX8_105 (by decide) ?_
              refine gw_goto C (tgt := 118) dX8_troubleAt_113 (by decide) ?_
              exact gw_iret C (Nat.le_of_ble_eq_true rfl) (Nat.le_of_ble_eq_true rfl) dX8_troubleAt_118 (⟨congrArg (fun q => some (vI q)) (by first | (exfalso; omega) | (unfold rTrb; (repeat (first | rw [if_pos (by omega)] | rw [if_neg (by omega)])); first | done | rfl | (unfold jlS; (repeat (first | rw [if_pos (by omega)] | rw [if_neg (by omega)])); first | done | rfl | omega))), rfl, rfl⟩)
            · skip
              refine gw_iload C dX8_troubleAt_98 rfl ?_
              refine gw_goto C (tgt := 104) dX8_troubleAt_100 (by decide) ?_
              refine gw_istore C (lo1 := [some (vR 231), some (vI w), some (vI a), some (vI (sTT (I 232) ((w).toNat))), some (vI (I 232 (102 + 28 * ((w).toNat)))), some (vI (sJ (I 232) (sFi (I 232) ((w).toNat)))), some (vI 0), some (vI 0)]) dX8_troubleAt_104 (by decide) rfl ?_
              refine gw_iload C dX8_troubleAt_106 rfl ?_
              refine gw_if_ne C (tgt := 116) dX8_troubleAt_108 (by decide) ⟨by decide, by decide⟩ (fun h => absurd h (by decide)) (fun _ => ?_)
              refine gw_ldc C (x := (-2000000000)) dX8_troubleAt_111 kX8_105 (by decide) ?_
              refine gw_goto C (tgt := 118) dX8_troubleAt_113 (by decide) ?_
              exact gw_iret C (Nat.le_of_ble_eq_true rfl) (Nat.le_of_ble_eq_true rfl) dX8_troubleAt_118 (⟨congrArg (fun q => some (vI q)) (by first | (exfalso; omega) | (unfold rTrb; (repeat (first | rw [if_pos (by omega)] | rw [if_neg (by omega)])); first | done | rfl | (unfold jlS; (repeat (first | rw [if_pos (by omega)] | rw [if_neg (by omega)])); first | done | rfl | omega))), rfl, rfl⟩)
          · skip
            refine gw_iload C dX8_troubleAt_88 rfl ?_
            refine gw_goto C (tgt := 104) dX8_troubleAt_90 (by decide) ?_
            refine gw_istore C (lo1 := [some (vR 231), some (vI w), some (vI a), some (vI (sTT (I 232) ((w).toNat))), some (vI (I 232 (102 + 28 * ((w).toNat)))), some (vI (sJ (I 232) (sFi (I 232) ((w).toNat)))), some (vI 0), some (vI (sJ (I 232) (sFi (I 232) ((w).toNat))))]) dX8_troubleAt_104 (by decide) rfl ?_
            refine gw_iload C dX8_troubleAt_106 rfl ?_
            refine gw_if_ne C (tgt := 116) dX8_troubleAt_108 (by decide) (by first | omega | exact hgi _ _) (fun h_108_8 => ?_) (fun h_108_8 => ?_)
            · skip
              refine gw_iload C dX8_troubleAt_116 rfl ?_
              exact gw_iret C (Nat.le_of_ble_eq_true rfl) (Nat.le_of_ble_eq_true rfl) dX8_troubleAt_118 (⟨congrArg (fun q => some (vI q)) (by first | (exfalso; omega) | (unfold rTrb; (repeat (first | rw [if_pos (by omega)] | rw [if_neg (by omega)])); first | done | rfl | (unfold jlS; (repeat (first | rw [if_pos (by omega)] | rw [if_neg (by omega)])); first | done | rfl | omega))), rfl, rfl⟩)
            · skip
              refine gw_ldc C (x := (-2000000000)) dX8_troubleAt_111 kX8_105 (by decide) ?_
              refine gw_goto C (tgt := 118) dX8_troubleAt_113 (by decide) ?_
              exact gw_iret C (Nat.le_of_ble_eq_true rfl) (Nat.le_of_ble_eq_true rfl) dX8_troubleAt_118 (⟨congrArg (fun q => some (vI q)) (by first | (exfalso; omega) | (unfold rTrb; (repeat (first | rw [if_pos (by omega)] | rw [if_neg (by omega)])); first | done | rfl | (unfold jlS; (repeat (first | rw [if_pos (by omega)] | rw [if_neg (by omega)])); first | done | rfl | omega))), rfl, rfl⟩)
        · skip
          refine gw_iload_n C 3 dX8_troubleAt_79 rfl rfl ?_
          refine gw_goto C (tgt := 104) dX8_troubleAt_80 (by decide) ?_
          refine gw_istore C (lo1 := [some (vR 231), some (vI w), some (vI a), some (vI (sTT (I 232) ((w).toNat))), some (vI (I 232 (102 + 28 * ((w).toNat)))), some (vI (sJ (I 232) (sFi (I 232) ((w).toNat)))), some (vI 0), some (vI (sTT (I 232) ((w).toNat)))]) dX8_troubleAt_104 (by decide) rfl ?_
          refine gw_iload C dX8_troubleAt_106 rfl ?_
          refine gw_if_ne C (tgt := 116) dX8_troubleAt_108 (by decide) (by first | omega | exact hgi _ _) (fun h_108_9 => ?_) (fun h_108_9 => ?_)
          · skip
            refine gw_iload C dX8_troubleAt_116 rfl ?_
            exact gw_iret C (Nat.le_of_ble_eq_true rfl) (Nat.le_of_ble_eq_true rfl) dX8_troubleAt_118 (⟨congrArg (fun q => some (vI q)) (by first | (exfalso; omega) | (unfold rTrb; (repeat (first | rw [if_pos (by omega)] | rw [if_neg (by omega)])); first | done | rfl | (unfold jlS; (repeat (first | rw [if_pos (by omega)] | rw [if_neg (by omega)])); first | done | rfl | omega))), rfl, rfl⟩)
          · skip
            refine gw_ldc C (x := (-2000000000)) dX8_troubleAt_111 kX8_105 (by decide) ?_
            refine gw_goto C (tgt := 118) dX8_troubleAt_113 (by decide) ?_
            exact gw_iret C (Nat.le_of_ble_eq_true rfl) (Nat.le_of_ble_eq_true rfl) dX8_troubleAt_118 (⟨congrArg (fun q => some (vI q)) (by first | (exfalso; omega) | (unfold rTrb; (repeat (first | rw [if_pos (by omega)] | rw [if_neg (by omega)])); first | done | rfl | (unfold jlS; (repeat (first | rw [if_pos (by omega)] | rw [if_neg (by omega)])); first | done | rfl | omega))), rfl, rfl⟩)
      · skip
        refine gw_aload_n C 0 dX8_troubleAt_63 rfl rfl ?_
        refine gw_iload C dX8_troubleAt_64 rfl ?_
        refine gw_callVm C (as := [vI (I 232 (102 + 28 * ((w).toNat)))]) (st := []) (ci := 7) (T0 := TX8) (N := 10) (c_X8_wiresOf hl0 G I J ho (I 232 (102 + 28 * ((w).toNat))) (by omega)) dX8_troubleAt_66 kX8_141 qX8_wiresOf hdX8_wiresOf ⟨Nat.le_of_ble_eq_true rfl, Nat.le_of_ble_eq_true rfl⟩ ⟨Nat.le_of_ble_eq_true rfl, Nat.le_of_ble_eq_true rfl⟩ (Nat.le_of_ble_eq_true rfl) rfl xs_231 xn_231 rfl (fun z_66_2 => ?_)
        rw [show (I 232 (102 + 28 * ((w).toNat))).toNat = (sFi (I 232) ((w).toNat)) from rfl]
        have hr_66_2 := sC_v (I 232) (sFi (I 232) ((w).toNat))
        refine gw_goto C (tgt := 73) dX8_troubleAt_69 (by decide) ?_
        refine gw_istore C (lo1 := [some (vR 231), some (vI w), some (vI a), some (vI (sTT (I 232) ((w).toNat))), some (vI (I 232 (102 + 28 * ((w).toNat)))), some (vI (sJ (I 232) (sFi (I 232) ((w).toNat)))), some (vI (sC (I 232) (sFi (I 232) ((w).toNat)))), none]) dX8_troubleAt_73 (by decide) rfl ?_
        refine gw_iload_n C 2 dX8_troubleAt_75 rfl rfl ?_
        refine gw_if_ne C (tgt := 83) dX8_troubleAt_76 (by decide) (by first | omega | exact hgi _ _) (fun h_76_6 => ?_) (fun h_76_6 => ?_)
        · skip
          refine gw_iload_n C 2 dX8_troubleAt_83 rfl rfl ?_
          refine gw_iconst C dX8_troubleAt_84 ?_
          refine gw_icmp_ne C (tgt := 93) dX8_troubleAt_85 (by decide) (by first | omega | exact hgi _ _) ⟨by decide, by decide⟩ (fun h_85_6 => ?_) (fun h_85_6 => ?_)
          · skip
            refine gw_iload_n C 2 dX8_troubleAt_93 rfl rfl ?_
            refine gw_iconst C dX8_troubleAt_94 ?_
            refine gw_icmp_ne C (tgt := 103) dX8_troubleAt_95 (by decide) (by first | omega | exact hgi _ _) ⟨by decide, by decide⟩ (fun h_95_6 => ?_) (fun h_95_6 => ?_)
            · skip
              refine gw_iconst C dX8_troubleAt_103 ?_
              refine gw_istore C (lo1 := [some (vR 231), some (vI w), some (vI a), some (vI (sTT (I 232) ((w).toNat))), some (vI (I 232 (102 + 28 * ((w).toNat)))), some (vI (sJ (I 232) (sFi (I 232) ((w).toNat)))), some (vI (sC (I 232) (sFi (I 232) ((w).toNat)))), some (vI 0)]) dX8_troubleAt_104 (by decide) rfl ?_
              refine gw_iload C dX8_troubleAt_106 rfl ?_
              refine gw_if_ne C (tgt := 116) dX8_troubleAt_108 (by decide) ⟨by decide, by decide⟩ (fun h => absurd h (by decide)) (fun _ => ?_)
              refine gw_ldc C (x := (-2000000000)) dX8_troubleAt_111 kX8_105 (by decide) ?_
              refine gw_goto C (tgt := 118) dX8_troubleAt_113 (by decide) ?_
              exact gw_iret C (Nat.le_of_ble_eq_true rfl) (Nat.le_of_ble_eq_true rfl) dX8_troubleAt_118 (⟨congrArg (fun q => some (vI q)) (by first | (exfalso; omega) | (unfold rTrb; (repeat (first | rw [if_pos (by omega)] | rw [if_neg (by omega)])); first | done | rfl | (unfold jlS; (repeat (first | rw [if_pos (by omega)] | rw [if_neg (by omega)])); first | done | rfl | omega))), rfl, rfl⟩)
            · skip
              refine gw_iload C dX8_troubleAt_98 rfl ?_
              refine gw_goto C (tgt := 104) dX8_troubleAt_100 (by decide) ?_
              refine gw_istore C (lo1 := [some (vR 231), some (vI w), some (vI a), some (vI (sTT (I 232) ((w).toNat))), some (vI (I 232 (102 + 28 * ((w).toNat)))), some (vI (sJ (I 232) (sFi (I 232) ((w).toNat)))), some (vI (sC (I 232) (sFi (I 232) ((w).toNat)))), some (vI (sC (I 232) (sFi (I 232) ((w).toNat))))]) dX8_troubleAt_104 (by decide) rfl ?_
              refine gw_iload C dX8_troubleAt_106 rfl ?_
              refine gw_if_ne C (tgt := 116) dX8_troubleAt_108 (by decide) (by first | omega | exact hgi _ _) (fun h_108_10 => ?_) (fun h_108_10 => ?_)
              · skip
                refine gw_iload C dX8_troubleAt_116 rfl ?_
                exact gw_iret C (Nat.le_of_ble_eq_true rfl) (Nat.le_of_ble_eq_true rfl) dX8_troubleAt_118 (⟨congrArg (fun q => some (vI q)) (by first | (exfalso; omega) | (unfold rTrb; (repeat (first | rw [if_pos (by omega)] | rw [if_neg (by omega)])); first | done | rfl | (unfold jlS; (repeat (first | rw [if_pos (by omega)] | rw [if_neg (by omega)])); first | done | rfl | omega))), rfl, rfl⟩)
              · skip
                refine gw_ldc C (x := (-2000000000)) dX8_troubleAt_111 kX8_105 (by decide) ?_
                refine gw_goto C (tgt := 118) dX8_troubleAt_113 (by decide) ?_
                exact gw_iret C (Nat.le_of_ble_eq_true rfl) (Nat.le_of_ble_eq_true rfl) dX8_troubleAt_118 (⟨congrArg (fun q => some (vI q)) (by first | (exfalso; omega) | (unfold rTrb; (repeat (first | rw [if_pos (by omega)] | rw [if_neg (by omega)])); first | done | rfl | (unfold jlS; (repeat (first | rw [if_pos (by omega)] | rw [if_neg (by omega)])); first | done | rfl | omega))), rfl, rfl⟩)
          · skip
            refine gw_iload C dX8_troubleAt_88 rfl ?_
            refine gw_goto C (tgt := 104) dX8_troubleAt_90 (by decide) ?_
            refine gw_istore C (lo1 := [some (vR 231), some (vI w), some (vI a), some (vI (sTT (I 232) ((w).toNat))), some (vI (I 232 (102 + 28 * ((w).toNat)))), some (vI (sJ (I 232) (sFi (I 232) ((w).toNat)))), some (vI (sC (I 232) (sFi (I 232) ((w).toNat)))), some (vI (sJ (I 232) (sFi (I 232) ((w).toNat))))]) dX8_troubleAt_104 (by decide) rfl ?_
            refine gw_iload C dX8_troubleAt_106 rfl ?_
            refine gw_if_ne C (tgt := 116) dX8_troubleAt_108 (by decide) (by first | omega | exact hgi _ _) (fun h_108_11 => ?_) (fun h_108_11 => ?_)
            · skip
              refine gw_iload C dX8_troubleAt_116 rfl ?_
              exact gw_iret C (Nat.le_of_ble_eq_true rfl) (Nat.le_of_ble_eq_true rfl) dX8_troubleAt_118 (⟨congrArg (fun q => some (vI q)) (by first | (exfalso; omega) | (unfold rTrb; (repeat (first | rw [if_pos (by omega)] | rw [if_neg (by omega)])); first | done | rfl | (unfold jlS; (repeat (first | rw [if_pos (by omega)] | rw [if_neg (by omega)])); first | done | rfl | omega))), rfl, rfl⟩)
            · skip
              refine gw_ldc C (x := (-2000000000)) dX8_troubleAt_111 kX8_105 (by decide) ?_
              refine gw_goto C (tgt := 118) dX8_troubleAt_113 (by decide) ?_
              exact gw_iret C (Nat.le_of_ble_eq_true rfl) (Nat.le_of_ble_eq_true rfl) dX8_troubleAt_118 (⟨congrArg (fun q => some (vI q)) (by first | (exfalso; omega) | (unfold rTrb; (repeat (first | rw [if_pos (by omega)] | rw [if_neg (by omega)])); first | done | rfl | (unfold jlS; (repeat (first | rw [if_pos (by omega)] | rw [if_neg (by omega)])); first | done | rfl | omega))), rfl, rfl⟩)
        · skip
          refine gw_iload_n C 3 dX8_troubleAt_79 rfl rfl ?_
          refine gw_goto C (tgt := 104) dX8_troubleAt_80 (by decide) ?_
          refine gw_istore C (lo1 := [some (vR 231), some (vI w), some (vI a), some (vI (sTT (I 232) ((w).toNat))), some (vI (I 232 (102 + 28 * ((w).toNat)))), some (vI (sJ (I 232) (sFi (I 232) ((w).toNat)))), some (vI (sC (I 232) (sFi (I 232) ((w).toNat)))), some (vI (sTT (I 232) ((w).toNat)))]) dX8_troubleAt_104 (by decide) rfl ?_
          refine gw_iload C dX8_troubleAt_106 rfl ?_
          refine gw_if_ne C (tgt := 116) dX8_troubleAt_108 (by decide) (by first | omega | exact hgi _ _) (fun h_108_12 => ?_) (fun h_108_12 => ?_)
          · skip
            refine gw_iload C dX8_troubleAt_116 rfl ?_
            exact gw_iret C (Nat.le_of_ble_eq_true rfl) (Nat.le_of_ble_eq_true rfl) dX8_troubleAt_118 (⟨congrArg (fun q => some (vI q)) (by first | (exfalso; omega) | (unfold rTrb; (repeat (first | rw [if_pos (by omega)] | rw [if_neg (by omega)])); first | done | rfl | (unfold jlS; (repeat (first | rw [if_pos (by omega)] | rw [if_neg (by omega)])); first | done | rfl | omega))), rfl, rfl⟩)
          · skip
            refine gw_ldc C (x := (-2000000000)) dX8_troubleAt_111 kX8_105 (by decide) ?_
            refine gw_goto C (tgt := 118) dX8_troubleAt_113 (by decide) ?_
            exact gw_iret C (Nat.le_of_ble_eq_true rfl) (Nat.le_of_ble_eq_true rfl) dX8_troubleAt_118 (⟨congrArg (fun q => some (vI q)) (by first | (exfalso; omega) | (unfold rTrb; (repeat (first | rw [if_pos (by omega)] | rw [if_neg (by omega)])); first | done | rfl | (unfold jlS; (repeat (first | rw [if_pos (by omega)] | rw [if_neg (by omega)])); first | done | rfl | omega))), rfl, rfl⟩)
    · skip
      refine gw_iconst C dX8_troubleAt_45 ?_
      refine gw_goto C (tgt := 55) dX8_troubleAt_46 (by decide) ?_
      refine gw_istore C (lo1 := [some (vR 231), some (vI w), some (vI a), some (vI (sTT (I 232) ((w).toNat))), some (vI (I 232 (102 + 28 * ((w).toNat)))), some (vI 0), none, none]) dX8_troubleAt_55 (by decide) rfl ?_
      refine gw_iload C dX8_troubleAt_57 rfl ?_
      refine gw_iconst C dX8_troubleAt_59 ?_
      refine gw_icmp_ne C (tgt := 72) dX8_troubleAt_60 (by decide) ⟨by decide, by decide⟩ ⟨by decide, by decide⟩ (fun _ => ?_) (fun h => absurd h (by decide))
      refine gw_iconst C dX8_troubleAt_72 ?_
      refine gw_istore C (lo1 := [some (vR 231), some (vI w), some (vI a), some (vI (sTT (I 232) ((w).toNat))), some (vI (I 232 (102 + 28 * ((w).toNat)))), some (vI 0), some (vI 0), none]) dX8_troubleAt_73 (by decide) rfl ?_
      refine gw_iload_n C 2 dX8_troubleAt_75 rfl rfl ?_
      refine gw_if_ne C (tgt := 83) dX8_troubleAt_76 (by decide) (by first | omega | exact hgi _ _) (fun h_76_7 => ?_) (fun h_76_7 => ?_)
      · skip
        refine gw_iload_n C 2 dX8_troubleAt_83 rfl rfl ?_
        refine gw_iconst C dX8_troubleAt_84 ?_
        refine gw_icmp_ne C (tgt := 93) dX8_troubleAt_85 (by decide) (by first | omega | exact hgi _ _) ⟨by decide, by decide⟩ (fun h_85_7 => ?_) (fun h_85_7 => ?_)
        · skip
          refine gw_iload_n C 2 dX8_troubleAt_93 rfl rfl ?_
          refine gw_iconst C dX8_troubleAt_94 ?_
          refine gw_icmp_ne C (tgt := 103) dX8_troubleAt_95 (by decide) (by first | omega | exact hgi _ _) ⟨by decide, by decide⟩ (fun h_95_7 => ?_) (fun h_95_7 => ?_)
          · skip
            refine gw_iconst C dX8_troubleAt_103 ?_
            refine gw_istore C (lo1 := [some (vR 231), some (vI w), some (vI a), some (vI (sTT (I 232) ((w).toNat))), some (vI (I 232 (102 + 28 * ((w).toNat)))), some (vI 0), some (vI 0), some (vI 0)]) dX8_troubleAt_104 (by decide) rfl ?_
            refine gw_iload C dX8_troubleAt_106 rfl ?_
            refine gw_if_ne C (tgt := 116) dX8_troubleAt_108 (by decide) ⟨by decide, by decide⟩ (fun h => absurd h (by decide)) (fun _ => ?_)
            refine gw_ldc C (x := (-2000000000)) dX8_troubleAt_111 kX8_105 (by decide) ?_
            refine gw_goto C (tgt := 118) dX8_troubleAt_113 (by decide) ?_
            exact gw_iret C (Nat.le_of_ble_eq_true rfl) (Nat.le_of_ble_eq_true rfl) dX8_troubleAt_118 (⟨congrArg (fun q => some (vI q)) (by first | (exfalso; omega) | (unfold rTrb; (repeat (first | rw [if_pos (by omega)] | rw [if_neg (by omega)])); first | done | rfl | (unfold jlS; (repeat (first | rw [if_pos (by omega)] | rw [if_neg (by omega)])); first | done | rfl | omega))), rfl, rfl⟩)
          · skip
            refine gw_iload C dX8_troubleAt_98 rfl ?_
            refine gw_goto C (tgt := 104) dX8_troubleAt_100 (by decide) ?_
            refine gw_istore C (lo1 := [some (vR 231), some (vI w), some (vI a), some (vI (sTT (I 232) ((w).toNat))), some (vI (I 232 (102 + 28 * ((w).toNat)))), some (vI 0), some (vI 0), some (vI 0)]) dX8_troubleAt_104 (by decide) rfl ?_
            refine gw_iload C dX8_troubleAt_106 rfl ?_
            refine gw_if_ne C (tgt := 116) dX8_troubleAt_108 (by decide) ⟨by decide, by decide⟩ (fun h => absurd h (by decide)) (fun _ => ?_)
            refine gw_ldc C (x := (-2000000000)) dX8_troubleAt_111 kX8_105 (by decide) ?_
            refine gw_goto C (tgt := 118) dX8_troubleAt_113 (by decide) ?_
            exact gw_iret C (Nat.le_of_ble_eq_true rfl) (Nat.le_of_ble_eq_true rfl) dX8_troubleAt_118 (⟨congrArg (fun q => some (vI q)) (by first | (exfalso; omega) | (unfold rTrb; (repeat (first | rw [if_pos (by omega)] | rw [if_neg (by omega)])); first | done | rfl | (unfold jlS; (repeat (first | rw [if_pos (by omega)] | rw [if_neg (by omega)])); first | done | rfl | omega))), rfl, rfl⟩)
        · skip
          refine gw_iload C dX8_troubleAt_88 rfl ?_
          refine gw_goto C (tgt := 104) dX8_troubleAt_90 (by decide) ?_
          refine gw_istore C (lo1 := [some (vR 231), some (vI w), some (vI a), some (vI (sTT (I 232) ((w).toNat))), some (vI (I 232 (102 + 28 * ((w).toNat)))), some (vI 0), some (vI 0), some (vI 0)]) dX8_troubleAt_104 (by decide) rfl ?_
          refine gw_iload C dX8_troubleAt_106 rfl ?_
          refine gw_if_ne C (tgt := 116) dX8_troubleAt_108 (by decide) ⟨by decide, by decide⟩ (fun h => absurd h (by decide)) (fun _ => ?_)
          refine gw_ldc C (x := (-2000000000)) dX8_troubleAt_111 kX8_105 (by decide) ?_
          refine gw_goto C (tgt := 118) dX8_troubleAt_113 (by decide) ?_
          exact gw_iret C (Nat.le_of_ble_eq_true rfl) (Nat.le_of_ble_eq_true rfl) dX8_troubleAt_118 (⟨congrArg (fun q => some (vI q)) (by first | (exfalso; omega) | (unfold rTrb; (repeat (first | rw [if_pos (by omega)] | rw [if_neg (by omega)])); first | done | rfl | (unfold jlS; (repeat (first | rw [if_pos (by omega)] | rw [if_neg (by omega)])); first | done | rfl | omega))), rfl, rfl⟩)
      · skip
        refine gw_iload_n C 3 dX8_troubleAt_79 rfl rfl ?_
        refine gw_goto C (tgt := 104) dX8_troubleAt_80 (by decide) ?_
        refine gw_istore C (lo1 := [some (vR 231), some (vI w), some (vI a), some (vI (sTT (I 232) ((w).toNat))), some (vI (I 232 (102 + 28 * ((w).toNat)))), some (vI 0), some (vI 0), some (vI (sTT (I 232) ((w).toNat)))]) dX8_troubleAt_104 (by decide) rfl ?_
        refine gw_iload C dX8_troubleAt_106 rfl ?_
        refine gw_if_ne C (tgt := 116) dX8_troubleAt_108 (by decide) (by first | omega | exact hgi _ _) (fun h_108_13 => ?_) (fun h_108_13 => ?_)
        · skip
          refine gw_iload C dX8_troubleAt_116 rfl ?_
          exact gw_iret C (Nat.le_of_ble_eq_true rfl) (Nat.le_of_ble_eq_true rfl) dX8_troubleAt_118 (⟨congrArg (fun q => some (vI q)) (by first | (exfalso; omega) | (unfold rTrb; (repeat (first | rw [if_pos (by omega)] | rw [if_neg (by omega)])); first | done | rfl | (unfold jlS; (repeat (first | rw [if_pos (by omega)] | rw [if_neg (by omega)])); first | done | rfl | omega))), rfl, rfl⟩)
        · skip
          refine gw_ldc C (x := (-2000000000)) dX8_troubleAt_111 kX8_105 (by decide) ?_
          refine gw_goto C (tgt := 118) dX8_troubleAt_113 (by decide) ?_
          exact gw_iret C (Nat.le_of_ble_eq_true rfl) (Nat.le_of_ble_eq_true rfl) dX8_troubleAt_118 (⟨congrArg (fun q => some (vI q)) (by first | (exfalso; omega) | (unfold rTrb; (repeat (first | rw [if_pos (by omega)] | rw [if_neg (by omega)])); first | done | rfl | (unfold jlS; (repeat (first | rw [if_pos (by omega)] | rw [if_neg (by omega)])); first | done | rfl | omega))), rfl, rfl⟩)
set_option maxHeartbeats 4000000 in
set_option maxRecDepth 100000 in
theorem c_X8_between {l : Launch} (hl0 : l.stackTraces = false) (G : GG) (I J : GI) {z : Nat} (ho : Oks (I 232)) (w u : Int) (hq : 0 ≤ w ∧ w < I 232 5) (hu : 0 ≤ u ∧ u < I 232 5) : GM l yX8_between (.code yX8_between cX8_between 4 (some .int)) 7 157 0 0 G N0 SH RR [vR 231, vI w, vI u] z I J (memQ (some (vI (rApart (I 232) w.toNat u.toNat))) I J) gNo := by
  refine gm_of (lo0 := [some (vR 231), some (vI w), some (vI u), none]) hl0 (by decide) rfl (Nat.le_of_ble_eq_true rfl) ?_
  intro p e s m args below meth c C ht hgi
  have C : gC G p l s m args meth c cX8_between 4 RX8 (some .int) "between" := C
  have h3 := ho.2.1
  have h0 := ho.1
  have hot := okT ho (t := w.toNat) (by omega)
  have h67 := sTT_67 (S := I 232) (t := w.toNat)
  have hou := okT ho (t := u.toNat) (by omega)
  have h59 := sTT_5 (S := I 232) (t := w.toNat)
  have h5u := sTT_5 (S := I 232) (t := u.toNat)
  refine gw_aload_n C 0 dX8_between_0 rfl rfl ?_
  refine gw_iload_n C 1 dX8_between_1 rfl rfl ?_
  refine gw_callVb C (as := [vI w]) (st := []) (ci := 7) (T0 := TX8) (N := 10) (c_X8_hasEnd hl0 G I J ho w (by omega)) dX8_between_2 kX8_220 qX8_hasEnd hdX8_hasEnd ⟨Nat.le_of_ble_eq_true rfl, Nat.le_of_ble_eq_true rfl⟩ ⟨Nat.le_of_ble_eq_true rfl, Nat.le_of_ble_eq_true rfl⟩ (Nat.le_of_ble_eq_true rfl) rfl xs_231 xn_231 rfl (fun h_2 z_2 => ?_) (fun h_2 z_2 => ?_)
  · skip
    refine gw_if_eq C (tgt := 16) dX8_between_5 (by decide) ⟨by decide, by decide⟩ (fun h => absurd h (by decide)) (fun _ => ?_)
    refine gw_aload_n C 0 dX8_between_8 rfl rfl ?_
    refine gw_iload_n C 2 dX8_between_9 rfl rfl ?_
    refine gw_callVb C (as := [vI u]) (st := []) (ci := 7) (T0 := TX8) (N := 10) (c_X8_hasEnd hl0 G I J ho u (by omega)) dX8_between_10 kX8_220 qX8_hasEnd hdX8_hasEnd ⟨Nat.le_of_ble_eq_true rfl, Nat.le_of_ble_eq_true rfl⟩ ⟨Nat.le_of_ble_eq_true rfl, Nat.le_of_ble_eq_true rfl⟩ (Nat.le_of_ble_eq_true rfl) rfl xs_231 xn_231 rfl (fun h_10 z_10 => ?_) (fun h_10 z_10 => ?_)
    · skip
      refine gw_if_ne C (tgt := 19) dX8_between_13 (by decide) ⟨by decide, by decide⟩ (fun _ => ?_) (fun h => absurd h (by decide))
      refine gw_aload_n C 0 dX8_between_19 rfl rfl ?_
      refine gw_iload_n C 1 dX8_between_20 rfl rfl ?_
      refine gw_aload_n C 0 dX8_between_21 rfl rfl ?_
      refine gw_iload_n C 1 dX8_between_22 rfl rfl ?_
      refine gw_callVm C (as := [vI w]) (st := [vI w, vR 231]) (ci := 7) (T0 := TX8) (N := 10) (c_X8_legs hl0 G I J ho w (by omega)) dX8_between_23 kX8_77 qX8_legs hdX8_legs ⟨Nat.le_of_ble_eq_true rfl, Nat.le_of_ble_eq_true rfl⟩ ⟨Nat.le_of_ble_eq_true rfl, Nat.le_of_ble_eq_true rfl⟩ (Nat.le_of_ble_eq_true rfl) rfl xs_231 xn_231 rfl (fun z_23 => ?_)
      refine gw_iconst C dX8_between_26 ?_
      refine gw_isub C dX8_between_27 ?_
      refine gw_iconst C dX8_between_28 ?_
      refine gw_callVm C (as := [vI w, vI ((I 232 (103 + 28 * ((w).toNat))) - 1), vI 1]) (st := []) (ci := 7) (T0 := TX8) (N := 10) (c_X8_end_1 hl0 G I J ho w ((I 232 (103 + 28 * ((w).toNat))) - 1) (by omega) (by omega) (by omega)) dX8_between_29 kX8_191 qX8_end hdX8_end ⟨Nat.le_of_ble_eq_true rfl, Nat.le_of_ble_eq_true rfl⟩ ⟨Nat.le_of_ble_eq_true rfl, Nat.le_of_ble_eq_true rfl⟩ (Nat.le_of_ble_eq_true rfl) rfl xs_231 xn_231 rfl (fun z_29 => ?_)
      rw [show (sEa (I 232) ((w).toNat) (((I 232 (103 + 28 * ((w).toNat))) - 1) + 1).toNat) = sEa (I 232) ((w).toNat) (I 232 (103 + 28 * ((w).toNat))).toNat from by first | rfl | (congr 1; omega)]
      have he_29 := (sEa_b ho (t := ((w).toNat)) (by omega) (I 232 (103 + 28 * ((w).toNat))).toNat (by omega)).1
      refine gw_aload_n C 0 dX8_between_32 rfl rfl ?_
      refine gw_iload_n C 2 dX8_between_33 rfl rfl ?_
      refine gw_aload_n C 0 dX8_between_34 rfl rfl ?_
      refine gw_iload_n C 2 dX8_between_35 rfl rfl ?_
      refine gw_callVm C (as := [vI u]) (st := [vI u, vR 231, vI (sEa (I 232) ((w).toNat) (I 232 (103 + 28 * ((w).toNat))).toNat)]) (ci := 7) (T0 := TX8) (N := 10) (c_X8_legs hl0 G I J ho u (by omega)) dX8_between_36 kX8_77 qX8_legs hdX8_legs ⟨Nat.le_of_ble_eq_true rfl, Nat.le_of_ble_eq_true rfl⟩ ⟨Nat.le_of_ble_eq_true rfl, Nat.le_of_ble_eq_true rfl⟩ (Nat.le_of_ble_eq_true rfl) rfl xs_231 xn_231 rfl (fun z_36 => ?_)
      refine gw_iconst C dX8_between_39 ?_
      refine gw_isub C dX8_between_40 ?_
      refine gw_iconst C dX8_between_41 ?_
      refine gw_callVm C (as := [vI u, vI ((I 232 (103 + 28 * ((u).toNat))) - 1), vI 1]) (st := [vI (sEa (I 232) ((w).toNat) (I 232 (103 + 28 * ((w).toNat))).toNat)]) (ci := 7) (T0 := TX8) (N := 10) (c_X8_end_1 hl0 G I J ho u ((I 232 (103 + 28 * ((u).toNat))) - 1) (by omega) (by omega) (by omega)) dX8_between_42 kX8_191 qX8_end hdX8_end ⟨Nat.le_of_ble_eq_true rfl, Nat.le_of_ble_eq_true rfl⟩ ⟨Nat.le_of_ble_eq_true rfl, Nat.le_of_ble_eq_true rfl⟩ (Nat.le_of_ble_eq_true rfl) rfl xs_231 xn_231 rfl (fun z_42 => ?_)
      rw [show (sEa (I 232) ((u).toNat) (((I 232 (103 + 28 * ((u).toNat))) - 1) + 1).toNat) = sEa (I 232) ((u).toNat) (I 232 (103 + 28 * ((u).toNat))).toNat from by first | rfl | (congr 1; omega)]
      have he_42 := (sEa_b ho (t := ((u).toNat)) (by omega) (I 232 (103 + 28 * ((u).toNat))).toNat (by omega)).1
      refine gw_isub C dX8_between_45 ?_
      refine gw_istore_n C (lo1 := [some (vR 231), some (vI w), some (vI u), some (vI ((sEa (I 232) ((w).toNat) (I 232 (103 + 28 * ((w).toNat))).toNat) - (sEa (I 232) ((u).toNat) (I 232 (103 + 28 * ((u).toNat))).toNat)))]) 3 dX8_between_46 rfl (by decide) rfl ?_
      refine gw_iload_n C 3 dX8_between_47 rfl rfl ?_
      refine gw_i2l C dX8_between_48 (by first | omega | exact hgi _ _) ?_
      refine gw_aload_n C 0 dX8_between_49 rfl rfl ?_
      refine gw_iload_n C 1 dX8_between_50 rfl rfl ?_
      refine gw_aload_n C 0 dX8_between_51 rfl rfl ?_
      refine gw_iload_n C 1 dX8_between_52 rfl rfl ?_
      refine gw_callVm C (as := [vI w]) (st := [vI w, vR 231, vL ((sEa (I 232) ((w).toNat) (I 232 (103 + 28 * ((w).toNat))).toNat) - (sEa (I 232) ((u).toNat) (I 232 (103 + 28 * ((u).toNat))).toNat))]) (ci := 7) (T0 := TX8) (N := 10) (c_X8_legs hl0 G I J ho w (by omega)) dX8_between_53 kX8_77 qX8_legs hdX8_legs ⟨Nat.le_of_ble_eq_true rfl, Nat.le_of_ble_eq_true rfl⟩ ⟨Nat.le_of_ble_eq_true rfl, Nat.le_of_ble_eq_true rfl⟩ (Nat.le_of_ble_eq_true rfl) rfl xs_231 xn_231 rfl (fun z_53 => ?_)
      refine gw_iconst C dX8_between_56 ?_
      refine gw_isub C dX8_between_57 ?_
      refine gw_iconst C dX8_between_58 ?_
      refine gw_callVm C (as := [vI w, vI ((I 232 (103 + 28 * ((w).toNat))) - 1), vI 0]) (st := [vL ((sEa (I 232) ((w).toNat) (I 232 (103 + 28 * ((w).toNat))).toNat) - (sEa (I 232) ((u).toNat) (I 232 (103 + 28 * ((u).toNat))).toNat))]) (ci := 7) (T0 := TX8) (N := 10) (c_X8_end_0 hl0 G I J ho w ((I 232 (103 + 28 * ((w).toNat))) - 1) (by omega) (by omega) (by omega)) dX8_between_59 kX8_191 qX8_end hdX8_end ⟨Nat.le_of_ble_eq_true rfl, Nat.le_of_ble_eq_true rfl⟩ ⟨Nat.le_of_ble_eq_true rfl, Nat.le_of_ble_eq_true rfl⟩ (Nat.le_of_ble_eq_true rfl) rfl xs_231 xn_231 rfl (fun z_59 => ?_)
      rw [show (sNo (I 232) ((w).toNat) (((I 232 (103 + 28 * ((w).toNat))) - 1) + 1).toNat) = sNo (I 232) ((w).toNat) (I 232 (103 + 28 * ((w).toNat))).toNat from by first | rfl | (congr 1; omega)]
      have he_59 := (sEa_b ho (t := ((w).toNat)) (by omega) (I 232 (103 + 28 * ((w).toNat))).toNat (by omega)).2
      refine gw_aload_n C 0 dX8_between_62 rfl rfl ?_
      refine gw_iload_n C 2 dX8_between_63 rfl rfl ?_
      refine gw_aload_n C 0 dX8_between_64 rfl rfl ?_
      refine gw_iload_n C 2 dX8_between_65 rfl rfl ?_
      refine gw_callVm C (as := [vI u]) (st := [vI u, vR 231, vI (sNo (I 232) ((w).toNat) (I 232 (103 + 28 * ((w).toNat))).toNat), vL ((sEa (I 232) ((w).toNat) (I 232 (103 + 28 * ((w).toNat))).toNat) - (sEa (I 232) ((u).toNat) (I 232 (103 + 28 * ((u).toNat))).toNat))]) (ci := 7) (T0 := TX8) (N := 10) (c_X8_legs hl0 G I J ho u (by omega)) dX8_between_66 kX8_77 qX8_legs hdX8_legs ⟨Nat.le_of_ble_eq_true rfl, Nat.le_of_ble_eq_true rfl⟩ ⟨Nat.le_of_ble_eq_true rfl, Nat.le_of_ble_eq_true rfl⟩ (Nat.le_of_ble_eq_true rfl) rfl xs_231 xn_231 rfl (fun z_66 => ?_)
      refine gw_iconst C dX8_between_69 ?_
      refine gw_isub C dX8_between_70 ?_
      refine gw_iconst C dX8_between_71 ?_
      refine gw_callVm C (as := [vI u, vI ((I 232 (103 + 28 * ((u).toNat))) - 1), vI 0]) (st := [vI (sNo (I 232) ((w).toNat) (I 232 (103 + 28 * ((w).toNat))).toNat), vL ((sEa (I 232) ((w).toNat) (I 232 (103 + 28 * ((w).toNat))).toNat) - (sEa (I 232) ((u).toNat) (I 232 (103 + 28 * ((u).toNat))).toNat))]) (ci := 7) (T0 := TX8) (N := 10) (c_X8_end_0 hl0 G I J ho u ((I 232 (103 + 28 * ((u).toNat))) - 1) (by omega) (by omega) (by omega)) dX8_between_72 kX8_191 qX8_end hdX8_end ⟨Nat.le_of_ble_eq_true rfl, Nat.le_of_ble_eq_true rfl⟩ ⟨Nat.le_of_ble_eq_true rfl, Nat.le_of_ble_eq_true rfl⟩ (Nat.le_of_ble_eq_true rfl) rfl xs_231 xn_231 rfl (fun z_72 => ?_)
      rw [show (sNo (I 232) ((u).toNat) (((I 232 (103 + 28 * ((u).toNat))) - 1) + 1).toNat) = sNo (I 232) ((u).toNat) (I 232 (103 + 28 * ((u).toNat))).toNat from by first | rfl | (congr 1; omega)]
      have he_72 := (sEa_b ho (t := ((u).toNat)) (by omega) (I 232 (103 + 28 * ((u).toNat))).toNat (by omega)).2
      refine gw_isub C dX8_between_75 ?_
      refine gw_i2l C dX8_between_76 (by first | omega | exact hgi _ _) ?_
      refine gw_callSm C (as := [vL ((sEa (I 232) ((w).toNat) (I 232 (103 + 28 * ((w).toNat))).toNat) - (sEa (I 232) ((u).toNat) (I 232 (103 + 28 * ((u).toNat))).toNat)), vL ((sNo (I 232) ((w).toNat) (I 232 (103 + 28 * ((w).toNat))).toNat) - (sNo (I 232) ((u).toNat) (I 232 (103 + 28 * ((u).toNat))).toNat))]) (st := []) (c_X8_far hl0 G ((sEa (I 232) ((w).toNat) (I 232 (103 + 28 * ((w).toNat))).toNat) - (sEa (I 232) ((u).toNat) (I 232 (103 + 28 * ((u).toNat))).toNat)) ((sNo (I 232) ((w).toNat) (I 232 (103 + 28 * ((w).toNat))).toNat) - (sNo (I 232) ((u).toNat) (I 232 (103 + 28 * ((u).toNat))).toNat)) (sq2 (by omega) (by omega))) dX8_between_77 kX8_202 qX8_far hdX8_far ⟨Nat.le_of_ble_eq_true rfl, Nat.le_of_ble_eq_true rfl⟩ ⟨Nat.le_of_ble_eq_true rfl, Nat.le_of_ble_eq_true rfl⟩ (Nat.le_of_ble_eq_true rfl) rfl (fun z_77 => ?_)
      exact gw_iret C (Nat.le_of_ble_eq_true rfl) (Nat.le_of_ble_eq_true rfl) dX8_between_80 (⟨congrArg (fun q => some (vI q)) (by first | (unfold rApart; rw [if_pos (by omega)]) | (unfold rApart; rw [if_neg (by omega)])), rfl, rfl⟩)
    · skip
      refine gw_if_ne C (tgt := 19) dX8_between_13 (by decide) ⟨by decide, by decide⟩ (fun h => absurd h (by decide)) (fun _ => ?_)
      refine gw_ldc C (x := (-2000000000)) dX8_between_16 kX8_105 (by decide) ?_
      exact gw_iret C (Nat.le_of_ble_eq_true rfl) (Nat.le_of_ble_eq_true rfl) dX8_between_18 (⟨congrArg (fun q => some (vI q)) (by first | (unfold rApart; rw [if_pos (by omega)]) | (unfold rApart; rw [if_neg (by omega)])), rfl, rfl⟩)
  · skip
    refine gw_if_eq C (tgt := 16) dX8_between_5 (by decide) ⟨by decide, by decide⟩ (fun _ => ?_) (fun h => absurd h (by decide))
    refine gw_ldc C (x := (-2000000000)) dX8_between_16 kX8_105 (by decide) ?_
    exact gw_iret C (Nat.le_of_ble_eq_true rfl) (Nat.le_of_ble_eq_true rfl) dX8_between_18 (⟨congrArg (fun q => some (vI q)) (by first | (unfold rApart; rw [if_pos (by omega)]) | (unfold rApart; rw [if_neg (by omega)])), rfl, rfl⟩)
set_option maxHeartbeats 4000000 in
set_option maxRecDepth 100000 in
theorem c_X8_suspectOf {l : Launch} (hl0 : l.stackTraces = false) (G : GG) (I J : GI) {z : Nat} (ho : Oks (I 232)) (w : Int) (hq : 0 ≤ w ∧ w < I 232 5) : GM l yX8_suspectOf (.code yX8_suspectOf cX8_suspectOf 12 (some .int)) 7 157 0 0 G N0 SH RR [vR 231, vI w] z I J (memQ (some (vI (rSus (I 232) w.toNat))) I J) gNo := by
  refine gm_of (lo0 := [some (vR 231), some (vI w), none, none, none, none, none, none, none, none, none, none]) hl0 (by decide) rfl (Nat.le_of_ble_eq_true rfl) ?_
  intro p e s m args below meth c C ht hgi
  have C : gC G p l s m args meth c cX8_suspectOf 12 RX8 (some .int) "suspectOf" := C
  have h3 := ho.2.1
  have h0 := ho.1
  have hot := okT ho (t := w.toNat) (by omega)
  have h67 := sTT_67 (S := I 232) (t := w.toNat)
  refine gw_aload_n C 0 dX8_suspectOf_0 rfl rfl ?_
  refine gw_iload_n C 1 dX8_suspectOf_1 rfl rfl ?_
  refine gw_callVb C (as := [vI w]) (st := []) (ci := 7) (T0 := TX8) (N := 10) (c_X8_isWhole hl0 G I J ho w (by omega)) dX8_suspectOf_2 kX8_195 qX8_isWhole hdX8_isWhole ⟨Nat.le_of_ble_eq_true rfl, Nat.le_of_ble_eq_true rfl⟩ ⟨Nat.le_of_ble_eq_true rfl, Nat.le_of_ble_eq_true rfl⟩ (Nat.le_of_ble_eq_true rfl) rfl xs_231 xn_231 rfl (fun h_2 z_2 => ?_) (fun h_2 z_2 => ?_)
  · skip
    refine gw_if_ne C (tgt := 11) dX8_suspectOf_5 (by decide) ⟨by decide, by decide⟩ (fun _ => ?_) (fun h => absurd h (by decide))
    refine gw_aload_n C 0 dX8_suspectOf_11 rfl rfl ?_
    refine gw_iload_n C 1 dX8_suspectOf_12 rfl rfl ?_
    refine gw_iconst C dX8_suspectOf_13 ?_
    refine gw_callVm C (as := [vI w, vI 1]) (st := []) (ci := 7) (T0 := TX8) (N := 10) (c_X8_miss_1 hl0 G I J ho w (by omega) (by omega) (by omega)) dX8_suspectOf_14 kX8_198 qX8_miss hdX8_miss ⟨Nat.le_of_ble_eq_true rfl, Nat.le_of_ble_eq_true rfl⟩ ⟨Nat.le_of_ble_eq_true rfl, Nat.le_of_ble_eq_true rfl⟩ (Nat.le_of_ble_eq_true rfl) rfl xs_231 xn_231 rfl (fun z_14 => ?_)
    have hr_14 := sME_c ho (t := ((w).toNat)) (by omega) (by omega)
    refine gw_i2l C dX8_suspectOf_17 (by first | omega | exact hgi _ _) ?_
    refine gw_lstore_n C (lo1 := [some (vR 231), some (vI w), some (vL (sME (I 232) ((w).toNat))), none, none, none, none, none, none, none, none, none]) 2 dX8_suspectOf_18 rfl (by decide) rfl ?_
    refine gw_aload_n C 0 dX8_suspectOf_19 rfl rfl ?_
    refine gw_iload_n C 1 dX8_suspectOf_20 rfl rfl ?_
    refine gw_iconst C dX8_suspectOf_21 ?_
    refine gw_callVm C (as := [vI w, vI 0]) (st := []) (ci := 7) (T0 := TX8) (N := 10) (c_X8_miss_0 hl0 G I J ho w (by omega) (by omega) (by omega)) dX8_suspectOf_22 kX8_198 qX8_miss hdX8_miss ⟨Nat.le_of_ble_eq_true rfl, Nat.le_of_ble_eq_true rfl⟩ ⟨Nat.le_of_ble_eq_true rfl, Nat.le_of_ble_eq_true rfl⟩ (Nat.le_of_ble_eq_true rfl) rfl xs_231 xn_231 rfl (fun z_22 => ?_)
    have hr_22 := sME_c ho (t := ((w).toNat)) (by omega) (by omega)
    refine gw_i2l C dX8_suspectOf_25 (by first | omega | exact hgi _ _) ?_
    refine gw_lstore C (lo1 := [some (vR 231), some (vI w), some (vL (sME (I 232) ((w).toNat))), none, some (vL (sMN (I 232) ((w).toNat))), none, none, none, none, none, none, none]) dX8_suspectOf_26 (by decide) rfl ?_
    refine gw_iconst C dX8_suspectOf_28 ?_
    refine gw_istore C (lo1 := [some (vR 231), some (vI w), some (vL (sME (I 232) ((w).toNat))), none, some (vL (sMN (I 232) ((w).toNat))), none, some (vI 0), none, none, none, none, none]) dX8_suspectOf_29 (by decide) rfl ?_
    refine gw_ldc2 C (x := (-1)) dX8_suspectOf_31 kX8_230 (by decide) ?_
    refine gw_lstore C (lo1 := [some (vR 231), some (vI w), some (vL (sME (I 232) ((w).toNat))), none, some (vL (sMN (I 232) ((w).toNat))), none, some (vI 0), some (vL (-1)), none, none, none, none]) dX8_suspectOf_34 (by decide) rfl ?_
    refine gw_iconst C dX8_suspectOf_36 ?_
    refine gw_istore C (lo1 := [some (vR 231), some (vI w), some (vL (sME (I 232) ((w).toNat))), none, some (vL (sMN (I 232) ((w).toNat))), none, some (vI 0), some (vL (-1)), none, some (vI 0), none, none]) dX8_suspectOf_37 (by decide) rfl ?_
    have loop_39 : ∀ (fuel : Nat) (fd : Int) (ls : Int) (k : Nat) (z1 : Nat), ((k : Int) ≤ I 232 (103 + 28 * w.toNat)) → (suI (suS (I 232) w.toNat) k fd ls) → 13 - k < fuel → GW G p l e ({ frames := 7, cells := 0, slots := 0, locals := 157 } : Room) s m args below meth c 12 z1 N0 SH RR I J 0 0 (vx_MQ below (GQ G N0 SH RR (memQ (some (vI (rSus (I 232) w.toNat))) I J)) (GX G N0 SH RR gNo) args s 0 0 (ge G)) 39 [some (vR 231), some (vI w), some (vL (sME (I 232) ((w).toNat))), none, some (vL (sMN (I 232) ((w).toNat))), none, some (vI fd), some (vL ls), none, some (vI (k : Int)), none, none] [] := by
      intro fuel
      induction fuel with
      | zero => intro fd ls k z1 hk hf hf_39; exact absurd hf_39 (Nat.not_lt_zero _)
      | succ fuel ih_39 =>
        intro fd ls k z1 hk hf hf_39
        have hfb := su_b hf
        refine gw_iload C dX8_suspectOf_39 rfl ?_
        refine gw_aload_n C 0 dX8_suspectOf_41 rfl rfl ?_
        refine gw_iload_n C 1 dX8_suspectOf_42 rfl rfl ?_
        refine gw_callVm C (as := [vI w]) (st := [vI (k : Int)]) (ci := 7) (T0 := TX8) (N := 10) (c_X8_legs hl0 G I J ho w (by omega)) dX8_suspectOf_43 kX8_77 qX8_legs hdX8_legs ⟨Nat.le_of_ble_eq_true rfl, Nat.le_of_ble_eq_true rfl⟩ ⟨Nat.le_of_ble_eq_true rfl, Nat.le_of_ble_eq_true rfl⟩ (Nat.le_of_ble_eq_true rfl) rfl xs_231 xn_231 rfl (fun z_43 => ?_)
        refine gw_icmp_ge C (tgt := 152) dX8_suspectOf_46 (by decide) (by first | omega | exact hgi _ _) (by first | omega | exact hgi _ _) (fun h_46 => ?_) (fun h_46 => ?_)
        · skip
          refine gw_iload C dX8_suspectOf_152 rfl ?_
          exact gw_iret C (Nat.le_of_ble_eq_true rfl) (Nat.le_of_ble_eq_true rfl) dX8_suspectOf_154 (⟨congrArg (fun q => some (vI q)) (by unfold rSus; first | rw [if_neg (by omega)] | (rw [if_pos (by omega), su_e hf (by omega)]; congr 2; unfold sLg; omega)), rfl, rfl⟩)
        · skip
          refine gw_lload_n C 2 dX8_suspectOf_49 rfl rfl ?_
          refine gw_aload_n C 0 dX8_suspectOf_50 rfl rfl ?_
          refine gw_iload_n C 1 dX8_suspectOf_51 rfl rfl ?_
          refine gw_iload C dX8_suspectOf_52 rfl ?_
          refine gw_callVm C (as := [vI w, vI (k : Int)]) (st := [vL (sME (I 232) ((w).toNat))]) (ci := 7) (T0 := TX8) (N := 10) (c_X8_bearing hl0 G I J ho w (k : Int) (by omega) (by omega) (by omega)) dX8_suspectOf_54 kX8_164 qX8_bearing hdX8_bearing ⟨Nat.le_of_ble_eq_true rfl, Nat.le_of_ble_eq_true rfl⟩ ⟨Nat.le_of_ble_eq_true rfl, Nat.le_of_ble_eq_true rfl⟩ (Nat.le_of_ble_eq_true rfl) rfl xs_231 xn_231 rfl (fun z_54 => ?_)
          rw [show (k : Int).toNat = k from by omega]
          have hr_54 := bg_b (I 232) ((w).toNat) k
          rw [bg_1 (S := I 232) (t := w.toNat) (k := k) (by omega)]
          have hbb := sBr_b (I 232) w.toNat k
          refine gw_i2l C dX8_suspectOf_57 (by first | omega | exact hgi _ _) ?_
          refine gw_callSm C (as := [vL (sBr (I 232) w.toNat (k + 1))]) (st := [vL (sME (I 232) ((w).toNat))]) (c_X8_cosineOf hl0 G (sBr (I 232) w.toNat (k + 1)) (by omega)) dX8_suspectOf_58 kX8_186 qX8_cosineOf hdX8_cosineOf ⟨Nat.le_of_ble_eq_true rfl, Nat.le_of_ble_eq_true rfl⟩ ⟨Nat.le_of_ble_eq_true rfl, Nat.le_of_ble_eq_true rfl⟩ (Nat.le_of_ble_eq_true rfl) rfl (fun z_58 => ?_)
          have hr_58 := sinZ_b ((sBr (I 232) w.toNat (k + 1)) + 324000)
          refine gw_i2l C dX8_suspectOf_61 (by first | omega | exact hgi _ _) ?_
          refine gw_lmul C dX8_suspectOf_62 ?_
          refine gw_lload C dX8_suspectOf_63 rfl ?_
          refine gw_aload_n C 0 dX8_suspectOf_65 rfl rfl ?_
          refine gw_iload_n C 1 dX8_suspectOf_66 rfl rfl ?_
          refine gw_iload C dX8_suspectOf_67 rfl ?_
          refine gw_callVm C (as := [vI w, vI (k : Int)]) (st := [vL (sMN (I 232) ((w).toNat)), vL ((sME (I 232) ((w).toNat)) * (sinZ ((sBr (I 232) w.toNat (k + 1)) + 324000)))]) (ci := 7) (T0 := TX8) (N := 10) (c_X8_bearing hl0 G I J ho w (k : Int) (by omega) (by omega) (by omega)) dX8_suspectOf_69 kX8_164 qX8_bearing hdX8_bearing ⟨Nat.le_of_ble_eq_true rfl, Nat.le_of_ble_eq_true rfl⟩ ⟨Nat.le_of_ble_eq_true rfl, Nat.le_of_ble_eq_true rfl⟩ (Nat.le_of_ble_eq_true rfl) rfl xs_231 xn_231 rfl (fun z_69 => ?_)
          rw [show (k : Int).toNat = k from by omega]
          have hr_69 := bg_b (I 232) ((w).toNat) k
          rw [bg_1 (S := I 232) (t := w.toNat) (k := k) (by omega)]
          have hbb := sBr_b (I 232) w.toNat k
          refine gw_i2l C dX8_suspectOf_72 (by first | omega | exact hgi _ _) ?_
          refine gw_callSm C (as := [vL (sBr (I 232) w.toNat (k + 1))]) (st := [vL (sMN (I 232) ((w).toNat)), vL ((sME (I 232) ((w).toNat)) * (sinZ ((sBr (I 232) w.toNat (k + 1)) + 324000)))]) (c_X8_sineOf hl0 G (sBr (I 232) w.toNat (k + 1)) (by omega)) dX8_suspectOf_73 kX8_53 qX8_sineOf hdX8_sineOf ⟨Nat.le_of_ble_eq_true rfl, Nat.le_of_ble_eq_true rfl⟩ ⟨Nat.le_of_ble_eq_true rfl, Nat.le_of_ble_eq_true rfl⟩ (Nat.le_of_ble_eq_true rfl) rfl (fun z_73 => ?_)
          have hr_73 := sinZ_b (sBr (I 232) w.toNat (k + 1))
          refine gw_i2l C dX8_suspectOf_76 (by first | omega | exact hgi _ _) ?_
          refine gw_lmul C dX8_suspectOf_77 ?_
          refine gw_lsub C dX8_suspectOf_78 ?_
          have hs1 := sinZ_b (sBr (I 232) w.toNat (k + 1) + 324000)
          have hs2 := sinZ_b (sBr (I 232) w.toNat (k + 1))
          have hm9 := sME_c ho (t := w.toNat) (by omega) (by omega)
          have hm1 := mul_b (a := sME (I 232) w.toNat) (b := sinZ (sBr (I 232) w.toNat (k + 1) + 324000)) (m := 10000000) (k := 10000) (by omega) hs1
          have hm2 := mul_b (a := sMN (I 232) w.toNat) (b := sinZ (sBr (I 232) w.toNat (k + 1))) (m := 10000000) (k := 10000) (by omega) hs2
          refine gw_lstore C (lo1 := [some (vR 231), some (vI w), some (vL (sME (I 232) ((w).toNat))), none, some (vL (sMN (I 232) ((w).toNat))), none, some (vI fd), some (vL ls), none, some (vI (k : Int)), some (vL (((sME (I 232) ((w).toNat)) * (sinZ ((sBr (I 232) w.toNat (k + 1)) + 324000))) - ((sMN (I 232) ((w).toNat)) * (sinZ (sBr (I 232) w.toNat (k + 1)))))), none]) dX8_suspectOf_79 (by decide) rfl ?_
          refine gw_lload C dX8_suspectOf_81 rfl ?_
          refine gw_lconst C 0 dX8_suspectOf_83 (by decide) ?_
          refine gw_lcmp C dX8_suspectOf_84 (by omega) ⟨by decide, by decide⟩ (fun h_84 => ?_) (fun h_84 => ?_) (fun h_84 => ?_)
          · skip
            refine gw_if_ge C (tgt := 94) dX8_suspectOf_85 (by decide) ⟨by decide, by decide⟩ (fun h => absurd h (by decide)) (fun _ => ?_)
            refine gw_lload C dX8_suspectOf_88 rfl ?_
            refine gw_lneg C dX8_suspectOf_90 ?_
            refine gw_goto C (tgt := 96) dX8_suspectOf_91 (by decide) ?_
            refine gw_lstore C (lo1 := [some (vR 231), some (vI w), some (vL (sME (I 232) ((w).toNat))), none, some (vL (sMN (I 232) ((w).toNat))), none, some (vI fd), some (vL ls), none, some (vI (k : Int)), some (vL (-(((sME (I 232) ((w).toNat)) * (sinZ ((sBr (I 232) w.toNat (k + 1)) + 324000))) - ((sMN (I 232) ((w).toNat)) * (sinZ (sBr (I 232) w.toNat (k + 1))))))), none]) dX8_suspectOf_96 (by decide) rfl ?_
            rw [show (-(((sME (I 232) ((w).toNat)) * (sinZ ((sBr (I 232) w.toNat (k + 1)) + 324000))) - ((sMN (I 232) ((w).toNat)) * (sinZ (sBr (I 232) w.toNat (k + 1)))))) = suS (I 232) w.toNat k from by unfold suS; omega]
            have hsu : 0 ≤ suS (I 232) w.toNat k ∧ suS (I 232) w.toNat k ≤ 1000000000000 := by unfold suS; omega
            refine gw_lload C dX8_suspectOf_98 rfl ?_
            refine gw_lconst C 0 dX8_suspectOf_100 (by decide) ?_
            refine gw_lcmp C dX8_suspectOf_101 (by omega) ⟨by decide, by decide⟩ (fun h_101 => ?_) (fun h_101 => ?_) (fun h_101 => ?_)
            · skip
              refine gw_if_lt C (tgt := 113) dX8_suspectOf_102 (by decide) ⟨by decide, by decide⟩ (fun _ => ?_) (fun h => absurd h (by decide))
              refine gw_iload C dX8_suspectOf_113 rfl ?_
              refine gw_goto C (tgt := 120) dX8_suspectOf_115 (by decide) ?_
              refine gw_istore C (lo1 := [some (vR 231), some (vI w), some (vL (sME (I 232) ((w).toNat))), none, some (vL (sMN (I 232) ((w).toNat))), none, some (vI (k : Int)), some (vL ls), none, some (vI (k : Int)), some (vL (suS (I 232) w.toNat k)), none]) dX8_suspectOf_120 (by decide) rfl ?_
              refine gw_lload C dX8_suspectOf_122 rfl ?_
              refine gw_lconst C 0 dX8_suspectOf_124 (by decide) ?_
              refine gw_lcmp C dX8_suspectOf_125 (by omega) ⟨by decide, by decide⟩ (fun h_125 => ?_) (fun h_125 => ?_) (fun h_125 => ?_)
              · skip
                refine gw_if_lt C (tgt := 137) dX8_suspectOf_126 (by decide) ⟨by decide, by decide⟩ (fun _ => ?_) (fun h => absurd h (by decide))
                refine gw_lload C dX8_suspectOf_137 rfl ?_
                refine gw_goto C (tgt := 144) dX8_suspectOf_139 (by decide) ?_
                refine gw_lstore C (lo1 := [some (vR 231), some (vI w), some (vL (sME (I 232) ((w).toNat))), none, some (vL (sMN (I 232) ((w).toNat))), none, some (vI (k : Int)), some (vL (suS (I 232) w.toNat k)), none, some (vI (k : Int)), some (vL (suS (I 232) w.toNat k)), none]) dX8_suspectOf_144 (by decide) rfl ?_
                refine gw_iinc C (lo1 := [some (vR 231), some (vI w), some (vL (sME (I 232) ((w).toNat))), none, some (vL (sMN (I 232) ((w).toNat))), none, some (vI (k : Int)), some (vL (suS (I 232) w.toNat k)), none, some (vI ((k : Int) + 1)), some (vL (suS (I 232) w.toNat k)), none]) dX8_suspectOf_146 rfl (by decide) rfl ?_
                refine gw_goto C (tgt := 39) dX8_suspectOf_149 (by decide) ?_
                exact gw_weak (lo' := [some (vR 231), some (vI w), some (vL (sME (I 232) ((w).toNat))), none, some (vL (sMN (I 232) ((w).toNat))), none, some (vI (k : Int)), some (vL (suS (I 232) w.toNat k)), none, some (vI (((k + 1) : Nat) : Int)), none, none]) ⟨rfl, rfl, rfl, rfl, rfl, rfl, congrArg (fun q => some (vI q)) (by omega), trivial⟩ (ih_39 (k : Int) (suS (I 232) w.toNat k) (k + 1) z_73 (by omega) (by first | (exfalso; omega) | exact su_t hf rfl (by omega) hsu (by omega) | exact su_f hf rfl (by omega)) (by omega))
              · skip
                refine gw_if_lt C (tgt := 137) dX8_suspectOf_126 (by decide) ⟨by decide, by decide⟩ (fun h => absurd h (by decide)) (fun _ => ?_)
                refine gw_lload C dX8_suspectOf_129 rfl ?_
                refine gw_lload C dX8_suspectOf_131 rfl ?_
                refine gw_lcmp C dX8_suspectOf_133 (by omega) (by omega) (fun h_133 => ?_) (fun h_133 => ?_) (fun h_133 => ?_)
                · skip
                  refine gw_if_ge C (tgt := 142) dX8_suspectOf_134 (by decide) ⟨by decide, by decide⟩ (fun h => absurd h (by decide)) (fun _ => ?_)
                  refine gw_lload C dX8_suspectOf_137 rfl ?_
                  refine gw_goto C (tgt := 144) dX8_suspectOf_139 (by decide) ?_
                  refine gw_lstore C (lo1 := [some (vR 231), some (vI w), some (vL (sME (I 232) ((w).toNat))), none, some (vL (sMN (I 232) ((w).toNat))), none, some (vI (k : Int)), some (vL (suS (I 232) w.toNat k)), none, some (vI (k : Int)), some (vL (suS (I 232) w.toNat k)), none]) dX8_suspectOf_144 (by decide) rfl ?_
                  refine gw_iinc C (lo1 := [some (vR 231), some (vI w), some (vL (sME (I 232) ((w).toNat))), none, some (vL (sMN (I 232) ((w).toNat))), none, some (vI (k : Int)), some (vL (suS (I 232) w.toNat k)), none, some (vI ((k : Int) + 1)), some (vL (suS (I 232) w.toNat k)), none]) dX8_suspectOf_146 rfl (by decide) rfl ?_
                  refine gw_goto C (tgt := 39) dX8_suspectOf_149 (by decide) ?_
                  exact gw_weak (lo' := [some (vR 231), some (vI w), some (vL (sME (I 232) ((w).toNat))), none, some (vL (sMN (I 232) ((w).toNat))), none, some (vI (k : Int)), some (vL (suS (I 232) w.toNat k)), none, some (vI (((k + 1) : Nat) : Int)), none, none]) ⟨rfl, rfl, rfl, rfl, rfl, rfl, congrArg (fun q => some (vI q)) (by omega), trivial⟩ (ih_39 (k : Int) (suS (I 232) w.toNat k) (k + 1) z_73 (by omega) (by first | (exfalso; omega) | exact su_t hf rfl (by omega) hsu (by omega) | exact su_f hf rfl (by omega)) (by omega))
                · skip
                  refine gw_if_ge C (tgt := 142) dX8_suspectOf_134 (by decide) ⟨by decide, by decide⟩ (fun _ => ?_) (fun h => absurd h (by decide))
                  refine gw_lload C dX8_suspectOf_142 rfl ?_
                  refine gw_lstore C (lo1 := [some (vR 231), some (vI w), some (vL (sME (I 232) ((w).toNat))), none, some (vL (sMN (I 232) ((w).toNat))), none, some (vI (k : Int)), some (vL ls), none, some (vI (k : Int)), some (vL (suS (I 232) w.toNat k)), none]) dX8_suspectOf_144 (by decide) rfl ?_
                  refine gw_iinc C (lo1 := [some (vR 231), some (vI w), some (vL (sME (I 232) ((w).toNat))), none, some (vL (sMN (I 232) ((w).toNat))), none, some (vI (k : Int)), some (vL ls), none, some (vI ((k : Int) + 1)), some (vL (suS (I 232) w.toNat k)), none]) dX8_suspectOf_146 rfl (by decide) rfl ?_
                  refine gw_goto C (tgt := 39) dX8_suspectOf_149 (by decide) ?_
                  exact gw_weak (lo' := [some (vR 231), some (vI w), some (vL (sME (I 232) ((w).toNat))), none, some (vL (sMN (I 232) ((w).toNat))), none, some (vI (k : Int)), some (vL ls), none, some (vI (((k + 1) : Nat) : Int)), none, none]) ⟨rfl, rfl, rfl, rfl, rfl, rfl, congrArg (fun q => some (vI q)) (by omega), trivial⟩ (ih_39 (k : Int) ls (k + 1) z_73 (by omega) (by first | (exfalso; omega) | exact su_t hf rfl (by omega) hsu (by omega) | exact su_f hf rfl (by omega)) (by omega))
                · skip
                  refine gw_if_ge C (tgt := 142) dX8_suspectOf_134 (by decide) ⟨by decide, by decide⟩ (fun _ => ?_) (fun h => absurd h (by decide))
                  refine gw_lload C dX8_suspectOf_142 rfl ?_
                  refine gw_lstore C (lo1 := [some (vR 231), some (vI w), some (vL (sME (I 232) ((w).toNat))), none, some (vL (sMN (I 232) ((w).toNat))), none, some (vI (k : Int)), some (vL ls), none, some (vI (k : Int)), some (vL (suS (I 232) w.toNat k)), none]) dX8_suspectOf_144 (by decide) rfl ?_
                  refine gw_iinc C (lo1 := [some (vR 231), some (vI w), some (vL (sME (I 232) ((w).toNat))), none, some (vL (sMN (I 232) ((w).toNat))), none, some (vI (k : Int)), some (vL ls), none, some (vI ((k : Int) + 1)), some (vL (suS (I 232) w.toNat k)), none]) dX8_suspectOf_146 rfl (by decide) rfl ?_
                  refine gw_goto C (tgt := 39) dX8_suspectOf_149 (by decide) ?_
                  exact gw_weak (lo' := [some (vR 231), some (vI w), some (vL (sME (I 232) ((w).toNat))), none, some (vL (sMN (I 232) ((w).toNat))), none, some (vI (k : Int)), some (vL ls), none, some (vI (((k + 1) : Nat) : Int)), none, none]) ⟨rfl, rfl, rfl, rfl, rfl, rfl, congrArg (fun q => some (vI q)) (by omega), trivial⟩ (ih_39 (k : Int) ls (k + 1) z_73 (by omega) (by first | (exfalso; omega) | exact su_t hf rfl (by omega) hsu (by omega) | exact su_f hf rfl (by omega)) (by omega))
              · skip
                refine gw_if_lt C (tgt := 137) dX8_suspectOf_126 (by decide) ⟨by decide, by decide⟩ (fun h => absurd h (by decide)) (fun _ => ?_)
                refine gw_lload C dX8_suspectOf_129 rfl ?_
                refine gw_lload C dX8_suspectOf_131 rfl ?_
                refine gw_lcmp C dX8_suspectOf_133 (by omega) (by omega) (fun h_133_2 => ?_) (fun h_133_2 => ?_) (fun h_133_2 => ?_)
                · skip
                  refine gw_if_ge C (tgt := 142) dX8_suspectOf_134 (by decide) ⟨by decide, by decide⟩ (fun h => absurd h (by decide)) (fun _ => ?_)
                  refine gw_lload C dX8_suspectOf_137 rfl ?_
                  refine gw_goto C (tgt := 144) dX8_suspectOf_139 (by decide) ?_
                  refine gw_lstore C (lo1 := [some (vR 231), some (vI w), some (vL (sME (I 232) ((w).toNat))), none, some (vL (sMN (I 232) ((w).toNat))), none, some (vI (k : Int)), some (vL (suS (I 232) w.toNat k)), none, some (vI (k : Int)), some (vL (suS (I 232) w.toNat k)), none]) dX8_suspectOf_144 (by decide) rfl ?_
                  refine gw_iinc C (lo1 := [some (vR 231), some (vI w), some (vL (sME (I 232) ((w).toNat))), none, some (vL (sMN (I 232) ((w).toNat))), none, some (vI (k : Int)), some (vL (suS (I 232) w.toNat k)), none, some (vI ((k : Int) + 1)), some (vL (suS (I 232) w.toNat k)), none]) dX8_suspectOf_146 rfl (by decide) rfl ?_
                  refine gw_goto C (tgt := 39) dX8_suspectOf_149 (by decide) ?_
                  exact gw_weak (lo' := [some (vR 231), some (vI w), some (vL (sME (I 232) ((w).toNat))), none, some (vL (sMN (I 232) ((w).toNat))), none, some (vI (k : Int)), some (vL (suS (I 232) w.toNat k)), none, some (vI (((k + 1) : Nat) : Int)), none, none]) ⟨rfl, rfl, rfl, rfl, rfl, rfl, congrArg (fun q => some (vI q)) (by omega), trivial⟩ (ih_39 (k : Int) (suS (I 232) w.toNat k) (k + 1) z_73 (by omega) (by first | (exfalso; omega) | exact su_t hf rfl (by omega) hsu (by omega) | exact su_f hf rfl (by omega)) (by omega))
                · skip
                  refine gw_if_ge C (tgt := 142) dX8_suspectOf_134 (by decide) ⟨by decide, by decide⟩ (fun _ => ?_) (fun h => absurd h (by decide))
                  refine gw_lload C dX8_suspectOf_142 rfl ?_
                  refine gw_lstore C (lo1 := [some (vR 231), some (vI w), some (vL (sME (I 232) ((w).toNat))), none, some (vL (sMN (I 232) ((w).toNat))), none, some (vI (k : Int)), some (vL ls), none, some (vI (k : Int)), some (vL (suS (I 232) w.toNat k)), none]) dX8_suspectOf_144 (by decide) rfl ?_
                  refine gw_iinc C (lo1 := [some (vR 231), some (vI w), some (vL (sME (I 232) ((w).toNat))), none, some (vL (sMN (I 232) ((w).toNat))), none, some (vI (k : Int)), some (vL ls), none, some (vI ((k : Int) + 1)), some (vL (suS (I 232) w.toNat k)), none]) dX8_suspectOf_146 rfl (by decide) rfl ?_
                  refine gw_goto C (tgt := 39) dX8_suspectOf_149 (by decide) ?_
                  exact gw_weak (lo' := [some (vR 231), some (vI w), some (vL (sME (I 232) ((w).toNat))), none, some (vL (sMN (I 232) ((w).toNat))), none, some (vI (k : Int)), some (vL ls), none, some (vI (((k + 1) : Nat) : Int)), none, none]) ⟨rfl, rfl, rfl, rfl, rfl, rfl, congrArg (fun q => some (vI q)) (by omega), trivial⟩ (ih_39 (k : Int) ls (k + 1) z_73 (by omega) (by first | (exfalso; omega) | exact su_t hf rfl (by omega) hsu (by omega) | exact su_f hf rfl (by omega)) (by omega))
                · skip
                  refine gw_if_ge C (tgt := 142) dX8_suspectOf_134 (by decide) ⟨by decide, by decide⟩ (fun _ => ?_) (fun h => absurd h (by decide))
                  refine gw_lload C dX8_suspectOf_142 rfl ?_
                  refine gw_lstore C (lo1 := [some (vR 231), some (vI w), some (vL (sME (I 232) ((w).toNat))), none, some (vL (sMN (I 232) ((w).toNat))), none, some (vI (k : Int)), some (vL ls), none, some (vI (k : Int)), some (vL (suS (I 232) w.toNat k)), none]) dX8_suspectOf_144 (by decide) rfl ?_
                  refine gw_iinc C (lo1 := [some (vR 231), some (vI w), some (vL (sME (I 232) ((w).toNat))), none, some (vL (sMN (I 232) ((w).toNat))), none, some (vI (k : Int)), some (vL ls), none, some (vI ((k : Int) + 1)), some (vL (suS (I 232) w.toNat k)), none]) dX8_suspectOf_146 rfl (by decide) rfl ?_
                  refine gw_goto C (tgt := 39) dX8_suspectOf_149 (by decide) ?_
                  exact gw_weak (lo' := [some (vR 231), some (vI w), some (vL (sME (I 232) ((w).toNat))), none, some (vL (sMN (I 232) ((w).toNat))), none, some (vI (k : Int)), some (vL ls), none, some (vI (((k + 1) : Nat) : Int)), none, none]) ⟨rfl, rfl, rfl, rfl, rfl, rfl, congrArg (fun q => some (vI q)) (by omega), trivial⟩ (ih_39 (k : Int) ls (k + 1) z_73 (by omega) (by first | (exfalso; omega) | exact su_t hf rfl (by omega) hsu (by omega) | exact su_f hf rfl (by omega)) (by omega))
            · skip
              refine gw_if_lt C (tgt := 113) dX8_suspectOf_102 (by decide) ⟨by decide, by decide⟩ (fun h => absurd h (by decide)) (fun _ => ?_)
              refine gw_lload C dX8_suspectOf_105 rfl ?_
              refine gw_lload C dX8_suspectOf_107 rfl ?_
              refine gw_lcmp C dX8_suspectOf_109 (by omega) (by omega) (fun h_109 => ?_) (fun h_109 => ?_) (fun h_109 => ?_)
              · skip
                refine gw_if_ge C (tgt := 118) dX8_suspectOf_110 (by decide) ⟨by decide, by decide⟩ (fun h => absurd h (by decide)) (fun _ => ?_)
                refine gw_iload C dX8_suspectOf_113 rfl ?_
                refine gw_goto C (tgt := 120) dX8_suspectOf_115 (by decide) ?_
                refine gw_istore C (lo1 := [some (vR 231), some (vI w), some (vL (sME (I 232) ((w).toNat))), none, some (vL (sMN (I 232) ((w).toNat))), none, some (vI (k : Int)), some (vL ls), none, some (vI (k : Int)), some (vL (suS (I 232) w.toNat k)), none]) dX8_suspectOf_120 (by decide) rfl ?_
                refine gw_lload C dX8_suspectOf_122 rfl ?_
                refine gw_lconst C 0 dX8_suspectOf_124 (by decide) ?_
                refine gw_lcmp C dX8_suspectOf_125 (by omega) ⟨by decide, by decide⟩ (fun h_125_2 => ?_) (fun h_125_2 => ?_) (fun h_125_2 => ?_)
                · skip
                  refine gw_if_lt C (tgt := 137) dX8_suspectOf_126 (by decide) ⟨by decide, by decide⟩ (fun _ => ?_) (fun h => absurd h (by decide))
                  refine gw_lload C dX8_suspectOf_137 rfl ?_
                  refine gw_goto C (tgt := 144) dX8_suspectOf_139 (by decide) ?_
                  refine gw_lstore C (lo1 := [some (vR 231), some (vI w), some (vL (sME (I 232) ((w).toNat))), none, some (vL (sMN (I 232) ((w).toNat))), none, some (vI (k : Int)), some (vL (suS (I 232) w.toNat k)), none, some (vI (k : Int)), some (vL (suS (I 232) w.toNat k)), none]) dX8_suspectOf_144 (by decide) rfl ?_
                  refine gw_iinc C (lo1 := [some (vR 231), some (vI w), some (vL (sME (I 232) ((w).toNat))), none, some (vL (sMN (I 232) ((w).toNat))), none, some (vI (k : Int)), some (vL (suS (I 232) w.toNat k)), none, some (vI ((k : Int) + 1)), some (vL (suS (I 232) w.toNat k)), none]) dX8_suspectOf_146 rfl (by decide) rfl ?_
                  refine gw_goto C (tgt := 39) dX8_suspectOf_149 (by decide) ?_
                  exact gw_weak (lo' := [some (vR 231), some (vI w), some (vL (sME (I 232) ((w).toNat))), none, some (vL (sMN (I 232) ((w).toNat))), none, some (vI (k : Int)), some (vL (suS (I 232) w.toNat k)), none, some (vI (((k + 1) : Nat) : Int)), none, none]) ⟨rfl, rfl, rfl, rfl, rfl, rfl, congrArg (fun q => some (vI q)) (by omega), trivial⟩ (ih_39 (k : Int) (suS (I 232) w.toNat k) (k + 1) z_73 (by omega) (by first | (exfalso; omega) | exact su_t hf rfl (by omega) hsu (by omega) | exact su_f hf rfl (by omega)) (by omega))
                · skip
                  refine gw_if_lt C (tgt := 137) dX8_suspectOf_126 (by decide) ⟨by decide, by decide⟩ (fun h => absurd h (by decide)) (fun _ => ?_)
                  refine gw_lload C dX8_suspectOf_129 rfl ?_
                  refine gw_lload C dX8_suspectOf_131 rfl ?_
                  refine gw_lcmp C dX8_suspectOf_133 (by omega) (by omega) (fun h_133_3 => ?_) (fun h_133_3 => ?_) (fun h_133_3 => ?_)
                  · skip
                    refine gw_if_ge C (tgt := 142) dX8_suspectOf_134 (by decide) ⟨by decide, by decide⟩ (fun h => absurd h (by decide)) (fun _ => ?_)
                    refine gw_lload C dX8_suspectOf_137 rfl ?_
                    refine gw_goto C (tgt := 144) dX8_suspectOf_139 (by decide) ?_
                    refine gw_lstore C (lo1 := [some (vR 231), some (vI w), some (vL (sME (I 232) ((w).toNat))), none, some (vL (sMN (I 232) ((w).toNat))), none, some (vI (k : Int)), some (vL (suS (I 232) w.toNat k)), none, some (vI (k : Int)), some (vL (suS (I 232) w.toNat k)), none]) dX8_suspectOf_144 (by decide) rfl ?_
                    refine gw_iinc C (lo1 := [some (vR 231), some (vI w), some (vL (sME (I 232) ((w).toNat))), none, some (vL (sMN (I 232) ((w).toNat))), none, some (vI (k : Int)), some (vL (suS (I 232) w.toNat k)), none, some (vI ((k : Int) + 1)), some (vL (suS (I 232) w.toNat k)), none]) dX8_suspectOf_146 rfl (by decide) rfl ?_
                    refine gw_goto C (tgt := 39) dX8_suspectOf_149 (by decide) ?_
                    exact gw_weak (lo' := [some (vR 231), some (vI w), some (vL (sME (I 232) ((w).toNat))), none, some (vL (sMN (I 232) ((w).toNat))), none, some (vI (k : Int)), some (vL (suS (I 232) w.toNat k)), none, some (vI (((k + 1) : Nat) : Int)), none, none]) ⟨rfl, rfl, rfl, rfl, rfl, rfl, congrArg (fun q => some (vI q)) (by omega), trivial⟩ (ih_39 (k : Int) (suS (I 232) w.toNat k) (k + 1) z_73 (by omega) (by first | (exfalso; omega) | exact su_t hf rfl (by omega) hsu (by omega) | exact su_f hf rfl (by omega)) (by omega))
                  · skip
                    refine gw_if_ge C (tgt := 142) dX8_suspectOf_134 (by decide) ⟨by decide, by decide⟩ (fun _ => ?_) (fun h => absurd h (by decide))
                    refine gw_lload C dX8_suspectOf_142 rfl ?_
                    refine gw_lstore C (lo1 := [some (vR 231), some (vI w), some (vL (sME (I 232) ((w).toNat))), none, some (vL (sMN (I 232) ((w).toNat))), none, some (vI (k : Int)), some (vL ls), none, some (vI (k : Int)), some (vL (suS (I 232) w.toNat k)), none]) dX8_suspectOf_144 (by decide) rfl ?_
                    refine gw_iinc C (lo1 := [some (vR 231), some (vI w), some (vL (sME (I 232) ((w).toNat))), none, some (vL (sMN (I 232) ((w).toNat))), none, some (vI (k : Int)), some (vL ls), none, some (vI ((k : Int) + 1)), some (vL (suS (I 232) w.toNat k)), none]) dX8_suspectOf_146 rfl (by decide) rfl ?_
                    refine gw_goto C (tgt := 39) dX8_suspectOf_149 (by decide) ?_
                    exact gw_weak (lo' := [some (vR 231), some (vI w), some (vL (sME (I 232) ((w).toNat))), none, some (vL (sMN (I 232) ((w).toNat))), none, some (vI (k : Int)), some (vL ls), none, some (vI (((k + 1) : Nat) : Int)), none, none]) ⟨rfl, rfl, rfl, rfl, rfl, rfl, congrArg (fun q => some (vI q)) (by omega), trivial⟩ (ih_39 (k : Int) ls (k + 1) z_73 (by omega) (by first | (exfalso; omega) | exact su_t hf rfl (by omega) hsu (by omega) | exact su_f hf rfl (by omega)) (by omega))
                  · skip
                    refine gw_if_ge C (tgt := 142) dX8_suspectOf_134 (by decide) ⟨by decide, by decide⟩ (fun _ => ?_) (fun h => absurd h (by decide))
                    refine gw_lload C dX8_suspectOf_142 rfl ?_
                    refine gw_lstore C (lo1 := [some (vR 231), some (vI w), some (vL (sME (I 232) ((w).toNat))), none, some (vL (sMN (I 232) ((w).toNat))), none, some (vI (k : Int)), some (vL ls), none, some (vI (k : Int)), some (vL (suS (I 232) w.toNat k)), none]) dX8_suspectOf_144 (by decide) rfl ?_
                    refine gw_iinc C (lo1 := [some (vR 231), some (vI w), some (vL (sME (I 232) ((w).toNat))), none, some (vL (sMN (I 232) ((w).toNat))), none, some (vI (k : Int)), some (vL ls), none, some (vI ((k : Int) + 1)), some (vL (suS (I 232) w.toNat k)), none]) dX8_suspectOf_146 rfl (by decide) rfl ?_
                    refine gw_goto C (tgt := 39) dX8_suspectOf_149 (by decide) ?_
                    exact gw_weak (lo' := [some (vR 231), some (vI w), some (vL (sME (I 232) ((w).toNat))), none, some (vL (sMN (I 232) ((w).toNat))), none, some (vI (k : Int)), some (vL ls), none, some (vI (((k + 1) : Nat) : Int)), none, none]) ⟨rfl, rfl, rfl, rfl, rfl, rfl, congrArg (fun q => some (vI q)) (by omega), trivial⟩ (ih_39 (k : Int) ls (k + 1) z_73 (by omega) (by first | (exfalso; omega) | exact su_t hf rfl (by omega) hsu (by omega) | exact su_f hf rfl (by omega)) (by omega))
                · skip
                  refine gw_if_lt C (tgt := 137) dX8_suspectOf_126 (by decide) ⟨by decide, by decide⟩ (fun h => absurd h (by decide)) (fun _ => ?_)
                  refine gw_lload C dX8_suspectOf_129 rfl ?_
                  refine gw_lload C dX8_suspectOf_131 rfl ?_
                  refine gw_lcmp C dX8_suspectOf_133 (by omega) (by omega) (fun h_133_4 => ?_) (fun h_133_4 => ?_) (fun h_133_4 => ?_)
                  · skip
                    refine gw_if_ge C (tgt := 142) dX8_suspectOf_134 (by decide) ⟨by decide, by decide⟩ (fun h => absurd h (by decide)) (fun _ => ?_)
                    refine gw_lload C dX8_suspectOf_137 rfl ?_
                    refine gw_goto C (tgt := 144) dX8_suspectOf_139 (by decide) ?_
                    refine gw_lstore C (lo1 := [some (vR 231), some (vI w), some (vL (sME (I 232) ((w).toNat))), none, some (vL (sMN (I 232) ((w).toNat))), none, some (vI (k : Int)), some (vL (suS (I 232) w.toNat k)), none, some (vI (k : Int)), some (vL (suS (I 232) w.toNat k)), none]) dX8_suspectOf_144 (by decide) rfl ?_
                    refine gw_iinc C (lo1 := [some (vR 231), some (vI w), some (vL (sME (I 232) ((w).toNat))), none, some (vL (sMN (I 232) ((w).toNat))), none, some (vI (k : Int)), some (vL (suS (I 232) w.toNat k)), none, some (vI ((k : Int) + 1)), some (vL (suS (I 232) w.toNat k)), none]) dX8_suspectOf_146 rfl (by decide) rfl ?_
                    refine gw_goto C (tgt := 39) dX8_suspectOf_149 (by decide) ?_
                    exact gw_weak (lo' := [some (vR 231), some (vI w), some (vL (sME (I 232) ((w).toNat))), none, some (vL (sMN (I 232) ((w).toNat))), none, some (vI (k : Int)), some (vL (suS (I 232) w.toNat k)), none, some (vI (((k + 1) : Nat) : Int)), none, none]) ⟨rfl, rfl, rfl, rfl, rfl, rfl, congrArg (fun q => some (vI q)) (by omega), trivial⟩ (ih_39 (k : Int) (suS (I 232) w.toNat k) (k + 1) z_73 (by omega) (by first | (exfalso; omega) | exact su_t hf rfl (by omega) hsu (by omega) | exact su_f hf rfl (by omega)) (by omega))
                  · skip
                    refine gw_if_ge C (tgt := 142) dX8_suspectOf_134 (by decide) ⟨by decide, by decide⟩ (fun _ => ?_) (fun h => absurd h (by decide))
                    refine gw_lload C dX8_suspectOf_142 rfl ?_
                    refine gw_lstore C (lo1 := [some (vR 231), some (vI w), some (vL (sME (I 232) ((w).toNat))), none, some (vL (sMN (I 232) ((w).toNat))), none, some (vI (k : Int)), some (vL ls), none, some (vI (k : Int)), some (vL (suS (I 232) w.toNat k)), none]) dX8_suspectOf_144 (by decide) rfl ?_
                    refine gw_iinc C (lo1 := [some (vR 231), some (vI w), some (vL (sME (I 232) ((w).toNat))), none, some (vL (sMN (I 232) ((w).toNat))), none, some (vI (k : Int)), some (vL ls), none, some (vI ((k : Int) + 1)), some (vL (suS (I 232) w.toNat k)), none]) dX8_suspectOf_146 rfl (by decide) rfl ?_
                    refine gw_goto C (tgt := 39) dX8_suspectOf_149 (by decide) ?_
                    exact gw_weak (lo' := [some (vR 231), some (vI w), some (vL (sME (I 232) ((w).toNat))), none, some (vL (sMN (I 232) ((w).toNat))), none, some (vI (k : Int)), some (vL ls), none, some (vI (((k + 1) : Nat) : Int)), none, none]) ⟨rfl, rfl, rfl, rfl, rfl, rfl, congrArg (fun q => some (vI q)) (by omega), trivial⟩ (ih_39 (k : Int) ls (k + 1) z_73 (by omega) (by first | (exfalso; omega) | exact su_t hf rfl (by omega) hsu (by omega) | exact su_f hf rfl (by omega)) (by omega))
                  · skip
                    refine gw_if_ge C (tgt := 142) dX8_suspectOf_134 (by decide) ⟨by decide, by decide⟩ (fun _ => ?_) (fun h => absurd h (by decide))
                    refine gw_lload C dX8_suspectOf_142 rfl ?_
                    refine gw_lstore C (lo1 := [some (vR 231), some (vI w), some (vL (sME (I 232) ((w).toNat))), none, some (vL (sMN (I 232) ((w).toNat))), none, some (vI (k : Int)), some (vL ls), none, some (vI (k : Int)), some (vL (suS (I 232) w.toNat k)), none]) dX8_suspectOf_144 (by decide) rfl ?_
                    refine gw_iinc C (lo1 := [some (vR 231), some (vI w), some (vL (sME (I 232) ((w).toNat))), none, some (vL (sMN (I 232) ((w).toNat))), none, some (vI (k : Int)), some (vL ls), none, some (vI ((k : Int) + 1)), some (vL (suS (I 232) w.toNat k)), none]) dX8_suspectOf_146 rfl (by decide) rfl ?_
                    refine gw_goto C (tgt := 39) dX8_suspectOf_149 (by decide) ?_
                    exact gw_weak (lo' := [some (vR 231), some (vI w), some (vL (sME (I 232) ((w).toNat))), none, some (vL (sMN (I 232) ((w).toNat))), none, some (vI (k : Int)), some (vL ls), none, some (vI (((k + 1) : Nat) : Int)), none, none]) ⟨rfl, rfl, rfl, rfl, rfl, rfl, congrArg (fun q => some (vI q)) (by omega), trivial⟩ (ih_39 (k : Int) ls (k + 1) z_73 (by omega) (by first | (exfalso; omega) | exact su_t hf rfl (by omega) hsu (by omega) | exact su_f hf rfl (by omega)) (by omega))
              · skip
                refine gw_if_ge C (tgt := 118) dX8_suspectOf_110 (by decide) ⟨by decide, by decide⟩ (fun _ => ?_) (fun h => absurd h (by decide))
                refine gw_iload C dX8_suspectOf_118 rfl ?_
                refine gw_istore C (lo1 := [some (vR 231), some (vI w), some (vL (sME (I 232) ((w).toNat))), none, some (vL (sMN (I 232) ((w).toNat))), none, some (vI fd), some (vL ls), none, some (vI (k : Int)), some (vL (suS (I 232) w.toNat k)), none]) dX8_suspectOf_120 (by decide) rfl ?_
                refine gw_lload C dX8_suspectOf_122 rfl ?_
                refine gw_lconst C 0 dX8_suspectOf_124 (by decide) ?_
                refine gw_lcmp C dX8_suspectOf_125 (by omega) ⟨by decide, by decide⟩ (fun h_125_3 => ?_) (fun h_125_3 => ?_) (fun h_125_3 => ?_)
                · skip
                  refine gw_if_lt C (tgt := 137) dX8_suspectOf_126 (by decide) ⟨by decide, by decide⟩ (fun _ => ?_) (fun h => absurd h (by decide))
                  refine gw_lload C dX8_suspectOf_137 rfl ?_
                  refine gw_goto C (tgt := 144) dX8_suspectOf_139 (by decide) ?_
                  refine gw_lstore C (lo1 := [some (vR 231), some (vI w), some (vL (sME (I 232) ((w).toNat))), none, some (vL (sMN (I 232) ((w).toNat))), none, some (vI fd), some (vL (suS (I 232) w.toNat k)), none, some (vI (k : Int)), some (vL (suS (I 232) w.toNat k)), none]) dX8_suspectOf_144 (by decide) rfl ?_
                  refine gw_iinc C (lo1 := [some (vR 231), some (vI w), some (vL (sME (I 232) ((w).toNat))), none, some (vL (sMN (I 232) ((w).toNat))), none, some (vI fd), some (vL (suS (I 232) w.toNat k)), none, some (vI ((k : Int) + 1)), some (vL (suS (I 232) w.toNat k)), none]) dX8_suspectOf_146 rfl (by decide) rfl ?_
                  refine gw_goto C (tgt := 39) dX8_suspectOf_149 (by decide) ?_
                  exact gw_weak (lo' := [some (vR 231), some (vI w), some (vL (sME (I 232) ((w).toNat))), none, some (vL (sMN (I 232) ((w).toNat))), none, some (vI fd), some (vL (suS (I 232) w.toNat k)), none, some (vI (((k + 1) : Nat) : Int)), none, none]) ⟨rfl, rfl, rfl, rfl, rfl, rfl, congrArg (fun q => some (vI q)) (by omega), trivial⟩ (ih_39 fd (suS (I 232) w.toNat k) (k + 1) z_73 (by omega) (by first | (exfalso; omega) | exact su_t hf rfl (by omega) hsu (by omega) | exact su_f hf rfl (by omega)) (by omega))
                · skip
                  refine gw_if_lt C (tgt := 137) dX8_suspectOf_126 (by decide) ⟨by decide, by decide⟩ (fun h => absurd h (by decide)) (fun _ => ?_)
                  refine gw_lload C dX8_suspectOf_129 rfl ?_
                  refine gw_lload C dX8_suspectOf_131 rfl ?_
                  refine gw_lcmp C dX8_suspectOf_133 (by omega) (by omega) (fun h_133_5 => ?_) (fun h_133_5 => ?_) (fun h_133_5 => ?_)
                  · skip
                    refine gw_if_ge C (tgt := 142) dX8_suspectOf_134 (by decide) ⟨by decide, by decide⟩ (fun h => absurd h (by decide)) (fun _ => ?_)
                    refine gw_lload C dX8_suspectOf_137 rfl ?_
                    refine gw_goto C (tgt := 144) dX8_suspectOf_139 (by decide) ?_
                    refine gw_lstore C (lo1 := [some (vR 231), some (vI w), some (vL (sME (I 232) ((w).toNat))), none, some (vL (sMN (I 232) ((w).toNat))), none, some (vI fd), some (vL (suS (I 232) w.toNat k)), none, some (vI (k : Int)), some (vL (suS (I 232) w.toNat k)), none]) dX8_suspectOf_144 (by decide) rfl ?_
                    refine gw_iinc C (lo1 := [some (vR 231), some (vI w), some (vL (sME (I 232) ((w).toNat))), none, some (vL (sMN (I 232) ((w).toNat))), none, some (vI fd), some (vL (suS (I 232) w.toNat k)), none, some (vI ((k : Int) + 1)), some (vL (suS (I 232) w.toNat k)), none]) dX8_suspectOf_146 rfl (by decide) rfl ?_
                    refine gw_goto C (tgt := 39) dX8_suspectOf_149 (by decide) ?_
                    exact gw_weak (lo' := [some (vR 231), some (vI w), some (vL (sME (I 232) ((w).toNat))), none, some (vL (sMN (I 232) ((w).toNat))), none, some (vI fd), some (vL (suS (I 232) w.toNat k)), none, some (vI (((k + 1) : Nat) : Int)), none, none]) ⟨rfl, rfl, rfl, rfl, rfl, rfl, congrArg (fun q => some (vI q)) (by omega), trivial⟩ (ih_39 fd (suS (I 232) w.toNat k) (k + 1) z_73 (by omega) (by first | (exfalso; omega) | exact su_t hf rfl (by omega) hsu (by omega) | exact su_f hf rfl (by omega)) (by omega))
                  · skip
                    refine gw_if_ge C (tgt := 142) dX8_suspectOf_134 (by decide) ⟨by decide, by decide⟩ (fun _ => ?_) (fun h => absurd h (by decide))
                    refine gw_lload C dX8_suspectOf_142 rfl ?_
                    refine gw_lstore C (lo1 := [some (vR 231), some (vI w), some (vL (sME (I 232) ((w).toNat))), none, some (vL (sMN (I 232) ((w).toNat))), none, some (vI fd), some (vL ls), none, some (vI (k : Int)), some (vL (suS (I 232) w.toNat k)), none]) dX8_suspectOf_144 (by decide) rfl ?_
                    refine gw_iinc C (lo1 := [some (vR 231), some (vI w), some (vL (sME (I 232) ((w).toNat))), none, some (vL (sMN (I 232) ((w).toNat))), none, some (vI fd), some (vL ls), none, some (vI ((k : Int) + 1)), some (vL (suS (I 232) w.toNat k)), none]) dX8_suspectOf_146 rfl (by decide) rfl ?_
                    refine gw_goto C (tgt := 39) dX8_suspectOf_149 (by decide) ?_
                    exact gw_weak (lo' := [some (vR 231), some (vI w), some (vL (sME (I 232) ((w).toNat))), none, some (vL (sMN (I 232) ((w).toNat))), none, some (vI fd), some (vL ls), none, some (vI (((k + 1) : Nat) : Int)), none, none]) ⟨rfl, rfl, rfl, rfl, rfl, rfl, congrArg (fun q => some (vI q)) (by omega), trivial⟩ (ih_39 fd ls (k + 1) z_73 (by omega) (by first | (exfalso; omega) | exact su_t hf rfl (by omega) hsu (by omega) | exact su_f hf rfl (by omega)) (by omega))
                  · skip
                    refine gw_if_ge C (tgt := 142) dX8_suspectOf_134 (by decide) ⟨by decide, by decide⟩ (fun _ => ?_) (fun h => absurd h (by decide))
                    refine gw_lload C dX8_suspectOf_142 rfl ?_
                    refine gw_lstore C (lo1 := [some (vR 231), some (vI w), some (vL (sME (I 232) ((w).toNat))), none, some (vL (sMN (I 232) ((w).toNat))), none, some (vI fd), some (vL ls), none, some (vI (k : Int)), some (vL (suS (I 232) w.toNat k)), none]) dX8_suspectOf_144 (by decide) rfl ?_
                    refine gw_iinc C (lo1 := [some (vR 231), some (vI w), some (vL (sME (I 232) ((w).toNat))), none, some (vL (sMN (I 232) ((w).toNat))), none, some (vI fd), some (vL ls), none, some (vI ((k : Int) + 1)), some (vL (suS (I 232) w.toNat k)), none]) dX8_suspectOf_146 rfl (by decide) rfl ?_
                    refine gw_goto C (tgt := 39) dX8_suspectOf_149 (by decide) ?_
                    exact gw_weak (lo' := [some (vR 231), some (vI w), some (vL (sME (I 232) ((w).toNat))), none, some (vL (sMN (I 232) ((w).toNat))), none, some (vI fd), some (vL ls), none, some (vI (((k + 1) : Nat) : Int)), none, none]) ⟨rfl, rfl, rfl, rfl, rfl, rfl, congrArg (fun q => some (vI q)) (by omega), trivial⟩ (ih_39 fd ls (k + 1) z_73 (by omega) (by first | (exfalso; omega) | exact su_t hf rfl (by omega) hsu (by omega) | exact su_f hf rfl (by omega)) (by omega))
                · skip
                  refine gw_if_lt C (tgt := 137) dX8_suspectOf_126 (by decide) ⟨by decide, by decide⟩ (fun h => absurd h (by decide)) (fun _ => ?_)
                  refine gw_lload C dX8_suspectOf_129 rfl ?_
                  refine gw_lload C dX8_suspectOf_131 rfl ?_
                  refine gw_lcmp C dX8_suspectOf_133 (by omega) (by omega) (fun h_133_6 => ?_) (fun h_133_6 => ?_) (fun h_133_6 => ?_)
                  · skip
                    refine gw_if_ge C (tgt := 142) dX8_suspectOf_134 (by decide) ⟨by decide, by decide⟩ (fun h => absurd h (by decide)) (fun _ => ?_)
                    refine gw_lload C dX8_suspectOf_137 rfl ?_
                    refine gw_goto C (tgt := 144) dX8_suspectOf_139 (by decide) ?_
                    refine gw_lstore C (lo1 := [some (vR 231), some (vI w), some (vL (sME (I 232) ((w).toNat))), none, some (vL (sMN (I 232) ((w).toNat))), none, some (vI fd), some (vL (suS (I 232) w.toNat k)), none, some (vI (k : Int)), some (vL (suS (I 232) w.toNat k)), none]) dX8_suspectOf_144 (by decide) rfl ?_
                    refine gw_iinc C (lo1 := [some (vR 231), some (vI w), some (vL (sME (I 232) ((w).toNat))), none, some (vL (sMN (I 232) ((w).toNat))), none, some (vI fd), some (vL (suS (I 232) w.toNat k)), none, some (vI ((k : Int) + 1)), some (vL (suS (I 232) w.toNat k)), none]) dX8_suspectOf_146 rfl (by decide) rfl ?_
                    refine gw_goto C (tgt := 39) dX8_suspectOf_149 (by decide) ?_
                    exact gw_weak (lo' := [some (vR 231), some (vI w), some (vL (sME (I 232) ((w).toNat))), none, some (vL (sMN (I 232) ((w).toNat))), none, some (vI fd), some (vL (suS (I 232) w.toNat k)), none, some (vI (((k + 1) : Nat) : Int)), none, none]) ⟨rfl, rfl, rfl, rfl, rfl, rfl, congrArg (fun q => some (vI q)) (by omega), trivial⟩ (ih_39 fd (suS (I 232) w.toNat k) (k + 1) z_73 (by omega) (by first | (exfalso; omega) | exact su_t hf rfl (by omega) hsu (by omega) | exact su_f hf rfl (by omega)) (by omega))
                  · skip
                    refine gw_if_ge C (tgt := 142) dX8_suspectOf_134 (by decide) ⟨by decide, by decide⟩ (fun _ => ?_) (fun h => absurd h (by decide))
                    refine gw_lload C dX8_suspectOf_142 rfl ?_
                    refine gw_lstore C (lo1 := [some (vR 231), some (vI w), some (vL (sME (I 232) ((w).toNat))), none, some (vL (sMN (I 232) ((w).toNat))), none, some (vI fd), some (vL ls), none, some (vI (k : Int)), some (vL (suS (I 232) w.toNat k)), none]) dX8_suspectOf_144 (by decide) rfl ?_
                    refine gw_iinc C (lo1 := [some (vR 231), some (vI w), some (vL (sME (I 232) ((w).toNat))), none, some (vL (sMN (I 232) ((w).toNat))), none, some (vI fd), some (vL ls), none, some (vI ((k : Int) + 1)), some (vL (suS (I 232) w.toNat k)), none]) dX8_suspectOf_146 rfl (by decide) rfl ?_
                    refine gw_goto C (tgt := 39) dX8_suspectOf_149 (by decide) ?_
                    exact gw_weak (lo' := [some (vR 231), some (vI w), some (vL (sME (I 232) ((w).toNat))), none, some (vL (sMN (I 232) ((w).toNat))), none, some (vI fd), some (vL ls), none, some (vI (((k + 1) : Nat) : Int)), none, none]) ⟨rfl, rfl, rfl, rfl, rfl, rfl, congrArg (fun q => some (vI q)) (by omega), trivial⟩ (ih_39 fd ls (k + 1) z_73 (by omega) (by first | (exfalso; omega) | exact su_t hf rfl (by omega) hsu (by omega) | exact su_f hf rfl (by omega)) (by omega))
                  · skip
                    refine gw_if_ge C (tgt := 142) dX8_suspectOf_134 (by decide) ⟨by decide, by decide⟩ (fun _ => ?_) (fun h => absurd h (by decide))
                    refine gw_lload C dX8_suspectOf_142 rfl ?_
                    refine gw_lstore C (lo1 := [some (vR 231), some (vI w), some (vL (sME (I 232) ((w).toNat))), none, some (vL (sMN (I 232) ((w).toNat))), none, some (vI fd), some (vL ls), none, some (vI (k : Int)), some (vL (suS (I 232) w.toNat k)), none]) dX8_suspectOf_144 (by decide) rfl ?_
                    refine gw_iinc C (lo1 := [some (vR 231), some (vI w), some (vL (sME (I 232) ((w).toNat))), none, some (vL (sMN (I 232) ((w).toNat))), none, some (vI fd), some (vL ls), none, some (vI ((k : Int) + 1)), some (vL (suS (I 232) w.toNat k)), none]) dX8_suspectOf_146 rfl (by decide) rfl ?_
                    refine gw_goto C (tgt := 39) dX8_suspectOf_149 (by decide) ?_
                    exact gw_weak (lo' := [some (vR 231), some (vI w), some (vL (sME (I 232) ((w).toNat))), none, some (vL (sMN (I 232) ((w).toNat))), none, some (vI fd), some (vL ls), none, some (vI (((k + 1) : Nat) : Int)), none, none]) ⟨rfl, rfl, rfl, rfl, rfl, rfl, congrArg (fun q => some (vI q)) (by omega), trivial⟩ (ih_39 fd ls (k + 1) z_73 (by omega) (by first | (exfalso; omega) | exact su_t hf rfl (by omega) hsu (by omega) | exact su_f hf rfl (by omega)) (by omega))
              · skip
                refine gw_if_ge C (tgt := 118) dX8_suspectOf_110 (by decide) ⟨by decide, by decide⟩ (fun _ => ?_) (fun h => absurd h (by decide))
                refine gw_iload C dX8_suspectOf_118 rfl ?_
                refine gw_istore C (lo1 := [some (vR 231), some (vI w), some (vL (sME (I 232) ((w).toNat))), none, some (vL (sMN (I 232) ((w).toNat))), none, some (vI fd), some (vL ls), none, some (vI (k : Int)), some (vL (suS (I 232) w.toNat k)), none]) dX8_suspectOf_120 (by decide) rfl ?_
                refine gw_lload C dX8_suspectOf_122 rfl ?_
                refine gw_lconst C 0 dX8_suspectOf_124 (by decide) ?_
                refine gw_lcmp C dX8_suspectOf_125 (by omega) ⟨by decide, by decide⟩ (fun h_125_4 => ?_) (fun h_125_4 => ?_) (fun h_125_4 => ?_)
                · skip
                  refine gw_if_lt C (tgt := 137) dX8_suspectOf_126 (by decide) ⟨by decide, by decide⟩ (fun _ => ?_) (fun h => absurd h (by decide))
                  refine gw_lload C dX8_suspectOf_137 rfl ?_
                  refine gw_goto C (tgt := 144) dX8_suspectOf_139 (by decide) ?_
                  refine gw_lstore C (lo1 := [some (vR 231), some (vI w), some (vL (sME (I 232) ((w).toNat))), none, some (vL (sMN (I 232) ((w).toNat))), none, some (vI fd), some (vL (suS (I 232) w.toNat k)), none, some (vI (k : Int)), some (vL (suS (I 232) w.toNat k)), none]) dX8_suspectOf_144 (by decide) rfl ?_
                  refine gw_iinc C (lo1 := [some (vR 231), some (vI w), some (vL (sME (I 232) ((w).toNat))), none, some (vL (sMN (I 232) ((w).toNat))), none, some (vI fd), some (vL (suS (I 232) w.toNat k)), none, some (vI ((k : Int) + 1)), some (vL (suS (I 232) w.toNat k)), none]) dX8_suspectOf_146 rfl (by decide) rfl ?_
                  refine gw_goto C (tgt := 39) dX8_suspectOf_149 (by decide) ?_
                  exact gw_weak (lo' := [some (vR 231), some (vI w), some (vL (sME (I 232) ((w).toNat))), none, some (vL (sMN (I 232) ((w).toNat))), none, some (vI fd), some (vL (suS (I 232) w.toNat k)), none, some (vI (((k + 1) : Nat) : Int)), none, none]) ⟨rfl, rfl, rfl, rfl, rfl, rfl, congrArg (fun q => some (vI q)) (by omega), trivial⟩ (ih_39 fd (suS (I 232) w.toNat k) (k + 1) z_73 (by omega) (by first | (exfalso; omega) | exact su_t hf rfl (by omega) hsu (by omega) | exact su_f hf rfl (by omega)) (by omega))
                · skip
                  refine gw_if_lt C (tgt := 137) dX8_suspectOf_126 (by decide) ⟨by decide, by decide⟩ (fun h => absurd h (by decide)) (fun _ => ?_)
                  refine gw_lload C dX8_suspectOf_129 rfl ?_
                  refine gw_lload C dX8_suspectOf_131 rfl ?_
                  refine gw_lcmp C dX8_suspectOf_133 (by omega) (by omega) (fun h_133_7 => ?_) (fun h_133_7 => ?_) (fun h_133_7 => ?_)
                  · skip
                    refine gw_if_ge C (tgt := 142) dX8_suspectOf_134 (by decide) ⟨by decide, by decide⟩ (fun h => absurd h (by decide)) (fun _ => ?_)
                    refine gw_lload C dX8_suspectOf_137 rfl ?_
                    refine gw_goto C (tgt := 144) dX8_suspectOf_139 (by decide) ?_
                    refine gw_lstore C (lo1 := [some (vR 231), some (vI w), some (vL (sME (I 232) ((w).toNat))), none, some (vL (sMN (I 232) ((w).toNat))), none, some (vI fd), some (vL (suS (I 232) w.toNat k)), none, some (vI (k : Int)), some (vL (suS (I 232) w.toNat k)), none]) dX8_suspectOf_144 (by decide) rfl ?_
                    refine gw_iinc C (lo1 := [some (vR 231), some (vI w), some (vL (sME (I 232) ((w).toNat))), none, some (vL (sMN (I 232) ((w).toNat))), none, some (vI fd), some (vL (suS (I 232) w.toNat k)), none, some (vI ((k : Int) + 1)), some (vL (suS (I 232) w.toNat k)), none]) dX8_suspectOf_146 rfl (by decide) rfl ?_
                    refine gw_goto C (tgt := 39) dX8_suspectOf_149 (by decide) ?_
                    exact gw_weak (lo' := [some (vR 231), some (vI w), some (vL (sME (I 232) ((w).toNat))), none, some (vL (sMN (I 232) ((w).toNat))), none, some (vI fd), some (vL (suS (I 232) w.toNat k)), none, some (vI (((k + 1) : Nat) : Int)), none, none]) ⟨rfl, rfl, rfl, rfl, rfl, rfl, congrArg (fun q => some (vI q)) (by omega), trivial⟩ (ih_39 fd (suS (I 232) w.toNat k) (k + 1) z_73 (by omega) (by first | (exfalso; omega) | exact su_t hf rfl (by omega) hsu (by omega) | exact su_f hf rfl (by omega)) (by omega))
                  · skip
                    refine gw_if_ge C (tgt := 142) dX8_suspectOf_134 (by decide) ⟨by decide, by decide⟩ (fun _ => ?_) (fun h => absurd h (by decide))
                    refine gw_lload C dX8_suspectOf_142 rfl ?_
                    refine gw_lstore C (lo1 := [some (vR 231), some (vI w), some (vL (sME (I 232) ((w).toNat))), none, some (vL (sMN (I 232) ((w).toNat))), none, some (vI fd), some (vL ls), none, some (vI (k : Int)), some (vL (suS (I 232) w.toNat k)), none]) dX8_suspectOf_144 (by decide) rfl ?_
                    refine gw_iinc C (lo1 := [some (vR 231), some (vI w), some (vL (sME (I 232) ((w).toNat))), none, some (vL (sMN (I 232) ((w).toNat))), none, some (vI fd), some (vL ls), none, some (vI ((k : Int) + 1)), some (vL (suS (I 232) w.toNat k)), none]) dX8_suspectOf_146 rfl (by decide) rfl ?_
                    refine gw_goto C (tgt := 39) dX8_suspectOf_149 (by decide) ?_
                    exact gw_weak (lo' := [some (vR 231), some (vI w), some (vL (sME (I 232) ((w).toNat))), none, some (vL (sMN (I 232) ((w).toNat))), none, some (vI fd), some (vL ls), none, some (vI (((k + 1) : Nat) : Int)), none, none]) ⟨rfl, rfl, rfl, rfl, rfl, rfl, congrArg (fun q => some (vI q)) (by omega), trivial⟩ (ih_39 fd ls (k + 1) z_73 (by omega) (by first | (exfalso; omega) | exact su_t hf rfl (by omega) hsu (by omega) | exact su_f hf rfl (by omega)) (by omega))
                  · skip
                    refine gw_if_ge C (tgt := 142) dX8_suspectOf_134 (by decide) ⟨by decide, by decide⟩ (fun _ => ?_) (fun h => absurd h (by decide))
                    refine gw_lload C dX8_suspectOf_142 rfl ?_
                    refine gw_lstore C (lo1 := [some (vR 231), some (vI w), some (vL (sME (I 232) ((w).toNat))), none, some (vL (sMN (I 232) ((w).toNat))), none, some (vI fd), some (vL ls), none, some (vI (k : Int)), some (vL (suS (I 232) w.toNat k)), none]) dX8_suspectOf_144 (by decide) rfl ?_
                    refine gw_iinc C (lo1 := [some (vR 231), some (vI w), some (vL (sME (I 232) ((w).toNat))), none, some (vL (sMN (I 232) ((w).toNat))), none, some (vI fd), some (vL ls), none, some (vI ((k : Int) + 1)), some (vL (suS (I 232) w.toNat k)), none]) dX8_suspectOf_146 rfl (by decide) rfl ?_
                    refine gw_goto C (tgt := 39) dX8_suspectOf_149 (by decide) ?_
                    exact gw_weak (lo' := [some (vR 231), some (vI w), some (vL (sME (I 232) ((w).toNat))), none, some (vL (sMN (I 232) ((w).toNat))), none, some (vI fd), some (vL ls), none, some (vI (((k + 1) : Nat) : Int)), none, none]) ⟨rfl, rfl, rfl, rfl, rfl, rfl, congrArg (fun q => some (vI q)) (by omega), trivial⟩ (ih_39 fd ls (k + 1) z_73 (by omega) (by first | (exfalso; omega) | exact su_t hf rfl (by omega) hsu (by omega) | exact su_f hf rfl (by omega)) (by omega))
                · skip
                  refine gw_if_lt C (tgt := 137) dX8_suspectOf_126 (by decide) ⟨by decide, by decide⟩ (fun h => absurd h (by decide)) (fun _ => ?_)
                  refine gw_lload C dX8_suspectOf_129 rfl ?_
                  refine gw_lload C dX8_suspectOf_131 rfl ?_
                  refine gw_lcmp C dX8_suspectOf_133 (by omega) (by omega) (fun h_133_8 => ?_) (fun h_133_8 => ?_) (fun h_133_8 => ?_)
                  · skip
                    refine gw_if_ge C (tgt := 142) dX8_suspectOf_134 (by decide) ⟨by decide, by decide⟩ (fun h => absurd h (by decide)) (fun _ => ?_)
                    refine gw_lload C dX8_suspectOf_137 rfl ?_
                    refine gw_goto C (tgt := 144) dX8_suspectOf_139 (by decide) ?_
                    refine gw_lstore C (lo1 := [some (vR 231), some (vI w), some (vL (sME (I 232) ((w).toNat))), none, some (vL (sMN (I 232) ((w).toNat))), none, some (vI fd), some (vL (suS (I 232) w.toNat k)), none, some (vI (k : Int)), some (vL (suS (I 232) w.toNat k)), none]) dX8_suspectOf_144 (by decide) rfl ?_
                    refine gw_iinc C (lo1 := [some (vR 231), some (vI w), some (vL (sME (I 232) ((w).toNat))), none, some (vL (sMN (I 232) ((w).toNat))), none, some (vI fd), some (vL (suS (I 232) w.toNat k)), none, some (vI ((k : Int) + 1)), some (vL (suS (I 232) w.toNat k)), none]) dX8_suspectOf_146 rfl (by decide) rfl ?_
                    refine gw_goto C (tgt := 39) dX8_suspectOf_149 (by decide) ?_
                    exact gw_weak (lo' := [some (vR 231), some (vI w), some (vL (sME (I 232) ((w).toNat))), none, some (vL (sMN (I 232) ((w).toNat))), none, some (vI fd), some (vL (suS (I 232) w.toNat k)), none, some (vI (((k + 1) : Nat) : Int)), none, none]) ⟨rfl, rfl, rfl, rfl, rfl, rfl, congrArg (fun q => some (vI q)) (by omega), trivial⟩ (ih_39 fd (suS (I 232) w.toNat k) (k + 1) z_73 (by omega) (by first | (exfalso; omega) | exact su_t hf rfl (by omega) hsu (by omega) | exact su_f hf rfl (by omega)) (by omega))
                  · skip
                    refine gw_if_ge C (tgt := 142) dX8_suspectOf_134 (by decide) ⟨by decide, by decide⟩ (fun _ => ?_) (fun h => absurd h (by decide))
                    refine gw_lload C dX8_suspectOf_142 rfl ?_
                    refine gw_lstore C (lo1 := [some (vR 231), some (vI w), some (vL (sME (I 232) ((w).toNat))), none, some (vL (sMN (I 232) ((w).toNat))), none, some (vI fd), some (vL ls), none, some (vI (k : Int)), some (vL (suS (I 232) w.toNat k)), none]) dX8_suspectOf_144 (by decide) rfl ?_
                    refine gw_iinc C (lo1 := [some (vR 231), some (vI w), some (vL (sME (I 232) ((w).toNat))), none, some (vL (sMN (I 232) ((w).toNat))), none, some (vI fd), some (vL ls), none, some (vI ((k : Int) + 1)), some (vL (suS (I 232) w.toNat k)), none]) dX8_suspectOf_146 rfl (by decide) rfl ?_
                    refine gw_goto C (tgt := 39) dX8_suspectOf_149 (by decide) ?_
                    exact gw_weak (lo' := [some (vR 231), some (vI w), some (vL (sME (I 232) ((w).toNat))), none, some (vL (sMN (I 232) ((w).toNat))), none, some (vI fd), some (vL ls), none, some (vI (((k + 1) : Nat) : Int)), none, none]) ⟨rfl, rfl, rfl, rfl, rfl, rfl, congrArg (fun q => some (vI q)) (by omega), trivial⟩ (ih_39 fd ls (k + 1) z_73 (by omega) (by first | (exfalso; omega) | exact su_t hf rfl (by omega) hsu (by omega) | exact su_f hf rfl (by omega)) (by omega))
                  · skip
                    refine gw_if_ge C (tgt := 142) dX8_suspectOf_134 (by decide) ⟨by decide, by decide⟩ (fun _ => ?_) (fun h => absurd h (by decide))
                    refine gw_lload C dX8_suspectOf_142 rfl ?_
                    refine gw_lstore C (lo1 := [some (vR 231), some (vI w), some (vL (sME (I 232) ((w).toNat))), none, some (vL (sMN (I 232) ((w).toNat))), none, some (vI fd), some (vL ls), none, some (vI (k : Int)), some (vL (suS (I 232) w.toNat k)), none]) dX8_suspectOf_144 (by decide) rfl ?_
                    refine gw_iinc C (lo1 := [some (vR 231), some (vI w), some (vL (sME (I 232) ((w).toNat))), none, some (vL (sMN (I 232) ((w).toNat))), none, some (vI fd), some (vL ls), none, some (vI ((k : Int) + 1)), some (vL (suS (I 232) w.toNat k)), none]) dX8_suspectOf_146 rfl (by decide) rfl ?_
                    refine gw_goto C (tgt := 39) dX8_suspectOf_149 (by decide) ?_
                    exact gw_weak (lo' := [some (vR 231), some (vI w), some (vL (sME (I 232) ((w).toNat))), none, some (vL (sMN (I 232) ((w).toNat))), none, some (vI fd), some (vL ls), none, some (vI (((k + 1) : Nat) : Int)), none, none]) ⟨rfl, rfl, rfl, rfl, rfl, rfl, congrArg (fun q => some (vI q)) (by omega), trivial⟩ (ih_39 fd ls (k + 1) z_73 (by omega) (by first | (exfalso; omega) | exact su_t hf rfl (by omega) hsu (by omega) | exact su_f hf rfl (by omega)) (by omega))
            · skip
              refine gw_if_lt C (tgt := 113) dX8_suspectOf_102 (by decide) ⟨by decide, by decide⟩ (fun h => absurd h (by decide)) (fun _ => ?_)
              refine gw_lload C dX8_suspectOf_105 rfl ?_
              refine gw_lload C dX8_suspectOf_107 rfl ?_
              refine gw_lcmp C dX8_suspectOf_109 (by omega) (by omega) (fun h_109_2 => ?_) (fun h_109_2 => ?_) (fun h_109_2 => ?_)
              · skip
                refine gw_if_ge C (tgt := 118) dX8_suspectOf_110 (by decide) ⟨by decide, by decide⟩ (fun h => absurd h (by decide)) (fun _ => ?_)
                refine gw_iload C dX8_suspectOf_113 rfl ?_
                refine gw_goto C (tgt := 120) dX8_suspectOf_115 (by decide) ?_
                refine gw_istore C (lo1 := [some (vR 231), some (vI w), some (vL (sME (I 232) ((w).toNat))), none, some (vL (sMN (I 232) ((w).toNat))), none, some (vI (k : Int)), some (vL ls), none, some (vI (k : Int)), some (vL (suS (I 232) w.toNat k)), none]) dX8_suspectOf_120 (by decide) rfl ?_
                refine gw_lload C dX8_suspectOf_122 rfl ?_
                refine gw_lconst C 0 dX8_suspectOf_124 (by decide) ?_
                refine gw_lcmp C dX8_suspectOf_125 (by omega) ⟨by decide, by decide⟩ (fun h_125_5 => ?_) (fun h_125_5 => ?_) (fun h_125_5 => ?_)
                · skip
                  refine gw_if_lt C (tgt := 137) dX8_suspectOf_126 (by decide) ⟨by decide, by decide⟩ (fun _ => ?_) (fun h => absurd h (by decide))
                  refine gw_lload C dX8_suspectOf_137 rfl ?_
                  refine gw_goto C (tgt := 144) dX8_suspectOf_139 (by decide) ?_
                  refine gw_lstore C (lo1 := [some (vR 231), some (vI w), some (vL (sME (I 232) ((w).toNat))), none, some (vL (sMN (I 232) ((w).toNat))), none, some (vI (k : Int)), some (vL (suS (I 232) w.toNat k)), none, some (vI (k : Int)), some (vL (suS (I 232) w.toNat k)), none]) dX8_suspectOf_144 (by decide) rfl ?_
                  refine gw_iinc C (lo1 := [some (vR 231), some (vI w), some (vL (sME (I 232) ((w).toNat))), none, some (vL (sMN (I 232) ((w).toNat))), none, some (vI (k : Int)), some (vL (suS (I 232) w.toNat k)), none, some (vI ((k : Int) + 1)), some (vL (suS (I 232) w.toNat k)), none]) dX8_suspectOf_146 rfl (by decide) rfl ?_
                  refine gw_goto C (tgt := 39) dX8_suspectOf_149 (by decide) ?_
                  exact gw_weak (lo' := [some (vR 231), some (vI w), some (vL (sME (I 232) ((w).toNat))), none, some (vL (sMN (I 232) ((w).toNat))), none, some (vI (k : Int)), some (vL (suS (I 232) w.toNat k)), none, some (vI (((k + 1) : Nat) : Int)), none, none]) ⟨rfl, rfl, rfl, rfl, rfl, rfl, congrArg (fun q => some (vI q)) (by omega), trivial⟩ (ih_39 (k : Int) (suS (I 232) w.toNat k) (k + 1) z_73 (by omega) (by first | (exfalso; omega) | exact su_t hf rfl (by omega) hsu (by omega) | exact su_f hf rfl (by omega)) (by omega))
                · skip
                  refine gw_if_lt C (tgt := 137) dX8_suspectOf_126 (by decide) ⟨by decide, by decide⟩ (fun h => absurd h (by decide)) (fun _ => ?_)
                  refine gw_lload C dX8_suspectOf_129 rfl ?_
                  refine gw_lload C dX8_suspectOf_131 rfl ?_
                  refine gw_lcmp C dX8_suspectOf_133 (by omega) (by omega) (fun h_133_9 => ?_) (fun h_133_9 => ?_) (fun h_133_9 => ?_)
                  · skip
                    refine gw_if_ge C (tgt := 142) dX8_suspectOf_134 (by decide) ⟨by decide, by decide⟩ (fun h => absurd h (by decide)) (fun _ => ?_)
                    refine gw_lload C dX8_suspectOf_137 rfl ?_
                    refine gw_goto C (tgt := 144) dX8_suspectOf_139 (by decide) ?_
                    refine gw_lstore C (lo1 := [some (vR 231), some (vI w), some (vL (sME (I 232) ((w).toNat))), none, some (vL (sMN (I 232) ((w).toNat))), none, some (vI (k : Int)), some (vL (suS (I 232) w.toNat k)), none, some (vI (k : Int)), some (vL (suS (I 232) w.toNat k)), none]) dX8_suspectOf_144 (by decide) rfl ?_
                    refine gw_iinc C (lo1 := [some (vR 231), some (vI w), some (vL (sME (I 232) ((w).toNat))), none, some (vL (sMN (I 232) ((w).toNat))), none, some (vI (k : Int)), some (vL (suS (I 232) w.toNat k)), none, some (vI ((k : Int) + 1)), some (vL (suS (I 232) w.toNat k)), none]) dX8_suspectOf_146 rfl (by decide) rfl ?_
                    refine gw_goto C (tgt := 39) dX8_suspectOf_149 (by decide) ?_
                    exact gw_weak (lo' := [some (vR 231), some (vI w), some (vL (sME (I 232) ((w).toNat))), none, some (vL (sMN (I 232) ((w).toNat))), none, some (vI (k : Int)), some (vL (suS (I 232) w.toNat k)), none, some (vI (((k + 1) : Nat) : Int)), none, none]) ⟨rfl, rfl, rfl, rfl, rfl, rfl, congrArg (fun q => some (vI q)) (by omega), trivial⟩ (ih_39 (k : Int) (suS (I 232) w.toNat k) (k + 1) z_73 (by omega) (by first | (exfalso; omega) | exact su_t hf rfl (by omega) hsu (by omega) | exact su_f hf rfl (by omega)) (by omega))
                  · skip
                    refine gw_if_ge C (tgt := 142) dX8_suspectOf_134 (by decide) ⟨by decide, by decide⟩ (fun _ => ?_) (fun h => absurd h (by decide))
                    refine gw_lload C dX8_suspectOf_142 rfl ?_
                    refine gw_lstore C (lo1 := [some (vR 231), some (vI w), some (vL (sME (I 232) ((w).toNat))), none, some (vL (sMN (I 232) ((w).toNat))), none, some (vI (k : Int)), some (vL ls), none, some (vI (k : Int)), some (vL (suS (I 232) w.toNat k)), none]) dX8_suspectOf_144 (by decide) rfl ?_
                    refine gw_iinc C (lo1 := [some (vR 231), some (vI w), some (vL (sME (I 232) ((w).toNat))), none, some (vL (sMN (I 232) ((w).toNat))), none, some (vI (k : Int)), some (vL ls), none, some (vI ((k : Int) + 1)), some (vL (suS (I 232) w.toNat k)), none]) dX8_suspectOf_146 rfl (by decide) rfl ?_
                    refine gw_goto C (tgt := 39) dX8_suspectOf_149 (by decide) ?_
                    exact gw_weak (lo' := [some (vR 231), some (vI w), some (vL (sME (I 232) ((w).toNat))), none, some (vL (sMN (I 232) ((w).toNat))), none, some (vI (k : Int)), some (vL ls), none, some (vI (((k + 1) : Nat) : Int)), none, none]) ⟨rfl, rfl, rfl, rfl, rfl, rfl, congrArg (fun q => some (vI q)) (by omega), trivial⟩ (ih_39 (k : Int) ls (k + 1) z_73 (by omega) (by first | (exfalso; omega) | exact su_t hf rfl (by omega) hsu (by omega) | exact su_f hf rfl (by omega)) (by omega))
                  · skip
                    refine gw_if_ge C (tgt := 142) dX8_suspectOf_134 (by decide) ⟨by decide, by decide⟩ (fun _ => ?_) (fun h => absurd h (by decide))
                    refine gw_lload C dX8_suspectOf_142 rfl ?_
                    refine gw_lstore C (lo1 := [some (vR 231), some (vI w), some (vL (sME (I 232) ((w).toNat))), none, some (vL (sMN (I 232) ((w).toNat))), none, some (vI (k : Int)), some (vL ls), none, some (vI (k : Int)), some (vL (suS (I 232) w.toNat k)), none]) dX8_suspectOf_144 (by decide) rfl ?_
                    refine gw_iinc C (lo1 := [some (vR 231), some (vI w), some (vL (sME (I 232) ((w).toNat))), none, some (vL (sMN (I 232) ((w).toNat))), none, some (vI (k : Int)), some (vL ls), none, some (vI ((k : Int) + 1)), some (vL (suS (I 232) w.toNat k)), none]) dX8_suspectOf_146 rfl (by decide) rfl ?_
                    refine gw_goto C (tgt := 39) dX8_suspectOf_149 (by decide) ?_
                    exact gw_weak (lo' := [some (vR 231), some (vI w), some (vL (sME (I 232) ((w).toNat))), none, some (vL (sMN (I 232) ((w).toNat))), none, some (vI (k : Int)), some (vL ls), none, some (vI (((k + 1) : Nat) : Int)), none, none]) ⟨rfl, rfl, rfl, rfl, rfl, rfl, congrArg (fun q => some (vI q)) (by omega), trivial⟩ (ih_39 (k : Int) ls (k + 1) z_73 (by omega) (by first | (exfalso; omega) | exact su_t hf rfl (by omega) hsu (by omega) | exact su_f hf rfl (by omega)) (by omega))
                · skip
                  refine gw_if_lt C (tgt := 137) dX8_suspectOf_126 (by decide) ⟨by decide, by decide⟩ (fun h => absurd h (by decide)) (fun _ => ?_)
                  refine gw_lload C dX8_suspectOf_129 rfl ?_
                  refine gw_lload C dX8_suspectOf_131 rfl ?_
                  refine gw_lcmp C dX8_suspectOf_133 (by omega) (by omega) (fun h_133_10 => ?_) (fun h_133_10 => ?_) (fun h_133_10 => ?_)
                  · skip
                    refine gw_if_ge C (tgt := 142) dX8_suspectOf_134 (by decide) ⟨by decide, by decide⟩ (fun h => absurd h (by decide)) (fun _ => ?_)
                    refine gw_lload C dX8_suspectOf_137 rfl ?_
                    refine gw_goto C (tgt := 144) dX8_suspectOf_139 (by decide) ?_
                    refine gw_lstore C (lo1 := [some (vR 231), some (vI w), some (vL (sME (I 232) ((w).toNat))), none, some (vL (sMN (I 232) ((w).toNat))), none, some (vI (k : Int)), some (vL (suS (I 232) w.toNat k)), none, some (vI (k : Int)), some (vL (suS (I 232) w.toNat k)), none]) dX8_suspectOf_144 (by decide) rfl ?_
                    refine gw_iinc C (lo1 := [some (vR 231), some (vI w), some (vL (sME (I 232) ((w).toNat))), none, some (vL (sMN (I 232) ((w).toNat))), none, some (vI (k : Int)), some (vL (suS (I 232) w.toNat k)), none, some (vI ((k : Int) + 1)), some (vL (suS (I 232) w.toNat k)), none]) dX8_suspectOf_146 rfl (by decide) rfl ?_
                    refine gw_goto C (tgt := 39) dX8_suspectOf_149 (by decide) ?_
                    exact gw_weak (lo' := [some (vR 231), some (vI w), some (vL (sME (I 232) ((w).toNat))), none, some (vL (sMN (I 232) ((w).toNat))), none, some (vI (k : Int)), some (vL (suS (I 232) w.toNat k)), none, some (vI (((k + 1) : Nat) : Int)), none, none]) ⟨rfl, rfl, rfl, rfl, rfl, rfl, congrArg (fun q => some (vI q)) (by omega), trivial⟩ (ih_39 (k : Int) (suS (I 232) w.toNat k) (k + 1) z_73 (by omega) (by first | (exfalso; omega) | exact su_t hf rfl (by omega) hsu (by omega) | exact su_f hf rfl (by omega)) (by omega))
                  · skip
                    refine gw_if_ge C (tgt := 142) dX8_suspectOf_134 (by decide) ⟨by decide, by decide⟩ (fun _ => ?_) (fun h => absurd h (by decide))
                    refine gw_lload C dX8_suspectOf_142 rfl ?_
                    refine gw_lstore C (lo1 := [some (vR 231), some (vI w), some (vL (sME (I 232) ((w).toNat))), none, some (vL (sMN (I 232) ((w).toNat))), none, some (vI (k : Int)), some (vL ls), none, some (vI (k : Int)), some (vL (suS (I 232) w.toNat k)), none]) dX8_suspectOf_144 (by decide) rfl ?_
                    refine gw_iinc C (lo1 := [some (vR 231), some (vI w), some (vL (sME (I 232) ((w).toNat))), none, some (vL (sMN (I 232) ((w).toNat))), none, some (vI (k : Int)), some (vL ls), none, some (vI ((k : Int) + 1)), some (vL (suS (I 232) w.toNat k)), none]) dX8_suspectOf_146 rfl (by decide) rfl ?_
                    refine gw_goto C (tgt := 39) dX8_suspectOf_149 (by decide) ?_
                    exact gw_weak (lo' := [some (vR 231), some (vI w), some (vL (sME (I 232) ((w).toNat))), none, some (vL (sMN (I 232) ((w).toNat))), none, some (vI (k : Int)), some (vL ls), none, some (vI (((k + 1) : Nat) : Int)), none, none]) ⟨rfl, rfl, rfl, rfl, rfl, rfl, congrArg (fun q => some (vI q)) (by omega), trivial⟩ (ih_39 (k : Int) ls (k + 1) z_73 (by omega) (by first | (exfalso; omega) | exact su_t hf rfl (by omega) hsu (by omega) | exact su_f hf rfl (by omega)) (by omega))
                  · skip
                    refine gw_if_ge C (tgt := 142) dX8_suspectOf_134 (by decide) ⟨by decide, by decide⟩ (fun _ => ?_) (fun h => absurd h (by decide))
                    refine gw_lload C dX8_suspectOf_142 rfl ?_
                    refine gw_lstore C (lo1 := [some (vR 231), some (vI w), some (vL (sME (I 232) ((w).toNat))), none, some (vL (sMN (I 232) ((w).toNat))), none, some (vI (k : Int)), some (vL ls), none, some (vI (k : Int)), some (vL (suS (I 232) w.toNat k)), none]) dX8_suspectOf_144 (by decide) rfl ?_
                    refine gw_iinc C (lo1 := [some (vR 231), some (vI w), some (vL (sME (I 232) ((w).toNat))), none, some (vL (sMN (I 232) ((w).toNat))), none, some (vI (k : Int)), some (vL ls), none, some (vI ((k : Int) + 1)), some (vL (suS (I 232) w.toNat k)), none]) dX8_suspectOf_146 rfl (by decide) rfl ?_
                    refine gw_goto C (tgt := 39) dX8_suspectOf_149 (by decide) ?_
                    exact gw_weak (lo' := [some (vR 231), some (vI w), some (vL (sME (I 232) ((w).toNat))), none, some (vL (sMN (I 232) ((w).toNat))), none, some (vI (k : Int)), some (vL ls), none, some (vI (((k + 1) : Nat) : Int)), none, none]) ⟨rfl, rfl, rfl, rfl, rfl, rfl, congrArg (fun q => some (vI q)) (by omega), trivial⟩ (ih_39 (k : Int) ls (k + 1) z_73 (by omega) (by first | (exfalso; omega) | exact su_t hf rfl (by omega) hsu (by omega) | exact su_f hf rfl (by omega)) (by omega))
              · skip
                refine gw_if_ge C (tgt := 118) dX8_suspectOf_110 (by decide) ⟨by decide, by decide⟩ (fun _ => ?_) (fun h => absurd h (by decide))
                refine gw_iload C dX8_suspectOf_118 rfl ?_
                refine gw_istore C (lo1 := [some (vR 231), some (vI w), some (vL (sME (I 232) ((w).toNat))), none, some (vL (sMN (I 232) ((w).toNat))), none, some (vI fd), some (vL ls), none, some (vI (k : Int)), some (vL (suS (I 232) w.toNat k)), none]) dX8_suspectOf_120 (by decide) rfl ?_
                refine gw_lload C dX8_suspectOf_122 rfl ?_
                refine gw_lconst C 0 dX8_suspectOf_124 (by decide) ?_
                refine gw_lcmp C dX8_suspectOf_125 (by omega) ⟨by decide, by decide⟩ (fun h_125_6 => ?_) (fun h_125_6 => ?_) (fun h_125_6 => ?_)
                · skip
                  refine gw_if_lt C (tgt := 137) dX8_suspectOf_126 (by decide) ⟨by decide, by decide⟩ (fun _ => ?_) (fun h => absurd h (by decide))
                  refine gw_lload C dX8_suspectOf_137 rfl ?_
                  refine gw_goto C (tgt := 144) dX8_suspectOf_139 (by decide) ?_
                  refine gw_lstore C (lo1 := [some (vR 231), some (vI w), some (vL (sME (I 232) ((w).toNat))), none, some (vL (sMN (I 232) ((w).toNat))), none, some (vI fd), some (vL (suS (I 232) w.toNat k)), none, some (vI (k : Int)), some (vL (suS (I 232) w.toNat k)), none]) dX8_suspectOf_144 (by decide) rfl ?_
                  refine gw_iinc C (lo1 := [some (vR 231), some (vI w), some (vL (sME (I 232) ((w).toNat))), none, some (vL (sMN (I 232) ((w).toNat))), none, some (vI fd), some (vL (suS (I 232) w.toNat k)), none, some (vI ((k : Int) + 1)), some (vL (suS (I 232) w.toNat k)), none]) dX8_suspectOf_146 rfl (by decide) rfl ?_
                  refine gw_goto C (tgt := 39) dX8_suspectOf_149 (by decide) ?_
                  exact gw_weak (lo' := [some (vR 231), some (vI w), some (vL (sME (I 232) ((w).toNat))), none, some (vL (sMN (I 232) ((w).toNat))), none, some (vI fd), some (vL (suS (I 232) w.toNat k)), none, some (vI (((k + 1) : Nat) : Int)), none, none]) ⟨rfl, rfl, rfl, rfl, rfl, rfl, congrArg (fun q => some (vI q)) (by omega), trivial⟩ (ih_39 fd (suS (I 232) w.toNat k) (k + 1) z_73 (by omega) (by first | (exfalso; omega) | exact su_t hf rfl (by omega) hsu (by omega) | exact su_f hf rfl (by omega)) (by omega))
                · skip
                  refine gw_if_lt C (tgt := 137) dX8_suspectOf_126 (by decide) ⟨by decide, by decide⟩ (fun h => absurd h (by decide)) (fun _ => ?_)
                  refine gw_lload C dX8_suspectOf_129 rfl ?_
                  refine gw_lload C dX8_suspectOf_131 rfl ?_
                  refine gw_lcmp C dX8_suspectOf_133 (by omega) (by omega) (fun h_133_11 => ?_) (fun h_133_11 => ?_) (fun h_133_11 => ?_)
                  · skip
                    refine gw_if_ge C (tgt := 142) dX8_suspectOf_134 (by decide) ⟨by decide, by decide⟩ (fun h => absurd h (by decide)) (fun _ => ?_)
                    refine gw_lload C dX8_suspectOf_137 rfl ?_
                    refine gw_goto C (tgt := 144) dX8_suspectOf_139 (by decide) ?_
                    refine gw_lstore C (lo1 := [some (vR 231), some (vI w), some (vL (sME (I 232) ((w).toNat))), none, some (vL (sMN (I 232) ((w).toNat))), none, some (vI fd), some (vL (suS (I 232) w.toNat k)), none, some (vI (k : Int)), some (vL (suS (I 232) w.toNat k)), none]) dX8_suspectOf_144 (by decide) rfl ?_
                    refine gw_iinc C (lo1 := [some (vR 231), some (vI w), some (vL (sME (I 232) ((w).toNat))), none, some (vL (sMN (I 232) ((w).toNat))), none, some (vI fd), some (vL (suS (I 232) w.toNat k)), none, some (vI ((k : Int) + 1)), some (vL (suS (I 232) w.toNat k)), none]) dX8_suspectOf_146 rfl (by decide) rfl ?_
                    refine gw_goto C (tgt := 39) dX8_suspectOf_149 (by decide) ?_
                    exact gw_weak (lo' := [some (vR 231), some (vI w), some (vL (sME (I 232) ((w).toNat))), none, some (vL (sMN (I 232) ((w).toNat))), none, some (vI fd), some (vL (suS (I 232) w.toNat k)), none, some (vI (((k + 1) : Nat) : Int)), none, none]) ⟨rfl, rfl, rfl, rfl, rfl, rfl, congrArg (fun q => some (vI q)) (by omega), trivial⟩ (ih_39 fd (suS (I 232) w.toNat k) (k + 1) z_73 (by omega) (by first | (exfalso; omega) | exact su_t hf rfl (by omega) hsu (by omega) | exact su_f hf rfl (by omega)) (by omega))
                  · skip
                    refine gw_if_ge C (tgt := 142) dX8_suspectOf_134 (by decide) ⟨by decide, by decide⟩ (fun _ => ?_) (fun h => absurd h (by decide))
                    refine gw_lload C dX8_suspectOf_142 rfl ?_
                    refine gw_lstore C (lo1 := [some (vR 231), some (vI w), some (vL (sME (I 232) ((w).toNat))), none, some (vL (sMN (I 232) ((w).toNat))), none, some (vI fd), some (vL ls), none, some (vI (k : Int)), some (vL (suS (I 232) w.toNat k)), none]) dX8_suspectOf_144 (by decide) rfl ?_
                    refine gw_iinc C (lo1 := [some (vR 231), some (vI w), some (vL (sME (I 232) ((w).toNat))), none, some (vL (sMN (I 232) ((w).toNat))), none, some (vI fd), some (vL ls), none, some (vI ((k : Int) + 1)), some (vL (suS (I 232) w.toNat k)), none]) dX8_suspectOf_146 rfl (by decide) rfl ?_
                    refine gw_goto C (tgt := 39) dX8_suspectOf_149 (by decide) ?_
                    exact gw_weak (lo' := [some (vR 231), some (vI w), some (vL (sME (I 232) ((w).toNat))), none, some (vL (sMN (I 232) ((w).toNat))), none, some (vI fd), some (vL ls), none, some (vI (((k + 1) : Nat) : Int)), none, none]) ⟨rfl, rfl, rfl, rfl, rfl, rfl, congrArg (fun q => some (vI q)) (by omega), trivial⟩ (ih_39 fd ls (k + 1) z_73 (by omega) (by first | (exfalso; omega) | exact su_t hf rfl (by omega) hsu (by omega) | exact su_f hf rfl (by omega)) (by omega))
                  · skip
                    refine gw_if_ge C (tgt := 142) dX8_suspectOf_134 (by decide) ⟨by decide, by decide⟩ (fun _ => ?_) (fun h => absurd h (by decide))
                    refine gw_lload C dX8_suspectOf_142 rfl ?_
                    refine gw_lstore C (lo1 := [some (vR 231), some (vI w), some (vL (sME (I 232) ((w).toNat))), none, some (vL (sMN (I 232) ((w).toNat))), none, some (vI fd), some (vL ls), none, some (vI (k : Int)), some (vL (suS (I 232) w.toNat k)), none]) dX8_suspectOf_144 (by decide) rfl ?_
                    refine gw_iinc C (lo1 := [some (vR 231), some (vI w), some (vL (sME (I 232) ((w).toNat))), none, some (vL (sMN (I 232) ((w).toNat))), none, some (vI fd), some (vL ls), none, some (vI ((k : Int) + 1)), some (vL (suS (I 232) w.toNat k)), none]) dX8_suspectOf_146 rfl (by decide) rfl ?_
                    refine gw_goto C (tgt := 39) dX8_suspectOf_149 (by decide) ?_
                    exact gw_weak (lo' := [some (vR 231), some (vI w), some (vL (sME (I 232) ((w).toNat))), none, some (vL (sMN (I 232) ((w).toNat))), none, some (vI fd), some (vL ls), none, some (vI (((k + 1) : Nat) : Int)), none, none]) ⟨rfl, rfl, rfl, rfl, rfl, rfl, congrArg (fun q => some (vI q)) (by omega), trivial⟩ (ih_39 fd ls (k + 1) z_73 (by omega) (by first | (exfalso; omega) | exact su_t hf rfl (by omega) hsu (by omega) | exact su_f hf rfl (by omega)) (by omega))
                · skip
                  refine gw_if_lt C (tgt := 137) dX8_suspectOf_126 (by decide) ⟨by decide, by decide⟩ (fun h => absurd h (by decide)) (fun _ => ?_)
                  refine gw_lload C dX8_suspectOf_129 rfl ?_
                  refine gw_lload C dX8_suspectOf_131 rfl ?_
                  refine gw_lcmp C dX8_suspectOf_133 (by omega) (by omega) (fun h_133_12 => ?_) (fun h_133_12 => ?_) (fun h_133_12 => ?_)
                  · skip
                    refine gw_if_ge C (tgt := 142) dX8_suspectOf_134 (by decide) ⟨by decide, by decide⟩ (fun h => absurd h (by decide)) (fun _ => ?_)
                    refine gw_lload C dX8_suspectOf_137 rfl ?_
                    refine gw_goto C (tgt := 144) dX8_suspectOf_139 (by decide) ?_
                    refine gw_lstore C (lo1 := [some (vR 231), some (vI w), some (vL (sME (I 232) ((w).toNat))), none, some (vL (sMN (I 232) ((w).toNat))), none, some (vI fd), some (vL (suS (I 232) w.toNat k)), none, some (vI (k : Int)), some (vL (suS (I 232) w.toNat k)), none]) dX8_suspectOf_144 (by decide) rfl ?_
                    refine gw_iinc C (lo1 := [some (vR 231), some (vI w), some (vL (sME (I 232) ((w).toNat))), none, some (vL (sMN (I 232) ((w).toNat))), none, some (vI fd), some (vL (suS (I 232) w.toNat k)), none, some (vI ((k : Int) + 1)), some (vL (suS (I 232) w.toNat k)), none]) dX8_suspectOf_146 rfl (by decide) rfl ?_
                    refine gw_goto C (tgt := 39) dX8_suspectOf_149 (by decide) ?_
                    exact gw_weak (lo' := [some (vR 231), some (vI w), some (vL (sME (I 232) ((w).toNat))), none, some (vL (sMN (I 232) ((w).toNat))), none, some (vI fd), some (vL (suS (I 232) w.toNat k)), none, some (vI (((k + 1) : Nat) : Int)), none, none]) ⟨rfl, rfl, rfl, rfl, rfl, rfl, congrArg (fun q => some (vI q)) (by omega), trivial⟩ (ih_39 fd (suS (I 232) w.toNat k) (k + 1) z_73 (by omega) (by first | (exfalso; omega) | exact su_t hf rfl (by omega) hsu (by omega) | exact su_f hf rfl (by omega)) (by omega))
                  · skip
                    refine gw_if_ge C (tgt := 142) dX8_suspectOf_134 (by decide) ⟨by decide, by decide⟩ (fun _ => ?_) (fun h => absurd h (by decide))
                    refine gw_lload C dX8_suspectOf_142 rfl ?_
                    refine gw_lstore C (lo1 := [some (vR 231), some (vI w), some (vL (sME (I 232) ((w).toNat))), none, some (vL (sMN (I 232) ((w).toNat))), none, some (vI fd), some (vL ls), none, some (vI (k : Int)), some (vL (suS (I 232) w.toNat k)), none]) dX8_suspectOf_144 (by decide) rfl ?_
                    refine gw_iinc C (lo1 := [some (vR 231), some (vI w), some (vL (sME (I 232) ((w).toNat))), none, some (vL (sMN (I 232) ((w).toNat))), none, some (vI fd), some (vL ls), none, some (vI ((k : Int) + 1)), some (vL (suS (I 232) w.toNat k)), none]) dX8_suspectOf_146 rfl (by decide) rfl ?_
                    refine gw_goto C (tgt := 39) dX8_suspectOf_149 (by decide) ?_
                    exact gw_weak (lo' := [some (vR 231), some (vI w), some (vL (sME (I 232) ((w).toNat))), none, some (vL (sMN (I 232) ((w).toNat))), none, some (vI fd), some (vL ls), none, some (vI (((k + 1) : Nat) : Int)), none, none]) ⟨rfl, rfl, rfl, rfl, rfl, rfl, congrArg (fun q => some (vI q)) (by omega), trivial⟩ (ih_39 fd ls (k + 1) z_73 (by omega) (by first | (exfalso; omega) | exact su_t hf rfl (by omega) hsu (by omega) | exact su_f hf rfl (by omega)) (by omega))
                  · skip
                    refine gw_if_ge C (tgt := 142) dX8_suspectOf_134 (by decide) ⟨by decide, by decide⟩ (fun _ => ?_) (fun h => absurd h (by decide))
                    refine gw_lload C dX8_suspectOf_142 rfl ?_
                    refine gw_lstore C (lo1 := [some (vR 231), some (vI w), some (vL (sME (I 232) ((w).toNat))), none, some (vL (sMN (I 232) ((w).toNat))), none, some (vI fd), some (vL ls), none, some (vI (k : Int)), some (vL (suS (I 232) w.toNat k)), none]) dX8_suspectOf_144 (by decide) rfl ?_
                    refine gw_iinc C (lo1 := [some (vR 231), some (vI w), some (vL (sME (I 232) ((w).toNat))), none, some (vL (sMN (I 232) ((w).toNat))), none, some (vI fd), some (vL ls), none, some (vI ((k : Int) + 1)), some (vL (suS (I 232) w.toNat k)), none]) dX8_suspectOf_146 rfl (by decide) rfl ?_
                    refine gw_goto C (tgt := 39) dX8_suspectOf_149 (by decide) ?_
                    exact gw_weak (lo' := [some (vR 231), some (vI w), some (vL (sME (I 232) ((w).toNat))), none, some (vL (sMN (I 232) ((w).toNat))), none, some (vI fd), some (vL ls), none, some (vI (((k + 1) : Nat) : Int)), none, none]) ⟨rfl, rfl, rfl, rfl, rfl, rfl, congrArg (fun q => some (vI q)) (by omega), trivial⟩ (ih_39 fd ls (k + 1) z_73 (by omega) (by first | (exfalso; omega) | exact su_t hf rfl (by omega) hsu (by omega) | exact su_f hf rfl (by omega)) (by omega))
              · skip
                refine gw_if_ge C (tgt := 118) dX8_suspectOf_110 (by decide) ⟨by decide, by decide⟩ (fun _ => ?_) (fun h => absurd h (by decide))
                refine gw_iload C dX8_suspectOf_118 rfl ?_
                refine gw_istore C (lo1 := [some (vR 231), some (vI w), some (vL (sME (I 232) ((w).toNat))), none, some (vL (sMN (I 232) ((w).toNat))), none, some (vI fd), some (vL ls), none, some (vI (k : Int)), some (vL (suS (I 232) w.toNat k)), none]) dX8_suspectOf_120 (by decide) rfl ?_
                refine gw_lload C dX8_suspectOf_122 rfl ?_
                refine gw_lconst C 0 dX8_suspectOf_124 (by decide) ?_
                refine gw_lcmp C dX8_suspectOf_125 (by omega) ⟨by decide, by decide⟩ (fun h_125_7 => ?_) (fun h_125_7 => ?_) (fun h_125_7 => ?_)
                · skip
                  refine gw_if_lt C (tgt := 137) dX8_suspectOf_126 (by decide) ⟨by decide, by decide⟩ (fun _ => ?_) (fun h => absurd h (by decide))
                  refine gw_lload C dX8_suspectOf_137 rfl ?_
                  refine gw_goto C (tgt := 144) dX8_suspectOf_139 (by decide) ?_
                  refine gw_lstore C (lo1 := [some (vR 231), some (vI w), some (vL (sME (I 232) ((w).toNat))), none, some (vL (sMN (I 232) ((w).toNat))), none, some (vI fd), some (vL (suS (I 232) w.toNat k)), none, some (vI (k : Int)), some (vL (suS (I 232) w.toNat k)), none]) dX8_suspectOf_144 (by decide) rfl ?_
                  refine gw_iinc C (lo1 := [some (vR 231), some (vI w), some (vL (sME (I 232) ((w).toNat))), none, some (vL (sMN (I 232) ((w).toNat))), none, some (vI fd), some (vL (suS (I 232) w.toNat k)), none, some (vI ((k : Int) + 1)), some (vL (suS (I 232) w.toNat k)), none]) dX8_suspectOf_146 rfl (by decide) rfl ?_
                  refine gw_goto C (tgt := 39) dX8_suspectOf_149 (by decide) ?_
                  exact gw_weak (lo' := [some (vR 231), some (vI w), some (vL (sME (I 232) ((w).toNat))), none, some (vL (sMN (I 232) ((w).toNat))), none, some (vI fd), some (vL (suS (I 232) w.toNat k)), none, some (vI (((k + 1) : Nat) : Int)), none, none]) ⟨rfl, rfl, rfl, rfl, rfl, rfl, congrArg (fun q => some (vI q)) (by omega), trivial⟩ (ih_39 fd (suS (I 232) w.toNat k) (k + 1) z_73 (by omega) (by first | (exfalso; omega) | exact su_t hf rfl (by omega) hsu (by omega) | exact su_f hf rfl (by omega)) (by omega))
                · skip
                  refine gw_if_lt C (tgt := 137) dX8_suspectOf_126 (by decide) ⟨by decide, by decide⟩ (fun h => absurd h (by decide)) (fun _ => ?_)
                  refine gw_lload C dX8_suspectOf_129 rfl ?_
                  refine gw_lload C dX8_suspectOf_131 rfl ?_
                  refine gw_lcmp C dX8_suspectOf_133 (by omega) (by omega) (fun h_133_13 => ?_) (fun h_133_13 => ?_) (fun h_133_13 => ?_)
                  · skip
                    refine gw_if_ge C (tgt := 142) dX8_suspectOf_134 (by decide) ⟨by decide, by decide⟩ (fun h => absurd h (by decide)) (fun _ => ?_)
                    refine gw_lload C dX8_suspectOf_137 rfl ?_
                    refine gw_goto C (tgt := 144) dX8_suspectOf_139 (by decide) ?_
                    refine gw_lstore C (lo1 := [some (vR 231), some (vI w), some (vL (sME (I 232) ((w).toNat))), none, some (vL (sMN (I 232) ((w).toNat))), none, some (vI fd), some (vL (suS (I 232) w.toNat k)), none, some (vI (k : Int)), some (vL (suS (I 232) w.toNat k)), none]) dX8_suspectOf_144 (by decide) rfl ?_
                    refine gw_iinc C (lo1 := [some (vR 231), some (vI w), some (vL (sME (I 232) ((w).toNat))), none, some (vL (sMN (I 232) ((w).toNat))), none, some (vI fd), some (vL (suS (I 232) w.toNat k)), none, some (vI ((k : Int) + 1)), some (vL (suS (I 232) w.toNat k)), none]) dX8_suspectOf_146 rfl (by decide) rfl ?_
                    refine gw_goto C (tgt := 39) dX8_suspectOf_149 (by decide) ?_
                    exact gw_weak (lo' := [some (vR 231), some (vI w), some (vL (sME (I 232) ((w).toNat))), none, some (vL (sMN (I 232) ((w).toNat))), none, some (vI fd), some (vL (suS (I 232) w.toNat k)), none, some (vI (((k + 1) : Nat) : Int)), none, none]) ⟨rfl, rfl, rfl, rfl, rfl, rfl, congrArg (fun q => some (vI q)) (by omega), trivial⟩ (ih_39 fd (suS (I 232) w.toNat k) (k + 1) z_73 (by omega) (by first | (exfalso; omega) | exact su_t hf rfl (by omega) hsu (by omega) | exact su_f hf rfl (by omega)) (by omega))
                  · skip
                    refine gw_if_ge C (tgt := 142) dX8_suspectOf_134 (by decide) ⟨by decide, by decide⟩ (fun _ => ?_) (fun h => absurd h (by decide))
                    refine gw_lload C dX8_suspectOf_142 rfl ?_
                    refine gw_lstore C (lo1 := [some (vR 231), some (vI w), some (vL (sME (I 232) ((w).toNat))), none, some (vL (sMN (I 232) ((w).toNat))), none, some (vI fd), some (vL ls), none, some (vI (k : Int)), some (vL (suS (I 232) w.toNat k)), none]) dX8_suspectOf_144 (by decide) rfl ?_
                    refine gw_iinc C (lo1 := [some (vR 231), some (vI w), some (vL (sME (I 232) ((w).toNat))), none, some (vL (sMN (I 232) ((w).toNat))), none, some (vI fd), some (vL ls), none, some (vI ((k : Int) + 1)), some (vL (suS (I 232) w.toNat k)), none]) dX8_suspectOf_146 rfl (by decide) rfl ?_
                    refine gw_goto C (tgt := 39) dX8_suspectOf_149 (by decide) ?_
                    exact gw_weak (lo' := [some (vR 231), some (vI w), some (vL (sME (I 232) ((w).toNat))), none, some (vL (sMN (I 232) ((w).toNat))), none, some (vI fd), some (vL ls), none, some (vI (((k + 1) : Nat) : Int)), none, none]) ⟨rfl, rfl, rfl, rfl, rfl, rfl, congrArg (fun q => some (vI q)) (by omega), trivial⟩ (ih_39 fd ls (k + 1) z_73 (by omega) (by first | (exfalso; omega) | exact su_t hf rfl (by omega) hsu (by omega) | exact su_f hf rfl (by omega)) (by omega))
                  · skip
                    refine gw_if_ge C (tgt := 142) dX8_suspectOf_134 (by decide) ⟨by decide, by decide⟩ (fun _ => ?_) (fun h => absurd h (by decide))
                    refine gw_lload C dX8_suspectOf_142 rfl ?_
                    refine gw_lstore C (lo1 := [some (vR 231), some (vI w), some (vL (sME (I 232) ((w).toNat))), none, some (vL (sMN (I 232) ((w).toNat))), none, some (vI fd), some (vL ls), none, some (vI (k : Int)), some (vL (suS (I 232) w.toNat k)), none]) dX8_suspectOf_144 (by decide) rfl ?_
                    refine gw_iinc C (lo1 := [some (vR 231), some (vI w), some (vL (sME (I 232) ((w).toNat))), none, some (vL (sMN (I 232) ((w).toNat))), none, some (vI fd), some (vL ls), none, some (vI ((k : Int) + 1)), some (vL (suS (I 232) w.toNat k)), none]) dX8_suspectOf_146 rfl (by decide) rfl ?_
                    refine gw_goto C (tgt := 39) dX8_suspectOf_149 (by decide) ?_
                    exact gw_weak (lo' := [some (vR 231), some (vI w), some (vL (sME (I 232) ((w).toNat))), none, some (vL (sMN (I 232) ((w).toNat))), none, some (vI fd), some (vL ls), none, some (vI (((k + 1) : Nat) : Int)), none, none]) ⟨rfl, rfl, rfl, rfl, rfl, rfl, congrArg (fun q => some (vI q)) (by omega), trivial⟩ (ih_39 fd ls (k + 1) z_73 (by omega) (by first | (exfalso; omega) | exact su_t hf rfl (by omega) hsu (by omega) | exact su_f hf rfl (by omega)) (by omega))
                · skip
                  refine gw_if_lt C (tgt := 137) dX8_suspectOf_126 (by decide) ⟨by decide, by decide⟩ (fun h => absurd h (by decide)) (fun _ => ?_)
                  refine gw_lload C dX8_suspectOf_129 rfl ?_
                  refine gw_lload C dX8_suspectOf_131 rfl ?_
                  refine gw_lcmp C dX8_suspectOf_133 (by omega) (by omega) (fun h_133_14 => ?_) (fun h_133_14 => ?_) (fun h_133_14 => ?_)
                  · skip
                    refine gw_if_ge C (tgt := 142) dX8_suspectOf_134 (by decide) ⟨by decide, by decide⟩ (fun h => absurd h (by decide)) (fun _ => ?_)
                    refine gw_lload C dX8_suspectOf_137 rfl ?_
                    refine gw_goto C (tgt := 144) dX8_suspectOf_139 (by decide) ?_
                    refine gw_lstore C (lo1 := [some (vR 231), some (vI w), some (vL (sME (I 232) ((w).toNat))), none, some (vL (sMN (I 232) ((w).toNat))), none, some (vI fd), some (vL (suS (I 232) w.toNat k)), none, some (vI (k : Int)), some (vL (suS (I 232) w.toNat k)), none]) dX8_suspectOf_144 (by decide) rfl ?_
                    refine gw_iinc C (lo1 := [some (vR 231), some (vI w), some (vL (sME (I 232) ((w).toNat))), none, some (vL (sMN (I 232) ((w).toNat))), none, some (vI fd), some (vL (suS (I 232) w.toNat k)), none, some (vI ((k : Int) + 1)), some (vL (suS (I 232) w.toNat k)), none]) dX8_suspectOf_146 rfl (by decide) rfl ?_
                    refine gw_goto C (tgt := 39) dX8_suspectOf_149 (by decide) ?_
                    exact gw_weak (lo' := [some (vR 231), some (vI w), some (vL (sME (I 232) ((w).toNat))), none, some (vL (sMN (I 232) ((w).toNat))), none, some (vI fd), some (vL (suS (I 232) w.toNat k)), none, some (vI (((k + 1) : Nat) : Int)), none, none]) ⟨rfl, rfl, rfl, rfl, rfl, rfl, congrArg (fun q => some (vI q)) (by omega), trivial⟩ (ih_39 fd (suS (I 232) w.toNat k) (k + 1) z_73 (by omega) (by first | (exfalso; omega) | exact su_t hf rfl (by omega) hsu (by omega) | exact su_f hf rfl (by omega)) (by omega))
                  · skip
                    refine gw_if_ge C (tgt := 142) dX8_suspectOf_134 (by decide) ⟨by decide, by decide⟩ (fun _ => ?_) (fun h => absurd h (by decide))
                    refine gw_lload C dX8_suspectOf_142 rfl ?_
                    refine gw_lstore C (lo1 := [some (vR 231), some (vI w), some (vL (sME (I 232) ((w).toNat))), none, some (vL (sMN (I 232) ((w).toNat))), none, some (vI fd), some (vL ls), none, some (vI (k : Int)), some (vL (suS (I 232) w.toNat k)), none]) dX8_suspectOf_144 (by decide) rfl ?_
                    refine gw_iinc C (lo1 := [some (vR 231), some (vI w), some (vL (sME (I 232) ((w).toNat))), none, some (vL (sMN (I 232) ((w).toNat))), none, some (vI fd), some (vL ls), none, some (vI ((k : Int) + 1)), some (vL (suS (I 232) w.toNat k)), none]) dX8_suspectOf_146 rfl (by decide) rfl ?_
                    refine gw_goto C (tgt := 39) dX8_suspectOf_149 (by decide) ?_
                    exact gw_weak (lo' := [some (vR 231), some (vI w), some (vL (sME (I 232) ((w).toNat))), none, some (vL (sMN (I 232) ((w).toNat))), none, some (vI fd), some (vL ls), none, some (vI (((k + 1) : Nat) : Int)), none, none]) ⟨rfl, rfl, rfl, rfl, rfl, rfl, congrArg (fun q => some (vI q)) (by omega), trivial⟩ (ih_39 fd ls (k + 1) z_73 (by omega) (by first | (exfalso; omega) | exact su_t hf rfl (by omega) hsu (by omega) | exact su_f hf rfl (by omega)) (by omega))
                  · skip
                    refine gw_if_ge C (tgt := 142) dX8_suspectOf_134 (by decide) ⟨by decide, by decide⟩ (fun _ => ?_) (fun h => absurd h (by decide))
                    refine gw_lload C dX8_suspectOf_142 rfl ?_
                    refine gw_lstore C (lo1 := [some (vR 231), some (vI w), some (vL (sME (I 232) ((w).toNat))), none, some (vL (sMN (I 232) ((w).toNat))), none, some (vI fd), some (vL ls), none, some (vI (k : Int)), some (vL (suS (I 232) w.toNat k)), none]) dX8_suspectOf_144 (by decide) rfl ?_
                    refine gw_iinc C (lo1 := [some (vR 231), some (vI w), some (vL (sME (I 232) ((w).toNat))), none, some (vL (sMN (I 232) ((w).toNat))), none, some (vI fd), some (vL ls), none, some (vI ((k : Int) + 1)), some (vL (suS (I 232) w.toNat k)), none]) dX8_suspectOf_146 rfl (by decide) rfl ?_
                    refine gw_goto C (tgt := 39) dX8_suspectOf_149 (by decide) ?_
                    exact gw_weak (lo' := [some (vR 231), some (vI w), some (vL (sME (I 232) ((w).toNat))), none, some (vL (sMN (I 232) ((w).toNat))), none, some (vI fd), some (vL ls), none, some (vI (((k + 1) : Nat) : Int)), none, none]) ⟨rfl, rfl, rfl, rfl, rfl, rfl, congrArg (fun q => some (vI q)) (by omega), trivial⟩ (ih_39 fd ls (k + 1) z_73 (by omega) (by first | (exfalso; omega) | exact su_t hf rfl (by omega) hsu (by omega) | exact su_f hf rfl (by omega)) (by omega))
          · skip
            refine gw_if_ge C (tgt := 94) dX8_suspectOf_85 (by decide) ⟨by decide, by decide⟩ (fun _ => ?_) (fun h => absurd h (by decide))
            refine gw_lload C dX8_suspectOf_94 rfl ?_
            refine gw_lstore C (lo1 := [some (vR 231), some (vI w), some (vL (sME (I 232) ((w).toNat))), none, some (vL (sMN (I 232) ((w).toNat))), none, some (vI fd), some (vL ls), none, some (vI (k : Int)), some (vL (((sME (I 232) ((w).toNat)) * (sinZ ((sBr (I 232) w.toNat (k + 1)) + 324000))) - ((sMN (I 232) ((w).toNat)) * (sinZ (sBr (I 232) w.toNat (k + 1)))))), none]) dX8_suspectOf_96 (by decide) rfl ?_
            rw [show (((sME (I 232) ((w).toNat)) * (sinZ ((sBr (I 232) w.toNat (k + 1)) + 324000))) - ((sMN (I 232) ((w).toNat)) * (sinZ (sBr (I 232) w.toNat (k + 1))))) = suS (I 232) w.toNat k from by unfold suS; omega]
            have hsu : 0 ≤ suS (I 232) w.toNat k ∧ suS (I 232) w.toNat k ≤ 1000000000000 := by unfold suS; omega
            refine gw_lload C dX8_suspectOf_98 rfl ?_
            refine gw_lconst C 0 dX8_suspectOf_100 (by decide) ?_
            refine gw_lcmp C dX8_suspectOf_101 (by omega) ⟨by decide, by decide⟩ (fun h_101_2 => ?_) (fun h_101_2 => ?_) (fun h_101_2 => ?_)
            · skip
              refine gw_if_lt C (tgt := 113) dX8_suspectOf_102 (by decide) ⟨by decide, by decide⟩ (fun _ => ?_) (fun h => absurd h (by decide))
              refine gw_iload C dX8_suspectOf_113 rfl ?_
              refine gw_goto C (tgt := 120) dX8_suspectOf_115 (by decide) ?_
              refine gw_istore C (lo1 := [some (vR 231), some (vI w), some (vL (sME (I 232) ((w).toNat))), none, some (vL (sMN (I 232) ((w).toNat))), none, some (vI (k : Int)), some (vL ls), none, some (vI (k : Int)), some (vL (suS (I 232) w.toNat k)), none]) dX8_suspectOf_120 (by decide) rfl ?_
              refine gw_lload C dX8_suspectOf_122 rfl ?_
              refine gw_lconst C 0 dX8_suspectOf_124 (by decide) ?_
              refine gw_lcmp C dX8_suspectOf_125 (by omega) ⟨by decide, by decide⟩ (fun h_125_8 => ?_) (fun h_125_8 => ?_) (fun h_125_8 => ?_)
              · skip
                refine gw_if_lt C (tgt := 137) dX8_suspectOf_126 (by decide) ⟨by decide, by decide⟩ (fun _ => ?_) (fun h => absurd h (by decide))
                refine gw_lload C dX8_suspectOf_137 rfl ?_
                refine gw_goto C (tgt := 144) dX8_suspectOf_139 (by decide) ?_
                refine gw_lstore C (lo1 := [some (vR 231), some (vI w), some (vL (sME (I 232) ((w).toNat))), none, some (vL (sMN (I 232) ((w).toNat))), none, some (vI (k : Int)), some (vL (suS (I 232) w.toNat k)), none, some (vI (k : Int)), some (vL (suS (I 232) w.toNat k)), none]) dX8_suspectOf_144 (by decide) rfl ?_
                refine gw_iinc C (lo1 := [some (vR 231), some (vI w), some (vL (sME (I 232) ((w).toNat))), none, some (vL (sMN (I 232) ((w).toNat))), none, some (vI (k : Int)), some (vL (suS (I 232) w.toNat k)), none, some (vI ((k : Int) + 1)), some (vL (suS (I 232) w.toNat k)), none]) dX8_suspectOf_146 rfl (by decide) rfl ?_
                refine gw_goto C (tgt := 39) dX8_suspectOf_149 (by decide) ?_
                exact gw_weak (lo' := [some (vR 231), some (vI w), some (vL (sME (I 232) ((w).toNat))), none, some (vL (sMN (I 232) ((w).toNat))), none, some (vI (k : Int)), some (vL (suS (I 232) w.toNat k)), none, some (vI (((k + 1) : Nat) : Int)), none, none]) ⟨rfl, rfl, rfl, rfl, rfl, rfl, congrArg (fun q => some (vI q)) (by omega), trivial⟩ (ih_39 (k : Int) (suS (I 232) w.toNat k) (k + 1) z_73 (by omega) (by first | (exfalso; omega) | exact su_t hf rfl (by omega) hsu (by omega) | exact su_f hf rfl (by omega)) (by omega))
              · skip
                refine gw_if_lt C (tgt := 137) dX8_suspectOf_126 (by decide) ⟨by decide, by decide⟩ (fun h => absurd h (by decide)) (fun _ => ?_)
                refine gw_lload C dX8_suspectOf_129 rfl ?_
                refine gw_lload C dX8_suspectOf_131 rfl ?_
                refine gw_lcmp C dX8_suspectOf_133 (by omega) (by omega) (fun h_133_15 => ?_) (fun h_133_15 => ?_) (fun h_133_15 => ?_)
                · skip
                  refine gw_if_ge C (tgt := 142) dX8_suspectOf_134 (by decide) ⟨by decide, by decide⟩ (fun h => absurd h (by decide)) (fun _ => ?_)
                  refine gw_lload C dX8_suspectOf_137 rfl ?_
                  refine gw_goto C (tgt := 144) dX8_suspectOf_139 (by decide) ?_
                  refine gw_lstore C (lo1 := [some (vR 231), some (vI w), some (vL (sME (I 232) ((w).toNat))), none, some (vL (sMN (I 232) ((w).toNat))), none, some (vI (k : Int)), some (vL (suS (I 232) w.toNat k)), none, some (vI (k : Int)), some (vL (suS (I 232) w.toNat k)), none]) dX8_suspectOf_144 (by decide) rfl ?_
                  refine gw_iinc C (lo1 := [some (vR 231), some (vI w), some (vL (sME (I 232) ((w).toNat))), none, some (vL (sMN (I 232) ((w).toNat))), none, some (vI (k : Int)), some (vL (suS (I 232) w.toNat k)), none, some (vI ((k : Int) + 1)), some (vL (suS (I 232) w.toNat k)), none]) dX8_suspectOf_146 rfl (by decide) rfl ?_
                  refine gw_goto C (tgt := 39) dX8_suspectOf_149 (by decide) ?_
                  exact gw_weak (lo' := [some (vR 231), some (vI w), some (vL (sME (I 232) ((w).toNat))), none, some (vL (sMN (I 232) ((w).toNat))), none, some (vI (k : Int)), some (vL (suS (I 232) w.toNat k)), none, some (vI (((k + 1) : Nat) : Int)), none, none]) ⟨rfl, rfl, rfl, rfl, rfl, rfl, congrArg (fun q => some (vI q)) (by omega), trivial⟩ (ih_39 (k : Int) (suS (I 232) w.toNat k) (k + 1) z_73 (by omega) (by first | (exfalso; omega) | exact su_t hf rfl (by omega) hsu (by omega) | exact su_f hf rfl (by omega)) (by omega))
                · skip
                  refine gw_if_ge C (tgt := 142) dX8_suspectOf_134 (by decide) ⟨by decide, by decide⟩ (fun _ => ?_) (fun h => absurd h (by decide))
                  refine gw_lload C dX8_suspectOf_142 rfl ?_
                  refine gw_lstore C (lo1 := [some (vR 231), some (vI w), some (vL (sME (I 232) ((w).toNat))), none, some (vL (sMN (I 232) ((w).toNat))), none, some (vI (k : Int)), some (vL ls), none, some (vI (k : Int)), some (vL (suS (I 232) w.toNat k)), none]) dX8_suspectOf_144 (by decide) rfl ?_
                  refine gw_iinc C (lo1 := [some (vR 231), some (vI w), some (vL (sME (I 232) ((w).toNat))), none, some (vL (sMN (I 232) ((w).toNat))), none, some (vI (k : Int)), some (vL ls), none, some (vI ((k : Int) + 1)), some (vL (suS (I 232) w.toNat k)), none]) dX8_suspectOf_146 rfl (by decide) rfl ?_
                  refine gw_goto C (tgt := 39) dX8_suspectOf_149 (by decide) ?_
                  exact gw_weak (lo' := [some (vR 231), some (vI w), some (vL (sME (I 232) ((w).toNat))), none, some (vL (sMN (I 232) ((w).toNat))), none, some (vI (k : Int)), some (vL ls), none, some (vI (((k + 1) : Nat) : Int)), none, none]) ⟨rfl, rfl, rfl, rfl, rfl, rfl, congrArg (fun q => some (vI q)) (by omega), trivial⟩ (ih_39 (k : Int) ls (k + 1) z_73 (by omega) (by first | (exfalso; omega) | exact su_t hf rfl (by omega) hsu (by omega) | exact su_f hf rfl (by omega)) (by omega))
                · skip
                  refine gw_if_ge C (tgt := 142) dX8_suspectOf_134 (by decide) ⟨by decide, by decide⟩ (fun _ => ?_) (fun h => absurd h (by decide))
                  refine gw_lload C dX8_suspectOf_142 rfl ?_
                  refine gw_lstore C (lo1 := [some (vR 231), some (vI w), some (vL (sME (I 232) ((w).toNat))), none, some (vL (sMN (I 232) ((w).toNat))), none, some (vI (k : Int)), some (vL ls), none, some (vI (k : Int)), some (vL (suS (I 232) w.toNat k)), none]) dX8_suspectOf_144 (by decide) rfl ?_
                  refine gw_iinc C (lo1 := [some (vR 231), some (vI w), some (vL (sME (I 232) ((w).toNat))), none, some (vL (sMN (I 232) ((w).toNat))), none, some (vI (k : Int)), some (vL ls), none, some (vI ((k : Int) + 1)), some (vL (suS (I 232) w.toNat k)), none]) dX8_suspectOf_146 rfl (by decide) rfl ?_
                  refine gw_goto C (tgt := 39) dX8_suspectOf_149 (by decide) ?_
                  exact gw_weak (lo' := [some (vR 231), some (vI w), some (vL (sME (I 232) ((w).toNat))), none, some (vL (sMN (I 232) ((w).toNat))), none, some (vI (k : Int)), some (vL ls), none, some (vI (((k + 1) : Nat) : Int)), none, none]) ⟨rfl, rfl, rfl, rfl, rfl, rfl, congrArg (fun q => some (vI q)) (by omega), trivial⟩ (ih_39 (k : Int) ls (k + 1) z_73 (by omega) (by first | (exfalso; omega) | exact su_t hf rfl (by omega) hsu (by omega) | exact su_f hf rfl (by omega)) (by omega))
              · skip
                refine gw_if_lt C (tgt := 137) dX8_suspectOf_126 (by decide) ⟨by decide, by decide⟩ (fun h => absurd h (by decide)) (fun _ => ?_)
                refine gw_lload C dX8_suspectOf_129 rfl ?_
                refine gw_lload C dX8_suspectOf_131 rfl ?_
                refine gw_lcmp C dX8_suspectOf_133 (by omega) (by omega) (fun h_133_16 => ?_) (fun h_133_16 => ?_) (fun h_133_16 => ?_)
                · skip
                  refine gw_if_ge C (tgt := 142) dX8_suspectOf_134 (by decide) ⟨by decide, by decide⟩ (fun h => absurd h (by decide)) (fun _ => ?_)
                  refine gw_lload C dX8_suspectOf_137 rfl ?_
                  refine gw_goto C (tgt := 144) dX8_suspectOf_139 (by decide) ?_
                  refine gw_lstore C (lo1 := [some (vR 231), some (vI w), some (vL (sME (I 232) ((w).toNat))), none, some (vL (sMN (I 232) ((w).toNat))), none, some (vI (k : Int)), some (vL (suS (I 232) w.toNat k)), none, some (vI (k : Int)), some (vL (suS (I 232) w.toNat k)), none]) dX8_suspectOf_144 (by decide) rfl ?_
                  refine gw_iinc C (lo1 := [some (vR 231), some (vI w), some (vL (sME (I 232) ((w).toNat))), none, some (vL (sMN (I 232) ((w).toNat))), none, some (vI (k : Int)), some (vL (suS (I 232) w.toNat k)), none, some (vI ((k : Int) + 1)), some (vL (suS (I 232) w.toNat k)), none]) dX8_suspectOf_146 rfl (by decide) rfl ?_
                  refine gw_goto C (tgt := 39) dX8_suspectOf_149 (by decide) ?_
                  exact gw_weak (lo' := [some (vR 231), some (vI w), some (vL (sME (I 232) ((w).toNat))), none, some (vL (sMN (I 232) ((w).toNat))), none, some (vI (k : Int)), some (vL (suS (I 232) w.toNat k)), none, some (vI (((k + 1) : Nat) : Int)), none, none]) ⟨rfl, rfl, rfl, rfl, rfl, rfl, congrArg (fun q => some (vI q)) (by omega), trivial⟩ (ih_39 (k : Int) (suS (I 232) w.toNat k) (k + 1) z_73 (by omega) (by first | (exfalso; omega) | exact su_t hf rfl (by omega) hsu (by omega) | exact su_f hf rfl (by omega)) (by omega))
                · skip
                  refine gw_if_ge C (tgt := 142) dX8_suspectOf_134 (by decide) ⟨by decide, by decide⟩ (fun _ => ?_) (fun h => absurd h (by decide))
                  refine gw_lload C dX8_suspectOf_142 rfl ?_
                  refine gw_lstore C (lo1 := [some (vR 231), some (vI w), some (vL (sME (I 232) ((w).toNat))), none, some (vL (sMN (I 232) ((w).toNat))), none, some (vI (k : Int)), some (vL ls), none, some (vI (k : Int)), some (vL (suS (I 232) w.toNat k)), none]) dX8_suspectOf_144 (by decide) rfl ?_
                  refine gw_iinc C (lo1 := [some (vR 231), some (vI w), some (vL (sME (I 232) ((w).toNat))), none, some (vL (sMN (I 232) ((w).toNat))), none, some (vI (k : Int)), some (vL ls), none, some (vI ((k : Int) + 1)), some (vL (suS (I 232) w.toNat k)), none]) dX8_suspectOf_146 rfl (by decide) rfl ?_
                  refine gw_goto C (tgt := 39) dX8_suspectOf_149 (by decide) ?_
                  exact gw_weak (lo' := [some (vR 231), some (vI w), some (vL (sME (I 232) ((w).toNat))), none, some (vL (sMN (I 232) ((w).toNat))), none, some (vI (k : Int)), some (vL ls), none, some (vI (((k + 1) : Nat) : Int)), none, none]) ⟨rfl, rfl, rfl, rfl, rfl, rfl, congrArg (fun q => some (vI q)) (by omega), trivial⟩ (ih_39 (k : Int) ls (k + 1) z_73 (by omega) (by first | (exfalso; omega) | exact su_t hf rfl (by omega) hsu (by omega) | exact su_f hf rfl (by omega)) (by omega))
                · skip
                  refine gw_if_ge C (tgt := 142) dX8_suspectOf_134 (by decide) ⟨by decide, by decide⟩ (fun _ => ?_) (fun h => absurd h (by decide))
                  refine gw_lload C dX8_suspectOf_142 rfl ?_
                  refine gw_lstore C (lo1 := [some (vR 231), some (vI w), some (vL (sME (I 232) ((w).toNat))), none, some (vL (sMN (I 232) ((w).toNat))), none, some (vI (k : Int)), some (vL ls), none, some (vI (k : Int)), some (vL (suS (I 232) w.toNat k)), none]) dX8_suspectOf_144 (by decide) rfl ?_
                  refine gw_iinc C (lo1 := [some (vR 231), some (vI w), some (vL (sME (I 232) ((w).toNat))), none, some (vL (sMN (I 232) ((w).toNat))), none, some (vI (k : Int)), some (vL ls), none, some (vI ((k : Int) + 1)), some (vL (suS (I 232) w.toNat k)), none]) dX8_suspectOf_146 rfl (by decide) rfl ?_
                  refine gw_goto C (tgt := 39) dX8_suspectOf_149 (by decide) ?_
                  exact gw_weak (lo' := [some (vR 231), some (vI w), some (vL (sME (I 232) ((w).toNat))), none, some (vL (sMN (I 232) ((w).toNat))), none, some (vI (k : Int)), some (vL ls), none, some (vI (((k + 1) : Nat) : Int)), none, none]) ⟨rfl, rfl, rfl, rfl, rfl, rfl, congrArg (fun q => some (vI q)) (by omega), trivial⟩ (ih_39 (k : Int) ls (k + 1) z_73 (by omega) (by first | (exfalso; omega) | exact su_t hf rfl (by omega) hsu (by omega) | exact su_f hf rfl (by omega)) (by omega))
            · skip
              refine gw_if_lt C (tgt := 113) dX8_suspectOf_102 (by decide) ⟨by decide, by decide⟩ (fun h => absurd h (by decide)) (fun _ => ?_)
              refine gw_lload C dX8_suspectOf_105 rfl ?_
              refine gw_lload C dX8_suspectOf_107 rfl ?_
              refine gw_lcmp C dX8_suspectOf_109 (by omega) (by omega) (fun h_109_3 => ?_) (fun h_109_3 => ?_) (fun h_109_3 => ?_)
              · skip
                refine gw_if_ge C (tgt := 118) dX8_suspectOf_110 (by decide) ⟨by decide, by decide⟩ (fun h => absurd h (by decide)) (fun _ => ?_)
                refine gw_iload C dX8_suspectOf_113 rfl ?_
                refine gw_goto C (tgt := 120) dX8_suspectOf_115 (by decide) ?_
                refine gw_istore C (lo1 := [some (vR 231), some (vI w), some (vL (sME (I 232) ((w).toNat))), none, some (vL (sMN (I 232) ((w).toNat))), none, some (vI (k : Int)), some (vL ls), none, some (vI (k : Int)), some (vL (suS (I 232) w.toNat k)), none]) dX8_suspectOf_120 (by decide) rfl ?_
                refine gw_lload C dX8_suspectOf_122 rfl ?_
                refine gw_lconst C 0 dX8_suspectOf_124 (by decide) ?_
                refine gw_lcmp C dX8_suspectOf_125 (by omega) ⟨by decide, by decide⟩ (fun h_125_9 => ?_) (fun h_125_9 => ?_) (fun h_125_9 => ?_)
                · skip
                  refine gw_if_lt C (tgt := 137) dX8_suspectOf_126 (by decide) ⟨by decide, by decide⟩ (fun _ => ?_) (fun h => absurd h (by decide))
                  refine gw_lload C dX8_suspectOf_137 rfl ?_
                  refine gw_goto C (tgt := 144) dX8_suspectOf_139 (by decide) ?_
                  refine gw_lstore C (lo1 := [some (vR 231), some (vI w), some (vL (sME (I 232) ((w).toNat))), none, some (vL (sMN (I 232) ((w).toNat))), none, some (vI (k : Int)), some (vL (suS (I 232) w.toNat k)), none, some (vI (k : Int)), some (vL (suS (I 232) w.toNat k)), none]) dX8_suspectOf_144 (by decide) rfl ?_
                  refine gw_iinc C (lo1 := [some (vR 231), some (vI w), some (vL (sME (I 232) ((w).toNat))), none, some (vL (sMN (I 232) ((w).toNat))), none, some (vI (k : Int)), some (vL (suS (I 232) w.toNat k)), none, some (vI ((k : Int) + 1)), some (vL (suS (I 232) w.toNat k)), none]) dX8_suspectOf_146 rfl (by decide) rfl ?_
                  refine gw_goto C (tgt := 39) dX8_suspectOf_149 (by decide) ?_
                  exact gw_weak (lo' := [some (vR 231), some (vI w), some (vL (sME (I 232) ((w).toNat))), none, some (vL (sMN (I 232) ((w).toNat))), none, some (vI (k : Int)), some (vL (suS (I 232) w.toNat k)), none, some (vI (((k + 1) : Nat) : Int)), none, none]) ⟨rfl, rfl, rfl, rfl, rfl, rfl, congrArg (fun q => some (vI q)) (by omega), trivial⟩ (ih_39 (k : Int) (suS (I 232) w.toNat k) (k + 1) z_73 (by omega) (by first | (exfalso; omega) | exact su_t hf rfl (by omega) hsu (by omega) | exact su_f hf rfl (by omega)) (by omega))
                · skip
                  refine gw_if_lt C (tgt := 137) dX8_suspectOf_126 (by decide) ⟨by decide, by decide⟩ (fun h => absurd h (by decide)) (fun _ => ?_)
                  refine gw_lload C dX8_suspectOf_129 rfl ?_
                  refine gw_lload C dX8_suspectOf_131 rfl ?_
                  refine gw_lcmp C dX8_suspectOf_133 (by omega) (by omega) (fun h_133_17 => ?_) (fun h_133_17 => ?_) (fun h_133_17 => ?_)
                  · skip
                    refine gw_if_ge C (tgt := 142) dX8_suspectOf_134 (by decide) ⟨by decide, by decide⟩ (fun h => absurd h (by decide)) (fun _ => ?_)
                    refine gw_lload C dX8_suspectOf_137 rfl ?_
                    refine gw_goto C (tgt := 144) dX8_suspectOf_139 (by decide) ?_
                    refine gw_lstore C (lo1 := [some (vR 231), some (vI w), some (vL (sME (I 232) ((w).toNat))), none, some (vL (sMN (I 232) ((w).toNat))), none, some (vI (k : Int)), some (vL (suS (I 232) w.toNat k)), none, some (vI (k : Int)), some (vL (suS (I 232) w.toNat k)), none]) dX8_suspectOf_144 (by decide) rfl ?_
                    refine gw_iinc C (lo1 := [some (vR 231), some (vI w), some (vL (sME (I 232) ((w).toNat))), none, some (vL (sMN (I 232) ((w).toNat))), none, some (vI (k : Int)), some (vL (suS (I 232) w.toNat k)), none, some (vI ((k : Int) + 1)), some (vL (suS (I 232) w.toNat k)), none]) dX8_suspectOf_146 rfl (by decide) rfl ?_
                    refine gw_goto C (tgt := 39) dX8_suspectOf_149 (by decide) ?_
                    exact gw_weak (lo' := [some (vR 231), some (vI w), some (vL (sME (I 232) ((w).toNat))), none, some (vL (sMN (I 232) ((w).toNat))), none, some (vI (k : Int)), some (vL (suS (I 232) w.toNat k)), none, some (vI (((k + 1) : Nat) : Int)), none, none]) ⟨rfl, rfl, rfl, rfl, rfl, rfl, congrArg (fun q => some (vI q)) (by omega), trivial⟩ (ih_39 (k : Int) (suS (I 232) w.toNat k) (k + 1) z_73 (by omega) (by first | (exfalso; omega) | exact su_t hf rfl (by omega) hsu (by omega) | exact su_f hf rfl (by omega)) (by omega))
                  · skip
                    refine gw_if_ge C (tgt := 142) dX8_suspectOf_134 (by decide) ⟨by decide, by decide⟩ (fun _ => ?_) (fun h => absurd h (by decide))
                    refine gw_lload C dX8_suspectOf_142 rfl ?_
                    refine gw_lstore C (lo1 := [some (vR 231), some (vI w), some (vL (sME (I 232) ((w).toNat))), none, some (vL (sMN (I 232) ((w).toNat))), none, some (vI (k : Int)), some (vL ls), none, some (vI (k : Int)), some (vL (suS (I 232) w.toNat k)), none]) dX8_suspectOf_144 (by decide) rfl ?_
                    refine gw_iinc C (lo1 := [some (vR 231), some (vI w), some (vL (sME (I 232) ((w).toNat))), none, some (vL (sMN (I 232) ((w).toNat))), none, some (vI (k : Int)), some (vL ls), none, some (vI ((k : Int) + 1)), some (vL (suS (I 232) w.toNat k)), none]) dX8_suspectOf_146 rfl (by decide) rfl ?_
                    refine gw_goto C (tgt := 39) dX8_suspectOf_149 (by decide) ?_
                    exact gw_weak (lo' := [some (vR 231), some (vI w), some (vL (sME (I 232) ((w).toNat))), none, some (vL (sMN (I 232) ((w).toNat))), none, some (vI (k : Int)), some (vL ls), none, some (vI (((k + 1) : Nat) : Int)), none, none]) ⟨rfl, rfl, rfl, rfl, rfl, rfl, congrArg (fun q => some (vI q)) (by omega), trivial⟩ (ih_39 (k : Int) ls (k + 1) z_73 (by omega) (by first | (exfalso; omega) | exact su_t hf rfl (by omega) hsu (by omega) | exact su_f hf rfl (by omega)) (by omega))
                  · skip
                    refine gw_if_ge C (tgt := 142) dX8_suspectOf_134 (by decide) ⟨by decide, by decide⟩ (fun _ => ?_) (fun h => absurd h (by decide))
                    refine gw_lload C dX8_suspectOf_142 rfl ?_
                    refine gw_lstore C (lo1 := [some (vR 231), some (vI w), some (vL (sME (I 232) ((w).toNat))), none, some (vL (sMN (I 232) ((w).toNat))), none, some (vI (k : Int)), some (vL ls), none, some (vI (k : Int)), some (vL (suS (I 232) w.toNat k)), none]) dX8_suspectOf_144 (by decide) rfl ?_
                    refine gw_iinc C (lo1 := [some (vR 231), some (vI w), some (vL (sME (I 232) ((w).toNat))), none, some (vL (sMN (I 232) ((w).toNat))), none, some (vI (k : Int)), some (vL ls), none, some (vI ((k : Int) + 1)), some (vL (suS (I 232) w.toNat k)), none]) dX8_suspectOf_146 rfl (by decide) rfl ?_
                    refine gw_goto C (tgt := 39) dX8_suspectOf_149 (by decide) ?_
                    exact gw_weak (lo' := [some (vR 231), some (vI w), some (vL (sME (I 232) ((w).toNat))), none, some (vL (sMN (I 232) ((w).toNat))), none, some (vI (k : Int)), some (vL ls), none, some (vI (((k + 1) : Nat) : Int)), none, none]) ⟨rfl, rfl, rfl, rfl, rfl, rfl, congrArg (fun q => some (vI q)) (by omega), trivial⟩ (ih_39 (k : Int) ls (k + 1) z_73 (by omega) (by first | (exfalso; omega) | exact su_t hf rfl (by omega) hsu (by omega) | exact su_f hf rfl (by omega)) (by omega))
                · skip
                  refine gw_if_lt C (tgt := 137) dX8_suspectOf_126 (by decide) ⟨by decide, by decide⟩ (fun h => absurd h (by decide)) (fun _ => ?_)
                  refine gw_lload C dX8_suspectOf_129 rfl ?_
                  refine gw_lload C dX8_suspectOf_131 rfl ?_
                  refine gw_lcmp C dX8_suspectOf_133 (by omega) (by omega) (fun h_133_18 => ?_) (fun h_133_18 => ?_) (fun h_133_18 => ?_)
                  · skip
                    refine gw_if_ge C (tgt := 142) dX8_suspectOf_134 (by decide) ⟨by decide, by decide⟩ (fun h => absurd h (by decide)) (fun _ => ?_)
                    refine gw_lload C dX8_suspectOf_137 rfl ?_
                    refine gw_goto C (tgt := 144) dX8_suspectOf_139 (by decide) ?_
                    refine gw_lstore C (lo1 := [some (vR 231), some (vI w), some (vL (sME (I 232) ((w).toNat))), none, some (vL (sMN (I 232) ((w).toNat))), none, some (vI (k : Int)), some (vL (suS (I 232) w.toNat k)), none, some (vI (k : Int)), some (vL (suS (I 232) w.toNat k)), none]) dX8_suspectOf_144 (by decide) rfl ?_
                    refine gw_iinc C (lo1 := [some (vR 231), some (vI w), some (vL (sME (I 232) ((w).toNat))), none, some (vL (sMN (I 232) ((w).toNat))), none, some (vI (k : Int)), some (vL (suS (I 232) w.toNat k)), none, some (vI ((k : Int) + 1)), some (vL (suS (I 232) w.toNat k)), none]) dX8_suspectOf_146 rfl (by decide) rfl ?_
                    refine gw_goto C (tgt := 39) dX8_suspectOf_149 (by decide) ?_
                    exact gw_weak (lo' := [some (vR 231), some (vI w), some (vL (sME (I 232) ((w).toNat))), none, some (vL (sMN (I 232) ((w).toNat))), none, some (vI (k : Int)), some (vL (suS (I 232) w.toNat k)), none, some (vI (((k + 1) : Nat) : Int)), none, none]) ⟨rfl, rfl, rfl, rfl, rfl, rfl, congrArg (fun q => some (vI q)) (by omega), trivial⟩ (ih_39 (k : Int) (suS (I 232) w.toNat k) (k + 1) z_73 (by omega) (by first | (exfalso; omega) | exact su_t hf rfl (by omega) hsu (by omega) | exact su_f hf rfl (by omega)) (by omega))
                  · skip
                    refine gw_if_ge C (tgt := 142) dX8_suspectOf_134 (by decide) ⟨by decide, by decide⟩ (fun _ => ?_) (fun h => absurd h (by decide))
                    refine gw_lload C dX8_suspectOf_142 rfl ?_
                    refine gw_lstore C (lo1 := [some (vR 231), some (vI w), some (vL (sME (I 232) ((w).toNat))), none, some (vL (sMN (I 232) ((w).toNat))), none, some (vI (k : Int)), some (vL ls), none, some (vI (k : Int)), some (vL (suS (I 232) w.toNat k)), none]) dX8_suspectOf_144 (by decide) rfl ?_
                    refine gw_iinc C (lo1 := [some (vR 231), some (vI w), some (vL (sME (I 232) ((w).toNat))), none, some (vL (sMN (I 232) ((w).toNat))), none, some (vI (k : Int)), some (vL ls), none, some (vI ((k : Int) + 1)), some (vL (suS (I 232) w.toNat k)), none]) dX8_suspectOf_146 rfl (by decide) rfl ?_
                    refine gw_goto C (tgt := 39) dX8_suspectOf_149 (by decide) ?_
                    exact gw_weak (lo' := [some (vR 231), some (vI w), some (vL (sME (I 232) ((w).toNat))), none, some (vL (sMN (I 232) ((w).toNat))), none, some (vI (k : Int)), some (vL ls), none, some (vI (((k + 1) : Nat) : Int)), none, none]) ⟨rfl, rfl, rfl, rfl, rfl, rfl, congrArg (fun q => some (vI q)) (by omega), trivial⟩ (ih_39 (k : Int) ls (k + 1) z_73 (by omega) (by first | (exfalso; omega) | exact su_t hf rfl (by omega) hsu (by omega) | exact su_f hf rfl (by omega)) (by omega))
                  · skip
                    refine gw_if_ge C (tgt := 142) dX8_suspectOf_134 (by decide) ⟨by decide, by decide⟩ (fun _ => ?_) (fun h => absurd h (by decide))
                    refine gw_lload C dX8_suspectOf_142 rfl ?_
                    refine gw_lstore C (lo1 := [some (vR 231), some (vI w), some (vL (sME (I 232) ((w).toNat))), none, some (vL (sMN (I 232) ((w).toNat))), none, some (vI (k : Int)), some (vL ls), none, some (vI (k : Int)), some (vL (suS (I 232) w.toNat k)), none]) dX8_suspectOf_144 (by decide) rfl ?_
                    refine gw_iinc C (lo1 := [some (vR 231), some (vI w), some (vL (sME (I 232) ((w).toNat))), none, some (vL (sMN (I 232) ((w).toNat))), none, some (vI (k : Int)), some (vL ls), none, some (vI ((k : Int) + 1)), some (vL (suS (I 232) w.toNat k)), none]) dX8_suspectOf_146 rfl (by decide) rfl ?_
                    refine gw_goto C (tgt := 39) dX8_suspectOf_149 (by decide) ?_
                    exact gw_weak (lo' := [some (vR 231), some (vI w), some (vL (sME (I 232) ((w).toNat))), none, some (vL (sMN (I 232) ((w).toNat))), none, some (vI (k : Int)), some (vL ls), none, some (vI (((k + 1) : Nat) : Int)), none, none]) ⟨rfl, rfl, rfl, rfl, rfl, rfl, congrArg (fun q => some (vI q)) (by omega), trivial⟩ (ih_39 (k : Int) ls (k + 1) z_73 (by omega) (by first | (exfalso; omega) | exact su_t hf rfl (by omega) hsu (by omega) | exact su_f hf rfl (by omega)) (by omega))
              · skip
                refine gw_if_ge C (tgt := 118) dX8_suspectOf_110 (by decide) ⟨by decide, by decide⟩ (fun _ => ?_) (fun h => absurd h (by decide))
                refine gw_iload C dX8_suspectOf_118 rfl ?_
                refine gw_istore C (lo1 := [some (vR 231), some (vI w), some (vL (sME (I 232) ((w).toNat))), none, some (vL (sMN (I 232) ((w).toNat))), none, some (vI fd), some (vL ls), none, some (vI (k : Int)), some (vL (suS (I 232) w.toNat k)), none]) dX8_suspectOf_120 (by decide) rfl ?_
                refine gw_lload C dX8_suspectOf_122 rfl ?_
                refine gw_lconst C 0 dX8_suspectOf_124 (by decide) ?_
                refine gw_lcmp C dX8_suspectOf_125 (by omega) ⟨by decide, by decide⟩ (fun h_125_10 => ?_) (fun h_125_10 => ?_) (fun h_125_10 => ?_)
                · skip
                  refine gw_if_lt C (tgt := 137) dX8_suspectOf_126 (by decide) ⟨by decide, by decide⟩ (fun _ => ?_) (fun h => absurd h (by decide))
                  refine gw_lload C dX8_suspectOf_137 rfl ?_
                  refine gw_goto C (tgt := 144) dX8_suspectOf_139 (by decide) ?_
                  refine gw_lstore C (lo1 := [some (vR 231), some (vI w), some (vL (sME (I 232) ((w).toNat))), none, some (vL (sMN (I 232) ((w).toNat))), none, some (vI fd), some (vL (suS (I 232) w.toNat k)), none, some (vI (k : Int)), some (vL (suS (I 232) w.toNat k)), none]) dX8_suspectOf_144 (by decide) rfl ?_
                  refine gw_iinc C (lo1 := [some (vR 231), some (vI w), some (vL (sME (I 232) ((w).toNat))), none, some (vL (sMN (I 232) ((w).toNat))), none, some (vI fd), some (vL (suS (I 232) w.toNat k)), none, some (vI ((k : Int) + 1)), some (vL (suS (I 232) w.toNat k)), none]) dX8_suspectOf_146 rfl (by decide) rfl ?_
                  refine gw_goto C (tgt := 39) dX8_suspectOf_149 (by decide) ?_
                  exact gw_weak (lo' := [some (vR 231), some (vI w), some (vL (sME (I 232) ((w).toNat))), none, some (vL (sMN (I 232) ((w).toNat))), none, some (vI fd), some (vL (suS (I 232) w.toNat k)), none, some (vI (((k + 1) : Nat) : Int)), none, none]) ⟨rfl, rfl, rfl, rfl, rfl, rfl, congrArg (fun q => some (vI q)) (by omega), trivial⟩ (ih_39 fd (suS (I 232) w.toNat k) (k + 1) z_73 (by omega) (by first | (exfalso; omega) | exact su_t hf rfl (by omega) hsu (by omega) | exact su_f hf rfl (by omega)) (by omega))
                · skip
                  refine gw_if_lt C (tgt := 137) dX8_suspectOf_126 (by decide) ⟨by decide, by decide⟩ (fun h => absurd h (by decide)) (fun _ => ?_)
                  refine gw_lload C dX8_suspectOf_129 rfl ?_
                  refine gw_lload C dX8_suspectOf_131 rfl ?_
                  refine gw_lcmp C dX8_suspectOf_133 (by omega) (by omega) (fun h_133_19 => ?_) (fun h_133_19 => ?_) (fun h_133_19 => ?_)
                  · skip
                    refine gw_if_ge C (tgt := 142) dX8_suspectOf_134 (by decide) ⟨by decide, by decide⟩ (fun h => absurd h (by decide)) (fun _ => ?_)
                    refine gw_lload C dX8_suspectOf_137 rfl ?_
                    refine gw_goto C (tgt := 144) dX8_suspectOf_139 (by decide) ?_
                    refine gw_lstore C (lo1 := [some (vR 231), some (vI w), some (vL (sME (I 232) ((w).toNat))), none, some (vL (sMN (I 232) ((w).toNat))), none, some (vI fd), some (vL (suS (I 232) w.toNat k)), none, some (vI (k : Int)), some (vL (suS (I 232) w.toNat k)), none]) dX8_suspectOf_144 (by decide) rfl ?_
                    refine gw_iinc C (lo1 := [some (vR 231), some (vI w), some (vL (sME (I 232) ((w).toNat))), none, some (vL (sMN (I 232) ((w).toNat))), none, some (vI fd), some (vL (suS (I 232) w.toNat k)), none, some (vI ((k : Int) + 1)), some (vL (suS (I 232) w.toNat k)), none]) dX8_suspectOf_146 rfl (by decide) rfl ?_
                    refine gw_goto C (tgt := 39) dX8_suspectOf_149 (by decide) ?_
                    exact gw_weak (lo' := [some (vR 231), some (vI w), some (vL (sME (I 232) ((w).toNat))), none, some (vL (sMN (I 232) ((w).toNat))), none, some (vI fd), some (vL (suS (I 232) w.toNat k)), none, some (vI (((k + 1) : Nat) : Int)), none, none]) ⟨rfl, rfl, rfl, rfl, rfl, rfl, congrArg (fun q => some (vI q)) (by omega), trivial⟩ (ih_39 fd (suS (I 232) w.toNat k) (k + 1) z_73 (by omega) (by first | (exfalso; omega) | exact su_t hf rfl (by omega) hsu (by omega) | exact su_f hf rfl (by omega)) (by omega))
                  · skip
                    refine gw_if_ge C (tgt := 142) dX8_suspectOf_134 (by decide) ⟨by decide, by decide⟩ (fun _ => ?_) (fun h => absurd h (by decide))
                    refine gw_lload C dX8_suspectOf_142 rfl ?_
                    refine gw_lstore C (lo1 := [some (vR 231), some (vI w), some (vL (sME (I 232) ((w).toNat))), none, some (vL (sMN (I 232) ((w).toNat))), none, some (vI fd), some (vL ls), none, some (vI (k : Int)), some (vL (suS (I 232) w.toNat k)), none]) dX8_suspectOf_144 (by decide) rfl ?_
                    refine gw_iinc C (lo1 := [some (vR 231), some (vI w), some (vL (sME (I 232) ((w).toNat))), none, some (vL (sMN (I 232) ((w).toNat))), none, some (vI fd), some (vL ls), none, some (vI ((k : Int) + 1)), some (vL (suS (I 232) w.toNat k)), none]) dX8_suspectOf_146 rfl (by decide) rfl ?_
                    refine gw_goto C (tgt := 39) dX8_suspectOf_149 (by decide) ?_
                    exact gw_weak (lo' := [some (vR 231), some (vI w), some (vL (sME (I 232) ((w).toNat))), none, some (vL (sMN (I 232) ((w).toNat))), none, some (vI fd), some (vL ls), none, some (vI (((k + 1) : Nat) : Int)), none, none]) ⟨rfl, rfl, rfl, rfl, rfl, rfl, congrArg (fun q => some (vI q)) (by omega), trivial⟩ (ih_39 fd ls (k + 1) z_73 (by omega) (by first | (exfalso; omega) | exact su_t hf rfl (by omega) hsu (by omega) | exact su_f hf rfl (by omega)) (by omega))
                  · skip
                    refine gw_if_ge C (tgt := 142) dX8_suspectOf_134 (by decide) ⟨by decide, by decide⟩ (fun _ => ?_) (fun h => absurd h (by decide))
                    refine gw_lload C dX8_suspectOf_142 rfl ?_
                    refine gw_lstore C (lo1 := [some (vR 231), some (vI w), some (vL (sME (I 232) ((w).toNat))), none, some (vL (sMN (I 232) ((w).toNat))), none, some (vI fd), some (vL ls), none, some (vI (k : Int)), some (vL (suS (I 232) w.toNat k)), none]) dX8_suspectOf_144 (by decide) rfl ?_
                    refine gw_iinc C (lo1 := [some (vR 231), some (vI w), some (vL (sME (I 232) ((w).toNat))), none, some (vL (sMN (I 232) ((w).toNat))), none, some (vI fd), some (vL ls), none, some (vI ((k : Int) + 1)), some (vL (suS (I 232) w.toNat k)), none]) dX8_suspectOf_146 rfl (by decide) rfl ?_
                    refine gw_goto C (tgt := 39) dX8_suspectOf_149 (by decide) ?_
                    exact gw_weak (lo' := [some (vR 231), some (vI w), some (vL (sME (I 232) ((w).toNat))), none, some (vL (sMN (I 232) ((w).toNat))), none, some (vI fd), some (vL ls), none, some (vI (((k + 1) : Nat) : Int)), none, none]) ⟨rfl, rfl, rfl, rfl, rfl, rfl, congrArg (fun q => some (vI q)) (by omega), trivial⟩ (ih_39 fd ls (k + 1) z_73 (by omega) (by first | (exfalso; omega) | exact su_t hf rfl (by omega) hsu (by omega) | exact su_f hf rfl (by omega)) (by omega))
                · skip
                  refine gw_if_lt C (tgt := 137) dX8_suspectOf_126 (by decide) ⟨by decide, by decide⟩ (fun h => absurd h (by decide)) (fun _ => ?_)
                  refine gw_lload C dX8_suspectOf_129 rfl ?_
                  refine gw_lload C dX8_suspectOf_131 rfl ?_
                  refine gw_lcmp C dX8_suspectOf_133 (by omega) (by omega) (fun h_133_20 => ?_) (fun h_133_20 => ?_) (fun h_133_20 => ?_)
                  · skip
                    refine gw_if_ge C (tgt := 142) dX8_suspectOf_134 (by decide) ⟨by decide, by decide⟩ (fun h => absurd h (by decide)) (fun _ => ?_)
                    refine gw_lload C dX8_suspectOf_137 rfl ?_
                    refine gw_goto C (tgt := 144) dX8_suspectOf_139 (by decide) ?_
                    refine gw_lstore C (lo1 := [some (vR 231), some (vI w), some (vL (sME (I 232) ((w).toNat))), none, some (vL (sMN (I 232) ((w).toNat))), none, some (vI fd), some (vL (suS (I 232) w.toNat k)), none, some (vI (k : Int)), some (vL (suS (I 232) w.toNat k)), none]) dX8_suspectOf_144 (by decide) rfl ?_
                    refine gw_iinc C (lo1 := [some (vR 231), some (vI w), some (vL (sME (I 232) ((w).toNat))), none, some (vL (sMN (I 232) ((w).toNat))), none, some (vI fd), some (vL (suS (I 232) w.toNat k)), none, some (vI ((k : Int) + 1)), some (vL (suS (I 232) w.toNat k)), none]) dX8_suspectOf_146 rfl (by decide) rfl ?_
                    refine gw_goto C (tgt := 39) dX8_suspectOf_149 (by decide) ?_
                    exact gw_weak (lo' := [some (vR 231), some (vI w), some (vL (sME (I 232) ((w).toNat))), none, some (vL (sMN (I 232) ((w).toNat))), none, some (vI fd), some (vL (suS (I 232) w.toNat k)), none, some (vI (((k + 1) : Nat) : Int)), none, none]) ⟨rfl, rfl, rfl, rfl, rfl, rfl, congrArg (fun q => some (vI q)) (by omega), trivial⟩ (ih_39 fd (suS (I 232) w.toNat k) (k + 1) z_73 (by omega) (by first | (exfalso; omega) | exact su_t hf rfl (by omega) hsu (by omega) | exact su_f hf rfl (by omega)) (by omega))
                  · skip
                    refine gw_if_ge C (tgt := 142) dX8_suspectOf_134 (by decide) ⟨by decide, by decide⟩ (fun _ => ?_) (fun h => absurd h (by decide))
                    refine gw_lload C dX8_suspectOf_142 rfl ?_
                    refine gw_lstore C (lo1 := [some (vR 231), some (vI w), some (vL (sME (I 232) ((w).toNat))), none, some (vL (sMN (I 232) ((w).toNat))), none, some (vI fd), some (vL ls), none, some (vI (k : Int)), some (vL (suS (I 232) w.toNat k)), none]) dX8_suspectOf_144 (by decide) rfl ?_
                    refine gw_iinc C (lo1 := [some (vR 231), some (vI w), some (vL (sME (I 232) ((w).toNat))), none, some (vL (sMN (I 232) ((w).toNat))), none, some (vI fd), some (vL ls), none, some (vI ((k : Int) + 1)), some (vL (suS (I 232) w.toNat k)), none]) dX8_suspectOf_146 rfl (by decide) rfl ?_
                    refine gw_goto C (tgt := 39) dX8_suspectOf_149 (by decide) ?_
                    exact gw_weak (lo' := [some (vR 231), some (vI w), some (vL (sME (I 232) ((w).toNat))), none, some (vL (sMN (I 232) ((w).toNat))), none, some (vI fd), some (vL ls), none, some (vI (((k + 1) : Nat) : Int)), none, none]) ⟨rfl, rfl, rfl, rfl, rfl, rfl, congrArg (fun q => some (vI q)) (by omega), trivial⟩ (ih_39 fd ls (k + 1) z_73 (by omega) (by first | (exfalso; omega) | exact su_t hf rfl (by omega) hsu (by omega) | exact su_f hf rfl (by omega)) (by omega))
                  · skip
                    refine gw_if_ge C (tgt := 142) dX8_suspectOf_134 (by decide) ⟨by decide, by decide⟩ (fun _ => ?_) (fun h => absurd h (by decide))
                    refine gw_lload C dX8_suspectOf_142 rfl ?_
                    refine gw_lstore C (lo1 := [some (vR 231), some (vI w), some (vL (sME (I 232) ((w).toNat))), none, some (vL (sMN (I 232) ((w).toNat))), none, some (vI fd), some (vL ls), none, some (vI (k : Int)), some (vL (suS (I 232) w.toNat k)), none]) dX8_suspectOf_144 (by decide) rfl ?_
                    refine gw_iinc C (lo1 := [some (vR 231), some (vI w), some (vL (sME (I 232) ((w).toNat))), none, some (vL (sMN (I 232) ((w).toNat))), none, some (vI fd), some (vL ls), none, some (vI ((k : Int) + 1)), some (vL (suS (I 232) w.toNat k)), none]) dX8_suspectOf_146 rfl (by decide) rfl ?_
                    refine gw_goto C (tgt := 39) dX8_suspectOf_149 (by decide) ?_
                    exact gw_weak (lo' := [some (vR 231), some (vI w), some (vL (sME (I 232) ((w).toNat))), none, some (vL (sMN (I 232) ((w).toNat))), none, some (vI fd), some (vL ls), none, some (vI (((k + 1) : Nat) : Int)), none, none]) ⟨rfl, rfl, rfl, rfl, rfl, rfl, congrArg (fun q => some (vI q)) (by omega), trivial⟩ (ih_39 fd ls (k + 1) z_73 (by omega) (by first | (exfalso; omega) | exact su_t hf rfl (by omega) hsu (by omega) | exact su_f hf rfl (by omega)) (by omega))
              · skip
                refine gw_if_ge C (tgt := 118) dX8_suspectOf_110 (by decide) ⟨by decide, by decide⟩ (fun _ => ?_) (fun h => absurd h (by decide))
                refine gw_iload C dX8_suspectOf_118 rfl ?_
                refine gw_istore C (lo1 := [some (vR 231), some (vI w), some (vL (sME (I 232) ((w).toNat))), none, some (vL (sMN (I 232) ((w).toNat))), none, some (vI fd), some (vL ls), none, some (vI (k : Int)), some (vL (suS (I 232) w.toNat k)), none]) dX8_suspectOf_120 (by decide) rfl ?_
                refine gw_lload C dX8_suspectOf_122 rfl ?_
                refine gw_lconst C 0 dX8_suspectOf_124 (by decide) ?_
                refine gw_lcmp C dX8_suspectOf_125 (by omega) ⟨by decide, by decide⟩ (fun h_125_11 => ?_) (fun h_125_11 => ?_) (fun h_125_11 => ?_)
                · skip
                  refine gw_if_lt C (tgt := 137) dX8_suspectOf_126 (by decide) ⟨by decide, by decide⟩ (fun _ => ?_) (fun h => absurd h (by decide))
                  refine gw_lload C dX8_suspectOf_137 rfl ?_
                  refine gw_goto C (tgt := 144) dX8_suspectOf_139 (by decide) ?_
                  refine gw_lstore C (lo1 := [some (vR 231), some (vI w), some (vL (sME (I 232) ((w).toNat))), none, some (vL (sMN (I 232) ((w).toNat))), none, some (vI fd), some (vL (suS (I 232) w.toNat k)), none, some (vI (k : Int)), some (vL (suS (I 232) w.toNat k)), none]) dX8_suspectOf_144 (by decide) rfl ?_
                  refine gw_iinc C (lo1 := [some (vR 231), some (vI w), some (vL (sME (I 232) ((w).toNat))), none, some (vL (sMN (I 232) ((w).toNat))), none, some (vI fd), some (vL (suS (I 232) w.toNat k)), none, some (vI ((k : Int) + 1)), some (vL (suS (I 232) w.toNat k)), none]) dX8_suspectOf_146 rfl (by decide) rfl ?_
                  refine gw_goto C (tgt := 39) dX8_suspectOf_149 (by decide) ?_
                  exact gw_weak (lo' := [some (vR 231), some (vI w), some (vL (sME (I 232) ((w).toNat))), none, some (vL (sMN (I 232) ((w).toNat))), none, some (vI fd), some (vL (suS (I 232) w.toNat k)), none, some (vI (((k + 1) : Nat) : Int)), none, none]) ⟨rfl, rfl, rfl, rfl, rfl, rfl, congrArg (fun q => some (vI q)) (by omega), trivial⟩ (ih_39 fd (suS (I 232) w.toNat k) (k + 1) z_73 (by omega) (by first | (exfalso; omega) | exact su_t hf rfl (by omega) hsu (by omega) | exact su_f hf rfl (by omega)) (by omega))
                · skip
                  refine gw_if_lt C (tgt := 137) dX8_suspectOf_126 (by decide) ⟨by decide, by decide⟩ (fun h => absurd h (by decide)) (fun _ => ?_)
                  refine gw_lload C dX8_suspectOf_129 rfl ?_
                  refine gw_lload C dX8_suspectOf_131 rfl ?_
                  refine gw_lcmp C dX8_suspectOf_133 (by omega) (by omega) (fun h_133_21 => ?_) (fun h_133_21 => ?_) (fun h_133_21 => ?_)
                  · skip
                    refine gw_if_ge C (tgt := 142) dX8_suspectOf_134 (by decide) ⟨by decide, by decide⟩ (fun h => absurd h (by decide)) (fun _ => ?_)
                    refine gw_lload C dX8_suspectOf_137 rfl ?_
                    refine gw_goto C (tgt := 144) dX8_suspectOf_139 (by decide) ?_
                    refine gw_lstore C (lo1 := [some (vR 231), some (vI w), some (vL (sME (I 232) ((w).toNat))), none, some (vL (sMN (I 232) ((w).toNat))), none, some (vI fd), some (vL (suS (I 232) w.toNat k)), none, some (vI (k : Int)), some (vL (suS (I 232) w.toNat k)), none]) dX8_suspectOf_144 (by decide) rfl ?_
                    refine gw_iinc C (lo1 := [some (vR 231), some (vI w), some (vL (sME (I 232) ((w).toNat))), none, some (vL (sMN (I 232) ((w).toNat))), none, some (vI fd), some (vL (suS (I 232) w.toNat k)), none, some (vI ((k : Int) + 1)), some (vL (suS (I 232) w.toNat k)), none]) dX8_suspectOf_146 rfl (by decide) rfl ?_
                    refine gw_goto C (tgt := 39) dX8_suspectOf_149 (by decide) ?_
                    exact gw_weak (lo' := [some (vR 231), some (vI w), some (vL (sME (I 232) ((w).toNat))), none, some (vL (sMN (I 232) ((w).toNat))), none, some (vI fd), some (vL (suS (I 232) w.toNat k)), none, some (vI (((k + 1) : Nat) : Int)), none, none]) ⟨rfl, rfl, rfl, rfl, rfl, rfl, congrArg (fun q => some (vI q)) (by omega), trivial⟩ (ih_39 fd (suS (I 232) w.toNat k) (k + 1) z_73 (by omega) (by first | (exfalso; omega) | exact su_t hf rfl (by omega) hsu (by omega) | exact su_f hf rfl (by omega)) (by omega))
                  · skip
                    refine gw_if_ge C (tgt := 142) dX8_suspectOf_134 (by decide) ⟨by decide, by decide⟩ (fun _ => ?_) (fun h => absurd h (by decide))
                    refine gw_lload C dX8_suspectOf_142 rfl ?_
                    refine gw_lstore C (lo1 := [some (vR 231), some (vI w), some (vL (sME (I 232) ((w).toNat))), none, some (vL (sMN (I 232) ((w).toNat))), none, some (vI fd), some (vL ls), none, some (vI (k : Int)), some (vL (suS (I 232) w.toNat k)), none]) dX8_suspectOf_144 (by decide) rfl ?_
                    refine gw_iinc C (lo1 := [some (vR 231), some (vI w), some (vL (sME (I 232) ((w).toNat))), none, some (vL (sMN (I 232) ((w).toNat))), none, some (vI fd), some (vL ls), none, some (vI ((k : Int) + 1)), some (vL (suS (I 232) w.toNat k)), none]) dX8_suspectOf_146 rfl (by decide) rfl ?_
                    refine gw_goto C (tgt := 39) dX8_suspectOf_149 (by decide) ?_
                    exact gw_weak (lo' := [some (vR 231), some (vI w), some (vL (sME (I 232) ((w).toNat))), none, some (vL (sMN (I 232) ((w).toNat))), none, some (vI fd), some (vL ls), none, some (vI (((k + 1) : Nat) : Int)), none, none]) ⟨rfl, rfl, rfl, rfl, rfl, rfl, congrArg (fun q => some (vI q)) (by omega), trivial⟩ (ih_39 fd ls (k + 1) z_73 (by omega) (by first | (exfalso; omega) | exact su_t hf rfl (by omega) hsu (by omega) | exact su_f hf rfl (by omega)) (by omega))
                  · skip
                    refine gw_if_ge C (tgt := 142) dX8_suspectOf_134 (by decide) ⟨by decide, by decide⟩ (fun _ => ?_) (fun h => absurd h (by decide))
                    refine gw_lload C dX8_suspectOf_142 rfl ?_
                    refine gw_lstore C (lo1 := [some (vR 231), some (vI w), some (vL (sME (I 232) ((w).toNat))), none, some (vL (sMN (I 232) ((w).toNat))), none, some (vI fd), some (vL ls), none, some (vI (k : Int)), some (vL (suS (I 232) w.toNat k)), none]) dX8_suspectOf_144 (by decide) rfl ?_
                    refine gw_iinc C (lo1 := [some (vR 231), some (vI w), some (vL (sME (I 232) ((w).toNat))), none, some (vL (sMN (I 232) ((w).toNat))), none, some (vI fd), some (vL ls), none, some (vI ((k : Int) + 1)), some (vL (suS (I 232) w.toNat k)), none]) dX8_suspectOf_146 rfl (by decide) rfl ?_
                    refine gw_goto C (tgt := 39) dX8_suspectOf_149 (by decide) ?_
                    exact gw_weak (lo' := [some (vR 231), some (vI w), some (vL (sME (I 232) ((w).toNat))), none, some (vL (sMN (I 232) ((w).toNat))), none, some (vI fd), some (vL ls), none, some (vI (((k + 1) : Nat) : Int)), none, none]) ⟨rfl, rfl, rfl, rfl, rfl, rfl, congrArg (fun q => some (vI q)) (by omega), trivial⟩ (ih_39 fd ls (k + 1) z_73 (by omega) (by first | (exfalso; omega) | exact su_t hf rfl (by omega) hsu (by omega) | exact su_f hf rfl (by omega)) (by omega))
                · skip
                  refine gw_if_lt C (tgt := 137) dX8_suspectOf_126 (by decide) ⟨by decide, by decide⟩ (fun h => absurd h (by decide)) (fun _ => ?_)
                  refine gw_lload C dX8_suspectOf_129 rfl ?_
                  refine gw_lload C dX8_suspectOf_131 rfl ?_
                  refine gw_lcmp C dX8_suspectOf_133 (by omega) (by omega) (fun h_133_22 => ?_) (fun h_133_22 => ?_) (fun h_133_22 => ?_)
                  · skip
                    refine gw_if_ge C (tgt := 142) dX8_suspectOf_134 (by decide) ⟨by decide, by decide⟩ (fun h => absurd h (by decide)) (fun _ => ?_)
                    refine gw_lload C dX8_suspectOf_137 rfl ?_
                    refine gw_goto C (tgt := 144) dX8_suspectOf_139 (by decide) ?_
                    refine gw_lstore C (lo1 := [some (vR 231), some (vI w), some (vL (sME (I 232) ((w).toNat))), none, some (vL (sMN (I 232) ((w).toNat))), none, some (vI fd), some (vL (suS (I 232) w.toNat k)), none, some (vI (k : Int)), some (vL (suS (I 232) w.toNat k)), none]) dX8_suspectOf_144 (by decide) rfl ?_
                    refine gw_iinc C (lo1 := [some (vR 231), some (vI w), some (vL (sME (I 232) ((w).toNat))), none, some (vL (sMN (I 232) ((w).toNat))), none, some (vI fd), some (vL (suS (I 232) w.toNat k)), none, some (vI ((k : Int) + 1)), some (vL (suS (I 232) w.toNat k)), none]) dX8_suspectOf_146 rfl (by decide) rfl ?_
                    refine gw_goto C (tgt := 39) dX8_suspectOf_149 (by decide) ?_
                    exact gw_weak (lo' := [some (vR 231), some (vI w), some (vL (sME (I 232) ((w).toNat))), none, some (vL (sMN (I 232) ((w).toNat))), none, some (vI fd), some (vL (suS (I 232) w.toNat k)), none, some (vI (((k + 1) : Nat) : Int)), none, none]) ⟨rfl, rfl, rfl, rfl, rfl, rfl, congrArg (fun q => some (vI q)) (by omega), trivial⟩ (ih_39 fd (suS (I 232) w.toNat k) (k + 1) z_73 (by omega) (by first | (exfalso; omega) | exact su_t hf rfl (by omega) hsu (by omega) | exact su_f hf rfl (by omega)) (by omega))
                  · skip
                    refine gw_if_ge C (tgt := 142) dX8_suspectOf_134 (by decide) ⟨by decide, by decide⟩ (fun _ => ?_) (fun h => absurd h (by decide))
                    refine gw_lload C dX8_suspectOf_142 rfl ?_
                    refine gw_lstore C (lo1 := [some (vR 231), some (vI w), some (vL (sME (I 232) ((w).toNat))), none, some (vL (sMN (I 232) ((w).toNat))), none, some (vI fd), some (vL ls), none, some (vI (k : Int)), some (vL (suS (I 232) w.toNat k)), none]) dX8_suspectOf_144 (by decide) rfl ?_
                    refine gw_iinc C (lo1 := [some (vR 231), some (vI w), some (vL (sME (I 232) ((w).toNat))), none, some (vL (sMN (I 232) ((w).toNat))), none, some (vI fd), some (vL ls), none, some (vI ((k : Int) + 1)), some (vL (suS (I 232) w.toNat k)), none]) dX8_suspectOf_146 rfl (by decide) rfl ?_
                    refine gw_goto C (tgt := 39) dX8_suspectOf_149 (by decide) ?_
                    exact gw_weak (lo' := [some (vR 231), some (vI w), some (vL (sME (I 232) ((w).toNat))), none, some (vL (sMN (I 232) ((w).toNat))), none, some (vI fd), some (vL ls), none, some (vI (((k + 1) : Nat) : Int)), none, none]) ⟨rfl, rfl, rfl, rfl, rfl, rfl, congrArg (fun q => some (vI q)) (by omega), trivial⟩ (ih_39 fd ls (k + 1) z_73 (by omega) (by first | (exfalso; omega) | exact su_t hf rfl (by omega) hsu (by omega) | exact su_f hf rfl (by omega)) (by omega))
                  · skip
                    refine gw_if_ge C (tgt := 142) dX8_suspectOf_134 (by decide) ⟨by decide, by decide⟩ (fun _ => ?_) (fun h => absurd h (by decide))
                    refine gw_lload C dX8_suspectOf_142 rfl ?_
                    refine gw_lstore C (lo1 := [some (vR 231), some (vI w), some (vL (sME (I 232) ((w).toNat))), none, some (vL (sMN (I 232) ((w).toNat))), none, some (vI fd), some (vL ls), none, some (vI (k : Int)), some (vL (suS (I 232) w.toNat k)), none]) dX8_suspectOf_144 (by decide) rfl ?_
                    refine gw_iinc C (lo1 := [some (vR 231), some (vI w), some (vL (sME (I 232) ((w).toNat))), none, some (vL (sMN (I 232) ((w).toNat))), none, some (vI fd), some (vL ls), none, some (vI ((k : Int) + 1)), some (vL (suS (I 232) w.toNat k)), none]) dX8_suspectOf_146 rfl (by decide) rfl ?_
                    refine gw_goto C (tgt := 39) dX8_suspectOf_149 (by decide) ?_
                    exact gw_weak (lo' := [some (vR 231), some (vI w), some (vL (sME (I 232) ((w).toNat))), none, some (vL (sMN (I 232) ((w).toNat))), none, some (vI fd), some (vL ls), none, some (vI (((k + 1) : Nat) : Int)), none, none]) ⟨rfl, rfl, rfl, rfl, rfl, rfl, congrArg (fun q => some (vI q)) (by omega), trivial⟩ (ih_39 fd ls (k + 1) z_73 (by omega) (by first | (exfalso; omega) | exact su_t hf rfl (by omega) hsu (by omega) | exact su_f hf rfl (by omega)) (by omega))
            · skip
              refine gw_if_lt C (tgt := 113) dX8_suspectOf_102 (by decide) ⟨by decide, by decide⟩ (fun h => absurd h (by decide)) (fun _ => ?_)
              refine gw_lload C dX8_suspectOf_105 rfl ?_
              refine gw_lload C dX8_suspectOf_107 rfl ?_
              refine gw_lcmp C dX8_suspectOf_109 (by omega) (by omega) (fun h_109_4 => ?_) (fun h_109_4 => ?_) (fun h_109_4 => ?_)
              · skip
                refine gw_if_ge C (tgt := 118) dX8_suspectOf_110 (by decide) ⟨by decide, by decide⟩ (fun h => absurd h (by decide)) (fun _ => ?_)
                refine gw_iload C dX8_suspectOf_113 rfl ?_
                refine gw_goto C (tgt := 120) dX8_suspectOf_115 (by decide) ?_
                refine gw_istore C (lo1 := [some (vR 231), some (vI w), some (vL (sME (I 232) ((w).toNat))), none, some (vL (sMN (I 232) ((w).toNat))), none, some (vI (k : Int)), some (vL ls), none, some (vI (k : Int)), some (vL (suS (I 232) w.toNat k)), none]) dX8_suspectOf_120 (by decide) rfl ?_
                refine gw_lload C dX8_suspectOf_122 rfl ?_
                refine gw_lconst C 0 dX8_suspectOf_124 (by decide) ?_
                refine gw_lcmp C dX8_suspectOf_125 (by omega) ⟨by decide, by decide⟩ (fun h_125_12 => ?_) (fun h_125_12 => ?_) (fun h_125_12 => ?_)
                · skip
                  refine gw_if_lt C (tgt := 137) dX8_suspectOf_126 (by decide) ⟨by decide, by decide⟩ (fun _ => ?_) (fun h => absurd h (by decide))
                  refine gw_lload C dX8_suspectOf_137 rfl ?_
                  refine gw_goto C (tgt := 144) dX8_suspectOf_139 (by decide) ?_
                  refine gw_lstore C (lo1 := [some (vR 231), some (vI w), some (vL (sME (I 232) ((w).toNat))), none, some (vL (sMN (I 232) ((w).toNat))), none, some (vI (k : Int)), some (vL (suS (I 232) w.toNat k)), none, some (vI (k : Int)), some (vL (suS (I 232) w.toNat k)), none]) dX8_suspectOf_144 (by decide) rfl ?_
                  refine gw_iinc C (lo1 := [some (vR 231), some (vI w), some (vL (sME (I 232) ((w).toNat))), none, some (vL (sMN (I 232) ((w).toNat))), none, some (vI (k : Int)), some (vL (suS (I 232) w.toNat k)), none, some (vI ((k : Int) + 1)), some (vL (suS (I 232) w.toNat k)), none]) dX8_suspectOf_146 rfl (by decide) rfl ?_
                  refine gw_goto C (tgt := 39) dX8_suspectOf_149 (by decide) ?_
                  exact gw_weak (lo' := [some (vR 231), some (vI w), some (vL (sME (I 232) ((w).toNat))), none, some (vL (sMN (I 232) ((w).toNat))), none, some (vI (k : Int)), some (vL (suS (I 232) w.toNat k)), none, some (vI (((k + 1) : Nat) : Int)), none, none]) ⟨rfl, rfl, rfl, rfl, rfl, rfl, congrArg (fun q => some (vI q)) (by omega), trivial⟩ (ih_39 (k : Int) (suS (I 232) w.toNat k) (k + 1) z_73 (by omega) (by first | (exfalso; omega) | exact su_t hf rfl (by omega) hsu (by omega) | exact su_f hf rfl (by omega)) (by omega))
                · skip
                  refine gw_if_lt C (tgt := 137) dX8_suspectOf_126 (by decide) ⟨by decide, by decide⟩ (fun h => absurd h (by decide)) (fun _ => ?_)
                  refine gw_lload C dX8_suspectOf_129 rfl ?_
                  refine gw_lload C dX8_suspectOf_131 rfl ?_
                  refine gw_lcmp C dX8_suspectOf_133 (by omega) (by omega) (fun h_133_23 => ?_) (fun h_133_23 => ?_) (fun h_133_23 => ?_)
                  · skip
                    refine gw_if_ge C (tgt := 142) dX8_suspectOf_134 (by decide) ⟨by decide, by decide⟩ (fun h => absurd h (by decide)) (fun _ => ?_)
                    refine gw_lload C dX8_suspectOf_137 rfl ?_
                    refine gw_goto C (tgt := 144) dX8_suspectOf_139 (by decide) ?_
                    refine gw_lstore C (lo1 := [some (vR 231), some (vI w), some (vL (sME (I 232) ((w).toNat))), none, some (vL (sMN (I 232) ((w).toNat))), none, some (vI (k : Int)), some (vL (suS (I 232) w.toNat k)), none, some (vI (k : Int)), some (vL (suS (I 232) w.toNat k)), none]) dX8_suspectOf_144 (by decide) rfl ?_
                    refine gw_iinc C (lo1 := [some (vR 231), some (vI w), some (vL (sME (I 232) ((w).toNat))), none, some (vL (sMN (I 232) ((w).toNat))), none, some (vI (k : Int)), some (vL (suS (I 232) w.toNat k)), none, some (vI ((k : Int) + 1)), some (vL (suS (I 232) w.toNat k)), none]) dX8_suspectOf_146 rfl (by decide) rfl ?_
                    refine gw_goto C (tgt := 39) dX8_suspectOf_149 (by decide) ?_
                    exact gw_weak (lo' := [some (vR 231), some (vI w), some (vL (sME (I 232) ((w).toNat))), none, some (vL (sMN (I 232) ((w).toNat))), none, some (vI (k : Int)), some (vL (suS (I 232) w.toNat k)), none, some (vI (((k + 1) : Nat) : Int)), none, none]) ⟨rfl, rfl, rfl, rfl, rfl, rfl, congrArg (fun q => some (vI q)) (by omega), trivial⟩ (ih_39 (k : Int) (suS (I 232) w.toNat k) (k + 1) z_73 (by omega) (by first | (exfalso; omega) | exact su_t hf rfl (by omega) hsu (by omega) | exact su_f hf rfl (by omega)) (by omega))
                  · skip
                    refine gw_if_ge C (tgt := 142) dX8_suspectOf_134 (by decide) ⟨by decide, by decide⟩ (fun _ => ?_) (fun h => absurd h (by decide))
                    refine gw_lload C dX8_suspectOf_142 rfl ?_
                    refine gw_lstore C (lo1 := [some (vR 231), some (vI w), some (vL (sME (I 232) ((w).toNat))), none, some (vL (sMN (I 232) ((w).toNat))), none, some (vI (k : Int)), some (vL ls), none, some (vI (k : Int)), some (vL (suS (I 232) w.toNat k)), none]) dX8_suspectOf_144 (by decide) rfl ?_
                    refine gw_iinc C (lo1 := [some (vR 231), some (vI w), some (vL (sME (I 232) ((w).toNat))), none, some (vL (sMN (I 232) ((w).toNat))), none, some (vI (k : Int)), some (vL ls), none, some (vI ((k : Int) + 1)), some (vL (suS (I 232) w.toNat k)), none]) dX8_suspectOf_146 rfl (by decide) rfl ?_
                    refine gw_goto C (tgt := 39) dX8_suspectOf_149 (by decide) ?_
                    exact gw_weak (lo' := [some (vR 231), some (vI w), some (vL (sME (I 232) ((w).toNat))), none, some (vL (sMN (I 232) ((w).toNat))), none, some (vI (k : Int)), some (vL ls), none, some (vI (((k + 1) : Nat) : Int)), none, none]) ⟨rfl, rfl, rfl, rfl, rfl, rfl, congrArg (fun q => some (vI q)) (by omega), trivial⟩ (ih_39 (k : Int) ls (k + 1) z_73 (by omega) (by first | (exfalso; omega) | exact su_t hf rfl (by omega) hsu (by omega) | exact su_f hf rfl (by omega)) (by omega))
                  · skip
                    refine gw_if_ge C (tgt := 142) dX8_suspectOf_134 (by decide) ⟨by decide, by decide⟩ (fun _ => ?_) (fun h => absurd h (by decide))
                    refine gw_lload C dX8_suspectOf_142 rfl ?_
                    refine gw_lstore C (lo1 := [some (vR 231), some (vI w), some (vL (sME (I 232) ((w).toNat))), none, some (vL (sMN (I 232) ((w).toNat))), none, some (vI (k : Int)), some (vL ls), none, some (vI (k : Int)), some (vL (suS (I 232) w.toNat k)), none]) dX8_suspectOf_144 (by decide) rfl ?_
                    refine gw_iinc C (lo1 := [some (vR 231), some (vI w), some (vL (sME (I 232) ((w).toNat))), none, some (vL (sMN (I 232) ((w).toNat))), none, some (vI (k : Int)), some (vL ls), none, some (vI ((k : Int) + 1)), some (vL (suS (I 232) w.toNat k)), none]) dX8_suspectOf_146 rfl (by decide) rfl ?_
                    refine gw_goto C (tgt := 39) dX8_suspectOf_149 (by decide) ?_
                    exact gw_weak (lo' := [some (vR 231), some (vI w), some (vL (sME (I 232) ((w).toNat))), none, some (vL (sMN (I 232) ((w).toNat))), none, some (vI (k : Int)), some (vL ls), none, some (vI (((k + 1) : Nat) : Int)), none, none]) ⟨rfl, rfl, rfl, rfl, rfl, rfl, congrArg (fun q => some (vI q)) (by omega), trivial⟩ (ih_39 (k : Int) ls (k + 1) z_73 (by omega) (by first | (exfalso; omega) | exact su_t hf rfl (by omega) hsu (by omega) | exact su_f hf rfl (by omega)) (by omega))
                · skip
                  refine gw_if_lt C (tgt := 137) dX8_suspectOf_126 (by decide) ⟨by decide, by decide⟩ (fun h => absurd h (by decide)) (fun _ => ?_)
                  refine gw_lload C dX8_suspectOf_129 rfl ?_
                  refine gw_lload C dX8_suspectOf_131 rfl ?_
                  refine gw_lcmp C dX8_suspectOf_133 (by omega) (by omega) (fun h_133_24 => ?_) (fun h_133_24 => ?_) (fun h_133_24 => ?_)
                  · skip
                    refine gw_if_ge C (tgt := 142) dX8_suspectOf_134 (by decide) ⟨by decide, by decide⟩ (fun h => absurd h (by decide)) (fun _ => ?_)
                    refine gw_lload C dX8_suspectOf_137 rfl ?_
                    refine gw_goto C (tgt := 144) dX8_suspectOf_139 (by decide) ?_
                    refine gw_lstore C (lo1 := [some (vR 231), some (vI w), some (vL (sME (I 232) ((w).toNat))), none, some (vL (sMN (I 232) ((w).toNat))), none, some (vI (k : Int)), some (vL (suS (I 232) w.toNat k)), none, some (vI (k : Int)), some (vL (suS (I 232) w.toNat k)), none]) dX8_suspectOf_144 (by decide) rfl ?_
                    refine gw_iinc C (lo1 := [some (vR 231), some (vI w), some (vL (sME (I 232) ((w).toNat))), none, some (vL (sMN (I 232) ((w).toNat))), none, some (vI (k : Int)), some (vL (suS (I 232) w.toNat k)), none, some (vI ((k : Int) + 1)), some (vL (suS (I 232) w.toNat k)), none]) dX8_suspectOf_146 rfl (by decide) rfl ?_
                    refine gw_goto C (tgt := 39) dX8_suspectOf_149 (by decide) ?_
                    exact gw_weak (lo' := [some (vR 231), some (vI w), some (vL (sME (I 232) ((w).toNat))), none, some (vL (sMN (I 232) ((w).toNat))), none, some (vI (k : Int)), some (vL (suS (I 232) w.toNat k)), none, some (vI (((k + 1) : Nat) : Int)), none, none]) ⟨rfl, rfl, rfl, rfl, rfl, rfl, congrArg (fun q => some (vI q)) (by omega), trivial⟩ (ih_39 (k : Int) (suS (I 232) w.toNat k) (k + 1) z_73 (by omega) (by first | (exfalso; omega) | exact su_t hf rfl (by omega) hsu (by omega) | exact su_f hf rfl (by omega)) (by omega))
                  · skip
                    refine gw_if_ge C (tgt := 142) dX8_suspectOf_134 (by decide) ⟨by decide, by decide⟩ (fun _ => ?_) (fun h => absurd h (by decide))
                    refine gw_lload C dX8_suspectOf_142 rfl ?_
                    refine gw_lstore C (lo1 := [some (vR 231), some (vI w), some (vL (sME (I 232) ((w).toNat))), none, some (vL (sMN (I 232) ((w).toNat))), none, some (vI (k : Int)), some (vL ls), none, some (vI (k : Int)), some (vL (suS (I 232) w.toNat k)), none]) dX8_suspectOf_144 (by decide) rfl ?_
                    refine gw_iinc C (lo1 := [some (vR 231), some (vI w), some (vL (sME (I 232) ((w).toNat))), none, some (vL (sMN (I 232) ((w).toNat))), none, some (vI (k : Int)), some (vL ls), none, some (vI ((k : Int) + 1)), some (vL (suS (I 232) w.toNat k)), none]) dX8_suspectOf_146 rfl (by decide) rfl ?_
                    refine gw_goto C (tgt := 39) dX8_suspectOf_149 (by decide) ?_
                    exact gw_weak (lo' := [some (vR 231), some (vI w), some (vL (sME (I 232) ((w).toNat))), none, some (vL (sMN (I 232) ((w).toNat))), none, some (vI (k : Int)), some (vL ls), none, some (vI (((k + 1) : Nat) : Int)), none, none]) ⟨rfl, rfl, rfl, rfl, rfl, rfl, congrArg (fun q => some (vI q)) (by omega), trivial⟩ (ih_39 (k : Int) ls (k + 1) z_73 (by omega) (by first | (exfalso; omega) | exact su_t hf rfl (by omega) hsu (by omega) | exact su_f hf rfl (by omega)) (by omega))
                  · skip
                    refine gw_if_ge C (tgt := 142) dX8_suspectOf_134 (by decide) ⟨by decide, by decide⟩ (fun _ => ?_) (fun h => absurd h (by decide))
                    refine gw_lload C dX8_suspectOf_142 rfl ?_
                    refine gw_lstore C (lo1 := [some (vR 231), some (vI w), some (vL (sME (I 232) ((w).toNat))), none, some (vL (sMN (I 232) ((w).toNat))), none, some (vI (k : Int)), some (vL ls), none, some (vI (k : Int)), some (vL (suS (I 232) w.toNat k)), none]) dX8_suspectOf_144 (by decide) rfl ?_
                    refine gw_iinc C (lo1 := [some (vR 231), some (vI w), some (vL (sME (I 232) ((w).toNat))), none, some (vL (sMN (I 232) ((w).toNat))), none, some (vI (k : Int)), some (vL ls), none, some (vI ((k : Int) + 1)), some (vL (suS (I 232) w.toNat k)), none]) dX8_suspectOf_146 rfl (by decide) rfl ?_
                    refine gw_goto C (tgt := 39) dX8_suspectOf_149 (by decide) ?_
                    exact gw_weak (lo' := [some (vR 231), some (vI w), some (vL (sME (I 232) ((w).toNat))), none, some (vL (sMN (I 232) ((w).toNat))), none, some (vI (k : Int)), some (vL ls), none, some (vI (((k + 1) : Nat) : Int)), none, none]) ⟨rfl, rfl, rfl, rfl, rfl, rfl, congrArg (fun q => some (vI q)) (by omega), trivial⟩ (ih_39 (k : Int) ls (k + 1) z_73 (by omega) (by first | (exfalso; omega) | exact su_t hf rfl (by omega) hsu (by omega) | exact su_f hf rfl (by omega)) (by omega))
              · skip
                refine gw_if_ge C (tgt := 118) dX8_suspectOf_110 (by decide) ⟨by decide, by decide⟩ (fun _ => ?_) (fun h => absurd h (by decide))
                refine gw_iload C dX8_suspectOf_118 rfl ?_
                refine gw_istore C (lo1 := [some (vR 231), some (vI w), some (vL (sME (I 232) ((w).toNat))), none, some (vL (sMN (I 232) ((w).toNat))), none, some (vI fd), some (vL ls), none, some (vI (k : Int)), some (vL (suS (I 232) w.toNat k)), none]) dX8_suspectOf_120 (by decide) rfl ?_
                refine gw_lload C dX8_suspectOf_122 rfl ?_
                refine gw_lconst C 0 dX8_suspectOf_124 (by decide) ?_
                refine gw_lcmp C dX8_suspectOf_125 (by omega) ⟨by decide, by decide⟩ (fun h_125_13 => ?_) (fun h_125_13 => ?_) (fun h_125_13 => ?_)
                · skip
                  refine gw_if_lt C (tgt := 137) dX8_suspectOf_126 (by decide) ⟨by decide, by decide⟩ (fun _ => ?_) (fun h => absurd h (by decide))
                  refine gw_lload C dX8_suspectOf_137 rfl ?_
                  refine gw_goto C (tgt := 144) dX8_suspectOf_139 (by decide) ?_
                  refine gw_lstore C (lo1 := [some (vR 231), some (vI w), some (vL (sME (I 232) ((w).toNat))), none, some (vL (sMN (I 232) ((w).toNat))), none, some (vI fd), some (vL (suS (I 232) w.toNat k)), none, some (vI (k : Int)), some (vL (suS (I 232) w.toNat k)), none]) dX8_suspectOf_144 (by decide) rfl ?_
                  refine gw_iinc C (lo1 := [some (vR 231), some (vI w), some (vL (sME (I 232) ((w).toNat))), none, some (vL (sMN (I 232) ((w).toNat))), none, some (vI fd), some (vL (suS (I 232) w.toNat k)), none, some (vI ((k : Int) + 1)), some (vL (suS (I 232) w.toNat k)), none]) dX8_suspectOf_146 rfl (by decide) rfl ?_
                  refine gw_goto C (tgt := 39) dX8_suspectOf_149 (by decide) ?_
                  exact gw_weak (lo' := [some (vR 231), some (vI w), some (vL (sME (I 232) ((w).toNat))), none, some (vL (sMN (I 232) ((w).toNat))), none, some (vI fd), some (vL (suS (I 232) w.toNat k)), none, some (vI (((k + 1) : Nat) : Int)), none, none]) ⟨rfl, rfl, rfl, rfl, rfl, rfl, congrArg (fun q => some (vI q)) (by omega), trivial⟩ (ih_39 fd (suS (I 232) w.toNat k) (k + 1) z_73 (by omega) (by first | (exfalso; omega) | exact su_t hf rfl (by omega) hsu (by omega) | exact su_f hf rfl (by omega)) (by omega))
                · skip
                  refine gw_if_lt C (tgt := 137) dX8_suspectOf_126 (by decide) ⟨by decide, by decide⟩ (fun h => absurd h (by decide)) (fun _ => ?_)
                  refine gw_lload C dX8_suspectOf_129 rfl ?_
                  refine gw_lload C dX8_suspectOf_131 rfl ?_
                  refine gw_lcmp C dX8_suspectOf_133 (by omega) (by omega) (fun h_133_25 => ?_) (fun h_133_25 => ?_) (fun h_133_25 => ?_)
                  · skip
                    refine gw_if_ge C (tgt := 142) dX8_suspectOf_134 (by decide) ⟨by decide, by decide⟩ (fun h => absurd h (by decide)) (fun _ => ?_)
                    refine gw_lload C dX8_suspectOf_137 rfl ?_
                    refine gw_goto C (tgt := 144) dX8_suspectOf_139 (by decide) ?_
                    refine gw_lstore C (lo1 := [some (vR 231), some (vI w), some (vL (sME (I 232) ((w).toNat))), none, some (vL (sMN (I 232) ((w).toNat))), none, some (vI fd), some (vL (suS (I 232) w.toNat k)), none, some (vI (k : Int)), some (vL (suS (I 232) w.toNat k)), none]) dX8_suspectOf_144 (by decide) rfl ?_
                    refine gw_iinc C (lo1 := [some (vR 231), some (vI w), some (vL (sME (I 232) ((w).toNat))), none, some (vL (sMN (I 232) ((w).toNat))), none, some (vI fd), some (vL (suS (I 232) w.toNat k)), none, some (vI ((k : Int) + 1)), some (vL (suS (I 232) w.toNat k)), none]) dX8_suspectOf_146 rfl (by decide) rfl ?_
                    refine gw_goto C (tgt := 39) dX8_suspectOf_149 (by decide) ?_
                    exact gw_weak (lo' := [some (vR 231), some (vI w), some (vL (sME (I 232) ((w).toNat))), none, some (vL (sMN (I 232) ((w).toNat))), none, some (vI fd), some (vL (suS (I 232) w.toNat k)), none, some (vI (((k + 1) : Nat) : Int)), none, none]) ⟨rfl, rfl, rfl, rfl, rfl, rfl, congrArg (fun q => some (vI q)) (by omega), trivial⟩ (ih_39 fd (suS (I 232) w.toNat k) (k + 1) z_73 (by omega) (by first | (exfalso; omega) | exact su_t hf rfl (by omega) hsu (by omega) | exact su_f hf rfl (by omega)) (by omega))
                  · skip
                    refine gw_if_ge C (tgt := 142) dX8_suspectOf_134 (by decide) ⟨by decide, by decide⟩ (fun _ => ?_) (fun h => absurd h (by decide))
                    refine gw_lload C dX8_suspectOf_142 rfl ?_
                    refine gw_lstore C (lo1 := [some (vR 231), some (vI w), some (vL (sME (I 232) ((w).toNat))), none, some (vL (sMN (I 232) ((w).toNat))), none, some (vI fd), some (vL ls), none, some (vI (k : Int)), some (vL (suS (I 232) w.toNat k)), none]) dX8_suspectOf_144 (by decide) rfl ?_
                    refine gw_iinc C (lo1 := [some (vR 231), some (vI w), some (vL (sME (I 232) ((w).toNat))), none, some (vL (sMN (I 232) ((w).toNat))), none, some (vI fd), some (vL ls), none, some (vI ((k : Int) + 1)), some (vL (suS (I 232) w.toNat k)), none]) dX8_suspectOf_146 rfl (by decide) rfl ?_
                    refine gw_goto C (tgt := 39) dX8_suspectOf_149 (by decide) ?_
                    exact gw_weak (lo' := [some (vR 231), some (vI w), some (vL (sME (I 232) ((w).toNat))), none, some (vL (sMN (I 232) ((w).toNat))), none, some (vI fd), some (vL ls), none, some (vI (((k + 1) : Nat) : Int)), none, none]) ⟨rfl, rfl, rfl, rfl, rfl, rfl, congrArg (fun q => some (vI q)) (by omega), trivial⟩ (ih_39 fd ls (k + 1) z_73 (by omega) (by first | (exfalso; omega) | exact su_t hf rfl (by omega) hsu (by omega) | exact su_f hf rfl (by omega)) (by omega))
                  · skip
                    refine gw_if_ge C (tgt := 142) dX8_suspectOf_134 (by decide) ⟨by decide, by decide⟩ (fun _ => ?_) (fun h => absurd h (by decide))
                    refine gw_lload C dX8_suspectOf_142 rfl ?_
                    refine gw_lstore C (lo1 := [some (vR 231), some (vI w), some (vL (sME (I 232) ((w).toNat))), none, some (vL (sMN (I 232) ((w).toNat))), none, some (vI fd), some (vL ls), none, some (vI (k : Int)), some (vL (suS (I 232) w.toNat k)), none]) dX8_suspectOf_144 (by decide) rfl ?_
                    refine gw_iinc C (lo1 := [some (vR 231), some (vI w), some (vL (sME (I 232) ((w).toNat))), none, some (vL (sMN (I 232) ((w).toNat))), none, some (vI fd), some (vL ls), none, some (vI ((k : Int) + 1)), some (vL (suS (I 232) w.toNat k)), none]) dX8_suspectOf_146 rfl (by decide) rfl ?_
                    refine gw_goto C (tgt := 39) dX8_suspectOf_149 (by decide) ?_
                    exact gw_weak (lo' := [some (vR 231), some (vI w), some (vL (sME (I 232) ((w).toNat))), none, some (vL (sMN (I 232) ((w).toNat))), none, some (vI fd), some (vL ls), none, some (vI (((k + 1) : Nat) : Int)), none, none]) ⟨rfl, rfl, rfl, rfl, rfl, rfl, congrArg (fun q => some (vI q)) (by omega), trivial⟩ (ih_39 fd ls (k + 1) z_73 (by omega) (by first | (exfalso; omega) | exact su_t hf rfl (by omega) hsu (by omega) | exact su_f hf rfl (by omega)) (by omega))
                · skip
                  refine gw_if_lt C (tgt := 137) dX8_suspectOf_126 (by decide) ⟨by decide, by decide⟩ (fun h => absurd h (by decide)) (fun _ => ?_)
                  refine gw_lload C dX8_suspectOf_129 rfl ?_
                  refine gw_lload C dX8_suspectOf_131 rfl ?_
                  refine gw_lcmp C dX8_suspectOf_133 (by omega) (by omega) (fun h_133_26 => ?_) (fun h_133_26 => ?_) (fun h_133_26 => ?_)
                  · skip
                    refine gw_if_ge C (tgt := 142) dX8_suspectOf_134 (by decide) ⟨by decide, by decide⟩ (fun h => absurd h (by decide)) (fun _ => ?_)
                    refine gw_lload C dX8_suspectOf_137 rfl ?_
                    refine gw_goto C (tgt := 144) dX8_suspectOf_139 (by decide) ?_
                    refine gw_lstore C (lo1 := [some (vR 231), some (vI w), some (vL (sME (I 232) ((w).toNat))), none, some (vL (sMN (I 232) ((w).toNat))), none, some (vI fd), some (vL (suS (I 232) w.toNat k)), none, some (vI (k : Int)), some (vL (suS (I 232) w.toNat k)), none]) dX8_suspectOf_144 (by decide) rfl ?_
                    refine gw_iinc C (lo1 := [some (vR 231), some (vI w), some (vL (sME (I 232) ((w).toNat))), none, some (vL (sMN (I 232) ((w).toNat))), none, some (vI fd), some (vL (suS (I 232) w.toNat k)), none, some (vI ((k : Int) + 1)), some (vL (suS (I 232) w.toNat k)), none]) dX8_suspectOf_146 rfl (by decide) rfl ?_
                    refine gw_goto C (tgt := 39) dX8_suspectOf_149 (by decide) ?_
                    exact gw_weak (lo' := [some (vR 231), some (vI w), some (vL (sME (I 232) ((w).toNat))), none, some (vL (sMN (I 232) ((w).toNat))), none, some (vI fd), some (vL (suS (I 232) w.toNat k)), none, some (vI (((k + 1) : Nat) : Int)), none, none]) ⟨rfl, rfl, rfl, rfl, rfl, rfl, congrArg (fun q => some (vI q)) (by omega), trivial⟩ (ih_39 fd (suS (I 232) w.toNat k) (k + 1) z_73 (by omega) (by first | (exfalso; omega) | exact su_t hf rfl (by omega) hsu (by omega) | exact su_f hf rfl (by omega)) (by omega))
                  · skip
                    refine gw_if_ge C (tgt := 142) dX8_suspectOf_134 (by decide) ⟨by decide, by decide⟩ (fun _ => ?_) (fun h => absurd h (by decide))
                    refine gw_lload C dX8_suspectOf_142 rfl ?_
                    refine gw_lstore C (lo1 := [some (vR 231), some (vI w), some (vL (sME (I 232) ((w).toNat))), none, some (vL (sMN (I 232) ((w).toNat))), none, some (vI fd), some (vL ls), none, some (vI (k : Int)), some (vL (suS (I 232) w.toNat k)), none]) dX8_suspectOf_144 (by decide) rfl ?_
                    refine gw_iinc C (lo1 := [some (vR 231), some (vI w), some (vL (sME (I 232) ((w).toNat))), none, some (vL (sMN (I 232) ((w).toNat))), none, some (vI fd), some (vL ls), none, some (vI ((k : Int) + 1)), some (vL (suS (I 232) w.toNat k)), none]) dX8_suspectOf_146 rfl (by decide) rfl ?_
                    refine gw_goto C (tgt := 39) dX8_suspectOf_149 (by decide) ?_
                    exact gw_weak (lo' := [some (vR 231), some (vI w), some (vL (sME (I 232) ((w).toNat))), none, some (vL (sMN (I 232) ((w).toNat))), none, some (vI fd), some (vL ls), none, some (vI (((k + 1) : Nat) : Int)), none, none]) ⟨rfl, rfl, rfl, rfl, rfl, rfl, congrArg (fun q => some (vI q)) (by omega), trivial⟩ (ih_39 fd ls (k + 1) z_73 (by omega) (by first | (exfalso; omega) | exact su_t hf rfl (by omega) hsu (by omega) | exact su_f hf rfl (by omega)) (by omega))
                  · skip
                    refine gw_if_ge C (tgt := 142) dX8_suspectOf_134 (by decide) ⟨by decide, by decide⟩ (fun _ => ?_) (fun h => absurd h (by decide))
                    refine gw_lload C dX8_suspectOf_142 rfl ?_
                    refine gw_lstore C (lo1 := [some (vR 231), some (vI w), some (vL (sME (I 232) ((w).toNat))), none, some (vL (sMN (I 232) ((w).toNat))), none, some (vI fd), some (vL ls), none, some (vI (k : Int)), some (vL (suS (I 232) w.toNat k)), none]) dX8_suspectOf_144 (by decide) rfl ?_
                    refine gw_iinc C (lo1 := [some (vR 231), some (vI w), some (vL (sME (I 232) ((w).toNat))), none, some (vL (sMN (I 232) ((w).toNat))), none, some (vI fd), some (vL ls), none, some (vI ((k : Int) + 1)), some (vL (suS (I 232) w.toNat k)), none]) dX8_suspectOf_146 rfl (by decide) rfl ?_
                    refine gw_goto C (tgt := 39) dX8_suspectOf_149 (by decide) ?_
                    exact gw_weak (lo' := [some (vR 231), some (vI w), some (vL (sME (I 232) ((w).toNat))), none, some (vL (sMN (I 232) ((w).toNat))), none, some (vI fd), some (vL ls), none, some (vI (((k + 1) : Nat) : Int)), none, none]) ⟨rfl, rfl, rfl, rfl, rfl, rfl, congrArg (fun q => some (vI q)) (by omega), trivial⟩ (ih_39 fd ls (k + 1) z_73 (by omega) (by first | (exfalso; omega) | exact su_t hf rfl (by omega) hsu (by omega) | exact su_f hf rfl (by omega)) (by omega))
              · skip
                refine gw_if_ge C (tgt := 118) dX8_suspectOf_110 (by decide) ⟨by decide, by decide⟩ (fun _ => ?_) (fun h => absurd h (by decide))
                refine gw_iload C dX8_suspectOf_118 rfl ?_
                refine gw_istore C (lo1 := [some (vR 231), some (vI w), some (vL (sME (I 232) ((w).toNat))), none, some (vL (sMN (I 232) ((w).toNat))), none, some (vI fd), some (vL ls), none, some (vI (k : Int)), some (vL (suS (I 232) w.toNat k)), none]) dX8_suspectOf_120 (by decide) rfl ?_
                refine gw_lload C dX8_suspectOf_122 rfl ?_
                refine gw_lconst C 0 dX8_suspectOf_124 (by decide) ?_
                refine gw_lcmp C dX8_suspectOf_125 (by omega) ⟨by decide, by decide⟩ (fun h_125_14 => ?_) (fun h_125_14 => ?_) (fun h_125_14 => ?_)
                · skip
                  refine gw_if_lt C (tgt := 137) dX8_suspectOf_126 (by decide) ⟨by decide, by decide⟩ (fun _ => ?_) (fun h => absurd h (by decide))
                  refine gw_lload C dX8_suspectOf_137 rfl ?_
                  refine gw_goto C (tgt := 144) dX8_suspectOf_139 (by decide) ?_
                  refine gw_lstore C (lo1 := [some (vR 231), some (vI w), some (vL (sME (I 232) ((w).toNat))), none, some (vL (sMN (I 232) ((w).toNat))), none, some (vI fd), some (vL (suS (I 232) w.toNat k)), none, some (vI (k : Int)), some (vL (suS (I 232) w.toNat k)), none]) dX8_suspectOf_144 (by decide) rfl ?_
                  refine gw_iinc C (lo1 := [some (vR 231), some (vI w), some (vL (sME (I 232) ((w).toNat))), none, some (vL (sMN (I 232) ((w).toNat))), none, some (vI fd), some (vL (suS (I 232) w.toNat k)), none, some (vI ((k : Int) + 1)), some (vL (suS (I 232) w.toNat k)), none]) dX8_suspectOf_146 rfl (by decide) rfl ?_
                  refine gw_goto C (tgt := 39) dX8_suspectOf_149 (by decide) ?_
                  exact gw_weak (lo' := [some (vR 231), some (vI w), some (vL (sME (I 232) ((w).toNat))), none, some (vL (sMN (I 232) ((w).toNat))), none, some (vI fd), some (vL (suS (I 232) w.toNat k)), none, some (vI (((k + 1) : Nat) : Int)), none, none]) ⟨rfl, rfl, rfl, rfl, rfl, rfl, congrArg (fun q => some (vI q)) (by omega), trivial⟩ (ih_39 fd (suS (I 232) w.toNat k) (k + 1) z_73 (by omega) (by first | (exfalso; omega) | exact su_t hf rfl (by omega) hsu (by omega) | exact su_f hf rfl (by omega)) (by omega))
                · skip
                  refine gw_if_lt C (tgt := 137) dX8_suspectOf_126 (by decide) ⟨by decide, by decide⟩ (fun h => absurd h (by decide)) (fun _ => ?_)
                  refine gw_lload C dX8_suspectOf_129 rfl ?_
                  refine gw_lload C dX8_suspectOf_131 rfl ?_
                  refine gw_lcmp C dX8_suspectOf_133 (by omega) (by omega) (fun h_133_27 => ?_) (fun h_133_27 => ?_) (fun h_133_27 => ?_)
                  · skip
                    refine gw_if_ge C (tgt := 142) dX8_suspectOf_134 (by decide) ⟨by decide, by decide⟩ (fun h => absurd h (by decide)) (fun _ => ?_)
                    refine gw_lload C dX8_suspectOf_137 rfl ?_
                    refine gw_goto C (tgt := 144) dX8_suspectOf_139 (by decide) ?_
                    refine gw_lstore C (lo1 := [some (vR 231), some (vI w), some (vL (sME (I 232) ((w).toNat))), none, some (vL (sMN (I 232) ((w).toNat))), none, some (vI fd), some (vL (suS (I 232) w.toNat k)), none, some (vI (k : Int)), some (vL (suS (I 232) w.toNat k)), none]) dX8_suspectOf_144 (by decide) rfl ?_
                    refine gw_iinc C (lo1 := [some (vR 231), some (vI w), some (vL (sME (I 232) ((w).toNat))), none, some (vL (sMN (I 232) ((w).toNat))), none, some (vI fd), some (vL (suS (I 232) w.toNat k)), none, some (vI ((k : Int) + 1)), some (vL (suS (I 232) w.toNat k)), none]) dX8_suspectOf_146 rfl (by decide) rfl ?_
                    refine gw_goto C (tgt := 39) dX8_suspectOf_149 (by decide) ?_
                    exact gw_weak (lo' := [some (vR 231), some (vI w), some (vL (sME (I 232) ((w).toNat))), none, some (vL (sMN (I 232) ((w).toNat))), none, some (vI fd), some (vL (suS (I 232) w.toNat k)), none, some (vI (((k + 1) : Nat) : Int)), none, none]) ⟨rfl, rfl, rfl, rfl, rfl, rfl, congrArg (fun q => some (vI q)) (by omega), trivial⟩ (ih_39 fd (suS (I 232) w.toNat k) (k + 1) z_73 (by omega) (by first | (exfalso; omega) | exact su_t hf rfl (by omega) hsu (by omega) | exact su_f hf rfl (by omega)) (by omega))
                  · skip
                    refine gw_if_ge C (tgt := 142) dX8_suspectOf_134 (by decide) ⟨by decide, by decide⟩ (fun _ => ?_) (fun h => absurd h (by decide))
                    refine gw_lload C dX8_suspectOf_142 rfl ?_
                    refine gw_lstore C (lo1 := [some (vR 231), some (vI w), some (vL (sME (I 232) ((w).toNat))), none, some (vL (sMN (I 232) ((w).toNat))), none, some (vI fd), some (vL ls), none, some (vI (k : Int)), some (vL (suS (I 232) w.toNat k)), none]) dX8_suspectOf_144 (by decide) rfl ?_
                    refine gw_iinc C (lo1 := [some (vR 231), some (vI w), some (vL (sME (I 232) ((w).toNat))), none, some (vL (sMN (I 232) ((w).toNat))), none, some (vI fd), some (vL ls), none, some (vI ((k : Int) + 1)), some (vL (suS (I 232) w.toNat k)), none]) dX8_suspectOf_146 rfl (by decide) rfl ?_
                    refine gw_goto C (tgt := 39) dX8_suspectOf_149 (by decide) ?_
                    exact gw_weak (lo' := [some (vR 231), some (vI w), some (vL (sME (I 232) ((w).toNat))), none, some (vL (sMN (I 232) ((w).toNat))), none, some (vI fd), some (vL ls), none, some (vI (((k + 1) : Nat) : Int)), none, none]) ⟨rfl, rfl, rfl, rfl, rfl, rfl, congrArg (fun q => some (vI q)) (by omega), trivial⟩ (ih_39 fd ls (k + 1) z_73 (by omega) (by first | (exfalso; omega) | exact su_t hf rfl (by omega) hsu (by omega) | exact su_f hf rfl (by omega)) (by omega))
                  · skip
                    refine gw_if_ge C (tgt := 142) dX8_suspectOf_134 (by decide) ⟨by decide, by decide⟩ (fun _ => ?_) (fun h => absurd h (by decide))
                    refine gw_lload C dX8_suspectOf_142 rfl ?_
                    refine gw_lstore C (lo1 := [some (vR 231), some (vI w), some (vL (sME (I 232) ((w).toNat))), none, some (vL (sMN (I 232) ((w).toNat))), none, some (vI fd), some (vL ls), none, some (vI (k : Int)), some (vL (suS (I 232) w.toNat k)), none]) dX8_suspectOf_144 (by decide) rfl ?_
                    refine gw_iinc C (lo1 := [some (vR 231), some (vI w), some (vL (sME (I 232) ((w).toNat))), none, some (vL (sMN (I 232) ((w).toNat))), none, some (vI fd), some (vL ls), none, some (vI ((k : Int) + 1)), some (vL (suS (I 232) w.toNat k)), none]) dX8_suspectOf_146 rfl (by decide) rfl ?_
                    refine gw_goto C (tgt := 39) dX8_suspectOf_149 (by decide) ?_
                    exact gw_weak (lo' := [some (vR 231), some (vI w), some (vL (sME (I 232) ((w).toNat))), none, some (vL (sMN (I 232) ((w).toNat))), none, some (vI fd), some (vL ls), none, some (vI (((k + 1) : Nat) : Int)), none, none]) ⟨rfl, rfl, rfl, rfl, rfl, rfl, congrArg (fun q => some (vI q)) (by omega), trivial⟩ (ih_39 fd ls (k + 1) z_73 (by omega) (by first | (exfalso; omega) | exact su_t hf rfl (by omega) hsu (by omega) | exact su_f hf rfl (by omega)) (by omega))
                · skip
                  refine gw_if_lt C (tgt := 137) dX8_suspectOf_126 (by decide) ⟨by decide, by decide⟩ (fun h => absurd h (by decide)) (fun _ => ?_)
                  refine gw_lload C dX8_suspectOf_129 rfl ?_
                  refine gw_lload C dX8_suspectOf_131 rfl ?_
                  refine gw_lcmp C dX8_suspectOf_133 (by omega) (by omega) (fun h_133_28 => ?_) (fun h_133_28 => ?_) (fun h_133_28 => ?_)
                  · skip
                    refine gw_if_ge C (tgt := 142) dX8_suspectOf_134 (by decide) ⟨by decide, by decide⟩ (fun h => absurd h (by decide)) (fun _ => ?_)
                    refine gw_lload C dX8_suspectOf_137 rfl ?_
                    refine gw_goto C (tgt := 144) dX8_suspectOf_139 (by decide) ?_
                    refine gw_lstore C (lo1 := [some (vR 231), some (vI w), some (vL (sME (I 232) ((w).toNat))), none, some (vL (sMN (I 232) ((w).toNat))), none, some (vI fd), some (vL (suS (I 232) w.toNat k)), none, some (vI (k : Int)), some (vL (suS (I 232) w.toNat k)), none]) dX8_suspectOf_144 (by decide) rfl ?_
                    refine gw_iinc C (lo1 := [some (vR 231), some (vI w), some (vL (sME (I 232) ((w).toNat))), none, some (vL (sMN (I 232) ((w).toNat))), none, some (vI fd), some (vL (suS (I 232) w.toNat k)), none, some (vI ((k : Int) + 1)), some (vL (suS (I 232) w.toNat k)), none]) dX8_suspectOf_146 rfl (by decide) rfl ?_
                    refine gw_goto C (tgt := 39) dX8_suspectOf_149 (by decide) ?_
                    exact gw_weak (lo' := [some (vR 231), some (vI w), some (vL (sME (I 232) ((w).toNat))), none, some (vL (sMN (I 232) ((w).toNat))), none, some (vI fd), some (vL (suS (I 232) w.toNat k)), none, some (vI (((k + 1) : Nat) : Int)), none, none]) ⟨rfl, rfl, rfl, rfl, rfl, rfl, congrArg (fun q => some (vI q)) (by omega), trivial⟩ (ih_39 fd (suS (I 232) w.toNat k) (k + 1) z_73 (by omega) (by first | (exfalso; omega) | exact su_t hf rfl (by omega) hsu (by omega) | exact su_f hf rfl (by omega)) (by omega))
                  · skip
                    refine gw_if_ge C (tgt := 142) dX8_suspectOf_134 (by decide) ⟨by decide, by decide⟩ (fun _ => ?_) (fun h => absurd h (by decide))
                    refine gw_lload C dX8_suspectOf_142 rfl ?_
                    refine gw_lstore C (lo1 := [some (vR 231), some (vI w), some (vL (sME (I 232) ((w).toNat))), none, some (vL (sMN (I 232) ((w).toNat))), none, some (vI fd), some (vL ls), none, some (vI (k : Int)), some (vL (suS (I 232) w.toNat k)), none]) dX8_suspectOf_144 (by decide) rfl ?_
                    refine gw_iinc C (lo1 := [some (vR 231), some (vI w), some (vL (sME (I 232) ((w).toNat))), none, some (vL (sMN (I 232) ((w).toNat))), none, some (vI fd), some (vL ls), none, some (vI ((k : Int) + 1)), some (vL (suS (I 232) w.toNat k)), none]) dX8_suspectOf_146 rfl (by decide) rfl ?_
                    refine gw_goto C (tgt := 39) dX8_suspectOf_149 (by decide) ?_
                    exact gw_weak (lo' := [some (vR 231), some (vI w), some (vL (sME (I 232) ((w).toNat))), none, some (vL (sMN (I 232) ((w).toNat))), none, some (vI fd), some (vL ls), none, some (vI (((k + 1) : Nat) : Int)), none, none]) ⟨rfl, rfl, rfl, rfl, rfl, rfl, congrArg (fun q => some (vI q)) (by omega), trivial⟩ (ih_39 fd ls (k + 1) z_73 (by omega) (by first | (exfalso; omega) | exact su_t hf rfl (by omega) hsu (by omega) | exact su_f hf rfl (by omega)) (by omega))
                  · skip
                    refine gw_if_ge C (tgt := 142) dX8_suspectOf_134 (by decide) ⟨by decide, by decide⟩ (fun _ => ?_) (fun h => absurd h (by decide))
                    refine gw_lload C dX8_suspectOf_142 rfl ?_
                    refine gw_lstore C (lo1 := [some (vR 231), some (vI w), some (vL (sME (I 232) ((w).toNat))), none, some (vL (sMN (I 232) ((w).toNat))), none, some (vI fd), some (vL ls), none, some (vI (k : Int)), some (vL (suS (I 232) w.toNat k)), none]) dX8_suspectOf_144 (by decide) rfl ?_
                    refine gw_iinc C (lo1 := [some (vR 231), some (vI w), some (vL (sME (I 232) ((w).toNat))), none, some (vL (sMN (I 232) ((w).toNat))), none, some (vI fd), some (vL ls), none, some (vI ((k : Int) + 1)), some (vL (suS (I 232) w.toNat k)), none]) dX8_suspectOf_146 rfl (by decide) rfl ?_
                    refine gw_goto C (tgt := 39) dX8_suspectOf_149 (by decide) ?_
                    exact gw_weak (lo' := [some (vR 231), some (vI w), some (vL (sME (I 232) ((w).toNat))), none, some (vL (sMN (I 232) ((w).toNat))), none, some (vI fd), some (vL ls), none, some (vI (((k + 1) : Nat) : Int)), none, none]) ⟨rfl, rfl, rfl, rfl, rfl, rfl, congrArg (fun q => some (vI q)) (by omega), trivial⟩ (ih_39 fd ls (k + 1) z_73 (by omega) (by first | (exfalso; omega) | exact su_t hf rfl (by omega) hsu (by omega) | exact su_f hf rfl (by omega)) (by omega))
          · skip
            refine gw_if_ge C (tgt := 94) dX8_suspectOf_85 (by decide) ⟨by decide, by decide⟩ (fun _ => ?_) (fun h => absurd h (by decide))
            refine gw_lload C dX8_suspectOf_94 rfl ?_
            refine gw_lstore C (lo1 := [some (vR 231), some (vI w), some (vL (sME (I 232) ((w).toNat))), none, some (vL (sMN (I 232) ((w).toNat))), none, some (vI fd), some (vL ls), none, some (vI (k : Int)), some (vL (((sME (I 232) ((w).toNat)) * (sinZ ((sBr (I 232) w.toNat (k + 1)) + 324000))) - ((sMN (I 232) ((w).toNat)) * (sinZ (sBr (I 232) w.toNat (k + 1)))))), none]) dX8_suspectOf_96 (by decide) rfl ?_
            rw [show (((sME (I 232) ((w).toNat)) * (sinZ ((sBr (I 232) w.toNat (k + 1)) + 324000))) - ((sMN (I 232) ((w).toNat)) * (sinZ (sBr (I 232) w.toNat (k + 1))))) = suS (I 232) w.toNat k from by unfold suS; omega]
            have hsu : 0 ≤ suS (I 232) w.toNat k ∧ suS (I 232) w.toNat k ≤ 1000000000000 := by unfold suS; omega
            refine gw_lload C dX8_suspectOf_98 rfl ?_
            refine gw_lconst C 0 dX8_suspectOf_100 (by decide) ?_
            refine gw_lcmp C dX8_suspectOf_101 (by omega) ⟨by decide, by decide⟩ (fun h_101_3 => ?_) (fun h_101_3 => ?_) (fun h_101_3 => ?_)
            · skip
              refine gw_if_lt C (tgt := 113) dX8_suspectOf_102 (by decide) ⟨by decide, by decide⟩ (fun _ => ?_) (fun h => absurd h (by decide))
              refine gw_iload C dX8_suspectOf_113 rfl ?_
              refine gw_goto C (tgt := 120) dX8_suspectOf_115 (by decide) ?_
              refine gw_istore C (lo1 := [some (vR 231), some (vI w), some (vL (sME (I 232) ((w).toNat))), none, some (vL (sMN (I 232) ((w).toNat))), none, some (vI (k : Int)), some (vL ls), none, some (vI (k : Int)), some (vL (suS (I 232) w.toNat k)), none]) dX8_suspectOf_120 (by decide) rfl ?_
              refine gw_lload C dX8_suspectOf_122 rfl ?_
              refine gw_lconst C 0 dX8_suspectOf_124 (by decide) ?_
              refine gw_lcmp C dX8_suspectOf_125 (by omega) ⟨by decide, by decide⟩ (fun h_125_15 => ?_) (fun h_125_15 => ?_) (fun h_125_15 => ?_)
              · skip
                refine gw_if_lt C (tgt := 137) dX8_suspectOf_126 (by decide) ⟨by decide, by decide⟩ (fun _ => ?_) (fun h => absurd h (by decide))
                refine gw_lload C dX8_suspectOf_137 rfl ?_
                refine gw_goto C (tgt := 144) dX8_suspectOf_139 (by decide) ?_
                refine gw_lstore C (lo1 := [some (vR 231), some (vI w), some (vL (sME (I 232) ((w).toNat))), none, some (vL (sMN (I 232) ((w).toNat))), none, some (vI (k : Int)), some (vL (suS (I 232) w.toNat k)), none, some (vI (k : Int)), some (vL (suS (I 232) w.toNat k)), none]) dX8_suspectOf_144 (by decide) rfl ?_
                refine gw_iinc C (lo1 := [some (vR 231), some (vI w), some (vL (sME (I 232) ((w).toNat))), none, some (vL (sMN (I 232) ((w).toNat))), none, some (vI (k : Int)), some (vL (suS (I 232) w.toNat k)), none, some (vI ((k : Int) + 1)), some (vL (suS (I 232) w.toNat k)), none]) dX8_suspectOf_146 rfl (by decide) rfl ?_
                refine gw_goto C (tgt := 39) dX8_suspectOf_149 (by decide) ?_
                exact gw_weak (lo' := [some (vR 231), some (vI w), some (vL (sME (I 232) ((w).toNat))), none, some (vL (sMN (I 232) ((w).toNat))), none, some (vI (k : Int)), some (vL (suS (I 232) w.toNat k)), none, some (vI (((k + 1) : Nat) : Int)), none, none]) ⟨rfl, rfl, rfl, rfl, rfl, rfl, congrArg (fun q => some (vI q)) (by omega), trivial⟩ (ih_39 (k : Int) (suS (I 232) w.toNat k) (k + 1) z_73 (by omega) (by first | (exfalso; omega) | exact su_t hf rfl (by omega) hsu (by omega) | exact su_f hf rfl (by omega)) (by omega))
              · skip
                refine gw_if_lt C (tgt := 137) dX8_suspectOf_126 (by decide) ⟨by decide, by decide⟩ (fun h => absurd h (by decide)) (fun _ => ?_)
                refine gw_lload C dX8_suspectOf_129 rfl ?_
                refine gw_lload C dX8_suspectOf_131 rfl ?_
                refine gw_lcmp C dX8_suspectOf_133 (by omega) (by omega) (fun h_133_29 => ?_) (fun h_133_29 => ?_) (fun h_133_29 => ?_)
                · skip
                  refine gw_if_ge C (tgt := 142) dX8_suspectOf_134 (by decide) ⟨by decide, by decide⟩ (fun h => absurd h (by decide)) (fun _ => ?_)
                  refine gw_lload C dX8_suspectOf_137 rfl ?_
                  refine gw_goto C (tgt := 144) dX8_suspectOf_139 (by decide) ?_
                  refine gw_lstore C (lo1 := [some (vR 231), some (vI w), some (vL (sME (I 232) ((w).toNat))), none, some (vL (sMN (I 232) ((w).toNat))), none, some (vI (k : Int)), some (vL (suS (I 232) w.toNat k)), none, some (vI (k : Int)), some (vL (suS (I 232) w.toNat k)), none]) dX8_suspectOf_144 (by decide) rfl ?_
                  refine gw_iinc C (lo1 := [some (vR 231), some (vI w), some (vL (sME (I 232) ((w).toNat))), none, some (vL (sMN (I 232) ((w).toNat))), none, some (vI (k : Int)), some (vL (suS (I 232) w.toNat k)), none, some (vI ((k : Int) + 1)), some (vL (suS (I 232) w.toNat k)), none]) dX8_suspectOf_146 rfl (by decide) rfl ?_
                  refine gw_goto C (tgt := 39) dX8_suspectOf_149 (by decide) ?_
                  exact gw_weak (lo' := [some (vR 231), some (vI w), some (vL (sME (I 232) ((w).toNat))), none, some (vL (sMN (I 232) ((w).toNat))), none, some (vI (k : Int)), some (vL (suS (I 232) w.toNat k)), none, some (vI (((k + 1) : Nat) : Int)), none, none]) ⟨rfl, rfl, rfl, rfl, rfl, rfl, congrArg (fun q => some (vI q)) (by omega), trivial⟩ (ih_39 (k : Int) (suS (I 232) w.toNat k) (k + 1) z_73 (by omega) (by first | (exfalso; omega) | exact su_t hf rfl (by omega) hsu (by omega) | exact su_f hf rfl (by omega)) (by omega))
                · skip
                  refine gw_if_ge C (tgt := 142) dX8_suspectOf_134 (by decide) ⟨by decide, by decide⟩ (fun _ => ?_) (fun h => absurd h (by decide))
                  refine gw_lload C dX8_suspectOf_142 rfl ?_
                  refine gw_lstore C (lo1 := [some (vR 231), some (vI w), some (vL (sME (I 232) ((w).toNat))), none, some (vL (sMN (I 232) ((w).toNat))), none, some (vI (k : Int)), some (vL ls), none, some (vI (k : Int)), some (vL (suS (I 232) w.toNat k)), none]) dX8_suspectOf_144 (by decide) rfl ?_
                  refine gw_iinc C (lo1 := [some (vR 231), some (vI w), some (vL (sME (I 232) ((w).toNat))), none, some (vL (sMN (I 232) ((w).toNat))), none, some (vI (k : Int)), some (vL ls), none, some (vI ((k : Int) + 1)), some (vL (suS (I 232) w.toNat k)), none]) dX8_suspectOf_146 rfl (by decide) rfl ?_
                  refine gw_goto C (tgt := 39) dX8_suspectOf_149 (by decide) ?_
                  exact gw_weak (lo' := [some (vR 231), some (vI w), some (vL (sME (I 232) ((w).toNat))), none, some (vL (sMN (I 232) ((w).toNat))), none, some (vI (k : Int)), some (vL ls), none, some (vI (((k + 1) : Nat) : Int)), none, none]) ⟨rfl, rfl, rfl, rfl, rfl, rfl, congrArg (fun q => some (vI q)) (by omega), trivial⟩ (ih_39 (k : Int) ls (k + 1) z_73 (by omega) (by first | (exfalso; omega) | exact su_t hf rfl (by omega) hsu (by omega) | exact su_f hf rfl (by omega)) (by omega))
                · skip
                  refine gw_if_ge C (tgt := 142) dX8_suspectOf_134 (by decide) ⟨by decide, by decide⟩ (fun _ => ?_) (fun h => absurd h (by decide))
                  refine gw_lload C dX8_suspectOf_142 rfl ?_
                  refine gw_lstore C (lo1 := [some (vR 231), some (vI w), some (vL (sME (I 232) ((w).toNat))), none, some (vL (sMN (I 232) ((w).toNat))), none, some (vI (k : Int)), some (vL ls), none, some (vI (k : Int)), some (vL (suS (I 232) w.toNat k)), none]) dX8_suspectOf_144 (by decide) rfl ?_
                  refine gw_iinc C (lo1 := [some (vR 231), some (vI w), some (vL (sME (I 232) ((w).toNat))), none, some (vL (sMN (I 232) ((w).toNat))), none, some (vI (k : Int)), some (vL ls), none, some (vI ((k : Int) + 1)), some (vL (suS (I 232) w.toNat k)), none]) dX8_suspectOf_146 rfl (by decide) rfl ?_
                  refine gw_goto C (tgt := 39) dX8_suspectOf_149 (by decide) ?_
                  exact gw_weak (lo' := [some (vR 231), some (vI w), some (vL (sME (I 232) ((w).toNat))), none, some (vL (sMN (I 232) ((w).toNat))), none, some (vI (k : Int)), some (vL ls), none, some (vI (((k + 1) : Nat) : Int)), none, none]) ⟨rfl, rfl, rfl, rfl, rfl, rfl, congrArg (fun q => some (vI q)) (by omega), trivial⟩ (ih_39 (k : Int) ls (k + 1) z_73 (by omega) (by first | (exfalso; omega) | exact su_t hf rfl (by omega) hsu (by omega) | exact su_f hf rfl (by omega)) (by omega))
              · skip
                refine gw_if_lt C (tgt := 137) dX8_suspectOf_126 (by decide) ⟨by decide, by decide⟩ (fun h => absurd h (by decide)) (fun _ => ?_)
                refine gw_lload C dX8_suspectOf_129 rfl ?_
                refine gw_lload C dX8_suspectOf_131 rfl ?_
                refine gw_lcmp C dX8_suspectOf_133 (by omega) (by omega) (fun h_133_30 => ?_) (fun h_133_30 => ?_) (fun h_133_30 => ?_)
                · skip
                  refine gw_if_ge C (tgt := 142) dX8_suspectOf_134 (by decide) ⟨by decide, by decide⟩ (fun h => absurd h (by decide)) (fun _ => ?_)
                  refine gw_lload C dX8_suspectOf_137 rfl ?_
                  refine gw_goto C (tgt := 144) dX8_suspectOf_139 (by decide) ?_
                  refine gw_lstore C (lo1 := [some (vR 231), some (vI w), some (vL (sME (I 232) ((w).toNat))), none, some (vL (sMN (I 232) ((w).toNat))), none, some (vI (k : Int)), some (vL (suS (I 232) w.toNat k)), none, some (vI (k : Int)), some (vL (suS (I 232) w.toNat k)), none]) dX8_suspectOf_144 (by decide) rfl ?_
                  refine gw_iinc C (lo1 := [some (vR 231), some (vI w), some (vL (sME (I 232) ((w).toNat))), none, some (vL (sMN (I 232) ((w).toNat))), none, some (vI (k : Int)), some (vL (suS (I 232) w.toNat k)), none, some (vI ((k : Int) + 1)), some (vL (suS (I 232) w.toNat k)), none]) dX8_suspectOf_146 rfl (by decide) rfl ?_
                  refine gw_goto C (tgt := 39) dX8_suspectOf_149 (by decide) ?_
                  exact gw_weak (lo' := [some (vR 231), some (vI w), some (vL (sME (I 232) ((w).toNat))), none, some (vL (sMN (I 232) ((w).toNat))), none, some (vI (k : Int)), some (vL (suS (I 232) w.toNat k)), none, some (vI (((k + 1) : Nat) : Int)), none, none]) ⟨rfl, rfl, rfl, rfl, rfl, rfl, congrArg (fun q => some (vI q)) (by omega), trivial⟩ (ih_39 (k : Int) (suS (I 232) w.toNat k) (k + 1) z_73 (by omega) (by first | (exfalso; omega) | exact su_t hf rfl (by omega) hsu (by omega) | exact su_f hf rfl (by omega)) (by omega))
                · skip
                  refine gw_if_ge C (tgt := 142) dX8_suspectOf_134 (by decide) ⟨by decide, by decide⟩ (fun _ => ?_) (fun h => absurd h (by decide))
                  refine gw_lload C dX8_suspectOf_142 rfl ?_
                  refine gw_lstore C (lo1 := [some (vR 231), some (vI w), some (vL (sME (I 232) ((w).toNat))), none, some (vL (sMN (I 232) ((w).toNat))), none, some (vI (k : Int)), some (vL ls), none, some (vI (k : Int)), some (vL (suS (I 232) w.toNat k)), none]) dX8_suspectOf_144 (by decide) rfl ?_
                  refine gw_iinc C (lo1 := [some (vR 231), some (vI w), some (vL (sME (I 232) ((w).toNat))), none, some (vL (sMN (I 232) ((w).toNat))), none, some (vI (k : Int)), some (vL ls), none, some (vI ((k : Int) + 1)), some (vL (suS (I 232) w.toNat k)), none]) dX8_suspectOf_146 rfl (by decide) rfl ?_
                  refine gw_goto C (tgt := 39) dX8_suspectOf_149 (by decide) ?_
                  exact gw_weak (lo' := [some (vR 231), some (vI w), some (vL (sME (I 232) ((w).toNat))), none, some (vL (sMN (I 232) ((w).toNat))), none, some (vI (k : Int)), some (vL ls), none, some (vI (((k + 1) : Nat) : Int)), none, none]) ⟨rfl, rfl, rfl, rfl, rfl, rfl, congrArg (fun q => some (vI q)) (by omega), trivial⟩ (ih_39 (k : Int) ls (k + 1) z_73 (by omega) (by first | (exfalso; omega) | exact su_t hf rfl (by omega) hsu (by omega) | exact su_f hf rfl (by omega)) (by omega))
                · skip
                  refine gw_if_ge C (tgt := 142) dX8_suspectOf_134 (by decide) ⟨by decide, by decide⟩ (fun _ => ?_) (fun h => absurd h (by decide))
                  refine gw_lload C dX8_suspectOf_142 rfl ?_
                  refine gw_lstore C (lo1 := [some (vR 231), some (vI w), some (vL (sME (I 232) ((w).toNat))), none, some (vL (sMN (I 232) ((w).toNat))), none, some (vI (k : Int)), some (vL ls), none, some (vI (k : Int)), some (vL (suS (I 232) w.toNat k)), none]) dX8_suspectOf_144 (by decide) rfl ?_
                  refine gw_iinc C (lo1 := [some (vR 231), some (vI w), some (vL (sME (I 232) ((w).toNat))), none, some (vL (sMN (I 232) ((w).toNat))), none, some (vI (k : Int)), some (vL ls), none, some (vI ((k : Int) + 1)), some (vL (suS (I 232) w.toNat k)), none]) dX8_suspectOf_146 rfl (by decide) rfl ?_
                  refine gw_goto C (tgt := 39) dX8_suspectOf_149 (by decide) ?_
                  exact gw_weak (lo' := [some (vR 231), some (vI w), some (vL (sME (I 232) ((w).toNat))), none, some (vL (sMN (I 232) ((w).toNat))), none, some (vI (k : Int)), some (vL ls), none, some (vI (((k + 1) : Nat) : Int)), none, none]) ⟨rfl, rfl, rfl, rfl, rfl, rfl, congrArg (fun q => some (vI q)) (by omega), trivial⟩ (ih_39 (k : Int) ls (k + 1) z_73 (by omega) (by first | (exfalso; omega) | exact su_t hf rfl (by omega) hsu (by omega) | exact su_f hf rfl (by omega)) (by omega))
            · skip
              refine gw_if_lt C (tgt := 113) dX8_suspectOf_102 (by decide) ⟨by decide, by decide⟩ (fun h => absurd h (by decide)) (fun _ => ?_)
              refine gw_lload C dX8_suspectOf_105 rfl ?_
              refine gw_lload C dX8_suspectOf_107 rfl ?_
              refine gw_lcmp C dX8_suspectOf_109 (by omega) (by omega) (fun h_109_5 => ?_) (fun h_109_5 => ?_) (fun h_109_5 => ?_)
              · skip
                refine gw_if_ge C (tgt := 118) dX8_suspectOf_110 (by decide) ⟨by decide, by decide⟩ (fun h => absurd h (by decide)) (fun _ => ?_)
                refine gw_iload C dX8_suspectOf_113 rfl ?_
                refine gw_goto C (tgt := 120) dX8_suspectOf_115 (by decide) ?_
                refine gw_istore C (lo1 := [some (vR 231), some (vI w), some (vL (sME (I 232) ((w).toNat))), none, some (vL (sMN (I 232) ((w).toNat))), none, some (vI (k : Int)), some (vL ls), none, some (vI (k : Int)), some (vL (suS (I 232) w.toNat k)), none]) dX8_suspectOf_120 (by decide) rfl ?_
                refine gw_lload C dX8_suspectOf_122 rfl ?_
                refine gw_lconst C 0 dX8_suspectOf_124 (by decide) ?_
                refine gw_lcmp C dX8_suspectOf_125 (by omega) ⟨by decide, by decide⟩ (fun h_125_16 => ?_) (fun h_125_16 => ?_) (fun h_125_16 => ?_)
                · skip
                  refine gw_if_lt C (tgt := 137) dX8_suspectOf_126 (by decide) ⟨by decide, by decide⟩ (fun _ => ?_) (fun h => absurd h (by decide))
                  refine gw_lload C dX8_suspectOf_137 rfl ?_
                  refine gw_goto C (tgt := 144) dX8_suspectOf_139 (by decide) ?_
                  refine gw_lstore C (lo1 := [some (vR 231), some (vI w), some (vL (sME (I 232) ((w).toNat))), none, some (vL (sMN (I 232) ((w).toNat))), none, some (vI (k : Int)), some (vL (suS (I 232) w.toNat k)), none, some (vI (k : Int)), some (vL (suS (I 232) w.toNat k)), none]) dX8_suspectOf_144 (by decide) rfl ?_
                  refine gw_iinc C (lo1 := [some (vR 231), some (vI w), some (vL (sME (I 232) ((w).toNat))), none, some (vL (sMN (I 232) ((w).toNat))), none, some (vI (k : Int)), some (vL (suS (I 232) w.toNat k)), none, some (vI ((k : Int) + 1)), some (vL (suS (I 232) w.toNat k)), none]) dX8_suspectOf_146 rfl (by decide) rfl ?_
                  refine gw_goto C (tgt := 39) dX8_suspectOf_149 (by decide) ?_
                  exact gw_weak (lo' := [some (vR 231), some (vI w), some (vL (sME (I 232) ((w).toNat))), none, some (vL (sMN (I 232) ((w).toNat))), none, some (vI (k : Int)), some (vL (suS (I 232) w.toNat k)), none, some (vI (((k + 1) : Nat) : Int)), none, none]) ⟨rfl, rfl, rfl, rfl, rfl, rfl, congrArg (fun q => some (vI q)) (by omega), trivial⟩ (ih_39 (k : Int) (suS (I 232) w.toNat k) (k + 1) z_73 (by omega) (by first | (exfalso; omega) | exact su_t hf rfl (by omega) hsu (by omega) | exact su_f hf rfl (by omega)) (by omega))
                · skip
                  refine gw_if_lt C (tgt := 137) dX8_suspectOf_126 (by decide) ⟨by decide, by decide⟩ (fun h => absurd h (by decide)) (fun _ => ?_)
                  refine gw_lload C dX8_suspectOf_129 rfl ?_
                  refine gw_lload C dX8_suspectOf_131 rfl ?_
                  refine gw_lcmp C dX8_suspectOf_133 (by omega) (by omega) (fun h_133_31 => ?_) (fun h_133_31 => ?_) (fun h_133_31 => ?_)
                  · skip
                    refine gw_if_ge C (tgt := 142) dX8_suspectOf_134 (by decide) ⟨by decide, by decide⟩ (fun h => absurd h (by decide)) (fun _ => ?_)
                    refine gw_lload C dX8_suspectOf_137 rfl ?_
                    refine gw_goto C (tgt := 144) dX8_suspectOf_139 (by decide) ?_
                    refine gw_lstore C (lo1 := [some (vR 231), some (vI w), some (vL (sME (I 232) ((w).toNat))), none, some (vL (sMN (I 232) ((w).toNat))), none, some (vI (k : Int)), some (vL (suS (I 232) w.toNat k)), none, some (vI (k : Int)), some (vL (suS (I 232) w.toNat k)), none]) dX8_suspectOf_144 (by decide) rfl ?_
                    refine gw_iinc C (lo1 := [some (vR 231), some (vI w), some (vL (sME (I 232) ((w).toNat))), none, some (vL (sMN (I 232) ((w).toNat))), none, some (vI (k : Int)), some (vL (suS (I 232) w.toNat k)), none, some (vI ((k : Int) + 1)), some (vL (suS (I 232) w.toNat k)), none]) dX8_suspectOf_146 rfl (by decide) rfl ?_
                    refine gw_goto C (tgt := 39) dX8_suspectOf_149 (by decide) ?_
                    exact gw_weak (lo' := [some (vR 231), some (vI w), some (vL (sME (I 232) ((w).toNat))), none, some (vL (sMN (I 232) ((w).toNat))), none, some (vI (k : Int)), some (vL (suS (I 232) w.toNat k)), none, some (vI (((k + 1) : Nat) : Int)), none, none]) ⟨rfl, rfl, rfl, rfl, rfl, rfl, congrArg (fun q => some (vI q)) (by omega), trivial⟩ (ih_39 (k : Int) (suS (I 232) w.toNat k) (k + 1) z_73 (by omega) (by first | (exfalso; omega) | exact su_t hf rfl (by omega) hsu (by omega) | exact su_f hf rfl (by omega)) (by omega))
                  · skip
                    refine gw_if_ge C (tgt := 142) dX8_suspectOf_134 (by decide) ⟨by decide, by decide⟩ (fun _ => ?_) (fun h => absurd h (by decide))
                    refine gw_lload C dX8_suspectOf_142 rfl ?_
                    refine gw_lstore C (lo1 := [some (vR 231), some (vI w), some (vL (sME (I 232) ((w).toNat))), none, some (vL (sMN (I 232) ((w).toNat))), none, some (vI (k : Int)), some (vL ls), none, some (vI (k : Int)), some (vL (suS (I 232) w.toNat k)), none]) dX8_suspectOf_144 (by decide) rfl ?_
                    refine gw_iinc C (lo1 := [some (vR 231), some (vI w), some (vL (sME (I 232) ((w).toNat))), none, some (vL (sMN (I 232) ((w).toNat))), none, some (vI (k : Int)), some (vL ls), none, some (vI ((k : Int) + 1)), some (vL (suS (I 232) w.toNat k)), none]) dX8_suspectOf_146 rfl (by decide) rfl ?_
                    refine gw_goto C (tgt := 39) dX8_suspectOf_149 (by decide) ?_
                    exact gw_weak (lo' := [some (vR 231), some (vI w), some (vL (sME (I 232) ((w).toNat))), none, some (vL (sMN (I 232) ((w).toNat))), none, some (vI (k : Int)), some (vL ls), none, some (vI (((k + 1) : Nat) : Int)), none, none]) ⟨rfl, rfl, rfl, rfl, rfl, rfl, congrArg (fun q => some (vI q)) (by omega), trivial⟩ (ih_39 (k : Int) ls (k + 1) z_73 (by omega) (by first | (exfalso; omega) | exact su_t hf rfl (by omega) hsu (by omega) | exact su_f hf rfl (by omega)) (by omega))
                  · skip
                    refine gw_if_ge C (tgt := 142) dX8_suspectOf_134 (by decide) ⟨by decide, by decide⟩ (fun _ => ?_) (fun h => absurd h (by decide))
                    refine gw_lload C dX8_suspectOf_142 rfl ?_
                    refine gw_lstore C (lo1 := [some (vR 231), some (vI w), some (vL (sME (I 232) ((w).toNat))), none, some (vL (sMN (I 232) ((w).toNat))), none, some (vI (k : Int)), some (vL ls), none, some (vI (k : Int)), some (vL (suS (I 232) w.toNat k)), none]) dX8_suspectOf_144 (by decide) rfl ?_
                    refine gw_iinc C (lo1 := [some (vR 231), some (vI w), some (vL (sME (I 232) ((w).toNat))), none, some (vL (sMN (I 232) ((w).toNat))), none, some (vI (k : Int)), some (vL ls), none, some (vI ((k : Int) + 1)), some (vL (suS (I 232) w.toNat k)), none]) dX8_suspectOf_146 rfl (by decide) rfl ?_
                    refine gw_goto C (tgt := 39) dX8_suspectOf_149 (by decide) ?_
                    exact gw_weak (lo' := [some (vR 231), some (vI w), some (vL (sME (I 232) ((w).toNat))), none, some (vL (sMN (I 232) ((w).toNat))), none, some (vI (k : Int)), some (vL ls), none, some (vI (((k + 1) : Nat) : Int)), none, none]) ⟨rfl, rfl, rfl, rfl, rfl, rfl, congrArg (fun q => some (vI q)) (by omega), trivial⟩ (ih_39 (k : Int) ls (k + 1) z_73 (by omega) (by first | (exfalso; omega) | exact su_t hf rfl (by omega) hsu (by omega) | exact su_f hf rfl (by omega)) (by omega))
                · skip
                  refine gw_if_lt C (tgt := 137) dX8_suspectOf_126 (by decide) ⟨by decide, by decide⟩ (fun h => absurd h (by decide)) (fun _ => ?_)
                  refine gw_lload C dX8_suspectOf_129 rfl ?_
                  refine gw_lload C dX8_suspectOf_131 rfl ?_
                  refine gw_lcmp C dX8_suspectOf_133 (by omega) (by omega) (fun h_133_32 => ?_) (fun h_133_32 => ?_) (fun h_133_32 => ?_)
                  · skip
                    refine gw_if_ge C (tgt := 142) dX8_suspectOf_134 (by decide) ⟨by decide, by decide⟩ (fun h => absurd h (by decide)) (fun _ => ?_)
                    refine gw_lload C dX8_suspectOf_137 rfl ?_
                    refine gw_goto C (tgt := 144) dX8_suspectOf_139 (by decide) ?_
                    refine gw_lstore C (lo1 := [some (vR 231), some (vI w), some (vL (sME (I 232) ((w).toNat))), none, some (vL (sMN (I 232) ((w).toNat))), none, some (vI (k : Int)), some (vL (suS (I 232) w.toNat k)), none, some (vI (k : Int)), some (vL (suS (I 232) w.toNat k)), none]) dX8_suspectOf_144 (by decide) rfl ?_
                    refine gw_iinc C (lo1 := [some (vR 231), some (vI w), some (vL (sME (I 232) ((w).toNat))), none, some (vL (sMN (I 232) ((w).toNat))), none, some (vI (k : Int)), some (vL (suS (I 232) w.toNat k)), none, some (vI ((k : Int) + 1)), some (vL (suS (I 232) w.toNat k)), none]) dX8_suspectOf_146 rfl (by decide) rfl ?_
                    refine gw_goto C (tgt := 39) dX8_suspectOf_149 (by decide) ?_
                    exact gw_weak (lo' := [some (vR 231), some (vI w), some (vL (sME (I 232) ((w).toNat))), none, some (vL (sMN (I 232) ((w).toNat))), none, some (vI (k : Int)), some (vL (suS (I 232) w.toNat k)), none, some (vI (((k + 1) : Nat) : Int)), none, none]) ⟨rfl, rfl, rfl, rfl, rfl, rfl, congrArg (fun q => some (vI q)) (by omega), trivial⟩ (ih_39 (k : Int) (suS (I 232) w.toNat k) (k + 1) z_73 (by omega) (by first | (exfalso; omega) | exact su_t hf rfl (by omega) hsu (by omega) | exact su_f hf rfl (by omega)) (by omega))
                  · skip
                    refine gw_if_ge C (tgt := 142) dX8_suspectOf_134 (by decide) ⟨by decide, by decide⟩ (fun _ => ?_) (fun h => absurd h (by decide))
                    refine gw_lload C dX8_suspectOf_142 rfl ?_
                    refine gw_lstore C (lo1 := [some (vR 231), some (vI w), some (vL (sME (I 232) ((w).toNat))), none, some (vL (sMN (I 232) ((w).toNat))), none, some (vI (k : Int)), some (vL ls), none, some (vI (k : Int)), some (vL (suS (I 232) w.toNat k)), none]) dX8_suspectOf_144 (by decide) rfl ?_
                    refine gw_iinc C (lo1 := [some (vR 231), some (vI w), some (vL (sME (I 232) ((w).toNat))), none, some (vL (sMN (I 232) ((w).toNat))), none, some (vI (k : Int)), some (vL ls), none, some (vI ((k : Int) + 1)), some (vL (suS (I 232) w.toNat k)), none]) dX8_suspectOf_146 rfl (by decide) rfl ?_
                    refine gw_goto C (tgt := 39) dX8_suspectOf_149 (by decide) ?_
                    exact gw_weak (lo' := [some (vR 231), some (vI w), some (vL (sME (I 232) ((w).toNat))), none, some (vL (sMN (I 232) ((w).toNat))), none, some (vI (k : Int)), some (vL ls), none, some (vI (((k + 1) : Nat) : Int)), none, none]) ⟨rfl, rfl, rfl, rfl, rfl, rfl, congrArg (fun q => some (vI q)) (by omega), trivial⟩ (ih_39 (k : Int) ls (k + 1) z_73 (by omega) (by first | (exfalso; omega) | exact su_t hf rfl (by omega) hsu (by omega) | exact su_f hf rfl (by omega)) (by omega))
                  · skip
                    refine gw_if_ge C (tgt := 142) dX8_suspectOf_134 (by decide) ⟨by decide, by decide⟩ (fun _ => ?_) (fun h => absurd h (by decide))
                    refine gw_lload C dX8_suspectOf_142 rfl ?_
                    refine gw_lstore C (lo1 := [some (vR 231), some (vI w), some (vL (sME (I 232) ((w).toNat))), none, some (vL (sMN (I 232) ((w).toNat))), none, some (vI (k : Int)), some (vL ls), none, some (vI (k : Int)), some (vL (suS (I 232) w.toNat k)), none]) dX8_suspectOf_144 (by decide) rfl ?_
                    refine gw_iinc C (lo1 := [some (vR 231), some (vI w), some (vL (sME (I 232) ((w).toNat))), none, some (vL (sMN (I 232) ((w).toNat))), none, some (vI (k : Int)), some (vL ls), none, some (vI ((k : Int) + 1)), some (vL (suS (I 232) w.toNat k)), none]) dX8_suspectOf_146 rfl (by decide) rfl ?_
                    refine gw_goto C (tgt := 39) dX8_suspectOf_149 (by decide) ?_
                    exact gw_weak (lo' := [some (vR 231), some (vI w), some (vL (sME (I 232) ((w).toNat))), none, some (vL (sMN (I 232) ((w).toNat))), none, some (vI (k : Int)), some (vL ls), none, some (vI (((k + 1) : Nat) : Int)), none, none]) ⟨rfl, rfl, rfl, rfl, rfl, rfl, congrArg (fun q => some (vI q)) (by omega), trivial⟩ (ih_39 (k : Int) ls (k + 1) z_73 (by omega) (by first | (exfalso; omega) | exact su_t hf rfl (by omega) hsu (by omega) | exact su_f hf rfl (by omega)) (by omega))
              · skip
                refine gw_if_ge C (tgt := 118) dX8_suspectOf_110 (by decide) ⟨by decide, by decide⟩ (fun _ => ?_) (fun h => absurd h (by decide))
                refine gw_iload C dX8_suspectOf_118 rfl ?_
                refine gw_istore C (lo1 := [some (vR 231), some (vI w), some (vL (sME (I 232) ((w).toNat))), none, some (vL (sMN (I 232) ((w).toNat))), none, some (vI fd), some (vL ls), none, some (vI (k : Int)), some (vL (suS (I 232) w.toNat k)), none]) dX8_suspectOf_120 (by decide) rfl ?_
                refine gw_lload C dX8_suspectOf_122 rfl ?_
                refine gw_lconst C 0 dX8_suspectOf_124 (by decide) ?_
                refine gw_lcmp C dX8_suspectOf_125 (by omega) ⟨by decide, by decide⟩ (fun h_125_17 => ?_) (fun h_125_17 => ?_) (fun h_125_17 => ?_)
                · skip
                  refine gw_if_lt C (tgt := 137) dX8_suspectOf_126 (by decide) ⟨by decide, by decide⟩ (fun _ => ?_) (fun h => absurd h (by decide))
                  refine gw_lload C dX8_suspectOf_137 rfl ?_
                  refine gw_goto C (tgt := 144) dX8_suspectOf_139 (by decide) ?_
                  refine gw_lstore C (lo1 := [some (vR 231), some (vI w), some (vL (sME (I 232) ((w).toNat))), none, some (vL (sMN (I 232) ((w).toNat))), none, some (vI fd), some (vL (suS (I 232) w.toNat k)), none, some (vI (k : Int)), some (vL (suS (I 232) w.toNat k)), none]) dX8_suspectOf_144 (by decide) rfl ?_
                  refine gw_iinc C (lo1 := [some (vR 231), some (vI w), some (vL (sME (I 232) ((w).toNat))), none, some (vL (sMN (I 232) ((w).toNat))), none, some (vI fd), some (vL (suS (I 232) w.toNat k)), none, some (vI ((k : Int) + 1)), some (vL (suS (I 232) w.toNat k)), none]) dX8_suspectOf_146 rfl (by decide) rfl ?_
                  refine gw_goto C (tgt := 39) dX8_suspectOf_149 (by decide) ?_
                  exact gw_weak (lo' := [some (vR 231), some (vI w), some (vL (sME (I 232) ((w).toNat))), none, some (vL (sMN (I 232) ((w).toNat))), none, some (vI fd), some (vL (suS (I 232) w.toNat k)), none, some (vI (((k + 1) : Nat) : Int)), none, none]) ⟨rfl, rfl, rfl, rfl, rfl, rfl, congrArg (fun q => some (vI q)) (by omega), trivial⟩ (ih_39 fd (suS (I 232) w.toNat k) (k + 1) z_73 (by omega) (by first | (exfalso; omega) | exact su_t hf rfl (by omega) hsu (by omega) | exact su_f hf rfl (by omega)) (by omega))
                · skip
                  refine gw_if_lt C (tgt := 137) dX8_suspectOf_126 (by decide) ⟨by decide, by decide⟩ (fun h => absurd h (by decide)) (fun _ => ?_)
                  refine gw_lload C dX8_suspectOf_129 rfl ?_
                  refine gw_lload C dX8_suspectOf_131 rfl ?_
                  refine gw_lcmp C dX8_suspectOf_133 (by omega) (by omega) (fun h_133_33 => ?_) (fun h_133_33 => ?_) (fun h_133_33 => ?_)
                  · skip
                    refine gw_if_ge C (tgt := 142) dX8_suspectOf_134 (by decide) ⟨by decide, by decide⟩ (fun h => absurd h (by decide)) (fun _ => ?_)
                    refine gw_lload C dX8_suspectOf_137 rfl ?_
                    refine gw_goto C (tgt := 144) dX8_suspectOf_139 (by decide) ?_
                    refine gw_lstore C (lo1 := [some (vR 231), some (vI w), some (vL (sME (I 232) ((w).toNat))), none, some (vL (sMN (I 232) ((w).toNat))), none, some (vI fd), some (vL (suS (I 232) w.toNat k)), none, some (vI (k : Int)), some (vL (suS (I 232) w.toNat k)), none]) dX8_suspectOf_144 (by decide) rfl ?_
                    refine gw_iinc C (lo1 := [some (vR 231), some (vI w), some (vL (sME (I 232) ((w).toNat))), none, some (vL (sMN (I 232) ((w).toNat))), none, some (vI fd), some (vL (suS (I 232) w.toNat k)), none, some (vI ((k : Int) + 1)), some (vL (suS (I 232) w.toNat k)), none]) dX8_suspectOf_146 rfl (by decide) rfl ?_
                    refine gw_goto C (tgt := 39) dX8_suspectOf_149 (by decide) ?_
                    exact gw_weak (lo' := [some (vR 231), some (vI w), some (vL (sME (I 232) ((w).toNat))), none, some (vL (sMN (I 232) ((w).toNat))), none, some (vI fd), some (vL (suS (I 232) w.toNat k)), none, some (vI (((k + 1) : Nat) : Int)), none, none]) ⟨rfl, rfl, rfl, rfl, rfl, rfl, congrArg (fun q => some (vI q)) (by omega), trivial⟩ (ih_39 fd (suS (I 232) w.toNat k) (k + 1) z_73 (by omega) (by first | (exfalso; omega) | exact su_t hf rfl (by omega) hsu (by omega) | exact su_f hf rfl (by omega)) (by omega))
                  · skip
                    refine gw_if_ge C (tgt := 142) dX8_suspectOf_134 (by decide) ⟨by decide, by decide⟩ (fun _ => ?_) (fun h => absurd h (by decide))
                    refine gw_lload C dX8_suspectOf_142 rfl ?_
                    refine gw_lstore C (lo1 := [some (vR 231), some (vI w), some (vL (sME (I 232) ((w).toNat))), none, some (vL (sMN (I 232) ((w).toNat))), none, some (vI fd), some (vL ls), none, some (vI (k : Int)), some (vL (suS (I 232) w.toNat k)), none]) dX8_suspectOf_144 (by decide) rfl ?_
                    refine gw_iinc C (lo1 := [some (vR 231), some (vI w), some (vL (sME (I 232) ((w).toNat))), none, some (vL (sMN (I 232) ((w).toNat))), none, some (vI fd), some (vL ls), none, some (vI ((k : Int) + 1)), some (vL (suS (I 232) w.toNat k)), none]) dX8_suspectOf_146 rfl (by decide) rfl ?_
                    refine gw_goto C (tgt := 39) dX8_suspectOf_149 (by decide) ?_
                    exact gw_weak (lo' := [some (vR 231), some (vI w), some (vL (sME (I 232) ((w).toNat))), none, some (vL (sMN (I 232) ((w).toNat))), none, some (vI fd), some (vL ls), none, some (vI (((k + 1) : Nat) : Int)), none, none]) ⟨rfl, rfl, rfl, rfl, rfl, rfl, congrArg (fun q => some (vI q)) (by omega), trivial⟩ (ih_39 fd ls (k + 1) z_73 (by omega) (by first | (exfalso; omega) | exact su_t hf rfl (by omega) hsu (by omega) | exact su_f hf rfl (by omega)) (by omega))
                  · skip
                    refine gw_if_ge C (tgt := 142) dX8_suspectOf_134 (by decide) ⟨by decide, by decide⟩ (fun _ => ?_) (fun h => absurd h (by decide))
                    refine gw_lload C dX8_suspectOf_142 rfl ?_
                    refine gw_lstore C (lo1 := [some (vR 231), some (vI w), some (vL (sME (I 232) ((w).toNat))), none, some (vL (sMN (I 232) ((w).toNat))), none, some (vI fd), some (vL ls), none, some (vI (k : Int)), some (vL (suS (I 232) w.toNat k)), none]) dX8_suspectOf_144 (by decide) rfl ?_
                    refine gw_iinc C (lo1 := [some (vR 231), some (vI w), some (vL (sME (I 232) ((w).toNat))), none, some (vL (sMN (I 232) ((w).toNat))), none, some (vI fd), some (vL ls), none, some (vI ((k : Int) + 1)), some (vL (suS (I 232) w.toNat k)), none]) dX8_suspectOf_146 rfl (by decide) rfl ?_
                    refine gw_goto C (tgt := 39) dX8_suspectOf_149 (by decide) ?_
                    exact gw_weak (lo' := [some (vR 231), some (vI w), some (vL (sME (I 232) ((w).toNat))), none, some (vL (sMN (I 232) ((w).toNat))), none, some (vI fd), some (vL ls), none, some (vI (((k + 1) : Nat) : Int)), none, none]) ⟨rfl, rfl, rfl, rfl, rfl, rfl, congrArg (fun q => some (vI q)) (by omega), trivial⟩ (ih_39 fd ls (k + 1) z_73 (by omega) (by first | (exfalso; omega) | exact su_t hf rfl (by omega) hsu (by omega) | exact su_f hf rfl (by omega)) (by omega))
                · skip
                  refine gw_if_lt C (tgt := 137) dX8_suspectOf_126 (by decide) ⟨by decide, by decide⟩ (fun h => absurd h (by decide)) (fun _ => ?_)
                  refine gw_lload C dX8_suspectOf_129 rfl ?_
                  refine gw_lload C dX8_suspectOf_131 rfl ?_
                  refine gw_lcmp C dX8_suspectOf_133 (by omega) (by omega) (fun h_133_34 => ?_) (fun h_133_34 => ?_) (fun h_133_34 => ?_)
                  · skip
                    refine gw_if_ge C (tgt := 142) dX8_suspectOf_134 (by decide) ⟨by decide, by decide⟩ (fun h => absurd h (by decide)) (fun _ => ?_)
                    refine gw_lload C dX8_suspectOf_137 rfl ?_
                    refine gw_goto C (tgt := 144) dX8_suspectOf_139 (by decide) ?_
                    refine gw_lstore C (lo1 := [some (vR 231), some (vI w), some (vL (sME (I 232) ((w).toNat))), none, some (vL (sMN (I 232) ((w).toNat))), none, some (vI fd), some (vL (suS (I 232) w.toNat k)), none, some (vI (k : Int)), some (vL (suS (I 232) w.toNat k)), none]) dX8_suspectOf_144 (by decide) rfl ?_
                    refine gw_iinc C (lo1 := [some (vR 231), some (vI w), some (vL (sME (I 232) ((w).toNat))), none, some (vL (sMN (I 232) ((w).toNat))), none, some (vI fd), some (vL (suS (I 232) w.toNat k)), none, some (vI ((k : Int) + 1)), some (vL (suS (I 232) w.toNat k)), none]) dX8_suspectOf_146 rfl (by decide) rfl ?_
                    refine gw_goto C (tgt := 39) dX8_suspectOf_149 (by decide) ?_
                    exact gw_weak (lo' := [some (vR 231), some (vI w), some (vL (sME (I 232) ((w).toNat))), none, some (vL (sMN (I 232) ((w).toNat))), none, some (vI fd), some (vL (suS (I 232) w.toNat k)), none, some (vI (((k + 1) : Nat) : Int)), none, none]) ⟨rfl, rfl, rfl, rfl, rfl, rfl, congrArg (fun q => some (vI q)) (by omega), trivial⟩ (ih_39 fd (suS (I 232) w.toNat k) (k + 1) z_73 (by omega) (by first | (exfalso; omega) | exact su_t hf rfl (by omega) hsu (by omega) | exact su_f hf rfl (by omega)) (by omega))
                  · skip
                    refine gw_if_ge C (tgt := 142) dX8_suspectOf_134 (by decide) ⟨by decide, by decide⟩ (fun _ => ?_) (fun h => absurd h (by decide))
                    refine gw_lload C dX8_suspectOf_142 rfl ?_
                    refine gw_lstore C (lo1 := [some (vR 231), some (vI w), some (vL (sME (I 232) ((w).toNat))), none, some (vL (sMN (I 232) ((w).toNat))), none, some (vI fd), some (vL ls), none, some (vI (k : Int)), some (vL (suS (I 232) w.toNat k)), none]) dX8_suspectOf_144 (by decide) rfl ?_
                    refine gw_iinc C (lo1 := [some (vR 231), some (vI w), some (vL (sME (I 232) ((w).toNat))), none, some (vL (sMN (I 232) ((w).toNat))), none, some (vI fd), some (vL ls), none, some (vI ((k : Int) + 1)), some (vL (suS (I 232) w.toNat k)), none]) dX8_suspectOf_146 rfl (by decide) rfl ?_
                    refine gw_goto C (tgt := 39) dX8_suspectOf_149 (by decide) ?_
                    exact gw_weak (lo' := [some (vR 231), some (vI w), some (vL (sME (I 232) ((w).toNat))), none, some (vL (sMN (I 232) ((w).toNat))), none, some (vI fd), some (vL ls), none, some (vI (((k + 1) : Nat) : Int)), none, none]) ⟨rfl, rfl, rfl, rfl, rfl, rfl, congrArg (fun q => some (vI q)) (by omega), trivial⟩ (ih_39 fd ls (k + 1) z_73 (by omega) (by first | (exfalso; omega) | exact su_t hf rfl (by omega) hsu (by omega) | exact su_f hf rfl (by omega)) (by omega))
                  · skip
                    refine gw_if_ge C (tgt := 142) dX8_suspectOf_134 (by decide) ⟨by decide, by decide⟩ (fun _ => ?_) (fun h => absurd h (by decide))
                    refine gw_lload C dX8_suspectOf_142 rfl ?_
                    refine gw_lstore C (lo1 := [some (vR 231), some (vI w), some (vL (sME (I 232) ((w).toNat))), none, some (vL (sMN (I 232) ((w).toNat))), none, some (vI fd), some (vL ls), none, some (vI (k : Int)), some (vL (suS (I 232) w.toNat k)), none]) dX8_suspectOf_144 (by decide) rfl ?_
                    refine gw_iinc C (lo1 := [some (vR 231), some (vI w), some (vL (sME (I 232) ((w).toNat))), none, some (vL (sMN (I 232) ((w).toNat))), none, some (vI fd), some (vL ls), none, some (vI ((k : Int) + 1)), some (vL (suS (I 232) w.toNat k)), none]) dX8_suspectOf_146 rfl (by decide) rfl ?_
                    refine gw_goto C (tgt := 39) dX8_suspectOf_149 (by decide) ?_
                    exact gw_weak (lo' := [some (vR 231), some (vI w), some (vL (sME (I 232) ((w).toNat))), none, some (vL (sMN (I 232) ((w).toNat))), none, some (vI fd), some (vL ls), none, some (vI (((k + 1) : Nat) : Int)), none, none]) ⟨rfl, rfl, rfl, rfl, rfl, rfl, congrArg (fun q => some (vI q)) (by omega), trivial⟩ (ih_39 fd ls (k + 1) z_73 (by omega) (by first | (exfalso; omega) | exact su_t hf rfl (by omega) hsu (by omega) | exact su_f hf rfl (by omega)) (by omega))
              · skip
                refine gw_if_ge C (tgt := 118) dX8_suspectOf_110 (by decide) ⟨by decide, by decide⟩ (fun _ => ?_) (fun h => absurd h (by decide))
                refine gw_iload C dX8_suspectOf_118 rfl ?_
                refine gw_istore C (lo1 := [some (vR 231), some (vI w), some (vL (sME (I 232) ((w).toNat))), none, some (vL (sMN (I 232) ((w).toNat))), none, some (vI fd), some (vL ls), none, some (vI (k : Int)), some (vL (suS (I 232) w.toNat k)), none]) dX8_suspectOf_120 (by decide) rfl ?_
                refine gw_lload C dX8_suspectOf_122 rfl ?_
                refine gw_lconst C 0 dX8_suspectOf_124 (by decide) ?_
                refine gw_lcmp C dX8_suspectOf_125 (by omega) ⟨by decide, by decide⟩ (fun h_125_18 => ?_) (fun h_125_18 => ?_) (fun h_125_18 => ?_)
                · skip
                  refine gw_if_lt C (tgt := 137) dX8_suspectOf_126 (by decide) ⟨by decide, by decide⟩ (fun _ => ?_) (fun h => absurd h (by decide))
                  refine gw_lload C dX8_suspectOf_137 rfl ?_
                  refine gw_goto C (tgt := 144) dX8_suspectOf_139 (by decide) ?_
                  refine gw_lstore C (lo1 := [some (vR 231), some (vI w), some (vL (sME (I 232) ((w).toNat))), none, some (vL (sMN (I 232) ((w).toNat))), none, some (vI fd), some (vL (suS (I 232) w.toNat k)), none, some (vI (k : Int)), some (vL (suS (I 232) w.toNat k)), none]) dX8_suspectOf_144 (by decide) rfl ?_
                  refine gw_iinc C (lo1 := [some (vR 231), some (vI w), some (vL (sME (I 232) ((w).toNat))), none, some (vL (sMN (I 232) ((w).toNat))), none, some (vI fd), some (vL (suS (I 232) w.toNat k)), none, some (vI ((k : Int) + 1)), some (vL (suS (I 232) w.toNat k)), none]) dX8_suspectOf_146 rfl (by decide) rfl ?_
                  refine gw_goto C (tgt := 39) dX8_suspectOf_149 (by decide) ?_
                  exact gw_weak (lo' := [some (vR 231), some (vI w), some (vL (sME (I 232) ((w).toNat))), none, some (vL (sMN (I 232) ((w).toNat))), none, some (vI fd), some (vL (suS (I 232) w.toNat k)), none, some (vI (((k + 1) : Nat) : Int)), none, none]) ⟨rfl, rfl, rfl, rfl, rfl, rfl, congrArg (fun q => some (vI q)) (by omega), trivial⟩ (ih_39 fd (suS (I 232) w.toNat k) (k + 1) z_73 (by omega) (by first | (exfalso; omega) | exact su_t hf rfl (by omega) hsu (by omega) | exact su_f hf rfl (by omega)) (by omega))
                · skip
                  refine gw_if_lt C (tgt := 137) dX8_suspectOf_126 (by decide) ⟨by decide, by decide⟩ (fun h => absurd h (by decide)) (fun _ => ?_)
                  refine gw_lload C dX8_suspectOf_129 rfl ?_
                  refine gw_lload C dX8_suspectOf_131 rfl ?_
                  refine gw_lcmp C dX8_suspectOf_133 (by omega) (by omega) (fun h_133_35 => ?_) (fun h_133_35 => ?_) (fun h_133_35 => ?_)
                  · skip
                    refine gw_if_ge C (tgt := 142) dX8_suspectOf_134 (by decide) ⟨by decide, by decide⟩ (fun h => absurd h (by decide)) (fun _ => ?_)
                    refine gw_lload C dX8_suspectOf_137 rfl ?_
                    refine gw_goto C (tgt := 144) dX8_suspectOf_139 (by decide) ?_
                    refine gw_lstore C (lo1 := [some (vR 231), some (vI w), some (vL (sME (I 232) ((w).toNat))), none, some (vL (sMN (I 232) ((w).toNat))), none, some (vI fd), some (vL (suS (I 232) w.toNat k)), none, some (vI (k : Int)), some (vL (suS (I 232) w.toNat k)), none]) dX8_suspectOf_144 (by decide) rfl ?_
                    refine gw_iinc C (lo1 := [some (vR 231), some (vI w), some (vL (sME (I 232) ((w).toNat))), none, some (vL (sMN (I 232) ((w).toNat))), none, some (vI fd), some (vL (suS (I 232) w.toNat k)), none, some (vI ((k : Int) + 1)), some (vL (suS (I 232) w.toNat k)), none]) dX8_suspectOf_146 rfl (by decide) rfl ?_
                    refine gw_goto C (tgt := 39) dX8_suspectOf_149 (by decide) ?_
                    exact gw_weak (lo' := [some (vR 231), some (vI w), some (vL (sME (I 232) ((w).toNat))), none, some (vL (sMN (I 232) ((w).toNat))), none, some (vI fd), some (vL (suS (I 232) w.toNat k)), none, some (vI (((k + 1) : Nat) : Int)), none, none]) ⟨rfl, rfl, rfl, rfl, rfl, rfl, congrArg (fun q => some (vI q)) (by omega), trivial⟩ (ih_39 fd (suS (I 232) w.toNat k) (k + 1) z_73 (by omega) (by first | (exfalso; omega) | exact su_t hf rfl (by omega) hsu (by omega) | exact su_f hf rfl (by omega)) (by omega))
                  · skip
                    refine gw_if_ge C (tgt := 142) dX8_suspectOf_134 (by decide) ⟨by decide, by decide⟩ (fun _ => ?_) (fun h => absurd h (by decide))
                    refine gw_lload C dX8_suspectOf_142 rfl ?_
                    refine gw_lstore C (lo1 := [some (vR 231), some (vI w), some (vL (sME (I 232) ((w).toNat))), none, some (vL (sMN (I 232) ((w).toNat))), none, some (vI fd), some (vL ls), none, some (vI (k : Int)), some (vL (suS (I 232) w.toNat k)), none]) dX8_suspectOf_144 (by decide) rfl ?_
                    refine gw_iinc C (lo1 := [some (vR 231), some (vI w), some (vL (sME (I 232) ((w).toNat))), none, some (vL (sMN (I 232) ((w).toNat))), none, some (vI fd), some (vL ls), none, some (vI ((k : Int) + 1)), some (vL (suS (I 232) w.toNat k)), none]) dX8_suspectOf_146 rfl (by decide) rfl ?_
                    refine gw_goto C (tgt := 39) dX8_suspectOf_149 (by decide) ?_
                    exact gw_weak (lo' := [some (vR 231), some (vI w), some (vL (sME (I 232) ((w).toNat))), none, some (vL (sMN (I 232) ((w).toNat))), none, some (vI fd), some (vL ls), none, some (vI (((k + 1) : Nat) : Int)), none, none]) ⟨rfl, rfl, rfl, rfl, rfl, rfl, congrArg (fun q => some (vI q)) (by omega), trivial⟩ (ih_39 fd ls (k + 1) z_73 (by omega) (by first | (exfalso; omega) | exact su_t hf rfl (by omega) hsu (by omega) | exact su_f hf rfl (by omega)) (by omega))
                  · skip
                    refine gw_if_ge C (tgt := 142) dX8_suspectOf_134 (by decide) ⟨by decide, by decide⟩ (fun _ => ?_) (fun h => absurd h (by decide))
                    refine gw_lload C dX8_suspectOf_142 rfl ?_
                    refine gw_lstore C (lo1 := [some (vR 231), some (vI w), some (vL (sME (I 232) ((w).toNat))), none, some (vL (sMN (I 232) ((w).toNat))), none, some (vI fd), some (vL ls), none, some (vI (k : Int)), some (vL (suS (I 232) w.toNat k)), none]) dX8_suspectOf_144 (by decide) rfl ?_
                    refine gw_iinc C (lo1 := [some (vR 231), some (vI w), some (vL (sME (I 232) ((w).toNat))), none, some (vL (sMN (I 232) ((w).toNat))), none, some (vI fd), some (vL ls), none, some (vI ((k : Int) + 1)), some (vL (suS (I 232) w.toNat k)), none]) dX8_suspectOf_146 rfl (by decide) rfl ?_
                    refine gw_goto C (tgt := 39) dX8_suspectOf_149 (by decide) ?_
                    exact gw_weak (lo' := [some (vR 231), some (vI w), some (vL (sME (I 232) ((w).toNat))), none, some (vL (sMN (I 232) ((w).toNat))), none, some (vI fd), some (vL ls), none, some (vI (((k + 1) : Nat) : Int)), none, none]) ⟨rfl, rfl, rfl, rfl, rfl, rfl, congrArg (fun q => some (vI q)) (by omega), trivial⟩ (ih_39 fd ls (k + 1) z_73 (by omega) (by first | (exfalso; omega) | exact su_t hf rfl (by omega) hsu (by omega) | exact su_f hf rfl (by omega)) (by omega))
                · skip
                  refine gw_if_lt C (tgt := 137) dX8_suspectOf_126 (by decide) ⟨by decide, by decide⟩ (fun h => absurd h (by decide)) (fun _ => ?_)
                  refine gw_lload C dX8_suspectOf_129 rfl ?_
                  refine gw_lload C dX8_suspectOf_131 rfl ?_
                  refine gw_lcmp C dX8_suspectOf_133 (by omega) (by omega) (fun h_133_36 => ?_) (fun h_133_36 => ?_) (fun h_133_36 => ?_)
                  · skip
                    refine gw_if_ge C (tgt := 142) dX8_suspectOf_134 (by decide) ⟨by decide, by decide⟩ (fun h => absurd h (by decide)) (fun _ => ?_)
                    refine gw_lload C dX8_suspectOf_137 rfl ?_
                    refine gw_goto C (tgt := 144) dX8_suspectOf_139 (by decide) ?_
                    refine gw_lstore C (lo1 := [some (vR 231), some (vI w), some (vL (sME (I 232) ((w).toNat))), none, some (vL (sMN (I 232) ((w).toNat))), none, some (vI fd), some (vL (suS (I 232) w.toNat k)), none, some (vI (k : Int)), some (vL (suS (I 232) w.toNat k)), none]) dX8_suspectOf_144 (by decide) rfl ?_
                    refine gw_iinc C (lo1 := [some (vR 231), some (vI w), some (vL (sME (I 232) ((w).toNat))), none, some (vL (sMN (I 232) ((w).toNat))), none, some (vI fd), some (vL (suS (I 232) w.toNat k)), none, some (vI ((k : Int) + 1)), some (vL (suS (I 232) w.toNat k)), none]) dX8_suspectOf_146 rfl (by decide) rfl ?_
                    refine gw_goto C (tgt := 39) dX8_suspectOf_149 (by decide) ?_
                    exact gw_weak (lo' := [some (vR 231), some (vI w), some (vL (sME (I 232) ((w).toNat))), none, some (vL (sMN (I 232) ((w).toNat))), none, some (vI fd), some (vL (suS (I 232) w.toNat k)), none, some (vI (((k + 1) : Nat) : Int)), none, none]) ⟨rfl, rfl, rfl, rfl, rfl, rfl, congrArg (fun q => some (vI q)) (by omega), trivial⟩ (ih_39 fd (suS (I 232) w.toNat k) (k + 1) z_73 (by omega) (by first | (exfalso; omega) | exact su_t hf rfl (by omega) hsu (by omega) | exact su_f hf rfl (by omega)) (by omega))
                  · skip
                    refine gw_if_ge C (tgt := 142) dX8_suspectOf_134 (by decide) ⟨by decide, by decide⟩ (fun _ => ?_) (fun h => absurd h (by decide))
                    refine gw_lload C dX8_suspectOf_142 rfl ?_
                    refine gw_lstore C (lo1 := [some (vR 231), some (vI w), some (vL (sME (I 232) ((w).toNat))), none, some (vL (sMN (I 232) ((w).toNat))), none, some (vI fd), some (vL ls), none, some (vI (k : Int)), some (vL (suS (I 232) w.toNat k)), none]) dX8_suspectOf_144 (by decide) rfl ?_
                    refine gw_iinc C (lo1 := [some (vR 231), some (vI w), some (vL (sME (I 232) ((w).toNat))), none, some (vL (sMN (I 232) ((w).toNat))), none, some (vI fd), some (vL ls), none, some (vI ((k : Int) + 1)), some (vL (suS (I 232) w.toNat k)), none]) dX8_suspectOf_146 rfl (by decide) rfl ?_
                    refine gw_goto C (tgt := 39) dX8_suspectOf_149 (by decide) ?_
                    exact gw_weak (lo' := [some (vR 231), some (vI w), some (vL (sME (I 232) ((w).toNat))), none, some (vL (sMN (I 232) ((w).toNat))), none, some (vI fd), some (vL ls), none, some (vI (((k + 1) : Nat) : Int)), none, none]) ⟨rfl, rfl, rfl, rfl, rfl, rfl, congrArg (fun q => some (vI q)) (by omega), trivial⟩ (ih_39 fd ls (k + 1) z_73 (by omega) (by first | (exfalso; omega) | exact su_t hf rfl (by omega) hsu (by omega) | exact su_f hf rfl (by omega)) (by omega))
                  · skip
                    refine gw_if_ge C (tgt := 142) dX8_suspectOf_134 (by decide) ⟨by decide, by decide⟩ (fun _ => ?_) (fun h => absurd h (by decide))
                    refine gw_lload C dX8_suspectOf_142 rfl ?_
                    refine gw_lstore C (lo1 := [some (vR 231), some (vI w), some (vL (sME (I 232) ((w).toNat))), none, some (vL (sMN (I 232) ((w).toNat))), none, some (vI fd), some (vL ls), none, some (vI (k : Int)), some (vL (suS (I 232) w.toNat k)), none]) dX8_suspectOf_144 (by decide) rfl ?_
                    refine gw_iinc C (lo1 := [some (vR 231), some (vI w), some (vL (sME (I 232) ((w).toNat))), none, some (vL (sMN (I 232) ((w).toNat))), none, some (vI fd), some (vL ls), none, some (vI ((k : Int) + 1)), some (vL (suS (I 232) w.toNat k)), none]) dX8_suspectOf_146 rfl (by decide) rfl ?_
                    refine gw_goto C (tgt := 39) dX8_suspectOf_149 (by decide) ?_
                    exact gw_weak (lo' := [some (vR 231), some (vI w), some (vL (sME (I 232) ((w).toNat))), none, some (vL (sMN (I 232) ((w).toNat))), none, some (vI fd), some (vL ls), none, some (vI (((k + 1) : Nat) : Int)), none, none]) ⟨rfl, rfl, rfl, rfl, rfl, rfl, congrArg (fun q => some (vI q)) (by omega), trivial⟩ (ih_39 fd ls (k + 1) z_73 (by omega) (by first | (exfalso; omega) | exact su_t hf rfl (by omega) hsu (by omega) | exact su_f hf rfl (by omega)) (by omega))
            · skip
              refine gw_if_lt C (tgt := 113) dX8_suspectOf_102 (by decide) ⟨by decide, by decide⟩ (fun h => absurd h (by decide)) (fun _ => ?_)
              refine gw_lload C dX8_suspectOf_105 rfl ?_
              refine gw_lload C dX8_suspectOf_107 rfl ?_
              refine gw_lcmp C dX8_suspectOf_109 (by omega) (by omega) (fun h_109_6 => ?_) (fun h_109_6 => ?_) (fun h_109_6 => ?_)
              · skip
                refine gw_if_ge C (tgt := 118) dX8_suspectOf_110 (by decide) ⟨by decide, by decide⟩ (fun h => absurd h (by decide)) (fun _ => ?_)
                refine gw_iload C dX8_suspectOf_113 rfl ?_
                refine gw_goto C (tgt := 120) dX8_suspectOf_115 (by decide) ?_
                refine gw_istore C (lo1 := [some (vR 231), some (vI w), some (vL (sME (I 232) ((w).toNat))), none, some (vL (sMN (I 232) ((w).toNat))), none, some (vI (k : Int)), some (vL ls), none, some (vI (k : Int)), some (vL (suS (I 232) w.toNat k)), none]) dX8_suspectOf_120 (by decide) rfl ?_
                refine gw_lload C dX8_suspectOf_122 rfl ?_
                refine gw_lconst C 0 dX8_suspectOf_124 (by decide) ?_
                refine gw_lcmp C dX8_suspectOf_125 (by omega) ⟨by decide, by decide⟩ (fun h_125_19 => ?_) (fun h_125_19 => ?_) (fun h_125_19 => ?_)
                · skip
                  refine gw_if_lt C (tgt := 137) dX8_suspectOf_126 (by decide) ⟨by decide, by decide⟩ (fun _ => ?_) (fun h => absurd h (by decide))
                  refine gw_lload C dX8_suspectOf_137 rfl ?_
                  refine gw_goto C (tgt := 144) dX8_suspectOf_139 (by decide) ?_
                  refine gw_lstore C (lo1 := [some (vR 231), some (vI w), some (vL (sME (I 232) ((w).toNat))), none, some (vL (sMN (I 232) ((w).toNat))), none, some (vI (k : Int)), some (vL (suS (I 232) w.toNat k)), none, some (vI (k : Int)), some (vL (suS (I 232) w.toNat k)), none]) dX8_suspectOf_144 (by decide) rfl ?_
                  refine gw_iinc C (lo1 := [some (vR 231), some (vI w), some (vL (sME (I 232) ((w).toNat))), none, some (vL (sMN (I 232) ((w).toNat))), none, some (vI (k : Int)), some (vL (suS (I 232) w.toNat k)), none, some (vI ((k : Int) + 1)), some (vL (suS (I 232) w.toNat k)), none]) dX8_suspectOf_146 rfl (by decide) rfl ?_
                  refine gw_goto C (tgt := 39) dX8_suspectOf_149 (by decide) ?_
                  exact gw_weak (lo' := [some (vR 231), some (vI w), some (vL (sME (I 232) ((w).toNat))), none, some (vL (sMN (I 232) ((w).toNat))), none, some (vI (k : Int)), some (vL (suS (I 232) w.toNat k)), none, some (vI (((k + 1) : Nat) : Int)), none, none]) ⟨rfl, rfl, rfl, rfl, rfl, rfl, congrArg (fun q => some (vI q)) (by omega), trivial⟩ (ih_39 (k : Int) (suS (I 232) w.toNat k) (k + 1) z_73 (by omega) (by first | (exfalso; omega) | exact su_t hf rfl (by omega) hsu (by omega) | exact su_f hf rfl (by omega)) (by omega))
                · skip
                  refine gw_if_lt C (tgt := 137) dX8_suspectOf_126 (by decide) ⟨by decide, by decide⟩ (fun h => absurd h (by decide)) (fun _ => ?_)
                  refine gw_lload C dX8_suspectOf_129 rfl ?_
                  refine gw_lload C dX8_suspectOf_131 rfl ?_
                  refine gw_lcmp C dX8_suspectOf_133 (by omega) (by omega) (fun h_133_37 => ?_) (fun h_133_37 => ?_) (fun h_133_37 => ?_)
                  · skip
                    refine gw_if_ge C (tgt := 142) dX8_suspectOf_134 (by decide) ⟨by decide, by decide⟩ (fun h => absurd h (by decide)) (fun _ => ?_)
                    refine gw_lload C dX8_suspectOf_137 rfl ?_
                    refine gw_goto C (tgt := 144) dX8_suspectOf_139 (by decide) ?_
                    refine gw_lstore C (lo1 := [some (vR 231), some (vI w), some (vL (sME (I 232) ((w).toNat))), none, some (vL (sMN (I 232) ((w).toNat))), none, some (vI (k : Int)), some (vL (suS (I 232) w.toNat k)), none, some (vI (k : Int)), some (vL (suS (I 232) w.toNat k)), none]) dX8_suspectOf_144 (by decide) rfl ?_
                    refine gw_iinc C (lo1 := [some (vR 231), some (vI w), some (vL (sME (I 232) ((w).toNat))), none, some (vL (sMN (I 232) ((w).toNat))), none, some (vI (k : Int)), some (vL (suS (I 232) w.toNat k)), none, some (vI ((k : Int) + 1)), some (vL (suS (I 232) w.toNat k)), none]) dX8_suspectOf_146 rfl (by decide) rfl ?_
                    refine gw_goto C (tgt := 39) dX8_suspectOf_149 (by decide) ?_
                    exact gw_weak (lo' := [some (vR 231), some (vI w), some (vL (sME (I 232) ((w).toNat))), none, some (vL (sMN (I 232) ((w).toNat))), none, some (vI (k : Int)), some (vL (suS (I 232) w.toNat k)), none, some (vI (((k + 1) : Nat) : Int)), none, none]) ⟨rfl, rfl, rfl, rfl, rfl, rfl, congrArg (fun q => some (vI q)) (by omega), trivial⟩ (ih_39 (k : Int) (suS (I 232) w.toNat k) (k + 1) z_73 (by omega) (by first | (exfalso; omega) | exact su_t hf rfl (by omega) hsu (by omega) | exact su_f hf rfl (by omega)) (by omega))
                  · skip
                    refine gw_if_ge C (tgt := 142) dX8_suspectOf_134 (by decide) ⟨by decide, by decide⟩ (fun _ => ?_) (fun h => absurd h (by decide))
                    refine gw_lload C dX8_suspectOf_142 rfl ?_
                    refine gw_lstore C (lo1 := [some (vR 231), some (vI w), some (vL (sME (I 232) ((w).toNat))), none, some (vL (sMN (I 232) ((w).toNat))), none, some (vI (k : Int)), some (vL ls), none, some (vI (k : Int)), some (vL (suS (I 232) w.toNat k)), none]) dX8_suspectOf_144 (by decide) rfl ?_
                    refine gw_iinc C (lo1 := [some (vR 231), some (vI w), some (vL (sME (I 232) ((w).toNat))), none, some (vL (sMN (I 232) ((w).toNat))), none, some (vI (k : Int)), some (vL ls), none, some (vI ((k : Int) + 1)), some (vL (suS (I 232) w.toNat k)), none]) dX8_suspectOf_146 rfl (by decide) rfl ?_
                    refine gw_goto C (tgt := 39) dX8_suspectOf_149 (by decide) ?_
                    exact gw_weak (lo' := [some (vR 231), some (vI w), some (vL (sME (I 232) ((w).toNat))), none, some (vL (sMN (I 232) ((w).toNat))), none, some (vI (k : Int)), some (vL ls), none, some (vI (((k + 1) : Nat) : Int)), none, none]) ⟨rfl, rfl, rfl, rfl, rfl, rfl, congrArg (fun q => some (vI q)) (by omega), trivial⟩ (ih_39 (k : Int) ls (k + 1) z_73 (by omega) (by first | (exfalso; omega) | exact su_t hf rfl (by omega) hsu (by omega) | exact su_f hf rfl (by omega)) (by omega))
                  · skip
                    refine gw_if_ge C (tgt := 142) dX8_suspectOf_134 (by decide) ⟨by decide, by decide⟩ (fun _ => ?_) (fun h => absurd h (by decide))
                    refine gw_lload C dX8_suspectOf_142 rfl ?_
                    refine gw_lstore C (lo1 := [some (vR 231), some (vI w), some (vL (sME (I 232) ((w).toNat))), none, some (vL (sMN (I 232) ((w).toNat))), none, some (vI (k : Int)), some (vL ls), none, some (vI (k : Int)), some (vL (suS (I 232) w.toNat k)), none]) dX8_suspectOf_144 (by decide) rfl ?_
                    refine gw_iinc C (lo1 := [some (vR 231), some (vI w), some (vL (sME (I 232) ((w).toNat))), none, some (vL (sMN (I 232) ((w).toNat))), none, some (vI (k : Int)), some (vL ls), none, some (vI ((k : Int) + 1)), some (vL (suS (I 232) w.toNat k)), none]) dX8_suspectOf_146 rfl (by decide) rfl ?_
                    refine gw_goto C (tgt := 39) dX8_suspectOf_149 (by decide) ?_
                    exact gw_weak (lo' := [some (vR 231), some (vI w), some (vL (sME (I 232) ((w).toNat))), none, some (vL (sMN (I 232) ((w).toNat))), none, some (vI (k : Int)), some (vL ls), none, some (vI (((k + 1) : Nat) : Int)), none, none]) ⟨rfl, rfl, rfl, rfl, rfl, rfl, congrArg (fun q => some (vI q)) (by omega), trivial⟩ (ih_39 (k : Int) ls (k + 1) z_73 (by omega) (by first | (exfalso; omega) | exact su_t hf rfl (by omega) hsu (by omega) | exact su_f hf rfl (by omega)) (by omega))
                · skip
                  refine gw_if_lt C (tgt := 137) dX8_suspectOf_126 (by decide) ⟨by decide, by decide⟩ (fun h => absurd h (by decide)) (fun _ => ?_)
                  refine gw_lload C dX8_suspectOf_129 rfl ?_
                  refine gw_lload C dX8_suspectOf_131 rfl ?_
                  refine gw_lcmp C dX8_suspectOf_133 (by omega) (by omega) (fun h_133_38 => ?_) (fun h_133_38 => ?_) (fun h_133_38 => ?_)
                  · skip
                    refine gw_if_ge C (tgt := 142) dX8_suspectOf_134 (by decide) ⟨by decide, by decide⟩ (fun h => absurd h (by decide)) (fun _ => ?_)
                    refine gw_lload C dX8_suspectOf_137 rfl ?_
                    refine gw_goto C (tgt := 144) dX8_suspectOf_139 (by decide) ?_
                    refine gw_lstore C (lo1 := [some (vR 231), some (vI w), some (vL (sME (I 232) ((w).toNat))), none, some (vL (sMN (I 232) ((w).toNat))), none, some (vI (k : Int)), some (vL (suS (I 232) w.toNat k)), none, some (vI (k : Int)), some (vL (suS (I 232) w.toNat k)), none]) dX8_suspectOf_144 (by decide) rfl ?_
                    refine gw_iinc C (lo1 := [some (vR 231), some (vI w), some (vL (sME (I 232) ((w).toNat))), none, some (vL (sMN (I 232) ((w).toNat))), none, some (vI (k : Int)), some (vL (suS (I 232) w.toNat k)), none, some (vI ((k : Int) + 1)), some (vL (suS (I 232) w.toNat k)), none]) dX8_suspectOf_146 rfl (by decide) rfl ?_
                    refine gw_goto C (tgt := 39) dX8_suspectOf_149 (by decide) ?_
                    exact gw_weak (lo' := [some (vR 231), some (vI w), some (vL (sME (I 232) ((w).toNat))), none, some (vL (sMN (I 232) ((w).toNat))), none, some (vI (k : Int)), some (vL (suS (I 232) w.toNat k)), none, some (vI (((k + 1) : Nat) : Int)), none, none]) ⟨rfl, rfl, rfl, rfl, rfl, rfl, congrArg (fun q => some (vI q)) (by omega), trivial⟩ (ih_39 (k : Int) (suS (I 232) w.toNat k) (k + 1) z_73 (by omega) (by first | (exfalso; omega) | exact su_t hf rfl (by omega) hsu (by omega) | exact su_f hf rfl (by omega)) (by omega))
                  · skip
                    refine gw_if_ge C (tgt := 142) dX8_suspectOf_134 (by decide) ⟨by decide, by decide⟩ (fun _ => ?_) (fun h => absurd h (by decide))
                    refine gw_lload C dX8_suspectOf_142 rfl ?_
                    refine gw_lstore C (lo1 := [some (vR 231), some (vI w), some (vL (sME (I 232) ((w).toNat))), none, some (vL (sMN (I 232) ((w).toNat))), none, some (vI (k : Int)), some (vL ls), none, some (vI (k : Int)), some (vL (suS (I 232) w.toNat k)), none]) dX8_suspectOf_144 (by decide) rfl ?_
                    refine gw_iinc C (lo1 := [some (vR 231), some (vI w), some (vL (sME (I 232) ((w).toNat))), none, some (vL (sMN (I 232) ((w).toNat))), none, some (vI (k : Int)), some (vL ls), none, some (vI ((k : Int) + 1)), some (vL (suS (I 232) w.toNat k)), none]) dX8_suspectOf_146 rfl (by decide) rfl ?_
                    refine gw_goto C (tgt := 39) dX8_suspectOf_149 (by decide) ?_
                    exact gw_weak (lo' := [some (vR 231), some (vI w), some (vL (sME (I 232) ((w).toNat))), none, some (vL (sMN (I 232) ((w).toNat))), none, some (vI (k : Int)), some (vL ls), none, some (vI (((k + 1) : Nat) : Int)), none, none]) ⟨rfl, rfl, rfl, rfl, rfl, rfl, congrArg (fun q => some (vI q)) (by omega), trivial⟩ (ih_39 (k : Int) ls (k + 1) z_73 (by omega) (by first | (exfalso; omega) | exact su_t hf rfl (by omega) hsu (by omega) | exact su_f hf rfl (by omega)) (by omega))
                  · skip
                    refine gw_if_ge C (tgt := 142) dX8_suspectOf_134 (by decide) ⟨by decide, by decide⟩ (fun _ => ?_) (fun h => absurd h (by decide))
                    refine gw_lload C dX8_suspectOf_142 rfl ?_
                    refine gw_lstore C (lo1 := [some (vR 231), some (vI w), some (vL (sME (I 232) ((w).toNat))), none, some (vL (sMN (I 232) ((w).toNat))), none, some (vI (k : Int)), some (vL ls), none, some (vI (k : Int)), some (vL (suS (I 232) w.toNat k)), none]) dX8_suspectOf_144 (by decide) rfl ?_
                    refine gw_iinc C (lo1 := [some (vR 231), some (vI w), some (vL (sME (I 232) ((w).toNat))), none, some (vL (sMN (I 232) ((w).toNat))), none, some (vI (k : Int)), some (vL ls), none, some (vI ((k : Int) + 1)), some (vL (suS (I 232) w.toNat k)), none]) dX8_suspectOf_146 rfl (by decide) rfl ?_
                    refine gw_goto C (tgt := 39) dX8_suspectOf_149 (by decide) ?_
                    exact gw_weak (lo' := [some (vR 231), some (vI w), some (vL (sME (I 232) ((w).toNat))), none, some (vL (sMN (I 232) ((w).toNat))), none, some (vI (k : Int)), some (vL ls), none, some (vI (((k + 1) : Nat) : Int)), none, none]) ⟨rfl, rfl, rfl, rfl, rfl, rfl, congrArg (fun q => some (vI q)) (by omega), trivial⟩ (ih_39 (k : Int) ls (k + 1) z_73 (by omega) (by first | (exfalso; omega) | exact su_t hf rfl (by omega) hsu (by omega) | exact su_f hf rfl (by omega)) (by omega))
              · skip
                refine gw_if_ge C (tgt := 118) dX8_suspectOf_110 (by decide) ⟨by decide, by decide⟩ (fun _ => ?_) (fun h => absurd h (by decide))
                refine gw_iload C dX8_suspectOf_118 rfl ?_
                refine gw_istore C (lo1 := [some (vR 231), some (vI w), some (vL (sME (I 232) ((w).toNat))), none, some (vL (sMN (I 232) ((w).toNat))), none, some (vI fd), some (vL ls), none, some (vI (k : Int)), some (vL (suS (I 232) w.toNat k)), none]) dX8_suspectOf_120 (by decide) rfl ?_
                refine gw_lload C dX8_suspectOf_122 rfl ?_
                refine gw_lconst C 0 dX8_suspectOf_124 (by decide) ?_
                refine gw_lcmp C dX8_suspectOf_125 (by omega) ⟨by decide, by decide⟩ (fun h_125_20 => ?_) (fun h_125_20 => ?_) (fun h_125_20 => ?_)
                · skip
                  refine gw_if_lt C (tgt := 137) dX8_suspectOf_126 (by decide) ⟨by decide, by decide⟩ (fun _ => ?_) (fun h => absurd h (by decide))
                  refine gw_lload C dX8_suspectOf_137 rfl ?_
                  refine gw_goto C (tgt := 144) dX8_suspectOf_139 (by decide) ?_
                  refine gw_lstore C (lo1 := [some (vR 231), some (vI w), some (vL (sME (I 232) ((w).toNat))), none, some (vL (sMN (I 232) ((w).toNat))), none, some (vI fd), some (vL (suS (I 232) w.toNat k)), none, some (vI (k : Int)), some (vL (suS (I 232) w.toNat k)), none]) dX8_suspectOf_144 (by decide) rfl ?_
                  refine gw_iinc C (lo1 := [some (vR 231), some (vI w), some (vL (sME (I 232) ((w).toNat))), none, some (vL (sMN (I 232) ((w).toNat))), none, some (vI fd), some (vL (suS (I 232) w.toNat k)), none, some (vI ((k : Int) + 1)), some (vL (suS (I 232) w.toNat k)), none]) dX8_suspectOf_146 rfl (by decide) rfl ?_
                  refine gw_goto C (tgt := 39) dX8_suspectOf_149 (by decide) ?_
                  exact gw_weak (lo' := [some (vR 231), some (vI w), some (vL (sME (I 232) ((w).toNat))), none, some (vL (sMN (I 232) ((w).toNat))), none, some (vI fd), some (vL (suS (I 232) w.toNat k)), none, some (vI (((k + 1) : Nat) : Int)), none, none]) ⟨rfl, rfl, rfl, rfl, rfl, rfl, congrArg (fun q => some (vI q)) (by omega), trivial⟩ (ih_39 fd (suS (I 232) w.toNat k) (k + 1) z_73 (by omega) (by first | (exfalso; omega) | exact su_t hf rfl (by omega) hsu (by omega) | exact su_f hf rfl (by omega)) (by omega))
                · skip
                  refine gw_if_lt C (tgt := 137) dX8_suspectOf_126 (by decide) ⟨by decide, by decide⟩ (fun h => absurd h (by decide)) (fun _ => ?_)
                  refine gw_lload C dX8_suspectOf_129 rfl ?_
                  refine gw_lload C dX8_suspectOf_131 rfl ?_
                  refine gw_lcmp C dX8_suspectOf_133 (by omega) (by omega) (fun h_133_39 => ?_) (fun h_133_39 => ?_) (fun h_133_39 => ?_)
                  · skip
                    refine gw_if_ge C (tgt := 142) dX8_suspectOf_134 (by decide) ⟨by decide, by decide⟩ (fun h => absurd h (by decide)) (fun _ => ?_)
                    refine gw_lload C dX8_suspectOf_137 rfl ?_
                    refine gw_goto C (tgt := 144) dX8_suspectOf_139 (by decide) ?_
                    refine gw_lstore C (lo1 := [some (vR 231), some (vI w), some (vL (sME (I 232) ((w).toNat))), none, some (vL (sMN (I 232) ((w).toNat))), none, some (vI fd), some (vL (suS (I 232) w.toNat k)), none, some (vI (k : Int)), some (vL (suS (I 232) w.toNat k)), none]) dX8_suspectOf_144 (by decide) rfl ?_
                    refine gw_iinc C (lo1 := [some (vR 231), some (vI w), some (vL (sME (I 232) ((w).toNat))), none, some (vL (sMN (I 232) ((w).toNat))), none, some (vI fd), some (vL (suS (I 232) w.toNat k)), none, some (vI ((k : Int) + 1)), some (vL (suS (I 232) w.toNat k)), none]) dX8_suspectOf_146 rfl (by decide) rfl ?_
                    refine gw_goto C (tgt := 39) dX8_suspectOf_149 (by decide) ?_
                    exact gw_weak (lo' := [some (vR 231), some (vI w), some (vL (sME (I 232) ((w).toNat))), none, some (vL (sMN (I 232) ((w).toNat))), none, some (vI fd), some (vL (suS (I 232) w.toNat k)), none, some (vI (((k + 1) : Nat) : Int)), none, none]) ⟨rfl, rfl, rfl, rfl, rfl, rfl, congrArg (fun q => some (vI q)) (by omega), trivial⟩ (ih_39 fd (suS (I 232) w.toNat k) (k + 1) z_73 (by omega) (by first | (exfalso; omega) | exact su_t hf rfl (by omega) hsu (by omega) | exact su_f hf rfl (by omega)) (by omega))
                  · skip
                    refine gw_if_ge C (tgt := 142) dX8_suspectOf_134 (by decide) ⟨by decide, by decide⟩ (fun _ => ?_) (fun h => absurd h (by decide))
                    refine gw_lload C dX8_suspectOf_142 rfl ?_
                    refine gw_lstore C (lo1 := [some (vR 231), some (vI w), some (vL (sME (I 232) ((w).toNat))), none, some (vL (sMN (I 232) ((w).toNat))), none, some (vI fd), some (vL ls), none, some (vI (k : Int)), some (vL (suS (I 232) w.toNat k)), none]) dX8_suspectOf_144 (by decide) rfl ?_
                    refine gw_iinc C (lo1 := [some (vR 231), some (vI w), some (vL (sME (I 232) ((w).toNat))), none, some (vL (sMN (I 232) ((w).toNat))), none, some (vI fd), some (vL ls), none, some (vI ((k : Int) + 1)), some (vL (suS (I 232) w.toNat k)), none]) dX8_suspectOf_146 rfl (by decide) rfl ?_
                    refine gw_goto C (tgt := 39) dX8_suspectOf_149 (by decide) ?_
                    exact gw_weak (lo' := [some (vR 231), some (vI w), some (vL (sME (I 232) ((w).toNat))), none, some (vL (sMN (I 232) ((w).toNat))), none, some (vI fd), some (vL ls), none, some (vI (((k + 1) : Nat) : Int)), none, none]) ⟨rfl, rfl, rfl, rfl, rfl, rfl, congrArg (fun q => some (vI q)) (by omega), trivial⟩ (ih_39 fd ls (k + 1) z_73 (by omega) (by first | (exfalso; omega) | exact su_t hf rfl (by omega) hsu (by omega) | exact su_f hf rfl (by omega)) (by omega))
                  · skip
                    refine gw_if_ge C (tgt := 142) dX8_suspectOf_134 (by decide) ⟨by decide, by decide⟩ (fun _ => ?_) (fun h => absurd h (by decide))
                    refine gw_lload C dX8_suspectOf_142 rfl ?_
                    refine gw_lstore C (lo1 := [some (vR 231), some (vI w), some (vL (sME (I 232) ((w).toNat))), none, some (vL (sMN (I 232) ((w).toNat))), none, some (vI fd), some (vL ls), none, some (vI (k : Int)), some (vL (suS (I 232) w.toNat k)), none]) dX8_suspectOf_144 (by decide) rfl ?_
                    refine gw_iinc C (lo1 := [some (vR 231), some (vI w), some (vL (sME (I 232) ((w).toNat))), none, some (vL (sMN (I 232) ((w).toNat))), none, some (vI fd), some (vL ls), none, some (vI ((k : Int) + 1)), some (vL (suS (I 232) w.toNat k)), none]) dX8_suspectOf_146 rfl (by decide) rfl ?_
                    refine gw_goto C (tgt := 39) dX8_suspectOf_149 (by decide) ?_
                    exact gw_weak (lo' := [some (vR 231), some (vI w), some (vL (sME (I 232) ((w).toNat))), none, some (vL (sMN (I 232) ((w).toNat))), none, some (vI fd), some (vL ls), none, some (vI (((k + 1) : Nat) : Int)), none, none]) ⟨rfl, rfl, rfl, rfl, rfl, rfl, congrArg (fun q => some (vI q)) (by omega), trivial⟩ (ih_39 fd ls (k + 1) z_73 (by omega) (by first | (exfalso; omega) | exact su_t hf rfl (by omega) hsu (by omega) | exact su_f hf rfl (by omega)) (by omega))
                · skip
                  refine gw_if_lt C (tgt := 137) dX8_suspectOf_126 (by decide) ⟨by decide, by decide⟩ (fun h => absurd h (by decide)) (fun _ => ?_)
                  refine gw_lload C dX8_suspectOf_129 rfl ?_
                  refine gw_lload C dX8_suspectOf_131 rfl ?_
                  refine gw_lcmp C dX8_suspectOf_133 (by omega) (by omega) (fun h_133_40 => ?_) (fun h_133_40 => ?_) (fun h_133_40 => ?_)
                  · skip
                    refine gw_if_ge C (tgt := 142) dX8_suspectOf_134 (by decide) ⟨by decide, by decide⟩ (fun h => absurd h (by decide)) (fun _ => ?_)
                    refine gw_lload C dX8_suspectOf_137 rfl ?_
                    refine gw_goto C (tgt := 144) dX8_suspectOf_139 (by decide) ?_
                    refine gw_lstore C (lo1 := [some (vR 231), some (vI w), some (vL (sME (I 232) ((w).toNat))), none, some (vL (sMN (I 232) ((w).toNat))), none, some (vI fd), some (vL (suS (I 232) w.toNat k)), none, some (vI (k : Int)), some (vL (suS (I 232) w.toNat k)), none]) dX8_suspectOf_144 (by decide) rfl ?_
                    refine gw_iinc C (lo1 := [some (vR 231), some (vI w), some (vL (sME (I 232) ((w).toNat))), none, some (vL (sMN (I 232) ((w).toNat))), none, some (vI fd), some (vL (suS (I 232) w.toNat k)), none, some (vI ((k : Int) + 1)), some (vL (suS (I 232) w.toNat k)), none]) dX8_suspectOf_146 rfl (by decide) rfl ?_
                    refine gw_goto C (tgt := 39) dX8_suspectOf_149 (by decide) ?_
                    exact gw_weak (lo' := [some (vR 231), some (vI w), some (vL (sME (I 232) ((w).toNat))), none, some (vL (sMN (I 232) ((w).toNat))), none, some (vI fd), some (vL (suS (I 232) w.toNat k)), none, some (vI (((k + 1) : Nat) : Int)), none, none]) ⟨rfl, rfl, rfl, rfl, rfl, rfl, congrArg (fun q => some (vI q)) (by omega), trivial⟩ (ih_39 fd (suS (I 232) w.toNat k) (k + 1) z_73 (by omega) (by first | (exfalso; omega) | exact su_t hf rfl (by omega) hsu (by omega) | exact su_f hf rfl (by omega)) (by omega))
                  · skip
                    refine gw_if_ge C (tgt := 142) dX8_suspectOf_134 (by decide) ⟨by decide, by decide⟩ (fun _ => ?_) (fun h => absurd h (by decide))
                    refine gw_lload C dX8_suspectOf_142 rfl ?_
                    refine gw_lstore C (lo1 := [some (vR 231), some (vI w), some (vL (sME (I 232) ((w).toNat))), none, some (vL (sMN (I 232) ((w).toNat))), none, some (vI fd), some (vL ls), none, some (vI (k : Int)), some (vL (suS (I 232) w.toNat k)), none]) dX8_suspectOf_144 (by decide) rfl ?_
                    refine gw_iinc C (lo1 := [some (vR 231), some (vI w), some (vL (sME (I 232) ((w).toNat))), none, some (vL (sMN (I 232) ((w).toNat))), none, some (vI fd), some (vL ls), none, some (vI ((k : Int) + 1)), some (vL (suS (I 232) w.toNat k)), none]) dX8_suspectOf_146 rfl (by decide) rfl ?_
                    refine gw_goto C (tgt := 39) dX8_suspectOf_149 (by decide) ?_
                    exact gw_weak (lo' := [some (vR 231), some (vI w), some (vL (sME (I 232) ((w).toNat))), none, some (vL (sMN (I 232) ((w).toNat))), none, some (vI fd), some (vL ls), none, some (vI (((k + 1) : Nat) : Int)), none, none]) ⟨rfl, rfl, rfl, rfl, rfl, rfl, congrArg (fun q => some (vI q)) (by omega), trivial⟩ (ih_39 fd ls (k + 1) z_73 (by omega) (by first | (exfalso; omega) | exact su_t hf rfl (by omega) hsu (by omega) | exact su_f hf rfl (by omega)) (by omega))
                  · skip
                    refine gw_if_ge C (tgt := 142) dX8_suspectOf_134 (by decide) ⟨by decide, by decide⟩ (fun _ => ?_) (fun h => absurd h (by decide))
                    refine gw_lload C dX8_suspectOf_142 rfl ?_
                    refine gw_lstore C (lo1 := [some (vR 231), some (vI w), some (vL (sME (I 232) ((w).toNat))), none, some (vL (sMN (I 232) ((w).toNat))), none, some (vI fd), some (vL ls), none, some (vI (k : Int)), some (vL (suS (I 232) w.toNat k)), none]) dX8_suspectOf_144 (by decide) rfl ?_
                    refine gw_iinc C (lo1 := [some (vR 231), some (vI w), some (vL (sME (I 232) ((w).toNat))), none, some (vL (sMN (I 232) ((w).toNat))), none, some (vI fd), some (vL ls), none, some (vI ((k : Int) + 1)), some (vL (suS (I 232) w.toNat k)), none]) dX8_suspectOf_146 rfl (by decide) rfl ?_
                    refine gw_goto C (tgt := 39) dX8_suspectOf_149 (by decide) ?_
                    exact gw_weak (lo' := [some (vR 231), some (vI w), some (vL (sME (I 232) ((w).toNat))), none, some (vL (sMN (I 232) ((w).toNat))), none, some (vI fd), some (vL ls), none, some (vI (((k + 1) : Nat) : Int)), none, none]) ⟨rfl, rfl, rfl, rfl, rfl, rfl, congrArg (fun q => some (vI q)) (by omega), trivial⟩ (ih_39 fd ls (k + 1) z_73 (by omega) (by first | (exfalso; omega) | exact su_t hf rfl (by omega) hsu (by omega) | exact su_f hf rfl (by omega)) (by omega))
              · skip
                refine gw_if_ge C (tgt := 118) dX8_suspectOf_110 (by decide) ⟨by decide, by decide⟩ (fun _ => ?_) (fun h => absurd h (by decide))
                refine gw_iload C dX8_suspectOf_118 rfl ?_
                refine gw_istore C (lo1 := [some (vR 231), some (vI w), some (vL (sME (I 232) ((w).toNat))), none, some (vL (sMN (I 232) ((w).toNat))), none, some (vI fd), some (vL ls), none, some (vI (k : Int)), some (vL (suS (I 232) w.toNat k)), none]) dX8_suspectOf_120 (by decide) rfl ?_
                refine gw_lload C dX8_suspectOf_122 rfl ?_
                refine gw_lconst C 0 dX8_suspectOf_124 (by decide) ?_
                refine gw_lcmp C dX8_suspectOf_125 (by omega) ⟨by decide, by decide⟩ (fun h_125_21 => ?_) (fun h_125_21 => ?_) (fun h_125_21 => ?_)
                · skip
                  refine gw_if_lt C (tgt := 137) dX8_suspectOf_126 (by decide) ⟨by decide, by decide⟩ (fun _ => ?_) (fun h => absurd h (by decide))
                  refine gw_lload C dX8_suspectOf_137 rfl ?_
                  refine gw_goto C (tgt := 144) dX8_suspectOf_139 (by decide) ?_
                  refine gw_lstore C (lo1 := [some (vR 231), some (vI w), some (vL (sME (I 232) ((w).toNat))), none, some (vL (sMN (I 232) ((w).toNat))), none, some (vI fd), some (vL (suS (I 232) w.toNat k)), none, some (vI (k : Int)), some (vL (suS (I 232) w.toNat k)), none]) dX8_suspectOf_144 (by decide) rfl ?_
                  refine gw_iinc C (lo1 := [some (vR 231), some (vI w), some (vL (sME (I 232) ((w).toNat))), none, some (vL (sMN (I 232) ((w).toNat))), none, some (vI fd), some (vL (suS (I 232) w.toNat k)), none, some (vI ((k : Int) + 1)), some (vL (suS (I 232) w.toNat k)), none]) dX8_suspectOf_146 rfl (by decide) rfl ?_
                  refine gw_goto C (tgt := 39) dX8_suspectOf_149 (by decide) ?_
                  exact gw_weak (lo' := [some (vR 231), some (vI w), some (vL (sME (I 232) ((w).toNat))), none, some (vL (sMN (I 232) ((w).toNat))), none, some (vI fd), some (vL (suS (I 232) w.toNat k)), none, some (vI (((k + 1) : Nat) : Int)), none, none]) ⟨rfl, rfl, rfl, rfl, rfl, rfl, congrArg (fun q => some (vI q)) (by omega), trivial⟩ (ih_39 fd (suS (I 232) w.toNat k) (k + 1) z_73 (by omega) (by first | (exfalso; omega) | exact su_t hf rfl (by omega) hsu (by omega) | exact su_f hf rfl (by omega)) (by omega))
                · skip
                  refine gw_if_lt C (tgt := 137) dX8_suspectOf_126 (by decide) ⟨by decide, by decide⟩ (fun h => absurd h (by decide)) (fun _ => ?_)
                  refine gw_lload C dX8_suspectOf_129 rfl ?_
                  refine gw_lload C dX8_suspectOf_131 rfl ?_
                  refine gw_lcmp C dX8_suspectOf_133 (by omega) (by omega) (fun h_133_41 => ?_) (fun h_133_41 => ?_) (fun h_133_41 => ?_)
                  · skip
                    refine gw_if_ge C (tgt := 142) dX8_suspectOf_134 (by decide) ⟨by decide, by decide⟩ (fun h => absurd h (by decide)) (fun _ => ?_)
                    refine gw_lload C dX8_suspectOf_137 rfl ?_
                    refine gw_goto C (tgt := 144) dX8_suspectOf_139 (by decide) ?_
                    refine gw_lstore C (lo1 := [some (vR 231), some (vI w), some (vL (sME (I 232) ((w).toNat))), none, some (vL (sMN (I 232) ((w).toNat))), none, some (vI fd), some (vL (suS (I 232) w.toNat k)), none, some (vI (k : Int)), some (vL (suS (I 232) w.toNat k)), none]) dX8_suspectOf_144 (by decide) rfl ?_
                    refine gw_iinc C (lo1 := [some (vR 231), some (vI w), some (vL (sME (I 232) ((w).toNat))), none, some (vL (sMN (I 232) ((w).toNat))), none, some (vI fd), some (vL (suS (I 232) w.toNat k)), none, some (vI ((k : Int) + 1)), some (vL (suS (I 232) w.toNat k)), none]) dX8_suspectOf_146 rfl (by decide) rfl ?_
                    refine gw_goto C (tgt := 39) dX8_suspectOf_149 (by decide) ?_
                    exact gw_weak (lo' := [some (vR 231), some (vI w), some (vL (sME (I 232) ((w).toNat))), none, some (vL (sMN (I 232) ((w).toNat))), none, some (vI fd), some (vL (suS (I 232) w.toNat k)), none, some (vI (((k + 1) : Nat) : Int)), none, none]) ⟨rfl, rfl, rfl, rfl, rfl, rfl, congrArg (fun q => some (vI q)) (by omega), trivial⟩ (ih_39 fd (suS (I 232) w.toNat k) (k + 1) z_73 (by omega) (by first | (exfalso; omega) | exact su_t hf rfl (by omega) hsu (by omega) | exact su_f hf rfl (by omega)) (by omega))
                  · skip
                    refine gw_if_ge C (tgt := 142) dX8_suspectOf_134 (by decide) ⟨by decide, by decide⟩ (fun _ => ?_) (fun h => absurd h (by decide))
                    refine gw_lload C dX8_suspectOf_142 rfl ?_
                    refine gw_lstore C (lo1 := [some (vR 231), some (vI w), some (vL (sME (I 232) ((w).toNat))), none, some (vL (sMN (I 232) ((w).toNat))), none, some (vI fd), some (vL ls), none, some (vI (k : Int)), some (vL (suS (I 232) w.toNat k)), none]) dX8_suspectOf_144 (by decide) rfl ?_
                    refine gw_iinc C (lo1 := [some (vR 231), some (vI w), some (vL (sME (I 232) ((w).toNat))), none, some (vL (sMN (I 232) ((w).toNat))), none, some (vI fd), some (vL ls), none, some (vI ((k : Int) + 1)), some (vL (suS (I 232) w.toNat k)), none]) dX8_suspectOf_146 rfl (by decide) rfl ?_
                    refine gw_goto C (tgt := 39) dX8_suspectOf_149 (by decide) ?_
                    exact gw_weak (lo' := [some (vR 231), some (vI w), some (vL (sME (I 232) ((w).toNat))), none, some (vL (sMN (I 232) ((w).toNat))), none, some (vI fd), some (vL ls), none, some (vI (((k + 1) : Nat) : Int)), none, none]) ⟨rfl, rfl, rfl, rfl, rfl, rfl, congrArg (fun q => some (vI q)) (by omega), trivial⟩ (ih_39 fd ls (k + 1) z_73 (by omega) (by first | (exfalso; omega) | exact su_t hf rfl (by omega) hsu (by omega) | exact su_f hf rfl (by omega)) (by omega))
                  · skip
                    refine gw_if_ge C (tgt := 142) dX8_suspectOf_134 (by decide) ⟨by decide, by decide⟩ (fun _ => ?_) (fun h => absurd h (by decide))
                    refine gw_lload C dX8_suspectOf_142 rfl ?_
                    refine gw_lstore C (lo1 := [some (vR 231), some (vI w), some (vL (sME (I 232) ((w).toNat))), none, some (vL (sMN (I 232) ((w).toNat))), none, some (vI fd), some (vL ls), none, some (vI (k : Int)), some (vL (suS (I 232) w.toNat k)), none]) dX8_suspectOf_144 (by decide) rfl ?_
                    refine gw_iinc C (lo1 := [some (vR 231), some (vI w), some (vL (sME (I 232) ((w).toNat))), none, some (vL (sMN (I 232) ((w).toNat))), none, some (vI fd), some (vL ls), none, some (vI ((k : Int) + 1)), some (vL (suS (I 232) w.toNat k)), none]) dX8_suspectOf_146 rfl (by decide) rfl ?_
                    refine gw_goto C (tgt := 39) dX8_suspectOf_149 (by decide) ?_
                    exact gw_weak (lo' := [some (vR 231), some (vI w), some (vL (sME (I 232) ((w).toNat))), none, some (vL (sMN (I 232) ((w).toNat))), none, some (vI fd), some (vL ls), none, some (vI (((k + 1) : Nat) : Int)), none, none]) ⟨rfl, rfl, rfl, rfl, rfl, rfl, congrArg (fun q => some (vI q)) (by omega), trivial⟩ (ih_39 fd ls (k + 1) z_73 (by omega) (by first | (exfalso; omega) | exact su_t hf rfl (by omega) hsu (by omega) | exact su_f hf rfl (by omega)) (by omega))
                · skip
                  refine gw_if_lt C (tgt := 137) dX8_suspectOf_126 (by decide) ⟨by decide, by decide⟩ (fun h => absurd h (by decide)) (fun _ => ?_)
                  refine gw_lload C dX8_suspectOf_129 rfl ?_
                  refine gw_lload C dX8_suspectOf_131 rfl ?_
                  refine gw_lcmp C dX8_suspectOf_133 (by omega) (by omega) (fun h_133_42 => ?_) (fun h_133_42 => ?_) (fun h_133_42 => ?_)
                  · skip
                    refine gw_if_ge C (tgt := 142) dX8_suspectOf_134 (by decide) ⟨by decide, by decide⟩ (fun h => absurd h (by decide)) (fun _ => ?_)
                    refine gw_lload C dX8_suspectOf_137 rfl ?_
                    refine gw_goto C (tgt := 144) dX8_suspectOf_139 (by decide) ?_
                    refine gw_lstore C (lo1 := [some (vR 231), some (vI w), some (vL (sME (I 232) ((w).toNat))), none, some (vL (sMN (I 232) ((w).toNat))), none, some (vI fd), some (vL (suS (I 232) w.toNat k)), none, some (vI (k : Int)), some (vL (suS (I 232) w.toNat k)), none]) dX8_suspectOf_144 (by decide) rfl ?_
                    refine gw_iinc C (lo1 := [some (vR 231), some (vI w), some (vL (sME (I 232) ((w).toNat))), none, some (vL (sMN (I 232) ((w).toNat))), none, some (vI fd), some (vL (suS (I 232) w.toNat k)), none, some (vI ((k : Int) + 1)), some (vL (suS (I 232) w.toNat k)), none]) dX8_suspectOf_146 rfl (by decide) rfl ?_
                    refine gw_goto C (tgt := 39) dX8_suspectOf_149 (by decide) ?_
                    exact gw_weak (lo' := [some (vR 231), some (vI w), some (vL (sME (I 232) ((w).toNat))), none, some (vL (sMN (I 232) ((w).toNat))), none, some (vI fd), some (vL (suS (I 232) w.toNat k)), none, some (vI (((k + 1) : Nat) : Int)), none, none]) ⟨rfl, rfl, rfl, rfl, rfl, rfl, congrArg (fun q => some (vI q)) (by omega), trivial⟩ (ih_39 fd (suS (I 232) w.toNat k) (k + 1) z_73 (by omega) (by first | (exfalso; omega) | exact su_t hf rfl (by omega) hsu (by omega) | exact su_f hf rfl (by omega)) (by omega))
                  · skip
                    refine gw_if_ge C (tgt := 142) dX8_suspectOf_134 (by decide) ⟨by decide, by decide⟩ (fun _ => ?_) (fun h => absurd h (by decide))
                    refine gw_lload C dX8_suspectOf_142 rfl ?_
                    refine gw_lstore C (lo1 := [some (vR 231), some (vI w), some (vL (sME (I 232) ((w).toNat))), none, some (vL (sMN (I 232) ((w).toNat))), none, some (vI fd), some (vL ls), none, some (vI (k : Int)), some (vL (suS (I 232) w.toNat k)), none]) dX8_suspectOf_144 (by decide) rfl ?_
                    refine gw_iinc C (lo1 := [some (vR 231), some (vI w), some (vL (sME (I 232) ((w).toNat))), none, some (vL (sMN (I 232) ((w).toNat))), none, some (vI fd), some (vL ls), none, some (vI ((k : Int) + 1)), some (vL (suS (I 232) w.toNat k)), none]) dX8_suspectOf_146 rfl (by decide) rfl ?_
                    refine gw_goto C (tgt := 39) dX8_suspectOf_149 (by decide) ?_
                    exact gw_weak (lo' := [some (vR 231), some (vI w), some (vL (sME (I 232) ((w).toNat))), none, some (vL (sMN (I 232) ((w).toNat))), none, some (vI fd), some (vL ls), none, some (vI (((k + 1) : Nat) : Int)), none, none]) ⟨rfl, rfl, rfl, rfl, rfl, rfl, congrArg (fun q => some (vI q)) (by omega), trivial⟩ (ih_39 fd ls (k + 1) z_73 (by omega) (by first | (exfalso; omega) | exact su_t hf rfl (by omega) hsu (by omega) | exact su_f hf rfl (by omega)) (by omega))
                  · skip
                    refine gw_if_ge C (tgt := 142) dX8_suspectOf_134 (by decide) ⟨by decide, by decide⟩ (fun _ => ?_) (fun h => absurd h (by decide))
                    refine gw_lload C dX8_suspectOf_142 rfl ?_
                    refine gw_lstore C (lo1 := [some (vR 231), some (vI w), some (vL (sME (I 232) ((w).toNat))), none, some (vL (sMN (I 232) ((w).toNat))), none, some (vI fd), some (vL ls), none, some (vI (k : Int)), some (vL (suS (I 232) w.toNat k)), none]) dX8_suspectOf_144 (by decide) rfl ?_
                    refine gw_iinc C (lo1 := [some (vR 231), some (vI w), some (vL (sME (I 232) ((w).toNat))), none, some (vL (sMN (I 232) ((w).toNat))), none, some (vI fd), some (vL ls), none, some (vI ((k : Int) + 1)), some (vL (suS (I 232) w.toNat k)), none]) dX8_suspectOf_146 rfl (by decide) rfl ?_
                    refine gw_goto C (tgt := 39) dX8_suspectOf_149 (by decide) ?_
                    exact gw_weak (lo' := [some (vR 231), some (vI w), some (vL (sME (I 232) ((w).toNat))), none, some (vL (sMN (I 232) ((w).toNat))), none, some (vI fd), some (vL ls), none, some (vI (((k + 1) : Nat) : Int)), none, none]) ⟨rfl, rfl, rfl, rfl, rfl, rfl, congrArg (fun q => some (vI q)) (by omega), trivial⟩ (ih_39 fd ls (k + 1) z_73 (by omega) (by first | (exfalso; omega) | exact su_t hf rfl (by omega) hsu (by omega) | exact su_f hf rfl (by omega)) (by omega))
    exact gw_weak (lo' := [some (vR 231), some (vI w), some (vL (sME (I 232) ((w).toNat))), none, some (vL (sMN (I 232) ((w).toNat))), none, some (vI 0), some (vL (-1)), none, some (vI (0 : Int)), none, none]) ⟨rfl, rfl, rfl, rfl, rfl, rfl, congrArg (fun q => some (vI q)) (by omega), trivial⟩ (loop_39 _ 0 (-1) 0 z_22 (by omega) (by exact Or.inl ⟨rfl, rfl, rfl⟩) (Nat.lt_succ_self _))
  · skip
    refine gw_if_ne C (tgt := 11) dX8_suspectOf_5 (by decide) ⟨by decide, by decide⟩ (fun h => absurd h (by decide)) (fun _ => ?_)
    refine gw_ldc C (x := (-2000000000)) dX8_suspectOf_8 kX8_105 (by decide) ?_
    exact gw_iret C (Nat.le_of_ble_eq_true rfl) (Nat.le_of_ble_eq_true rfl) dX8_suspectOf_10 (⟨congrArg (fun q => some (vI q)) (by unfold rSus; first | rw [if_neg (by omega)] | (rw [if_pos (by omega), su_e hf (by omega)]; congr 2; unfold sLg; omega)), rfl, rfl⟩)
set_option maxHeartbeats 4000000 in
set_option maxRecDepth 100000 in
theorem c_X8_infoOf {l : Launch} (hl0 : l.stackTraces = false) (G : GG) (I J : GI) {z : Nat} (ho : Oks (I 232)) (a : Int) (ha : 0 ≤ a ∧ a ≤ 7) : GM l yX8_infoOf (.code yX8_infoOf cX8_infoOf 4 (some .int)) 2 43 0 0 G N0 SH RR [vR 231, vI a] z I J (memQ (some (vI (rInfo (I 232) a))) I J) gNo := by
  refine gm_of (lo0 := [some (vR 231), some (vI a), none, none]) hl0 (by decide) rfl (Nat.le_of_ble_eq_true rfl) ?_
  intro p e s m args below meth c C ht hgi
  have C : gC G p l s m args meth c cX8_infoOf 4 RX8 (some .int) "infoOf" := C
  have h3 := ho.2.1
  have h0 := ho.1
  refine gw_iconst C dX8_infoOf_0 ?_
  refine gw_istore_n C (lo1 := [some (vR 231), some (vI a), some (vI 0), none]) 2 dX8_infoOf_1 rfl (by decide) rfl ?_
  refine gw_iconst C dX8_infoOf_2 ?_
  refine gw_istore_n C (lo1 := [some (vR 231), some (vI a), some (vI 0), some (vI 0)]) 3 dX8_infoOf_3 rfl (by decide) rfl ?_
  have loop_4 : ∀ (fuel : Nat) (u : Int) (k : Nat) (z1 : Nat), ((k : Int) ≤ I 232 5) → ((a = 6 → u = smF k (fun k => I 232 (103 + 28 * k))) ∧ (a ≠ 6 → u = 0)) → (0 ≤ u ∧ u ≤ 12 * (k : Int)) → 5 - k < fuel → GW G p l e ({ frames := 2, cells := 0, slots := 0, locals := 43 } : Room) s m args below meth c 4 z1 N0 SH RR I J 0 0 (vx_MQ below (GQ G N0 SH RR (memQ (some (vI (rInfo (I 232) a))) I J)) (GX G N0 SH RR gNo) args s 0 0 (ge G)) 4 [some (vR 231), some (vI a), some (vI u), some (vI (k : Int))] [] := by
    intro fuel
    induction fuel with
    | zero => intro u k z1 hk hu hub hf_4; exact absurd hf_4 (Nat.not_lt_zero _)
    | succ fuel ih_4 =>
      intro u k z1 hk hu hub hf_4
      refine gw_iload_n C 3 dX8_infoOf_4 rfl rfl ?_
      refine gw_aload_n C 0 dX8_infoOf_5 rfl rfl ?_
      refine gw_getRs (ci := 7) (Cn := RX8) (T0 := TX8) (N := 10) C 232 0 kX8_7 fX8 rfl (by decide) rfl rfl dX8_infoOf_6 xs_231 xn_231 xr_231_0 ?_
      refine gw_iconst C dX8_infoOf_9 ?_
      refine gw_iald C 5 dX8_infoOf_10 xs_232 xn_232 (by omega) (by omega) (by decide) (fun hI_10 => ?_)
      refine gw_icmp_ge C (tgt := 34) dX8_infoOf_11 (by decide) (by first | omega | exact hgi _ _) hI_10 (fun h_11 => ?_) (fun h_11 => ?_)
      · skip
        refine gw_iconst C dX8_infoOf_34 ?_
        refine gw_istore_n C (lo1 := [some (vR 231), some (vI a), some (vI u), some (vI 0)]) 3 dX8_infoOf_35 rfl (by decide) rfl ?_
        have loop_36 : ∀ (fuel : Nat) (u2 : Int) (k2 : Nat) (z2 : Nat), ((k2 : Int) ≤ I 232 3) → ((a = 6 → u2 = smF (I 232 5).toNat (fun k => I 232 (103 + 28 * k))) ∧ (a = 7 → u2 = smF k2 (fun k => I 232 (8 + 12 * k)))) → (0 ≤ u2 ∧ u2 ≤ 48 + 9 * (k2 : Int)) → 7 - k2 < fuel → GW G p l e ({ frames := 2, cells := 0, slots := 0, locals := 43 } : Room) s m args below meth c 4 z2 N0 SH RR I J 0 0 (vx_MQ below (GQ G N0 SH RR (memQ (some (vI (rInfo (I 232) a))) I J)) (GX G N0 SH RR gNo) args s 0 0 (ge G)) 36 [some (vR 231), some (vI a), some (vI u2), some (vI (k2 : Int))] [] := by
          intro fuel
          induction fuel with
          | zero => intro u2 k2 z2 hk2 hu2 hub2 hf_36; exact absurd hf_36 (Nat.not_lt_zero _)
          | succ fuel ih_36 =>
            intro u2 k2 z2 hk2 hu2 hub2 hf_36
            refine gw_iload_n C 3 dX8_infoOf_36 rfl rfl ?_
            refine gw_aload_n C 0 dX8_infoOf_37 rfl rfl ?_
            refine gw_getRs (ci := 7) (Cn := RX8) (T0 := TX8) (N := 10) C 232 0 kX8_7 fX8 rfl (by decide) rfl rfl dX8_infoOf_38 xs_231 xn_231 xr_231_0 ?_
            refine gw_iconst C dX8_infoOf_41 ?_
            refine gw_iald C 3 dX8_infoOf_42 xs_232 xn_232 (by omega) (by omega) (by decide) (fun hI_42 => ?_)
            refine gw_icmp_ge C (tgt := 67) dX8_infoOf_43 (by decide) (by first | omega | exact hgi _ _) hI_42 (fun h_43 => ?_) (fun h_43 => ?_)
            · skip
              refine gw_iload_n C 1 dX8_infoOf_67 rfl rfl ?_
              refine gw_bipush C dX8_infoOf_68 rfl ?_
              refine gw_icmp_ge C (tgt := 82) dX8_infoOf_70 (by decide) (by first | omega | exact hgi _ _) ⟨by decide, by decide⟩ (fun h_70 => ?_) (fun h_70 => ?_)
              · skip
                refine gw_iload_n C 2 dX8_infoOf_82 rfl rfl ?_
                exact gw_iret C (Nat.le_of_ble_eq_true rfl) (Nat.le_of_ble_eq_true rfl) dX8_infoOf_83 (⟨congrArg (fun q => some (vI q)) (by first | exact inf_v (by omega) | (exfalso; omega) | (rcases (show a = 6 ∨ a = 7 by omega) with e | e <;> first | (exfalso; omega) | (unfold rInfo; (repeat (first | rw [if_pos (by omega)] | rw [if_neg (by omega)])); first | done | rw [hu2.1 e] | (rw [hu2.2 e]; congr 1; omega)))), rfl, rfl⟩)
              · skip
                refine gw_aload_n C 0 dX8_infoOf_73 rfl rfl ?_
                refine gw_getRs (ci := 7) (Cn := RX8) (T0 := TX8) (N := 10) C 232 0 kX8_7 fX8 rfl (by decide) rfl rfl dX8_infoOf_74 xs_231 xn_231 xr_231_0 ?_
                refine gw_iload_n C 1 dX8_infoOf_77 rfl rfl ?_
                refine gw_iald C a.toNat dX8_infoOf_78 xs_232 xn_232 (by omega) (by omega) (by decide) (fun hI_78 => ?_)
                refine gw_goto C (tgt := 83) dX8_infoOf_79 (by decide) ?_
                exact gw_iret C (Nat.le_of_ble_eq_true rfl) (Nat.le_of_ble_eq_true rfl) dX8_infoOf_83 (⟨congrArg (fun q => some (vI q)) (by first | exact inf_v (by omega) | (exfalso; omega) | (rcases (show a = 6 ∨ a = 7 by omega) with e | e <;> first | (exfalso; omega) | (unfold rInfo; (repeat (first | rw [if_pos (by omega)] | rw [if_neg (by omega)])); first | done | rw [hu2.1 e] | (rw [hu2.2 e]; congr 1; omega)))), rfl, rfl⟩)
            · skip
              refine gw_iload_n C 1 dX8_infoOf_46 rfl rfl ?_
              refine gw_bipush C dX8_infoOf_47 rfl ?_
              refine gw_icmp_ne C (tgt := 67) dX8_infoOf_49 (by decide) (by first | omega | exact hgi _ _) ⟨by decide, by decide⟩ (fun h_49 => ?_) (fun h_49 => ?_)
              · skip
                refine gw_iload_n C 1 dX8_infoOf_67 rfl rfl ?_
                refine gw_bipush C dX8_infoOf_68 rfl ?_
                refine gw_icmp_ge C (tgt := 82) dX8_infoOf_70 (by decide) (by first | omega | exact hgi _ _) ⟨by decide, by decide⟩ (fun h_70_2 => ?_) (fun h_70_2 => ?_)
                · skip
                  refine gw_iload_n C 2 dX8_infoOf_82 rfl rfl ?_
                  exact gw_iret C (Nat.le_of_ble_eq_true rfl) (Nat.le_of_ble_eq_true rfl) dX8_infoOf_83 (⟨congrArg (fun q => some (vI q)) (by first | exact inf_v (by omega) | (exfalso; omega) | (rcases (show a = 6 ∨ a = 7 by omega) with e | e <;> first | (exfalso; omega) | (unfold rInfo; (repeat (first | rw [if_pos (by omega)] | rw [if_neg (by omega)])); first | done | rw [hu2.1 e] | (rw [hu2.2 e]; congr 1; omega)))), rfl, rfl⟩)
                · skip
                  refine gw_aload_n C 0 dX8_infoOf_73 rfl rfl ?_
                  refine gw_getRs (ci := 7) (Cn := RX8) (T0 := TX8) (N := 10) C 232 0 kX8_7 fX8 rfl (by decide) rfl rfl dX8_infoOf_74 xs_231 xn_231 xr_231_0 ?_
                  refine gw_iload_n C 1 dX8_infoOf_77 rfl rfl ?_
                  refine gw_iald C a.toNat dX8_infoOf_78 xs_232 xn_232 (by omega) (by omega) (by decide) (fun hI_78_2 => ?_)
                  refine gw_goto C (tgt := 83) dX8_infoOf_79 (by decide) ?_
                  exact gw_iret C (Nat.le_of_ble_eq_true rfl) (Nat.le_of_ble_eq_true rfl) dX8_infoOf_83 (⟨congrArg (fun q => some (vI q)) (by first | exact inf_v (by omega) | (exfalso; omega) | (rcases (show a = 6 ∨ a = 7 by omega) with e | e <;> first | (exfalso; omega) | (unfold rInfo; (repeat (first | rw [if_pos (by omega)] | rw [if_neg (by omega)])); first | done | rw [hu2.1 e] | (rw [hu2.2 e]; congr 1; omega)))), rfl, rfl⟩)
              · skip
                refine gw_iload_n C 2 dX8_infoOf_52 rfl rfl ?_
                refine gw_aload_n C 0 dX8_infoOf_53 rfl rfl ?_
                refine gw_iload_n C 3 dX8_infoOf_54 rfl rfl ?_
                refine gw_iconst C dX8_infoOf_55 ?_
                refine gw_callVm C (as := [vI (k2 : Int), vI 2]) (st := [vI u2]) (ci := 7) (T0 := TX8) (N := 10) (c_X8_ofWire hl0 G I J ho (k2 : Int) 2 (by omega)) dX8_infoOf_56 kX8_81 qX8_ofWire hdX8_ofWire ⟨Nat.le_of_ble_eq_true rfl, Nat.le_of_ble_eq_true rfl⟩ ⟨Nat.le_of_ble_eq_true rfl, Nat.le_of_ble_eq_true rfl⟩ (Nat.le_of_ble_eq_true rfl) rfl xs_231 xn_231 rfl (fun z_56 => ?_)
                rw [show (k2 : Int).toNat = k2 from by omega]
                rw [show (2 : Int).toNat = 2 from rfl]
                rw [show I 232 (6 + 12 * k2 + 2) = (I 232 (8 + 12 * k2)) from by first | rfl | (congr 1 <;> omega) | (congr 1; congr 1 <;> omega)]
                have how := okW ho (i := k2) (by omega)
                refine gw_iadd C dX8_infoOf_59 ?_
                refine gw_istore_n C (lo1 := [some (vR 231), some (vI a), some (vI (u2 + (I 232 (8 + 12 * k2)))), some (vI (k2 : Int))]) 2 dX8_infoOf_60 rfl (by decide) rfl ?_
                refine gw_iinc C (lo1 := [some (vR 231), some (vI a), some (vI (u2 + (I 232 (8 + 12 * k2)))), some (vI ((k2 : Int) + 1))]) dX8_infoOf_61 rfl (by decide) rfl ?_
                refine gw_goto C (tgt := 36) dX8_infoOf_64 (by decide) ?_
                exact gw_weak (lo' := [some (vR 231), some (vI a), some (vI (u2 + (I 232 (8 + 12 * k2)))), some (vI (((k2 + 1) : Nat) : Int))]) ⟨rfl, rfl, rfl, congrArg (fun q => some (vI q)) (by omega), trivial⟩ (ih_36 (u2 + (I 232 (8 + 12 * k2))) (k2 + 1) z_56 (by omega) (by refine ⟨fun h => by omega, fun h => ?_⟩; rw [smF_s, ← hu2.2 h]) (by omega) (by omega))
        exact gw_weak (lo' := [some (vR 231), some (vI a), some (vI u), some (vI (0 : Int))]) ⟨rfl, rfl, rfl, congrArg (fun q => some (vI q)) (by omega), trivial⟩ (loop_36 _ u 0 z1 (by omega) (by refine ⟨fun h => ?_, fun h => hu.2 (by omega)⟩; first | (exfalso; omega) | (rw [hu.1 h]; congr 1; omega)) (by omega) (Nat.lt_succ_self _))
      · skip
        refine gw_iload_n C 1 dX8_infoOf_14 rfl rfl ?_
        refine gw_bipush C dX8_infoOf_15 rfl ?_
        refine gw_icmp_ne C (tgt := 34) dX8_infoOf_17 (by decide) (by first | omega | exact hgi _ _) ⟨by decide, by decide⟩ (fun h_17 => ?_) (fun h_17 => ?_)
        · skip
          refine gw_iconst C dX8_infoOf_34 ?_
          refine gw_istore_n C (lo1 := [some (vR 231), some (vI a), some (vI u), some (vI 0)]) 3 dX8_infoOf_35 rfl (by decide) rfl ?_
          have loop_36 : ∀ (fuel : Nat) (u2 : Int) (k2 : Nat) (z2 : Nat), ((k2 : Int) ≤ I 232 3) → ((a = 6 → u2 = smF (I 232 5).toNat (fun k => I 232 (103 + 28 * k))) ∧ (a = 7 → u2 = smF k2 (fun k => I 232 (8 + 12 * k)))) → (0 ≤ u2 ∧ u2 ≤ 48 + 9 * (k2 : Int)) → 7 - k2 < fuel → GW G p l e ({ frames := 2, cells := 0, slots := 0, locals := 43 } : Room) s m args below meth c 4 z2 N0 SH RR I J 0 0 (vx_MQ below (GQ G N0 SH RR (memQ (some (vI (rInfo (I 232) a))) I J)) (GX G N0 SH RR gNo) args s 0 0 (ge G)) 36 [some (vR 231), some (vI a), some (vI u2), some (vI (k2 : Int))] [] := by
            intro fuel
            induction fuel with
            | zero => intro u2 k2 z2 hk2 hu2 hub2 hf_36; exact absurd hf_36 (Nat.not_lt_zero _)
            | succ fuel ih_36 =>
              intro u2 k2 z2 hk2 hu2 hub2 hf_36
              refine gw_iload_n C 3 dX8_infoOf_36 rfl rfl ?_
              refine gw_aload_n C 0 dX8_infoOf_37 rfl rfl ?_
              refine gw_getRs (ci := 7) (Cn := RX8) (T0 := TX8) (N := 10) C 232 0 kX8_7 fX8 rfl (by decide) rfl rfl dX8_infoOf_38 xs_231 xn_231 xr_231_0 ?_
              refine gw_iconst C dX8_infoOf_41 ?_
              refine gw_iald C 3 dX8_infoOf_42 xs_232 xn_232 (by omega) (by omega) (by decide) (fun hI_42_2 => ?_)
              refine gw_icmp_ge C (tgt := 67) dX8_infoOf_43 (by decide) (by first | omega | exact hgi _ _) hI_42_2 (fun h_43_2 => ?_) (fun h_43_2 => ?_)
              · skip
                refine gw_iload_n C 1 dX8_infoOf_67 rfl rfl ?_
                refine gw_bipush C dX8_infoOf_68 rfl ?_
                refine gw_icmp_ge C (tgt := 82) dX8_infoOf_70 (by decide) (by first | omega | exact hgi _ _) ⟨by decide, by decide⟩ (fun h_70_3 => ?_) (fun h_70_3 => ?_)
                · skip
                  refine gw_iload_n C 2 dX8_infoOf_82 rfl rfl ?_
                  exact gw_iret C (Nat.le_of_ble_eq_true rfl) (Nat.le_of_ble_eq_true rfl) dX8_infoOf_83 (⟨congrArg (fun q => some (vI q)) (by first | exact inf_v (by omega) | (exfalso; omega) | (rcases (show a = 6 ∨ a = 7 by omega) with e | e <;> first | (exfalso; omega) | (unfold rInfo; (repeat (first | rw [if_pos (by omega)] | rw [if_neg (by omega)])); first | done | rw [hu2.1 e] | (rw [hu2.2 e]; congr 1; omega)))), rfl, rfl⟩)
                · skip
                  refine gw_aload_n C 0 dX8_infoOf_73 rfl rfl ?_
                  refine gw_getRs (ci := 7) (Cn := RX8) (T0 := TX8) (N := 10) C 232 0 kX8_7 fX8 rfl (by decide) rfl rfl dX8_infoOf_74 xs_231 xn_231 xr_231_0 ?_
                  refine gw_iload_n C 1 dX8_infoOf_77 rfl rfl ?_
                  refine gw_iald C a.toNat dX8_infoOf_78 xs_232 xn_232 (by omega) (by omega) (by decide) (fun hI_78_3 => ?_)
                  refine gw_goto C (tgt := 83) dX8_infoOf_79 (by decide) ?_
                  exact gw_iret C (Nat.le_of_ble_eq_true rfl) (Nat.le_of_ble_eq_true rfl) dX8_infoOf_83 (⟨congrArg (fun q => some (vI q)) (by first | exact inf_v (by omega) | (exfalso; omega) | (rcases (show a = 6 ∨ a = 7 by omega) with e | e <;> first | (exfalso; omega) | (unfold rInfo; (repeat (first | rw [if_pos (by omega)] | rw [if_neg (by omega)])); first | done | rw [hu2.1 e] | (rw [hu2.2 e]; congr 1; omega)))), rfl, rfl⟩)
              · skip
                refine gw_iload_n C 1 dX8_infoOf_46 rfl rfl ?_
                refine gw_bipush C dX8_infoOf_47 rfl ?_
                refine gw_icmp_ne C (tgt := 67) dX8_infoOf_49 (by decide) (by first | omega | exact hgi _ _) ⟨by decide, by decide⟩ (fun h_49_2 => ?_) (fun h_49_2 => ?_)
                · skip
                  refine gw_iload_n C 1 dX8_infoOf_67 rfl rfl ?_
                  refine gw_bipush C dX8_infoOf_68 rfl ?_
                  refine gw_icmp_ge C (tgt := 82) dX8_infoOf_70 (by decide) (by first | omega | exact hgi _ _) ⟨by decide, by decide⟩ (fun h_70_4 => ?_) (fun h_70_4 => ?_)
                  · skip
                    refine gw_iload_n C 2 dX8_infoOf_82 rfl rfl ?_
                    exact gw_iret C (Nat.le_of_ble_eq_true rfl) (Nat.le_of_ble_eq_true rfl) dX8_infoOf_83 (⟨congrArg (fun q => some (vI q)) (by first | exact inf_v (by omega) | (exfalso; omega) | (rcases (show a = 6 ∨ a = 7 by omega) with e | e <;> first | (exfalso; omega) | (unfold rInfo; (repeat (first | rw [if_pos (by omega)] | rw [if_neg (by omega)])); first | done | rw [hu2.1 e] | (rw [hu2.2 e]; congr 1; omega)))), rfl, rfl⟩)
                  · skip
                    refine gw_aload_n C 0 dX8_infoOf_73 rfl rfl ?_
                    refine gw_getRs (ci := 7) (Cn := RX8) (T0 := TX8) (N := 10) C 232 0 kX8_7 fX8 rfl (by decide) rfl rfl dX8_infoOf_74 xs_231 xn_231 xr_231_0 ?_
                    refine gw_iload_n C 1 dX8_infoOf_77 rfl rfl ?_
                    refine gw_iald C a.toNat dX8_infoOf_78 xs_232 xn_232 (by omega) (by omega) (by decide) (fun hI_78_4 => ?_)
                    refine gw_goto C (tgt := 83) dX8_infoOf_79 (by decide) ?_
                    exact gw_iret C (Nat.le_of_ble_eq_true rfl) (Nat.le_of_ble_eq_true rfl) dX8_infoOf_83 (⟨congrArg (fun q => some (vI q)) (by first | exact inf_v (by omega) | (exfalso; omega) | (rcases (show a = 6 ∨ a = 7 by omega) with e | e <;> first | (exfalso; omega) | (unfold rInfo; (repeat (first | rw [if_pos (by omega)] | rw [if_neg (by omega)])); first | done | rw [hu2.1 e] | (rw [hu2.2 e]; congr 1; omega)))), rfl, rfl⟩)
                · skip
                  refine gw_iload_n C 2 dX8_infoOf_52 rfl rfl ?_
                  refine gw_aload_n C 0 dX8_infoOf_53 rfl rfl ?_
                  refine gw_iload_n C 3 dX8_infoOf_54 rfl rfl ?_
                  refine gw_iconst C dX8_infoOf_55 ?_
                  refine gw_callVm C (as := [vI (k2 : Int), vI 2]) (st := [vI u2]) (ci := 7) (T0 := TX8) (N := 10) (c_X8_ofWire hl0 G I J ho (k2 : Int) 2 (by omega)) dX8_infoOf_56 kX8_81 qX8_ofWire hdX8_ofWire ⟨Nat.le_of_ble_eq_true rfl, Nat.le_of_ble_eq_true rfl⟩ ⟨Nat.le_of_ble_eq_true rfl, Nat.le_of_ble_eq_true rfl⟩ (Nat.le_of_ble_eq_true rfl) rfl xs_231 xn_231 rfl (fun z_56_2 => ?_)
                  rw [show (k2 : Int).toNat = k2 from by omega]
                  rw [show (2 : Int).toNat = 2 from rfl]
                  rw [show I 232 (6 + 12 * k2 + 2) = (I 232 (8 + 12 * k2)) from by first | rfl | (congr 1 <;> omega) | (congr 1; congr 1 <;> omega)]
                  have how := okW ho (i := k2) (by omega)
                  refine gw_iadd C dX8_infoOf_59 ?_
                  refine gw_istore_n C (lo1 := [some (vR 231), some (vI a), some (vI (u2 + (I 232 (8 + 12 * k2)))), some (vI (k2 : Int))]) 2 dX8_infoOf_60 rfl (by decide) rfl ?_
                  refine gw_iinc C (lo1 := [some (vR 231), some (vI a), some (vI (u2 + (I 232 (8 + 12 * k2)))), some (vI ((k2 : Int) + 1))]) dX8_infoOf_61 rfl (by decide) rfl ?_
                  refine gw_goto C (tgt := 36) dX8_infoOf_64 (by decide) ?_
                  exact gw_weak (lo' := [some (vR 231), some (vI a), some (vI (u2 + (I 232 (8 + 12 * k2)))), some (vI (((k2 + 1) : Nat) : Int))]) ⟨rfl, rfl, rfl, congrArg (fun q => some (vI q)) (by omega), trivial⟩ (ih_36 (u2 + (I 232 (8 + 12 * k2))) (k2 + 1) z_56_2 (by omega) (by refine ⟨fun h => by omega, fun h => ?_⟩; rw [smF_s, ← hu2.2 h]) (by omega) (by omega))
          exact gw_weak (lo' := [some (vR 231), some (vI a), some (vI u), some (vI (0 : Int))]) ⟨rfl, rfl, rfl, congrArg (fun q => some (vI q)) (by omega), trivial⟩ (loop_36 _ u 0 z1 (by omega) (by refine ⟨fun h => ?_, fun h => hu.2 (by omega)⟩; first | (exfalso; omega) | (rw [hu.1 h]; congr 1; omega)) (by omega) (Nat.lt_succ_self _))
        · skip
          refine gw_iload_n C 2 dX8_infoOf_20 rfl rfl ?_
          refine gw_aload_n C 0 dX8_infoOf_21 rfl rfl ?_
          refine gw_iload_n C 3 dX8_infoOf_22 rfl rfl ?_
          refine gw_callVm C (as := [vI (k : Int)]) (st := [vI u]) (ci := 7) (T0 := TX8) (N := 10) (c_X8_legs hl0 G I J ho (k : Int) (by omega)) dX8_infoOf_23 kX8_77 qX8_legs hdX8_legs ⟨Nat.le_of_ble_eq_true rfl, Nat.le_of_ble_eq_true rfl⟩ ⟨Nat.le_of_ble_eq_true rfl, Nat.le_of_ble_eq_true rfl⟩ (Nat.le_of_ble_eq_true rfl) rfl xs_231 xn_231 rfl (fun z_23 => ?_)
          rw [show (k : Int).toNat = k from by omega]
          have hot := okT ho (t := k) (by omega)
          refine gw_iadd C dX8_infoOf_26 ?_
          refine gw_istore_n C (lo1 := [some (vR 231), some (vI a), some (vI (u + (I 232 (103 + 28 * k)))), some (vI (k : Int))]) 2 dX8_infoOf_27 rfl (by decide) rfl ?_
          refine gw_iinc C (lo1 := [some (vR 231), some (vI a), some (vI (u + (I 232 (103 + 28 * k)))), some (vI ((k : Int) + 1))]) dX8_infoOf_28 rfl (by decide) rfl ?_
          refine gw_goto C (tgt := 4) dX8_infoOf_31 (by decide) ?_
          exact gw_weak (lo' := [some (vR 231), some (vI a), some (vI (u + (I 232 (103 + 28 * k)))), some (vI (((k + 1) : Nat) : Int))]) ⟨rfl, rfl, rfl, congrArg (fun q => some (vI q)) (by omega), trivial⟩ (ih_4 (u + (I 232 (103 + 28 * k))) (k + 1) z_23 (by omega) (by refine ⟨fun h => ?_, fun h => by omega⟩; rw [smF_s, ← hu.1 h]) (by omega) (by omega))
  exact gw_weak (lo' := [some (vR 231), some (vI a), some (vI 0), some (vI (0 : Int))]) ⟨rfl, rfl, rfl, congrArg (fun q => some (vI q)) (by omega), trivial⟩ (loop_4 _ 0 0 z (by omega) (by exact ⟨fun _ => rfl, fun _ => rfl⟩) (by omega) (Nat.lt_succ_self _))
