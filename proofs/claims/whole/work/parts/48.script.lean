def ffF (T : Nat → Int) : Nat → Nat → Int → Int → Int
  | 0, i, d, _ => if d = 0 then -2000000000 else (i : Int)
  | r + 1, i, d, g => if d = 0 then (if numZ (T i) = 0 then (i : Int) else ffF T r (i + 1) (numZ (T i)) g) else if 48 ≤ T i ∧ T i ≤ 57 then (if 7 < g + 1 then (i : Int) else ffF T r (i + 1) d (g + 1)) else if g = 0 ∨ ¬ ((1 < d ∧ T i = 44) ∨ (d ≤ 1 ∧ T i = 59)) then (i : Int) else ffF T r (i + 1) (d + (-1)) 0
theorem ffF_0 {T : Nat → Int} {i : Nat} {d g : Int} : ffF T 0 i d g = if d = 0 then -2000000000 else (i : Int) := rfl
theorem ffF_s {T : Nat → Int} {r i : Nat} {d g : Int} : ffF T (r + 1) i d g = if d = 0 then (if numZ (T i) = 0 then (i : Int) else ffF T r (i + 1) (numZ (T i)) g) else if 48 ≤ T i ∧ T i ≤ 57 then (if 7 < g + 1 then (i : Int) else ffF T r (i + 1) d (g + 1)) else if g = 0 ∨ ¬ ((1 < d ∧ T i = 44) ∨ (d ≤ 1 ∧ T i = 59)) then (i : Int) else ffF T r (i + 1) (d + (-1)) 0 := rfl
theorem numZ_b (c : Int) : 0 ≤ numZ c ∧ numZ c ≤ 3 := by
  unfold numZ
  split
  · omega
  · split
    · omega
    · split <;> omega
def stF (I : GI) (c : Int) : GI := up (up (up (up (up I 228 1 c) 228 3 0) 229 0 0) 229 1 0) 229 2 0
def ecF (I : GI) (k : Nat) : GI := if I 230 k = 44 then up I 228 3 (I 228 3 + 1) else if 48 ≤ I 230 k ∧ I 230 k ≤ 57 then (if 0 ≤ I 228 3 ∧ I 228 3 < 3 then up I 229 (I 228 3).toNat (10 * I 229 (I 228 3).toNat + (I 230 k - 48)) else I) else if I 230 k ≠ 59 then stF I (I 230 k) else I
set_option maxHeartbeats 4000000 in
set_option maxRecDepth 100000 in
theorem c_X4_append {l : Launch} (hl0 : l.stackTraces = false) (G : GG) (I J : GI) {z : Nat} (x : Int) (hx : 0 ≤ x ∧ x < 65536) (hn : 0 ≤ I 228 0 ∧ I 228 0 < 90) : GM l yX4_append (.code yX4_append cX4_append 2 (some .int)) 0 0 0 0 G N0 SH RR [vR 228, vI x] z I J (memQ (some (vI (I 228 0 + 1))) (up (up I 230 (I 228 0).toNat x) 228 0 (I 228 0 + 1)) J) gNo := by
  refine gm_of (lo0 := [some (vR 228), some (vI x)]) hl0 (by decide) rfl (Nat.le_of_ble_eq_true rfl) ?_
  intro p e s m args below meth c C ht hgi
  have C : gC G p l s m args meth c cX4_append 2 RX4 (some .int) "append" := C
  refine gw_aload_n C 0 dX4_append_0 rfl rfl ?_
  refine gw_getI (ci := 3) (Cn := RX4) (T0 := TX4) (N := 5) C 0 kX4_19 fX4 rfl (by decide) rfl rfl dX4_append_1 xs_228 xn_228 (fun hI_1 => ?_)
  refine gw_if_lt C (tgt := 39) dX4_append_4 (by decide) hI_1 (fun h => absurd h (by omega)) (fun _ => ?_)
  refine gw_aload_n C 0 dX4_append_7 rfl rfl ?_
  refine gw_getI (ci := 3) (Cn := RX4) (T0 := TX4) (N := 5) C 0 kX4_19 fX4 rfl (by decide) rfl rfl dX4_append_8 xs_228 xn_228 (fun hI_8 => ?_)
  refine gw_aload_n C 0 dX4_append_11 rfl rfl ?_
  refine gw_getRs (ci := 3) (Cn := RX4) (T0 := TX4) (N := 5) C 230 4 kX4_15 fX4 rfl (by decide) rfl rfl dX4_append_12 xs_228 xn_228 xr_228_4 ?_
  refine gw_alen C (t := 2) dX4_append_15 rfl xs_230 xn_230 ?_
  refine gw_icmp_ge C (tgt := 39) dX4_append_16 (by decide) hI_8 ⟨by decide, by decide⟩ (fun h => absurd h (by omega)) (fun _ => ?_)
  refine gw_aload_n C 0 dX4_append_19 rfl rfl ?_
  refine gw_getRs (ci := 3) (Cn := RX4) (T0 := TX4) (N := 5) C 230 4 kX4_15 fX4 rfl (by decide) rfl rfl dX4_append_20 xs_228 xn_228 xr_228_4 ?_
  refine gw_aload_n C 0 dX4_append_23 rfl rfl ?_
  refine gw_getI (ci := 3) (Cn := RX4) (T0 := TX4) (N := 5) C 0 kX4_19 fX4 rfl (by decide) rfl rfl dX4_append_24 xs_228 xn_228 (fun hI_24 => ?_)
  refine gw_iload_n C 1 dX4_append_27 rfl rfl ?_
  refine gw_cast C (((I 228 0)).toNat) dX4_append_28 xs_230 xn_230 (by omega) (by omega) (by decide) (by omega) ?_
  refine gw_aload_n C 0 dX4_append_29 rfl rfl ?_
  refine gw_dupR C dX4_append_30 ?_
  refine gw_getI (ci := 3) (Cn := RX4) (T0 := TX4) (N := 5) C 0 kX4_19 fX4 rfl (by decide) rfl rfl dX4_append_31 xs_228 xn_228 (fun hI_31 => ?_)
  rw [show ((up I 230 (((I 228 0)).toNat) x) 228 0) = (I 228 0) from by (repeat (first | rw [up_eq] | rw [up_ne (by decide)] | rw [up_ne2 (by first | decide | omega)]))] at hI_31 ⊢
  refine gw_iconst C dX4_append_34 ?_
  refine gw_iadd C dX4_append_35 ?_
  refine gw_putI (ci := 3) (Cn := RX4) (T0 := TX4) (N := 5) C (ty := .int) 0 kX4_19 fX4 rfl (by decide) rfl rfl tyX4 tyX4_ok nmX4 rfl (by decide) rfl rfl (by omega) dX4_append_36 xs_228 xn_228 ?_
  refine gw_aload_n C 0 dX4_append_39 rfl rfl ?_
  refine gw_getI (ci := 3) (Cn := RX4) (T0 := TX4) (N := 5) C 0 kX4_19 fX4 rfl (by decide) rfl rfl dX4_append_40 xs_228 xn_228 (fun hI_40 => ?_)
  rw [show ((up (up I 230 (((I 228 0)).toNat) x) 228 0 ((I 228 0) + 1)) 228 0) = ((I 228 0) + 1) from by (repeat (first | rw [up_eq] | rw [up_ne (by decide)] | rw [up_ne2 (by first | decide | omega)]))] at hI_40 ⊢
  exact gw_iret C (Nat.le_of_ble_eq_true rfl) (Nat.le_of_ble_eq_true rfl) dX4_append_43 (⟨rfl, rfl, rfl⟩)
set_option maxHeartbeats 4000000 in
set_option maxRecDepth 100000 in
theorem c_X4_empty {l : Launch} (hl0 : l.stackTraces = false) (G : GG) (I J : GI) {z : Nat} : GM l yX4_empty (.code yX4_empty cX4_empty 2 (some .int)) 0 0 0 0 G N0 SH RR [vR 228] z I J (memQ (some (vI (I 228 0))) (up I 228 0 0) J) gNo := by
  refine gm_of (lo0 := [some (vR 228), none]) hl0 (by decide) rfl (Nat.le_of_ble_eq_true rfl) ?_
  intro p e s m args below meth c C ht hgi
  have C : gC G p l s m args meth c cX4_empty 2 RX4 (some .int) "empty" := C
  refine gw_aload_n C 0 dX4_empty_0 rfl rfl ?_
  refine gw_getI (ci := 3) (Cn := RX4) (T0 := TX4) (N := 5) C 0 kX4_19 fX4 rfl (by decide) rfl rfl dX4_empty_1 xs_228 xn_228 (fun hI_1 => ?_)
  refine gw_istore_n C (lo1 := [some (vR 228), some (vI (I 228 0))]) 1 dX4_empty_4 rfl (by decide) rfl ?_
  refine gw_aload_n C 0 dX4_empty_5 rfl rfl ?_
  refine gw_iconst C dX4_empty_6 ?_
  refine gw_putI (ci := 3) (Cn := RX4) (T0 := TX4) (N := 5) C (ty := .int) 0 kX4_19 fX4 rfl (by decide) rfl rfl tyX4 tyX4_ok nmX4 rfl (by decide) rfl rfl ⟨by decide, by decide⟩ dX4_empty_7 xs_228 xn_228 ?_
  refine gw_iload_n C 1 dX4_empty_10 rfl rfl ?_
  exact gw_iret C (Nat.le_of_ble_eq_true rfl) (Nat.le_of_ble_eq_true rfl) dX4_empty_11 (⟨rfl, rfl, rfl⟩)
set_option maxHeartbeats 4000000 in
set_option maxRecDepth 100000 in
theorem c_X4_firstFault {l : Launch} (hl0 : l.stackTraces = false) (G : GG) (I J : GI) {z : Nat} (hn : 0 ≤ I 228 0 ∧ I 228 0 ≤ 90) : GM l yX4_firstFault (.code yX4_firstFault cX4_firstFault 5 (some .int)) 1 20 0 0 G N0 SH RR [vR 228] z I J (memQ (some (vI (ffF (I 230) (I 228 0).toNat 0 0 0))) I J) gNo := by
  refine gm_of (lo0 := [some (vR 228), none, none, none, none]) hl0 (by decide) rfl (Nat.le_of_ble_eq_true rfl) ?_
  intro p e s m args below meth c C ht hgi
  have C : gC G p l s m args meth c cX4_firstFault 5 RX4 (some .int) "firstFault" := C
  obtain ⟨n, hn1⟩ : ∃ n : Nat, I 228 0 = (n : Int) := ⟨(I 228 0).toNat, by omega⟩
  have hn2 : (I 228 0).toNat = n := by omega
  refine gw_iconst C dX4_firstFault_0 ?_
  refine gw_istore_n C (lo1 := [some (vR 228), some (vI 0), none, none, none]) 1 dX4_firstFault_1 rfl (by decide) rfl ?_
  refine gw_iconst C dX4_firstFault_2 ?_
  refine gw_istore_n C (lo1 := [some (vR 228), some (vI 0), some (vI 0), none, none]) 2 dX4_firstFault_3 rfl (by decide) rfl ?_
  refine gw_iconst C dX4_firstFault_4 ?_
  refine gw_istore_n C (lo1 := [some (vR 228), some (vI 0), some (vI 0), some (vI 0), none]) 3 dX4_firstFault_5 rfl (by decide) rfl ?_
  have loop_6 : ∀ (fuel : Nat) (due : Int) (dig : Int) (i : Nat) (z1 : Nat), (i ≤ n) → (0 ≤ due ∧ due ≤ 3) → (0 ≤ dig ∧ dig ≤ 7) → (ffF (I 230) (n - i) i due dig = ffF (I 230) n 0 0 0) → n - i < fuel → GW G p l e ({ frames := 1, cells := 0, slots := 0, locals := 20 } : Room) s m args below meth c 5 z1 N0 SH RR I J 0 0 (vx_MQ below (GQ G N0 SH RR (memQ (some (vI (ffF (I 230) (I 228 0).toNat 0 0 0))) I J)) (GX G N0 SH RR gNo) args s 0 0 (ge G)) 6 [some (vR 228), some (vI due), some (vI dig), some (vI (i : Int)), none] [] := by
    intro fuel
    induction fuel with
    | zero => intro due dig i z1 hi hd hg hE hf_6; exact absurd hf_6 (Nat.not_lt_zero _)
    | succ fuel ih_6 =>
      intro due dig i z1 hi hd hg hE hf_6
      refine gw_iload_n C 3 dX4_firstFault_6 rfl rfl ?_
      refine gw_aload_n C 0 dX4_firstFault_7 rfl rfl ?_
      refine gw_getI (ci := 3) (Cn := RX4) (T0 := TX4) (N := 5) C 0 kX4_19 fX4 rfl (by decide) rfl rfl dX4_firstFault_8 xs_228 xn_228 (fun hI_8 => ?_)
      refine gw_icmp_ge C (tgt := 100) dX4_firstFault_11 (by decide) (by omega) hI_8 (fun h_11 => ?_) (fun h_11 => ?_)
      · skip
        refine gw_iload_n C 1 dX4_firstFault_100 rfl rfl ?_
        refine gw_if_ne C (tgt := 109) dX4_firstFault_101 (by decide) (by omega) (fun h_101 => ?_) (fun h_101 => ?_)
        · skip
          refine gw_aload_n C 0 dX4_firstFault_109 rfl rfl ?_
          refine gw_getI (ci := 3) (Cn := RX4) (T0 := TX4) (N := 5) C 0 kX4_19 fX4 rfl (by decide) rfl rfl dX4_firstFault_110 xs_228 xn_228 (fun hI_110 => ?_)
          exact gw_iret C (Nat.le_of_ble_eq_true rfl) (Nat.le_of_ble_eq_true rfl) dX4_firstFault_113 (⟨congrArg (fun q => some (vI q)) (by rw [hn2, ← hE, show n - i = 0 by omega, ffF_0]; first | rw [if_pos (by omega)] | (rw [if_neg (by omega)]; omega)), rfl, rfl⟩)
        · skip
          refine gw_ldc C (x := (-2000000000)) dX4_firstFault_104 kX4_31 (by decide) ?_
          refine gw_goto C (tgt := 113) dX4_firstFault_106 (by decide) ?_
          exact gw_iret C (Nat.le_of_ble_eq_true rfl) (Nat.le_of_ble_eq_true rfl) dX4_firstFault_113 (⟨congrArg (fun q => some (vI q)) (by rw [hn2, ← hE, show n - i = 0 by omega, ffF_0]; first | rw [if_pos (by omega)] | (rw [if_neg (by omega)]; omega)), rfl, rfl⟩)
      · skip
        refine gw_iload_n C 3 dX4_firstFault_14 rfl rfl ?_
        refine gw_aload_n C 0 dX4_firstFault_15 rfl rfl ?_
        refine gw_getRs (ci := 3) (Cn := RX4) (T0 := TX4) (N := 5) C 230 4 kX4_15 fX4 rfl (by decide) rfl rfl dX4_firstFault_16 xs_228 xn_228 xr_228_4 ?_
        refine gw_alen C (t := 2) dX4_firstFault_19 rfl xs_230 xn_230 ?_
        refine gw_icmp_ge C (tgt := 100) dX4_firstFault_20 (by decide) (by omega) ⟨by decide, by decide⟩ (fun h => absurd h (by omega)) (fun _ => ?_)
        have e := ffF_s (T := I 230) (r := n - i - 1) (i := i) (d := due) (g := dig)
        rw [show n - i - 1 + 1 = n - i by omega, hE] at e
        refine gw_aload_n C 0 dX4_firstFault_23 rfl rfl ?_
        refine gw_getRs (ci := 3) (Cn := RX4) (T0 := TX4) (N := 5) C 230 4 kX4_15 fX4 rfl (by decide) rfl rfl dX4_firstFault_24 xs_228 xn_228 xr_228_4 ?_
        refine gw_iload_n C 3 dX4_firstFault_27 rfl rfl ?_
        refine gw_cald C i dX4_firstFault_28 xs_230 xn_230 (by omega) (by omega) (by decide) (fun hI_28 => ?_)
        refine gw_istore C (lo1 := [some (vR 228), some (vI due), some (vI dig), some (vI (i : Int)), some (vI (I 230 i))]) dX4_firstFault_29 (by decide) rfl ?_
        refine gw_iload_n C 1 dX4_firstFault_31 rfl rfl ?_
        refine gw_if_ne C (tgt := 47) dX4_firstFault_32 (by decide) (by omega) (fun h_32 => ?_) (fun h_32 => ?_)
        · skip
          refine gw_iload C dX4_firstFault_47 rfl ?_
          refine gw_callSb C (as := [vI (I 230 i)]) (st := []) (c_X4_isDigit hl0 G (I 230 i) hI_28) dX4_firstFault_49 kX4_27 qX4_isDigit hdX4_isDigit ⟨Nat.le_of_ble_eq_true rfl, Nat.le_of_ble_eq_true rfl⟩ ⟨Nat.le_of_ble_eq_true rfl, Nat.le_of_ble_eq_true rfl⟩ (Nat.le_of_ble_eq_true rfl) rfl (fun h_49 z_49 => ?_) (fun h_49 z_49 => ?_)
          · skip
            refine gw_if_eq C (tgt := 66) dX4_firstFault_52 (by decide) ⟨by decide, by decide⟩ (fun h => absurd h (by decide)) (fun _ => ?_)
            refine gw_iinc C (lo1 := [some (vR 228), some (vI due), some (vI (dig + 1)), some (vI (i : Int)), some (vI (I 230 i))]) dX4_firstFault_55 rfl (by decide) rfl ?_
            refine gw_iload_n C 2 dX4_firstFault_58 rfl rfl ?_
            refine gw_bipush C dX4_firstFault_59 rfl ?_
            refine gw_icmp_le C (tgt := 94) dX4_firstFault_61 (by decide) (by omega) ⟨by decide, by decide⟩ (fun h_61 => ?_) (fun h_61 => ?_)
            · skip
              refine gw_iinc C (lo1 := [some (vR 228), some (vI due), some (vI (dig + 1)), some (vI ((i : Int) + 1)), some (vI (I 230 i))]) dX4_firstFault_94 rfl (by decide) rfl ?_
              refine gw_goto C (tgt := 6) dX4_firstFault_97 (by decide) ?_
              exact gw_weak (lo' := [some (vR 228), some (vI due), some (vI (dig + 1)), some (vI (((i + 1) : Nat) : Int)), none]) ⟨rfl, rfl, rfl, congrArg (fun q => some (vI q)) (by omega), trivial⟩ (ih_6 due (dig + 1) (i + 1) z_49 (by omega) (by omega) (by omega) (by (repeat (first | rw [if_pos (by omega)] at e | rw [if_neg (by omega)] at e)); rw [show n - (i + 1) = n - i - 1 by omega]; exact e.symm) (by omega))
            · skip
              refine gw_iload_n C 3 dX4_firstFault_64 rfl rfl ?_
              exact gw_iret C (Nat.le_of_ble_eq_true rfl) (Nat.le_of_ble_eq_true rfl) dX4_firstFault_65 (⟨congrArg (fun q => some (vI q)) (by rw [hn2]; (repeat (first | rw [if_pos (by omega)] at e | rw [if_neg (by omega)] at e)); omega), rfl, rfl⟩)
          · skip
            refine gw_if_eq C (tgt := 66) dX4_firstFault_52 (by decide) ⟨by decide, by decide⟩ (fun _ => ?_) (fun h => absurd h (by decide))
            refine gw_iload_n C 2 dX4_firstFault_66 rfl rfl ?_
            refine gw_if_eq C (tgt := 87) dX4_firstFault_67 (by decide) (by omega) (fun h_67 => ?_) (fun h_67 => ?_)
            · skip
              refine gw_iload_n C 3 dX4_firstFault_87 rfl rfl ?_
              exact gw_iret C (Nat.le_of_ble_eq_true rfl) (Nat.le_of_ble_eq_true rfl) dX4_firstFault_88 (⟨congrArg (fun q => some (vI q)) (by rw [hn2]; (repeat (first | rw [if_pos (by omega)] at e | rw [if_neg (by omega)] at e)); omega), rfl, rfl⟩)
            · skip
              refine gw_iload C dX4_firstFault_70 rfl ?_
              refine gw_iload_n C 1 dX4_firstFault_72 rfl rfl ?_
              refine gw_iconst C dX4_firstFault_73 ?_
              refine gw_icmp_le C (tgt := 82) dX4_firstFault_74 (by decide) (by omega) ⟨by decide, by decide⟩ (fun h_74 => ?_) (fun h_74 => ?_)
              · skip
                refine gw_bipush C dX4_firstFault_82 rfl ?_
                refine gw_icmp_eq C (tgt := 89) dX4_firstFault_84 (by decide) hI_28 ⟨by decide, by decide⟩ (fun h_84 => ?_) (fun h_84 => ?_)
                · skip
                  refine gw_iinc C (lo1 := [some (vR 228), some (vI (due + (-1))), some (vI dig), some (vI (i : Int)), some (vI (I 230 i))]) dX4_firstFault_89 rfl (by decide) rfl ?_
                  refine gw_iconst C dX4_firstFault_92 ?_
                  refine gw_istore_n C (lo1 := [some (vR 228), some (vI (due + (-1))), some (vI 0), some (vI (i : Int)), some (vI (I 230 i))]) 2 dX4_firstFault_93 rfl (by decide) rfl ?_
                  refine gw_iinc C (lo1 := [some (vR 228), some (vI (due + (-1))), some (vI 0), some (vI ((i : Int) + 1)), some (vI (I 230 i))]) dX4_firstFault_94 rfl (by decide) rfl ?_
                  refine gw_goto C (tgt := 6) dX4_firstFault_97 (by decide) ?_
                  exact gw_weak (lo' := [some (vR 228), some (vI (due + (-1))), some (vI 0), some (vI (((i + 1) : Nat) : Int)), none]) ⟨rfl, rfl, rfl, congrArg (fun q => some (vI q)) (by omega), trivial⟩ (ih_6 (due + (-1)) 0 (i + 1) z_49 (by omega) (by omega) (by omega) (by (repeat (first | rw [if_pos (by omega)] at e | rw [if_neg (by omega)] at e)); rw [show n - (i + 1) = n - i - 1 by omega]; exact e.symm) (by omega))
                · skip
                  refine gw_iload_n C 3 dX4_firstFault_87 rfl rfl ?_
                  exact gw_iret C (Nat.le_of_ble_eq_true rfl) (Nat.le_of_ble_eq_true rfl) dX4_firstFault_88 (⟨congrArg (fun q => some (vI q)) (by rw [hn2]; (repeat (first | rw [if_pos (by omega)] at e | rw [if_neg (by omega)] at e)); omega), rfl, rfl⟩)
              · skip
                refine gw_bipush C dX4_firstFault_77 rfl ?_
                refine gw_goto C (tgt := 84) dX4_firstFault_79 (by decide) ?_
                refine gw_icmp_eq C (tgt := 89) dX4_firstFault_84 (by decide) hI_28 ⟨by decide, by decide⟩ (fun h_84_2 => ?_) (fun h_84_2 => ?_)
                · skip
                  refine gw_iinc C (lo1 := [some (vR 228), some (vI (due + (-1))), some (vI dig), some (vI (i : Int)), some (vI (I 230 i))]) dX4_firstFault_89 rfl (by decide) rfl ?_
                  refine gw_iconst C dX4_firstFault_92 ?_
                  refine gw_istore_n C (lo1 := [some (vR 228), some (vI (due + (-1))), some (vI 0), some (vI (i : Int)), some (vI (I 230 i))]) 2 dX4_firstFault_93 rfl (by decide) rfl ?_
                  refine gw_iinc C (lo1 := [some (vR 228), some (vI (due + (-1))), some (vI 0), some (vI ((i : Int) + 1)), some (vI (I 230 i))]) dX4_firstFault_94 rfl (by decide) rfl ?_
                  refine gw_goto C (tgt := 6) dX4_firstFault_97 (by decide) ?_
                  exact gw_weak (lo' := [some (vR 228), some (vI (due + (-1))), some (vI 0), some (vI (((i + 1) : Nat) : Int)), none]) ⟨rfl, rfl, rfl, congrArg (fun q => some (vI q)) (by omega), trivial⟩ (ih_6 (due + (-1)) 0 (i + 1) z_49 (by omega) (by omega) (by omega) (by (repeat (first | rw [if_pos (by omega)] at e | rw [if_neg (by omega)] at e)); rw [show n - (i + 1) = n - i - 1 by omega]; exact e.symm) (by omega))
                · skip
                  refine gw_iload_n C 3 dX4_firstFault_87 rfl rfl ?_
                  exact gw_iret C (Nat.le_of_ble_eq_true rfl) (Nat.le_of_ble_eq_true rfl) dX4_firstFault_88 (⟨congrArg (fun q => some (vI q)) (by rw [hn2]; (repeat (first | rw [if_pos (by omega)] at e | rw [if_neg (by omega)] at e)); omega), rfl, rfl⟩)
        · skip
          refine gw_iload C dX4_firstFault_35 rfl ?_
          refine gw_callSm C (as := [vI (I 230 i)]) (st := []) (c_X4_numbersOf hl0 G (I 230 i) hI_28) dX4_firstFault_37 kX4_23 qX4_numbersOf hdX4_numbersOf ⟨Nat.le_of_ble_eq_true rfl, Nat.le_of_ble_eq_true rfl⟩ ⟨Nat.le_of_ble_eq_true rfl, Nat.le_of_ble_eq_true rfl⟩ (Nat.le_of_ble_eq_true rfl) rfl (fun z_37 => ?_)
          have hzb := numZ_b (I 230 i)
          refine gw_istore_n C (lo1 := [some (vR 228), some (vI (numZ (I 230 i))), some (vI dig), some (vI (i : Int)), some (vI (I 230 i))]) 1 dX4_firstFault_40 rfl (by decide) rfl ?_
          refine gw_iload_n C 1 dX4_firstFault_41 rfl rfl ?_
          refine gw_if_ne C (tgt := 94) dX4_firstFault_42 (by decide) (by omega) (fun h_42 => ?_) (fun h_42 => ?_)
          · skip
            refine gw_iinc C (lo1 := [some (vR 228), some (vI (numZ (I 230 i))), some (vI dig), some (vI ((i : Int) + 1)), some (vI (I 230 i))]) dX4_firstFault_94 rfl (by decide) rfl ?_
            refine gw_goto C (tgt := 6) dX4_firstFault_97 (by decide) ?_
            exact gw_weak (lo' := [some (vR 228), some (vI (numZ (I 230 i))), some (vI dig), some (vI (((i + 1) : Nat) : Int)), none]) ⟨rfl, rfl, rfl, congrArg (fun q => some (vI q)) (by omega), trivial⟩ (ih_6 (numZ (I 230 i)) dig (i + 1) z_37 (by omega) (by omega) (by omega) (by (repeat (first | rw [if_pos (by omega)] at e | rw [if_neg (by omega)] at e)); rw [show n - (i + 1) = n - i - 1 by omega]; exact e.symm) (by omega))
          · skip
            refine gw_iload_n C 3 dX4_firstFault_45 rfl rfl ?_
            exact gw_iret C (Nat.le_of_ble_eq_true rfl) (Nat.le_of_ble_eq_true rfl) dX4_firstFault_46 (⟨congrArg (fun q => some (vI q)) (by rw [hn2]; (repeat (first | rw [if_pos (by omega)] at e | rw [if_neg (by omega)] at e)); omega), rfl, rfl⟩)
  exact gw_weak (lo' := [some (vR 228), some (vI 0), some (vI 0), some (vI (0 : Int)), none]) ⟨rfl, rfl, rfl, congrArg (fun q => some (vI q)) (by omega), trivial⟩ (loop_6 _ 0 0 0 z (by omega) (by decide) (by decide) (by rfl) (Nat.lt_succ_self _))
set_option maxHeartbeats 4000000 in
set_option maxRecDepth 100000 in
theorem c_X4_startCommand {l : Launch} (hl0 : l.stackTraces = false) (G : GG) (I J : GI) {z : Nat} (x : Int) (hx : 0 ≤ x ∧ x < 65536) : GM l yX4_startCommand (.code yX4_startCommand cX4_startCommand 3 none) 0 0 0 0 G N0 SH RR [vR 228, vI x] z I J (memQ none (stF I x) J) gNo := by
  refine gm_of (lo0 := [some (vR 228), some (vI x), none]) hl0 (by decide) rfl (Nat.le_of_ble_eq_true rfl) ?_
  intro p e s m args below meth c C ht hgi
  have C : gC G p l s m args meth c cX4_startCommand 3 RX4 none "startCommand" := C
  refine gw_aload_n C 0 dX4_startCommand_0 rfl rfl ?_
  refine gw_iload_n C 1 dX4_startCommand_1 rfl rfl ?_
  refine gw_putI (ci := 3) (Cn := RX4) (T0 := TX4) (N := 5) C (ty := .char) 1 kX4_39 fX4 rfl (by decide) rfl rfl tyX4 tyX4_ok nmX4 rfl (by decide) (oi_narc (by omega)) (oi_fitc (by omega)) (by omega) dX4_startCommand_2 xs_228 xn_228 ?_
  refine gw_aload_n C 0 dX4_startCommand_5 rfl rfl ?_
  refine gw_iconst C dX4_startCommand_6 ?_
  refine gw_putI (ci := 3) (Cn := RX4) (T0 := TX4) (N := 5) C (ty := .int) 3 kX4_32 fX4 rfl (by decide) rfl rfl tyX4 tyX4_ok nmX4 rfl (by decide) rfl rfl ⟨by decide, by decide⟩ dX4_startCommand_7 xs_228 xn_228 ?_
  refine gw_iconst C dX4_startCommand_10 ?_
  refine gw_istore_n C (lo1 := [some (vR 228), some (vI x), some (vI 0)]) 2 dX4_startCommand_11 rfl (by decide) rfl ?_
  refine gw_iload_n C 2 dX4_startCommand_12 rfl rfl ?_
  refine gw_aload_n C 0 dX4_startCommand_13 rfl rfl ?_
  refine gw_getRs (ci := 3) (Cn := RX4) (T0 := TX4) (N := 5) C 229 2 kX4_9 fX4 rfl (by decide) rfl rfl dX4_startCommand_14 xs_228 xn_228 xr_228_2 ?_
  refine gw_alen C (t := 0) dX4_startCommand_17 rfl xs_229 xn_229 ?_
  refine gw_icmp_ge C (tgt := 34) dX4_startCommand_18 (by decide) ⟨by decide, by decide⟩ ⟨by decide, by decide⟩ (fun h => absurd h (by decide)) (fun _ => ?_)
  refine gw_aload_n C 0 dX4_startCommand_21 rfl rfl ?_
  refine gw_getRs (ci := 3) (Cn := RX4) (T0 := TX4) (N := 5) C 229 2 kX4_9 fX4 rfl (by decide) rfl rfl dX4_startCommand_22 xs_228 xn_228 xr_228_2 ?_
  refine gw_iload_n C 2 dX4_startCommand_25 rfl rfl ?_
  refine gw_iconst C dX4_startCommand_26 ?_
  refine gw_iast C 0 dX4_startCommand_27 xs_229 xn_229 (by omega) (by omega) (by decide) ⟨by decide, by decide⟩ ?_
  refine gw_iinc C (lo1 := [some (vR 228), some (vI x), some (vI (0 + 1))]) dX4_startCommand_28 rfl (by decide) rfl ?_
  refine gw_goto C (tgt := 12) dX4_startCommand_31 (by decide) ?_
  refine gw_iload_n C 2 dX4_startCommand_12 rfl rfl ?_
  refine gw_aload_n C 0 dX4_startCommand_13 rfl rfl ?_
  refine gw_getRs (ci := 3) (Cn := RX4) (T0 := TX4) (N := 5) C 229 2 kX4_9 fX4 rfl (by decide) rfl rfl dX4_startCommand_14 xs_228 xn_228 xr_228_2 ?_
  refine gw_alen C (t := 0) dX4_startCommand_17 rfl xs_229 xn_229 ?_
  refine gw_icmp_ge C (tgt := 34) dX4_startCommand_18 (by decide) ⟨by decide, by decide⟩ ⟨by decide, by decide⟩ (fun h => absurd h (by decide)) (fun _ => ?_)
  refine gw_aload_n C 0 dX4_startCommand_21 rfl rfl ?_
  refine gw_getRs (ci := 3) (Cn := RX4) (T0 := TX4) (N := 5) C 229 2 kX4_9 fX4 rfl (by decide) rfl rfl dX4_startCommand_22 xs_228 xn_228 xr_228_2 ?_
  refine gw_iload_n C 2 dX4_startCommand_25 rfl rfl ?_
  refine gw_iconst C dX4_startCommand_26 ?_
  refine gw_iast C 1 dX4_startCommand_27 xs_229 xn_229 (by omega) (by omega) (by decide) ⟨by decide, by decide⟩ ?_
  refine gw_iinc C (lo1 := [some (vR 228), some (vI x), some (vI ((0 + 1) + 1))]) dX4_startCommand_28 rfl (by decide) rfl ?_
  refine gw_goto C (tgt := 12) dX4_startCommand_31 (by decide) ?_
  refine gw_iload_n C 2 dX4_startCommand_12 rfl rfl ?_
  refine gw_aload_n C 0 dX4_startCommand_13 rfl rfl ?_
  refine gw_getRs (ci := 3) (Cn := RX4) (T0 := TX4) (N := 5) C 229 2 kX4_9 fX4 rfl (by decide) rfl rfl dX4_startCommand_14 xs_228 xn_228 xr_228_2 ?_
  refine gw_alen C (t := 0) dX4_startCommand_17 rfl xs_229 xn_229 ?_
  refine gw_icmp_ge C (tgt := 34) dX4_startCommand_18 (by decide) ⟨by decide, by decide⟩ ⟨by decide, by decide⟩ (fun h => absurd h (by decide)) (fun _ => ?_)
  refine gw_aload_n C 0 dX4_startCommand_21 rfl rfl ?_
  refine gw_getRs (ci := 3) (Cn := RX4) (T0 := TX4) (N := 5) C 229 2 kX4_9 fX4 rfl (by decide) rfl rfl dX4_startCommand_22 xs_228 xn_228 xr_228_2 ?_
  refine gw_iload_n C 2 dX4_startCommand_25 rfl rfl ?_
  refine gw_iconst C dX4_startCommand_26 ?_
  refine gw_iast C 2 dX4_startCommand_27 xs_229 xn_229 (by omega) (by omega) (by decide) ⟨by decide, by decide⟩ ?_
  refine gw_iinc C (lo1 := [some (vR 228), some (vI x), some (vI (((0 + 1) + 1) + 1))]) dX4_startCommand_28 rfl (by decide) rfl ?_
  refine gw_goto C (tgt := 12) dX4_startCommand_31 (by decide) ?_
  refine gw_iload_n C 2 dX4_startCommand_12 rfl rfl ?_
  refine gw_aload_n C 0 dX4_startCommand_13 rfl rfl ?_
  refine gw_getRs (ci := 3) (Cn := RX4) (T0 := TX4) (N := 5) C 229 2 kX4_9 fX4 rfl (by decide) rfl rfl dX4_startCommand_14 xs_228 xn_228 xr_228_2 ?_
  refine gw_alen C (t := 0) dX4_startCommand_17 rfl xs_229 xn_229 ?_
  refine gw_icmp_ge C (tgt := 34) dX4_startCommand_18 (by decide) ⟨by decide, by decide⟩ ⟨by decide, by decide⟩ (fun _ => ?_) (fun h => absurd h (by decide))
  exact gw_vret C (Nat.le_of_ble_eq_true rfl) (Nat.le_of_ble_eq_true rfl) dX4_startCommand_34 (⟨rfl, rfl, rfl⟩)
set_option maxHeartbeats 4000000 in
set_option maxRecDepth 100000 in
theorem c_X4_endsCommand {l : Launch} (hl0 : l.stackTraces = false) (G : GG) (I J : GI) {z : Nat} (k : Nat) (hk : k < 90) (hc : 32 ≤ I 230 k ∧ I 230 k ≤ 126) (hb : ∀ j, j < 3 → 0 ≤ I 229 j ∧ I 229 j ≤ 200000000) (ha : 0 ≤ I 228 3 ∧ I 228 3 ≤ 1000) : GM l yX4_endsCommand (.code yX4_endsCommand cX4_endsCommand 3 (some .boolean)) 1 22 0 0 G N0 SH RR [vR 228, vI (k : Int)] z I J (boolQ (I 230 k = 59) (ecF I k) J) gNo := by
  refine gm_of (lo0 := [some (vR 228), some (vI (k : Int)), none]) hl0 (by decide) rfl (Nat.le_of_ble_eq_true rfl) ?_
  intro p e s m args below meth c C ht hgi
  have C : gC G p l s m args meth c cX4_endsCommand 3 RX4 (some .boolean) "endsCommand" := C
  refine gw_iload_n C 1 dX4_endsCommand_0 rfl rfl ?_
  refine gw_if_lt C (tgt := 22) dX4_endsCommand_1 (by decide) (by omega) (fun h => absurd h (by omega)) (fun _ => ?_)
  refine gw_iload_n C 1 dX4_endsCommand_4 rfl rfl ?_
  refine gw_aload_n C 0 dX4_endsCommand_5 rfl rfl ?_
  refine gw_getRs (ci := 3) (Cn := RX4) (T0 := TX4) (N := 5) C 230 4 kX4_15 fX4 rfl (by decide) rfl rfl dX4_endsCommand_6 xs_228 xn_228 xr_228_4 ?_
  refine gw_alen C (t := 2) dX4_endsCommand_9 rfl xs_230 xn_230 ?_
  refine gw_icmp_ge C (tgt := 22) dX4_endsCommand_10 (by decide) (by omega) ⟨by decide, by decide⟩ (fun h => absurd h (by omega)) (fun _ => ?_)
  refine gw_aload_n C 0 dX4_endsCommand_13 rfl rfl ?_
  refine gw_getRs (ci := 3) (Cn := RX4) (T0 := TX4) (N := 5) C 230 4 kX4_15 fX4 rfl (by decide) rfl rfl dX4_endsCommand_14 xs_228 xn_228 xr_228_4 ?_
  refine gw_iload_n C 1 dX4_endsCommand_17 rfl rfl ?_
  refine gw_cald C k dX4_endsCommand_18 xs_230 xn_230 (by omega) (by omega) (by decide) (fun hI_18 => ?_)
  refine gw_goto C (tgt := 24) dX4_endsCommand_19 (by decide) ?_
  refine gw_istore_n C (lo1 := [some (vR 228), some (vI (k : Int)), some (vI (I 230 k))]) 2 dX4_endsCommand_24 rfl (by decide) rfl ?_
  refine gw_iload_n C 2 dX4_endsCommand_25 rfl rfl ?_
  refine gw_bipush C dX4_endsCommand_26 rfl ?_
  refine gw_icmp_ne C (tgt := 44) dX4_endsCommand_28 (by decide) hI_18 ⟨by decide, by decide⟩ (fun h_28 => ?_) (fun h_28 => ?_)
  · skip
    refine gw_iload_n C 2 dX4_endsCommand_44 rfl rfl ?_
    refine gw_callSb C (as := [vI (I 230 k)]) (st := []) (c_X4_isDigit hl0 G (I 230 k) hI_18) dX4_endsCommand_45 kX4_27 qX4_isDigit hdX4_isDigit ⟨Nat.le_of_ble_eq_true rfl, Nat.le_of_ble_eq_true rfl⟩ ⟨Nat.le_of_ble_eq_true rfl, Nat.le_of_ble_eq_true rfl⟩ (Nat.le_of_ble_eq_true rfl) rfl (fun h_45 z_45 => ?_) (fun h_45 z_45 => ?_)
    · skip
      refine gw_if_eq C (tgt := 99) dX4_endsCommand_48 (by decide) ⟨by decide, by decide⟩ (fun h => absurd h (by decide)) (fun _ => ?_)
      refine gw_aload_n C 0 dX4_endsCommand_51 rfl rfl ?_
      refine gw_getI (ci := 3) (Cn := RX4) (T0 := TX4) (N := 5) C 3 kX4_32 fX4 rfl (by decide) rfl rfl dX4_endsCommand_52 xs_228 xn_228 (fun hI_52 => ?_)
      refine gw_if_lt C (tgt := 110) dX4_endsCommand_55 (by decide) hI_52 (fun h => absurd h (by omega)) (fun _ => ?_)
      refine gw_aload_n C 0 dX4_endsCommand_58 rfl rfl ?_
      refine gw_getI (ci := 3) (Cn := RX4) (T0 := TX4) (N := 5) C 3 kX4_32 fX4 rfl (by decide) rfl rfl dX4_endsCommand_59 xs_228 xn_228 (fun hI_59 => ?_)
      refine gw_aload_n C 0 dX4_endsCommand_62 rfl rfl ?_
      refine gw_getRs (ci := 3) (Cn := RX4) (T0 := TX4) (N := 5) C 229 2 kX4_9 fX4 rfl (by decide) rfl rfl dX4_endsCommand_63 xs_228 xn_228 xr_228_2 ?_
      refine gw_alen C (t := 0) dX4_endsCommand_66 rfl xs_229 xn_229 ?_
      refine gw_icmp_ge C (tgt := 110) dX4_endsCommand_67 (by decide) hI_59 ⟨by decide, by decide⟩ (fun h_67 => ?_) (fun h_67 => ?_)
      · skip
        refine gw_iload_n C 2 dX4_endsCommand_110 rfl rfl ?_
        refine gw_bipush C dX4_endsCommand_111 rfl ?_
        refine gw_icmp_ne C (tgt := 120) dX4_endsCommand_113 (by decide) hI_18 ⟨by decide, by decide⟩ (fun h_113 => ?_) (fun h_113 => ?_)
        · skip
          refine gw_iconst C dX4_endsCommand_120 ?_
          exact gw_zret C (Nat.le_of_ble_eq_true rfl) (Nat.le_of_ble_eq_true rfl) dX4_endsCommand_121 (Or.inl rfl) (⟨Or.inr ⟨by omega, rfl⟩, (by first | (exfalso; omega) | (unfold ecF; (repeat (first | rw [if_pos (by omega)] | rw [if_neg (by omega)])))), rfl⟩)
        · skip
          refine gw_iconst C dX4_endsCommand_116 ?_
          refine gw_goto C (tgt := 121) dX4_endsCommand_117 (by decide) ?_
          exact gw_zret C (Nat.le_of_ble_eq_true rfl) (Nat.le_of_ble_eq_true rfl) dX4_endsCommand_121 (Or.inr rfl) (⟨Or.inl ⟨by omega, rfl⟩, (by first | (exfalso; omega) | (unfold ecF; (repeat (first | rw [if_pos (by omega)] | rw [if_neg (by omega)])))), rfl⟩)
      · skip
        have hbj := hb (I 228 3).toNat (by omega)
        refine gw_aload_n C 0 dX4_endsCommand_70 rfl rfl ?_
        refine gw_getRs (ci := 3) (Cn := RX4) (T0 := TX4) (N := 5) C 229 2 kX4_9 fX4 rfl (by decide) rfl rfl dX4_endsCommand_71 xs_228 xn_228 xr_228_2 ?_
        refine gw_aload_n C 0 dX4_endsCommand_74 rfl rfl ?_
        refine gw_getI (ci := 3) (Cn := RX4) (T0 := TX4) (N := 5) C 3 kX4_32 fX4 rfl (by decide) rfl rfl dX4_endsCommand_75 xs_228 xn_228 (fun hI_75 => ?_)
        refine gw_bipush C dX4_endsCommand_78 rfl ?_
        refine gw_aload_n C 0 dX4_endsCommand_80 rfl rfl ?_
        refine gw_getRs (ci := 3) (Cn := RX4) (T0 := TX4) (N := 5) C 229 2 kX4_9 fX4 rfl (by decide) rfl rfl dX4_endsCommand_81 xs_228 xn_228 xr_228_2 ?_
        refine gw_aload_n C 0 dX4_endsCommand_84 rfl rfl ?_
        refine gw_getI (ci := 3) (Cn := RX4) (T0 := TX4) (N := 5) C 3 kX4_32 fX4 rfl (by decide) rfl rfl dX4_endsCommand_85 xs_228 xn_228 (fun hI_85 => ?_)
        refine gw_iald C (((I 228 3)).toNat) dX4_endsCommand_88 xs_229 xn_229 (by omega) (by omega) (by decide) (fun hI_88 => ?_)
        refine gw_imul C dX4_endsCommand_89 ?_
        refine gw_iload_n C 2 dX4_endsCommand_90 rfl rfl ?_
        refine gw_bipush C dX4_endsCommand_91 rfl ?_
        refine gw_isub C dX4_endsCommand_93 ?_
        refine gw_iadd C dX4_endsCommand_94 ?_
        refine gw_iast C (((I 228 3)).toNat) dX4_endsCommand_95 xs_229 xn_229 (by omega) (by omega) (by decide) (by omega) ?_
        refine gw_goto C (tgt := 110) dX4_endsCommand_96 (by decide) ?_
        refine gw_iload_n C 2 dX4_endsCommand_110 rfl rfl ?_
        refine gw_bipush C dX4_endsCommand_111 rfl ?_
        refine gw_icmp_ne C (tgt := 120) dX4_endsCommand_113 (by decide) hI_18 ⟨by decide, by decide⟩ (fun h_113_2 => ?_) (fun h_113_2 => ?_)
        · skip
          refine gw_iconst C dX4_endsCommand_120 ?_
          exact gw_zret C (Nat.le_of_ble_eq_true rfl) (Nat.le_of_ble_eq_true rfl) dX4_endsCommand_121 (Or.inl rfl) (⟨Or.inr ⟨by omega, rfl⟩, (by first | (exfalso; omega) | (unfold ecF; (repeat (first | rw [if_pos (by omega)] | rw [if_neg (by omega)])))), rfl⟩)
        · skip
          refine gw_iconst C dX4_endsCommand_116 ?_
          refine gw_goto C (tgt := 121) dX4_endsCommand_117 (by decide) ?_
          exact gw_zret C (Nat.le_of_ble_eq_true rfl) (Nat.le_of_ble_eq_true rfl) dX4_endsCommand_121 (Or.inr rfl) (⟨Or.inl ⟨by omega, rfl⟩, (by first | (exfalso; omega) | (unfold ecF; (repeat (first | rw [if_pos (by omega)] | rw [if_neg (by omega)])))), rfl⟩)
    · skip
      refine gw_if_eq C (tgt := 99) dX4_endsCommand_48 (by decide) ⟨by decide, by decide⟩ (fun _ => ?_) (fun h => absurd h (by decide))
      refine gw_iload_n C 2 dX4_endsCommand_99 rfl rfl ?_
      refine gw_bipush C dX4_endsCommand_100 rfl ?_
      refine gw_icmp_eq C (tgt := 110) dX4_endsCommand_102 (by decide) hI_18 ⟨by decide, by decide⟩ (fun h_102 => ?_) (fun h_102 => ?_)
      · skip
        refine gw_iload_n C 2 dX4_endsCommand_110 rfl rfl ?_
        refine gw_bipush C dX4_endsCommand_111 rfl ?_
        refine gw_icmp_ne C (tgt := 120) dX4_endsCommand_113 (by decide) hI_18 ⟨by decide, by decide⟩ (fun h_113_3 => ?_) (fun h_113_3 => ?_)
        · skip
          refine gw_iconst C dX4_endsCommand_120 ?_
          exact gw_zret C (Nat.le_of_ble_eq_true rfl) (Nat.le_of_ble_eq_true rfl) dX4_endsCommand_121 (Or.inl rfl) (⟨Or.inr ⟨by omega, rfl⟩, (by first | (exfalso; omega) | (unfold ecF; (repeat (first | rw [if_pos (by omega)] | rw [if_neg (by omega)])))), rfl⟩)
        · skip
          refine gw_iconst C dX4_endsCommand_116 ?_
          refine gw_goto C (tgt := 121) dX4_endsCommand_117 (by decide) ?_
          exact gw_zret C (Nat.le_of_ble_eq_true rfl) (Nat.le_of_ble_eq_true rfl) dX4_endsCommand_121 (Or.inr rfl) (⟨Or.inl ⟨by omega, rfl⟩, (by first | (exfalso; omega) | (unfold ecF; (repeat (first | rw [if_pos (by omega)] | rw [if_neg (by omega)])))), rfl⟩)
      · skip
        refine gw_aload_n C 0 dX4_endsCommand_105 rfl rfl ?_
        refine gw_iload_n C 2 dX4_endsCommand_106 rfl rfl ?_
        refine gw_callVm C (as := [vI (I 230 k)]) (st := []) (ci := 3) (T0 := TX4) (N := 5) (c_X4_startCommand hl0 G I J (I 230 k) (by omega)) dX4_endsCommand_107 kX4_35 qX4_startCommand hdX4_startCommand ⟨Nat.le_of_ble_eq_true rfl, Nat.le_of_ble_eq_true rfl⟩ ⟨Nat.le_of_ble_eq_true rfl, Nat.le_of_ble_eq_true rfl⟩ (Nat.le_of_ble_eq_true rfl) rfl xs_228 xn_228 rfl (fun z_107 => ?_)
        refine gw_iload_n C 2 dX4_endsCommand_110 rfl rfl ?_
        refine gw_bipush C dX4_endsCommand_111 rfl ?_
        refine gw_icmp_ne C (tgt := 120) dX4_endsCommand_113 (by decide) hI_18 ⟨by decide, by decide⟩ (fun h_113_4 => ?_) (fun h_113_4 => ?_)
        · skip
          refine gw_iconst C dX4_endsCommand_120 ?_
          exact gw_zret C (Nat.le_of_ble_eq_true rfl) (Nat.le_of_ble_eq_true rfl) dX4_endsCommand_121 (Or.inl rfl) (⟨Or.inr ⟨by omega, rfl⟩, (by first | (exfalso; omega) | (unfold ecF; (repeat (first | rw [if_pos (by omega)] | rw [if_neg (by omega)])))), rfl⟩)
        · skip
          refine gw_iconst C dX4_endsCommand_116 ?_
          refine gw_goto C (tgt := 121) dX4_endsCommand_117 (by decide) ?_
          exact gw_zret C (Nat.le_of_ble_eq_true rfl) (Nat.le_of_ble_eq_true rfl) dX4_endsCommand_121 (Or.inr rfl) (⟨Or.inl ⟨by omega, rfl⟩, (by first | (exfalso; omega) | (unfold ecF; (repeat (first | rw [if_pos (by omega)] | rw [if_neg (by omega)])))), rfl⟩)
  · skip
    refine gw_aload_n C 0 dX4_endsCommand_31 rfl rfl ?_
    refine gw_dupR C dX4_endsCommand_32 ?_
    refine gw_getI (ci := 3) (Cn := RX4) (T0 := TX4) (N := 5) C 3 kX4_32 fX4 rfl (by decide) rfl rfl dX4_endsCommand_33 xs_228 xn_228 (fun hI_33 => ?_)
    refine gw_iconst C dX4_endsCommand_36 ?_
    refine gw_iadd C dX4_endsCommand_37 ?_
    refine gw_putI (ci := 3) (Cn := RX4) (T0 := TX4) (N := 5) C (ty := .int) 3 kX4_32 fX4 rfl (by decide) rfl rfl tyX4 tyX4_ok nmX4 rfl (by decide) rfl rfl (by omega) dX4_endsCommand_38 xs_228 xn_228 ?_
    refine gw_goto C (tgt := 110) dX4_endsCommand_41 (by decide) ?_
    refine gw_iload_n C 2 dX4_endsCommand_110 rfl rfl ?_
    refine gw_bipush C dX4_endsCommand_111 rfl ?_
    refine gw_icmp_ne C (tgt := 120) dX4_endsCommand_113 (by decide) hI_18 ⟨by decide, by decide⟩ (fun h_113_5 => ?_) (fun h_113_5 => ?_)
    · skip
      refine gw_iconst C dX4_endsCommand_120 ?_
      exact gw_zret C (Nat.le_of_ble_eq_true rfl) (Nat.le_of_ble_eq_true rfl) dX4_endsCommand_121 (Or.inl rfl) (⟨Or.inr ⟨by omega, rfl⟩, (by first | (exfalso; omega) | (unfold ecF; (repeat (first | rw [if_pos (by omega)] | rw [if_neg (by omega)])))), rfl⟩)
    · skip
      refine gw_iconst C dX4_endsCommand_116 ?_
      refine gw_goto C (tgt := 121) dX4_endsCommand_117 (by decide) ?_
      exact gw_zret C (Nat.le_of_ble_eq_true rfl) (Nat.le_of_ble_eq_true rfl) dX4_endsCommand_121 (Or.inr rfl) (⟨Or.inl ⟨by omega, rfl⟩, (by first | (exfalso; omega) | (unfold ecF; (repeat (first | rw [if_pos (by omega)] | rw [if_neg (by omega)])))), rfl⟩)
