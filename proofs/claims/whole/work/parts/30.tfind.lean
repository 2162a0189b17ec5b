def agK (key v : Nat → Int) : Nat → Int × Int
  | 0 => (-2000000000, 0)
  | i + 1 => if (agK key v i).1 = -2000000000 ∨ v i < (agK key v i).2 then (key i, v i) else agK key v i
theorem agK_s {key v : Nat → Int} {i : Nat} : agK key v (i + 1) = if (agK key v i).1 = -2000000000 ∨ v i < (agK key v i).2 then (key i, v i) else agK key v i := rfl
theorem agK_t {key v : Nat → Int} {i : Nat} {a b : Int} (h : agK key v i = (a, b)) (hc : a = -2000000000 ∨ v i < b) : agK key v (i + 1) = (key i, v i) := by
  rw [agK_s, h, if_pos hc]
theorem agK_f {key v : Nat → Int} {i : Nat} {a b : Int} (h : agK key v i = (a, b)) (hc : ¬ (a = -2000000000 ∨ v i < b)) : agK key v (i + 1) = (a, b) := by
  rw [agK_s, h, if_neg hc]
theorem agK_c {key v v' : Nat → Int} : ∀ i : Nat, (∀ k, k < i → v k = v' k) → agK key v i = agK key v' i := by
  intro i
  induction i with
  | zero => intro _; rfl
  | succ i ih => intro h; rw [agK_s, agK_s, ih (fun k hk => h k (by omega)), h i (by omega)]
def suV (I : GI) (r k : Nat) : Int := ((I r 8 * sinZ (I (r + 3) k + 324000) - I r 9 * sinZ (I (r + 3) k)).natAbs : Int)
theorem root_lt {v m : Int} (hv : 0 ≤ v) (hm : 0 ≤ m) : rootZ v < m ↔ v < m * m := by
  have h := rootZ_s hv
  constructor
  · intro g
    have := sq_le (a := rootZ v + 1) (b := m) (by omega) (by omega)
    omega
  · intro g
    rcases Int.lt_or_le (rootZ v) m with e | e
    · exact e
    · have := sq_le hm e
      omega
def fsF (P : Int → Bool) : Nat → Int
  | 0 => -2000000000
  | m + 1 => if P (3600 - (m : Int)) = true then 3600 - (m : Int) else fsF P m
def sgF (x a b : Int) : Int := if x = a then 1 else if x = b then -1 else 0
def aP (I : GI) (r q : Nat) (x y g : Int) : Bool := decide (((centZ (I r 5 + sgF x (I r 0) (I r 1) * (sB I q g - I q 7))).natAbs : Int) ≤ y)
theorem fs_t {P : Int → Bool} {w : Int} (hw : -3600 ≤ w ∧ w ≤ 3600) (h : P w = true) : fsF P (3601 - w).toNat = w := by
  rw [show (3601 - w).toNat = (3600 - w).toNat + 1 by omega, fsF, show (3600 : Int) - ((3600 - w).toNat : Int) = w by omega, if_pos h]
theorem fs_f {P : Int → Bool} {w : Int} (hw : -3600 ≤ w ∧ w ≤ 3600) (h : ¬ P w = true) : fsF P (3601 - w).toNat = fsF P (3601 - (w + 1)).toNat := by
  rw [show (3601 - w).toNat = (3600 - w).toNat + 1 by omega, fsF, show (3600 : Int) - ((3600 - w).toNat : Int) = w by omega, if_neg h, show (3601 - (w + 1)).toNat = (3600 - w).toNat by omega]
def exF (e d u : Int) (k : Nat) : Int := e + (1000 * ((k : Int) + 1) * u).tdiv 10000 - d
def ltB (I : GI) (r : Nat) (x : Int) : Int := I (r + 3) ((I r 2).toNat - 1) + x + 648000
def ltV (I : GI) (r q : Nat) (x : Int) (k : Nat) : Int := rootZ (exF (I r 6) (I q 6) (sinZ (ltB I r x)) k * exF (I r 6) (I q 6) (sinZ (ltB I r x)) k + exF (I r 7) (I q 7) (sinZ (ltB I r x + 324000)) k * exF (I r 7) (I q 7) (sinZ (ltB I r x + 324000)) k)
set_option maxHeartbeats 4000000 in
set_option maxRecDepth 100000 in
theorem c_X5_suspectedLeg {l : Launch} (hl0 : l.stackTraces = false) (G : GG) (I J : GI) {z : Nat} {r : Nat} (hr : travQ r) (hT : tOk I r) (hm : gpd I r → msd I r) (hb : ∀ k : Nat, k < 12 → (k : Int) < I r 2 → gpd I r → 0 ≤ I (r + 3) k ∧ I (r + 3) k < 1296000) : GM l yX5_suspectedLeg (.code yX5_suspectedLeg cX5_suspectedLeg 9 (some .int)) 2 49 0 0 G N0 SH RR [vR r] z I J (memQ (some (vI (if gpd I r then (agK (fun k => (k : Int)) (suV I r) (I r 2).toNat).1 else -2000000000))) I J) gNo := by
  refine gm_of (lo0 := [some (vR r), none, none, none, none, none, none, none, none]) hl0 (by decide) rfl (Nat.le_of_ble_eq_true rfl) ?_
  intro p e s m args below meth c C ht hgi
  have C : gC G p l s m args meth c cX5_suspectedLeg 9 RX5 (some .int) "suspectedLeg" := C
  have h2 := hT.2.1.1
  obtain ⟨n, hnn⟩ : ∃ n : Nat, I r 2 = (n : Int) := ⟨(I r 2).toNat, by omega⟩
  have hn1 : (I r 2).toNat = n := by omega
  refine gw_aload_n C 0 dX5_suspectedLeg_0 rfl rfl ?_
  refine gw_callVb C (as := []) (st := []) (ci := 4) (T0 := TX5) (N := 15) (c_X5_hasGap hl0 G I J hr ) dX5_suspectedLeg_1 kX5_136 qX5_hasGap hdX5_hasGap ⟨Nat.le_of_ble_eq_true rfl, Nat.le_of_ble_eq_true rfl⟩ ⟨Nat.le_of_ble_eq_true rfl, Nat.le_of_ble_eq_true rfl⟩ (Nat.le_of_ble_eq_true rfl) rfl (tq_s hr) (tq_n hr) rfl (fun h_1 z_1 => ?_) (fun h_1 z_1 => ?_)
  · skip
    refine gw_if_ne C (tgt := 10) dX5_suspectedLeg_4 (by decide) ⟨by decide, by decide⟩ (fun _ => ?_) (fun h => absurd h (by decide))
    have hg : gpd I r := (by unfold gpd; omega)
    have hmm := hm hg
    unfold msd at hmm
    refine gw_ldc C (x := (-2000000000)) dX5_suspectedLeg_10 kX5_46 (by decide) ?_
    refine gw_istore_n C (lo1 := [some (vR r), some (vI (-2000000000)), none, none, none, none, none, none, none]) 1 dX5_suspectedLeg_12 rfl (by decide) rfl ?_
    refine gw_lconst C 0 dX5_suspectedLeg_13 (by decide) ?_
    refine gw_lstore_n C (lo1 := [some (vR r), some (vI (-2000000000)), some (vL 0), none, none, none, none, none, none]) 2 dX5_suspectedLeg_14 rfl (by decide) rfl ?_
    refine gw_iconst C dX5_suspectedLeg_15 ?_
    refine gw_istore C (lo1 := [some (vR r), some (vI (-2000000000)), some (vL 0), none, some (vI 0), none, none, none, none]) dX5_suspectedLeg_16 (by decide) rfl ?_
    have loop_18 : ∀ (fuel : Nat) (u : Int) (v : Int) (i : Nat) (z1 : Nat), (i ≤ n) → (agK (fun k => (k : Int)) (suV I r) i = (u, v)) → (0 ≤ v ∧ v ≤ 200000000000) → (u = -2000000000 ∨ (0 ≤ u ∧ u ≤ 12)) → n - i < fuel → GW G p l e ({ frames := 2, cells := 0, slots := 0, locals := 49 } : Room) s m args below meth c 9 z1 N0 SH RR I J 0 0 (vx_MQ below (GQ G N0 SH RR (memQ (some (vI (if gpd I r then (agK (fun k => (k : Int)) (suV I r) (I r 2).toNat).1 else -2000000000))) I J)) (GX G N0 SH RR gNo) args s 0 0 (ge G)) 18 [some (vR r), some (vI u), some (vL v), none, some (vI (i : Int)), none, none, none, none] [] := by
      intro fuel
      induction fuel with
      | zero => intro u v i z1 hi hu hv hub hf_18; exact absurd hf_18 (Nat.not_lt_zero _)
      | succ fuel ih_18 =>
        intro u v i z1 hi hu hv hub hf_18
        refine gw_iload C dX5_suspectedLeg_18 rfl ?_
        refine gw_aload_n C 0 dX5_suspectedLeg_20 rfl rfl ?_
        refine gw_getI (ci := 4) (Cn := RX5) (T0 := TX5) (N := 15) C 2 kX5_37 fX5 rfl (by decide) rfl rfl dX5_suspectedLeg_21 (tq_s hr) (tq_n hr) (fun hI_21 => ?_)
        refine gw_icmp_ge C (tgt := 106) dX5_suspectedLeg_24 (by decide) (by omega) hI_21 (fun h_24 => ?_) (fun h_24 => ?_)
        · skip
          refine gw_iload_n C 1 dX5_suspectedLeg_106 rfl rfl ?_
          exact gw_iret C (Nat.le_of_ble_eq_true rfl) (Nat.le_of_ble_eq_true rfl) dX5_suspectedLeg_107 (⟨congrArg (fun q => some (vI q)) (by rw [if_pos hg, hn1, show n = i by omega, hu]), rfl, rfl⟩)
        · skip
          refine gw_iload C dX5_suspectedLeg_27 rfl ?_
          refine gw_bipush C dX5_suspectedLeg_29 rfl ?_
          refine gw_icmp_ge C (tgt := 106) dX5_suspectedLeg_31 (by decide) (by omega) ⟨by decide, by decide⟩ (fun h => absurd h (by omega)) (fun _ => ?_)
          refine gw_aload_n C 0 dX5_suspectedLeg_34 rfl rfl ?_
          refine gw_getI (ci := 4) (Cn := RX5) (T0 := TX5) (N := 15) C 8 kX5_106 fX5 rfl (by decide) rfl rfl dX5_suspectedLeg_35 (tq_s hr) (tq_n hr) (fun hI_35 => ?_)
          refine gw_i2l C dX5_suspectedLeg_38 hI_35 ?_
          refine gw_aload_n C 0 dX5_suspectedLeg_39 rfl rfl ?_
          refine gw_getRs (ci := 4) (Cn := RX5) (T0 := TX5) (N := 15) C (r + 3) 12 kX5_18 fX5 rfl (by decide) rfl rfl dX5_suspectedLeg_40 (tq_s hr) (tq_n hr) (tq_R3 hr) ?_
          refine gw_iload C dX5_suspectedLeg_43 rfl ?_
          refine gw_iald C i dX5_suspectedLeg_45 (tq_s3 hr) (tq_n3 hr) (by omega) (by omega) (by decide) (fun hI_45 => ?_)
          have hbb_45 := hb i (by omega)
          refine gw_ldc C (x := 324000) dX5_suspectedLeg_46 kX5_129 (by decide) ?_
          refine gw_iadd C dX5_suspectedLeg_48 ?_
          refine gw_callSm C (as := [vI ((I (r + 3) i) + 324000)]) (st := [vL (I r 8)]) (c_X3_sineOf hl0 G ((I (r + 3) i) + 324000) (by omega)) dX5_suspectedLeg_49 kX5_122 qX3_sineOf hdX3_sineOf ⟨Nat.le_of_ble_eq_true rfl, Nat.le_of_ble_eq_true rfl⟩ ⟨Nat.le_of_ble_eq_true rfl, Nat.le_of_ble_eq_true rfl⟩ (Nat.le_of_ble_eq_true rfl) rfl (fun z_49 => ?_)
          have hr_49 := sinZ_b ((I (r + 3) i) + 324000)
          refine gw_i2l C dX5_suspectedLeg_52 (by omega) ?_
          refine gw_lmul C dX5_suspectedLeg_53 ?_
          refine gw_lstore C (lo1 := [some (vR r), some (vI u), some (vL v), none, some (vI (i : Int)), some (vL ((I r 8) * (sinZ ((I (r + 3) i) + 324000)))), none, none, none]) dX5_suspectedLeg_54 (by decide) rfl ?_
          have hm1 := mul_b (a := I r 8) (b := sinZ (I (r + 3) i + 324000)) (m := 10000000) (k := 10000) hmm.1 (sinZ_b _)
          refine gw_lload C dX5_suspectedLeg_56 rfl ?_
          refine gw_aload_n C 0 dX5_suspectedLeg_58 rfl rfl ?_
          refine gw_getI (ci := 4) (Cn := RX5) (T0 := TX5) (N := 15) C 9 kX5_115 fX5 rfl (by decide) rfl rfl dX5_suspectedLeg_59 (tq_s hr) (tq_n hr) (fun hI_59 => ?_)
          refine gw_i2l C dX5_suspectedLeg_62 hI_59 ?_
          refine gw_aload_n C 0 dX5_suspectedLeg_63 rfl rfl ?_
          refine gw_getRs (ci := 4) (Cn := RX5) (T0 := TX5) (N := 15) C (r + 3) 12 kX5_18 fX5 rfl (by decide) rfl rfl dX5_suspectedLeg_64 (tq_s hr) (tq_n hr) (tq_R3 hr) ?_
          refine gw_iload C dX5_suspectedLeg_67 rfl ?_
          refine gw_iald C i dX5_suspectedLeg_69 (tq_s3 hr) (tq_n3 hr) (by omega) (by omega) (by decide) (fun hI_69 => ?_)
          have hbb_69 := hb i (by omega) (by omega) hg
          refine gw_callSm C (as := [vI (I (r + 3) i)]) (st := [vL (I r 9), vL ((I r 8) * (sinZ ((I (r + 3) i) + 324000)))]) (c_X3_sineOf hl0 G (I (r + 3) i) hI_69) dX5_suspectedLeg_70 kX5_122 qX3_sineOf hdX3_sineOf ⟨Nat.le_of_ble_eq_true rfl, Nat.le_of_ble_eq_true rfl⟩ ⟨Nat.le_of_ble_eq_true rfl, Nat.le_of_ble_eq_true rfl⟩ (Nat.le_of_ble_eq_true rfl) rfl (fun z_70 => ?_)
          have hr_70 := sinZ_b (I (r + 3) i)
          refine gw_i2l C dX5_suspectedLeg_73 (by omega) ?_
          refine gw_lmul C dX5_suspectedLeg_74 ?_
          have hm2 := mul_b (a := I r 9) (b := sinZ (I (r + 3) i)) (m := 10000000) (k := 10000) hmm.2 (sinZ_b _)
          refine gw_lsub C dX5_suspectedLeg_75 ?_
          refine gw_labs C dX5_suspectedLeg_76 kX5_145 (by omega) (Nat.le_of_ble_eq_true rfl) (Nat.le_of_ble_eq_true rfl) (Nat.le_of_ble_eq_true rfl) (Nat.le_of_ble_eq_true rfl) ?_
          refine gw_lstore C (lo1 := [some (vR r), some (vI u), some (vL v), none, some (vI (i : Int)), some (vL ((I r 8) * (sinZ ((I (r + 3) i) + 324000)))), none, some (vL (((((I r 8) * (sinZ ((I (r + 3) i) + 324000))) - ((I r 9) * (sinZ (I (r + 3) i))))).natAbs : Int)), none]) dX5_suspectedLeg_79 (by decide) rfl ?_
          rw [show (((((I r 8) * (sinZ ((I (r + 3) i) + 324000))) - ((I r 9) * (sinZ (I (r + 3) i))))).natAbs : Int) = suV I r i from rfl]
          have hsv : 0 ≤ suV I r i ∧ suV I r i ≤ 200000000000 := by unfold suV; omega
          refine gw_iload_n C 1 dX5_suspectedLeg_81 rfl rfl ?_
          refine gw_ldc C (x := (-2000000000)) dX5_suspectedLeg_82 kX5_46 (by decide) ?_
          refine gw_icmp_eq C (tgt := 94) dX5_suspectedLeg_84 (by decide) (by omega) ⟨by decide, by decide⟩ (fun h_84 => ?_) (fun h_84 => ?_)
          · skip
            refine gw_lload C dX5_suspectedLeg_94 rfl ?_
            refine gw_lstore_n C (lo1 := [some (vR r), some (vI u), some (vL (suV I r i)), none, some (vI (i : Int)), some (vL ((I r 8) * (sinZ ((I (r + 3) i) + 324000)))), none, some (vL (suV I r i)), none]) 2 dX5_suspectedLeg_96 rfl (by decide) rfl ?_
            refine gw_iload C dX5_suspectedLeg_97 rfl ?_
            refine gw_istore_n C (lo1 := [some (vR r), some (vI (i : Int)), some (vL (suV I r i)), none, some (vI (i : Int)), some (vL ((I r 8) * (sinZ ((I (r + 3) i) + 324000)))), none, some (vL (suV I r i)), none]) 1 dX5_suspectedLeg_99 rfl (by decide) rfl ?_
            refine gw_iinc C (lo1 := [some (vR r), some (vI (i : Int)), some (vL (suV I r i)), none, some (vI ((i : Int) + 1)), some (vL ((I r 8) * (sinZ ((I (r + 3) i) + 324000)))), none, some (vL (suV I r i)), none]) dX5_suspectedLeg_100 rfl (by decide) rfl ?_
            refine gw_goto C (tgt := 18) dX5_suspectedLeg_103 (by decide) ?_
            exact gw_weak (lo' := [some (vR r), some (vI (i : Int)), some (vL (suV I r i)), none, some (vI (((i + 1) : Nat) : Int)), none, none, none, none]) ⟨rfl, rfl, rfl, congrArg (fun q => some (vI q)) (by omega), trivial⟩ (ih_18 (i : Int) (suV I r i) (i + 1) z_70 (by omega) (by first | exact agK_t hu (by omega) | exact agK_f hu (by omega)) (by omega) (by omega) (by omega))
          · skip
            refine gw_lload C dX5_suspectedLeg_87 rfl ?_
            refine gw_lload_n C 2 dX5_suspectedLeg_89 rfl rfl ?_
            refine gw_lcmp C dX5_suspectedLeg_90 (by omega) (by omega) (fun h_90 => ?_) (fun h_90 => ?_) (fun h_90 => ?_)
            · skip
              refine gw_if_ge C (tgt := 100) dX5_suspectedLeg_91 (by decide) ⟨by decide, by decide⟩ (fun h => absurd h (by decide)) (fun _ => ?_)
              refine gw_lload C dX5_suspectedLeg_94 rfl ?_
              refine gw_lstore_n C (lo1 := [some (vR r), some (vI u), some (vL (suV I r i)), none, some (vI (i : Int)), some (vL ((I r 8) * (sinZ ((I (r + 3) i) + 324000)))), none, some (vL (suV I r i)), none]) 2 dX5_suspectedLeg_96 rfl (by decide) rfl ?_
              refine gw_iload C dX5_suspectedLeg_97 rfl ?_
              refine gw_istore_n C (lo1 := [some (vR r), some (vI (i : Int)), some (vL (suV I r i)), none, some (vI (i : Int)), some (vL ((I r 8) * (sinZ ((I (r + 3) i) + 324000)))), none, some (vL (suV I r i)), none]) 1 dX5_suspectedLeg_99 rfl (by decide) rfl ?_
              refine gw_iinc C (lo1 := [some (vR r), some (vI (i : Int)), some (vL (suV I r i)), none, some (vI ((i : Int) + 1)), some (vL ((I r 8) * (sinZ ((I (r + 3) i) + 324000)))), none, some (vL (suV I r i)), none]) dX5_suspectedLeg_100 rfl (by decide) rfl ?_
              refine gw_goto C (tgt := 18) dX5_suspectedLeg_103 (by decide) ?_
              exact gw_weak (lo' := [some (vR r), some (vI (i : Int)), some (vL (suV I r i)), none, some (vI (((i + 1) : Nat) : Int)), none, none, none, none]) ⟨rfl, rfl, rfl, congrArg (fun q => some (vI q)) (by omega), trivial⟩ (ih_18 (i : Int) (suV I r i) (i + 1) z_70 (by omega) (by first | exact agK_t hu (by omega) | exact agK_f hu (by omega)) (by omega) (by omega) (by omega))
            · skip
              refine gw_if_ge C (tgt := 100) dX5_suspectedLeg_91 (by decide) ⟨by decide, by decide⟩ (fun _ => ?_) (fun h => absurd h (by decide))
              refine gw_iinc C (lo1 := [some (vR r), some (vI u), some (vL v), none, some (vI ((i : Int) + 1)), some (vL ((I r 8) * (sinZ ((I (r + 3) i) + 324000)))), none, some (vL (suV I r i)), none]) dX5_suspectedLeg_100 rfl (by decide) rfl ?_
              refine gw_goto C (tgt := 18) dX5_suspectedLeg_103 (by decide) ?_
              exact gw_weak (lo' := [some (vR r), some (vI u), some (vL v), none, some (vI (((i + 1) : Nat) : Int)), none, none, none, none]) ⟨rfl, rfl, rfl, congrArg (fun q => some (vI q)) (by omega), trivial⟩ (ih_18 u v (i + 1) z_70 (by omega) (by first | exact agK_t hu (by omega) | exact agK_f hu (by omega)) (by omega) (by omega) (by omega))
            · skip
              refine gw_if_ge C (tgt := 100) dX5_suspectedLeg_91 (by decide) ⟨by decide, by decide⟩ (fun _ => ?_) (fun h => absurd h (by decide))
              refine gw_iinc C (lo1 := [some (vR r), some (vI u), some (vL v), none, some (vI ((i : Int) + 1)), some (vL ((I r 8) * (sinZ ((I (r + 3) i) + 324000)))), none, some (vL (suV I r i)), none]) dX5_suspectedLeg_100 rfl (by decide) rfl ?_
              refine gw_goto C (tgt := 18) dX5_suspectedLeg_103 (by decide) ?_
              exact gw_weak (lo' := [some (vR r), some (vI u), some (vL v), none, some (vI (((i + 1) : Nat) : Int)), none, none, none, none]) ⟨rfl, rfl, rfl, congrArg (fun q => some (vI q)) (by omega), trivial⟩ (ih_18 u v (i + 1) z_70 (by omega) (by first | exact agK_t hu (by omega) | exact agK_f hu (by omega)) (by omega) (by omega) (by omega))
    exact gw_weak (lo' := [some (vR r), some (vI (-2000000000)), some (vL 0), none, some (vI (0 : Int)), none, none, none, none]) ⟨rfl, rfl, rfl, congrArg (fun q => some (vI q)) (by omega), trivial⟩ (loop_18 _ (-2000000000) 0 0 z_1 (by omega) (by rfl) (by omega) (by omega) (Nat.lt_succ_self _))
  · skip
    refine gw_if_ne C (tgt := 10) dX5_suspectedLeg_4 (by decide) ⟨by decide, by decide⟩ (fun h => absurd h (by decide)) (fun _ => ?_)
    refine gw_ldc C (x := (-2000000000)) dX5_suspectedLeg_7 kX5_46 (by decide) ?_
    exact gw_iret C (Nat.le_of_ble_eq_true rfl) (Nat.le_of_ble_eq_true rfl) dX5_suspectedLeg_9 (⟨congrArg (fun q => some (vI q)) (by rw [if_neg (by unfold gpd; omega)]), rfl, rfl⟩)
set_option maxHeartbeats 4000000 in
set_option maxRecDepth 100000 in
theorem c_X5_smallAngleFor {l : Launch} (hl0 : l.stackTraces = false) (G : GG) (I J : GI) {z : Nat} {r : Nat} (hr : travQ r) {q : Nat} (hq : joinQ q) (hj : jOk I q) (h11 : -300000 ≤ I q 11 ∧ I q 11 ≤ 300000) (x y : Int) (hx : inI x) (hy : 0 ≤ y ∧ y ≤ 3600) (h5 : gpd I r → -648000 ≤ I r 5 ∧ I r 5 < 648000) (h7 : sgF x (I r 0) (I r 1) ≠ 0 → gpd I r → 0 ≤ I q 7 ∧ I q 7 < 1296000) : GM l yX5_smallAngleFor (.code yX5_smallAngleFor cX5_smallAngleFor 7 (some .int)) 2 44 0 0 G N0 SH RR [vR r, vI x, vR q, vI y] z I J (memQ (some (vI (if gpd I r then fsF (aP I r q x y) 7201 else -2000000000))) I J) gNo := by
  refine gm_of (lo0 := [some (vR r), some (vI x), some (vR q), some (vI y), none, none, none]) hl0 (by decide) rfl (Nat.le_of_ble_eq_true rfl) ?_
  intro p e s m args below meth c C ht hgi
  have C : gC G p l s m args meth c cX5_smallAngleFor 7 RX5 (some .int) "smallAngleFor" := C
  refine gw_aload_n C 0 dX5_smallAngleFor_0 rfl rfl ?_
  refine gw_callVb C (as := []) (st := []) (ci := 4) (T0 := TX5) (N := 15) (c_X5_hasGap hl0 G I J hr ) dX5_smallAngleFor_1 kX5_136 qX5_hasGap hdX5_hasGap ⟨Nat.le_of_ble_eq_true rfl, Nat.le_of_ble_eq_true rfl⟩ ⟨Nat.le_of_ble_eq_true rfl, Nat.le_of_ble_eq_true rfl⟩ (Nat.le_of_ble_eq_true rfl) rfl (tq_s hr) (tq_n hr) rfl (fun h_1 z_1 => ?_) (fun h_1 z_1 => ?_)
  · skip
    refine gw_if_ne C (tgt := 10) dX5_smallAngleFor_4 (by decide) ⟨by decide, by decide⟩ (fun _ => ?_) (fun h => absurd h (by decide))
    have hg : gpd I r := (by unfold gpd; omega)
    have h55 := h5 hg
    refine gw_iload_n C 1 dX5_smallAngleFor_10 rfl rfl ?_
    refine gw_aload_n C 0 dX5_smallAngleFor_11 rfl rfl ?_
    refine gw_getI (ci := 4) (Cn := RX5) (T0 := TX5) (N := 15) C 0 kX5_27 fX5 rfl (by decide) rfl rfl dX5_smallAngleFor_12 (tq_s hr) (tq_n hr) (fun hI_12 => ?_)
    refine gw_icmp_ne C (tgt := 22) dX5_smallAngleFor_15 (by decide) hx hI_12 (fun h_15 => ?_) (fun h_15 => ?_)
    · skip
      refine gw_iload_n C 1 dX5_smallAngleFor_22 rfl rfl ?_
      refine gw_aload_n C 0 dX5_smallAngleFor_23 rfl rfl ?_
      refine gw_getI (ci := 4) (Cn := RX5) (T0 := TX5) (N := 15) C 1 kX5_31 fX5 rfl (by decide) rfl rfl dX5_smallAngleFor_24 (tq_s hr) (tq_n hr) (fun hI_24 => ?_)
      refine gw_icmp_ne C (tgt := 34) dX5_smallAngleFor_27 (by decide) hx hI_24 (fun h_27 => ?_) (fun h_27 => ?_)
      · skip
        refine gw_iconst C dX5_smallAngleFor_34 ?_
        have hsg : sgF x (I r 0) (I r 1) = 0 := (by unfold sgF; (repeat' split) <;> omega)
        refine gw_istore C (lo1 := [some (vR r), some (vI x), some (vR q), some (vI y), some (vI 0), none, none]) dX5_smallAngleFor_35 (by decide) rfl ?_
        refine gw_sipush C dX5_smallAngleFor_37 rfl ?_
        refine gw_istore C (lo1 := [some (vR r), some (vI x), some (vR q), some (vI y), some (vI 0), some (vI (-3600)), none]) dX5_smallAngleFor_40 (by decide) rfl ?_
        have loop_42 : ∀ (fuel : Nat) (w : Int) (z1 : Nat), (-3600 ≤ w ∧ w ≤ 3601) → (fsF (aP I r q x y) 7201 = fsF (aP I r q x y) (3601 - w).toNat) → (3601 - w).toNat < fuel → GW G p l e ({ frames := 2, cells := 0, slots := 0, locals := 44 } : Room) s m args below meth c 7 z1 N0 SH RR I J 0 0 (vx_MQ below (GQ G N0 SH RR (memQ (some (vI (if gpd I r then fsF (aP I r q x y) 7201 else -2000000000))) I J)) (GX G N0 SH RR gNo) args s 0 0 (ge G)) 42 [some (vR r), some (vI x), some (vR q), some (vI y), some (vI 0), some (vI w), none] [] := by
          intro fuel
          induction fuel with
          | zero => intro w z1 hw hres hf_42; exact absurd hf_42 (Nat.not_lt_zero _)
          | succ fuel ih_42 =>
            intro w z1 hw hres hf_42
            refine gw_iload C dX5_smallAngleFor_42 rfl ?_
            refine gw_sipush C dX5_smallAngleFor_44 rfl ?_
            refine gw_icmp_gt C (tgt := 92) dX5_smallAngleFor_47 (by decide) (by omega) ⟨by decide, by decide⟩ (fun h_47 => ?_) (fun h_47 => ?_)
            · skip
              refine gw_ldc C (x := (-2000000000)) dX5_smallAngleFor_92 kX5_46 (by decide) ?_
              exact gw_iret C (Nat.le_of_ble_eq_true rfl) (Nat.le_of_ble_eq_true rfl) dX5_smallAngleFor_94 (⟨congrArg (fun q => some (vI q)) (by rw [if_pos hg, hres, show w = 3601 by omega]; rfl), rfl, rfl⟩)
            · skip
              refine gw_iload C dX5_smallAngleFor_50 rfl ?_
              refine gw_aload_n C 2 dX5_smallAngleFor_52 rfl rfl ?_
              refine gw_iload C dX5_smallAngleFor_53 rfl ?_
              refine gw_callVm C (as := [vI w]) (st := [vI 0]) (ci := 1) (T0 := TX1) (N := 12) (c_X1_startWith hl0 G I J hq hj h11 w (by omega)) dX5_smallAngleFor_55 kX5_148 qX1_startWith hdX1_startWith ⟨Nat.le_of_ble_eq_true rfl, Nat.le_of_ble_eq_true rfl⟩ ⟨Nat.le_of_ble_eq_true rfl, Nat.le_of_ble_eq_true rfl⟩ (Nat.le_of_ble_eq_true rfl) rfl (jq_s hq) (jq_n hq) rfl (fun z_55 => ?_)
              have hsB_55 := sB_b I q w
              have hsb := sB_b I q w
              refine gw_aload_n C 2 dX5_smallAngleFor_58 rfl rfl ?_
              refine gw_getI (ci := 1) (Cn := RX1) (T0 := TX1) (N := 12) C 7 kX5_94 fX1 rfl (by decide) rfl rfl dX5_smallAngleFor_59 (jq_s hq) (jq_n hq) (fun hI_59 => ?_)
              refine gw_isub C dX5_smallAngleFor_62 ?_
              refine gw_imul C dX5_smallAngleFor_63 ?_
              refine gw_istore C (lo1 := [some (vR r), some (vI x), some (vR q), some (vI y), some (vI 0), some (vI w), some (vI (0 * ((sB I q w) - (I q 7))))]) dX5_smallAngleFor_64 (by decide) rfl ?_
              refine gw_aload_n C 0 dX5_smallAngleFor_66 rfl rfl ?_
              refine gw_getI (ci := 4) (Cn := RX5) (T0 := TX5) (N := 15) C 5 kX5_61 fX5 rfl (by decide) rfl rfl dX5_smallAngleFor_67 (tq_s hr) (tq_n hr) (fun hI_67 => ?_)
              refine gw_iload C dX5_smallAngleFor_70 rfl ?_
              refine gw_iadd C dX5_smallAngleFor_72 ?_
              refine gw_callSm C (as := [vI ((I r 5) + (0 * ((sB I q w) - (I q 7))))]) (st := []) (c_X3_centre hl0 G ((I r 5) + (0 * ((sB I q w) - (I q 7)))) (by omega)) dX5_smallAngleFor_73 kX5_97 qX3_centre hdX3_centre ⟨Nat.le_of_ble_eq_true rfl, Nat.le_of_ble_eq_true rfl⟩ ⟨Nat.le_of_ble_eq_true rfl, Nat.le_of_ble_eq_true rfl⟩ (Nat.le_of_ble_eq_true rfl) rfl (fun z_73 => ?_)
              have hr_73 := centZ_b ((I r 5) + (0 * ((sB I q w) - (I q 7))))
              refine gw_iabs C dX5_smallAngleFor_76 kX5_74 (by omega) (by omega) (Nat.le_of_ble_eq_true rfl) (Nat.le_of_ble_eq_true rfl) (Nat.le_of_ble_eq_true rfl) (Nat.le_of_ble_eq_true rfl) ?_
              refine gw_iload_n C 3 dX5_smallAngleFor_79 rfl rfl ?_
              refine gw_icmp_gt C (tgt := 86) dX5_smallAngleFor_80 (by decide) (by omega) (by omega) (fun h_80 => ?_) (fun h_80 => ?_)
              · skip
                refine gw_iinc C (lo1 := [some (vR r), some (vI x), some (vR q), some (vI y), some (vI 0), some (vI (w + 1)), some (vI (0 * ((sB I q w) - (I q 7))))]) dX5_smallAngleFor_86 rfl (by decide) rfl ?_
                refine gw_goto C (tgt := 42) dX5_smallAngleFor_89 (by decide) ?_
                exact gw_weak (lo' := [some (vR r), some (vI x), some (vR q), some (vI y), some (vI 0), some (vI (w + 1)), none]) ⟨rfl, rfl, rfl, rfl, rfl, rfl, trivial⟩ (ih_42 (w + 1) z_73 (by omega) (by rw [hres]; exact fs_f (by omega) (by unfold aP; rw [hsg]; intro hh; have hk := of_decide_eq_true hh; omega)) (by omega))
              · skip
                refine gw_iload C dX5_smallAngleFor_83 rfl ?_
                exact gw_iret C (Nat.le_of_ble_eq_true rfl) (Nat.le_of_ble_eq_true rfl) dX5_smallAngleFor_85 (⟨congrArg (fun q => some (vI q)) (by rw [if_pos hg, hres]; exact (fs_t (by omega) (by unfold aP; rw [hsg]; exact decide_eq_true (by omega))).symm), rfl, rfl⟩)
        exact gw_weak (lo' := [some (vR r), some (vI x), some (vR q), some (vI y), some (vI 0), some (vI (-3600)), none]) ⟨rfl, rfl, rfl, rfl, rfl, rfl, trivial⟩ (loop_42 _ (-3600) z_1 (by decide) (by rfl) (Nat.lt_succ_self _))
      · skip
        refine gw_iconst C dX5_smallAngleFor_30 ?_
        refine gw_goto C (tgt := 35) dX5_smallAngleFor_31 (by decide) ?_
        have hsg : sgF x (I r 0) (I r 1) = (-1) := (by unfold sgF; (repeat' split) <;> omega)
        have hst := h7 (by rw [hsg]; decide) hg
        refine gw_istore C (lo1 := [some (vR r), some (vI x), some (vR q), some (vI y), some (vI (-1)), none, none]) dX5_smallAngleFor_35 (by decide) rfl ?_
        refine gw_sipush C dX5_smallAngleFor_37 rfl ?_
        refine gw_istore C (lo1 := [some (vR r), some (vI x), some (vR q), some (vI y), some (vI (-1)), some (vI (-3600)), none]) dX5_smallAngleFor_40 (by decide) rfl ?_
        have loop_42 : ∀ (fuel : Nat) (w : Int) (z1 : Nat), (-3600 ≤ w ∧ w ≤ 3601) → (fsF (aP I r q x y) 7201 = fsF (aP I r q x y) (3601 - w).toNat) → (3601 - w).toNat < fuel → GW G p l e ({ frames := 2, cells := 0, slots := 0, locals := 44 } : Room) s m args below meth c 7 z1 N0 SH RR I J 0 0 (vx_MQ below (GQ G N0 SH RR (memQ (some (vI (if gpd I r then fsF (aP I r q x y) 7201 else -2000000000))) I J)) (GX G N0 SH RR gNo) args s 0 0 (ge G)) 42 [some (vR r), some (vI x), some (vR q), some (vI y), some (vI (-1)), some (vI w), none] [] := by
          intro fuel
          induction fuel with
          | zero => intro w z1 hw hres hf_42; exact absurd hf_42 (Nat.not_lt_zero _)
          | succ fuel ih_42 =>
            intro w z1 hw hres hf_42
            refine gw_iload C dX5_smallAngleFor_42 rfl ?_
            refine gw_sipush C dX5_smallAngleFor_44 rfl ?_
            refine gw_icmp_gt C (tgt := 92) dX5_smallAngleFor_47 (by decide) (by omega) ⟨by decide, by decide⟩ (fun h_47_2 => ?_) (fun h_47_2 => ?_)
            · skip
              refine gw_ldc C (x := (-2000000000)) dX5_smallAngleFor_92 kX5_46 (by decide) ?_
              exact gw_iret C (Nat.le_of_ble_eq_true rfl) (Nat.le_of_ble_eq_true rfl) dX5_smallAngleFor_94 (⟨congrArg (fun q => some (vI q)) (by rw [if_pos hg, hres, show w = 3601 by omega]; rfl), rfl, rfl⟩)
            · skip
              refine gw_iload C dX5_smallAngleFor_50 rfl ?_
              refine gw_aload_n C 2 dX5_smallAngleFor_52 rfl rfl ?_
              refine gw_iload C dX5_smallAngleFor_53 rfl ?_
              refine gw_callVm C (as := [vI w]) (st := [vI (-1)]) (ci := 1) (T0 := TX1) (N := 12) (c_X1_startWith hl0 G I J hq hj h11 w (by omega)) dX5_smallAngleFor_55 kX5_148 qX1_startWith hdX1_startWith ⟨Nat.le_of_ble_eq_true rfl, Nat.le_of_ble_eq_true rfl⟩ ⟨Nat.le_of_ble_eq_true rfl, Nat.le_of_ble_eq_true rfl⟩ (Nat.le_of_ble_eq_true rfl) rfl (jq_s hq) (jq_n hq) rfl (fun z_55_2 => ?_)
              have hsB_55 := sB_b I q w
              have hsb := sB_b I q w
              refine gw_aload_n C 2 dX5_smallAngleFor_58 rfl rfl ?_
              refine gw_getI (ci := 1) (Cn := RX1) (T0 := TX1) (N := 12) C 7 kX5_94 fX1 rfl (by decide) rfl rfl dX5_smallAngleFor_59 (jq_s hq) (jq_n hq) (fun hI_59_2 => ?_)
              refine gw_isub C dX5_smallAngleFor_62 ?_
              refine gw_imul C dX5_smallAngleFor_63 ?_
              refine gw_istore C (lo1 := [some (vR r), some (vI x), some (vR q), some (vI y), some (vI (-1)), some (vI w), some (vI ((-1) * ((sB I q w) - (I q 7))))]) dX5_smallAngleFor_64 (by decide) rfl ?_
              refine gw_aload_n C 0 dX5_smallAngleFor_66 rfl rfl ?_
              refine gw_getI (ci := 4) (Cn := RX5) (T0 := TX5) (N := 15) C 5 kX5_61 fX5 rfl (by decide) rfl rfl dX5_smallAngleFor_67 (tq_s hr) (tq_n hr) (fun hI_67_2 => ?_)
              refine gw_iload C dX5_smallAngleFor_70 rfl ?_
              refine gw_iadd C dX5_smallAngleFor_72 ?_
              refine gw_callSm C (as := [vI ((I r 5) + ((-1) * ((sB I q w) - (I q 7))))]) (st := []) (c_X3_centre hl0 G ((I r 5) + ((-1) * ((sB I q w) - (I q 7)))) (by omega)) dX5_smallAngleFor_73 kX5_97 qX3_centre hdX3_centre ⟨Nat.le_of_ble_eq_true rfl, Nat.le_of_ble_eq_true rfl⟩ ⟨Nat.le_of_ble_eq_true rfl, Nat.le_of_ble_eq_true rfl⟩ (Nat.le_of_ble_eq_true rfl) rfl (fun z_73_2 => ?_)
              have hr_73_2 := centZ_b ((I r 5) + ((-1) * ((sB I q w) - (I q 7))))
              refine gw_iabs C dX5_smallAngleFor_76 kX5_74 (by omega) (by omega) (Nat.le_of_ble_eq_true rfl) (Nat.le_of_ble_eq_true rfl) (Nat.le_of_ble_eq_true rfl) (Nat.le_of_ble_eq_true rfl) ?_
              refine gw_iload_n C 3 dX5_smallAngleFor_79 rfl rfl ?_
              refine gw_icmp_gt C (tgt := 86) dX5_smallAngleFor_80 (by decide) (by omega) (by omega) (fun h_80_2 => ?_) (fun h_80_2 => ?_)
              · skip
                refine gw_iinc C (lo1 := [some (vR r), some (vI x), some (vR q), some (vI y), some (vI (-1)), some (vI (w + 1)), some (vI ((-1) * ((sB I q w) - (I q 7))))]) dX5_smallAngleFor_86 rfl (by decide) rfl ?_
                refine gw_goto C (tgt := 42) dX5_smallAngleFor_89 (by decide) ?_
                exact gw_weak (lo' := [some (vR r), some (vI x), some (vR q), some (vI y), some (vI (-1)), some (vI (w + 1)), none]) ⟨rfl, rfl, rfl, rfl, rfl, rfl, trivial⟩ (ih_42 (w + 1) z_73_2 (by omega) (by rw [hres]; exact fs_f (by omega) (by unfold aP; rw [hsg]; intro hh; have hk := of_decide_eq_true hh; omega)) (by omega))
              · skip
                refine gw_iload C dX5_smallAngleFor_83 rfl ?_
                exact gw_iret C (Nat.le_of_ble_eq_true rfl) (Nat.le_of_ble_eq_true rfl) dX5_smallAngleFor_85 (⟨congrArg (fun q => some (vI q)) (by rw [if_pos hg, hres]; exact (fs_t (by omega) (by unfold aP; rw [hsg]; exact decide_eq_true (by omega))).symm), rfl, rfl⟩)
        exact gw_weak (lo' := [some (vR r), some (vI x), some (vR q), some (vI y), some (vI (-1)), some (vI (-3600)), none]) ⟨rfl, rfl, rfl, rfl, rfl, rfl, trivial⟩ (loop_42 _ (-3600) z_1 (by decide) (by rfl) (Nat.lt_succ_self _))
    · skip
      refine gw_iconst C dX5_smallAngleFor_18 ?_
      refine gw_goto C (tgt := 35) dX5_smallAngleFor_19 (by decide) ?_
      have hsg : sgF x (I r 0) (I r 1) = 1 := (by unfold sgF; (repeat' split) <;> omega)
      have hst := h7 (by rw [hsg]; decide) hg
      refine gw_istore C (lo1 := [some (vR r), some (vI x), some (vR q), some (vI y), some (vI 1), none, none]) dX5_smallAngleFor_35 (by decide) rfl ?_
      refine gw_sipush C dX5_smallAngleFor_37 rfl ?_
      refine gw_istore C (lo1 := [some (vR r), some (vI x), some (vR q), some (vI y), some (vI 1), some (vI (-3600)), none]) dX5_smallAngleFor_40 (by decide) rfl ?_
      have loop_42 : ∀ (fuel : Nat) (w : Int) (z1 : Nat), (-3600 ≤ w ∧ w ≤ 3601) → (fsF (aP I r q x y) 7201 = fsF (aP I r q x y) (3601 - w).toNat) → (3601 - w).toNat < fuel → GW G p l e ({ frames := 2, cells := 0, slots := 0, locals := 44 } : Room) s m args below meth c 7 z1 N0 SH RR I J 0 0 (vx_MQ below (GQ G N0 SH RR (memQ (some (vI (if gpd I r then fsF (aP I r q x y) 7201 else -2000000000))) I J)) (GX G N0 SH RR gNo) args s 0 0 (ge G)) 42 [some (vR r), some (vI x), some (vR q), some (vI y), some (vI 1), some (vI w), none] [] := by
        intro fuel
        induction fuel with
        | zero => intro w z1 hw hres hf_42; exact absurd hf_42 (Nat.not_lt_zero _)
        | succ fuel ih_42 =>
          intro w z1 hw hres hf_42
          refine gw_iload C dX5_smallAngleFor_42 rfl ?_
          refine gw_sipush C dX5_smallAngleFor_44 rfl ?_
          refine gw_icmp_gt C (tgt := 92) dX5_smallAngleFor_47 (by decide) (by omega) ⟨by decide, by decide⟩ (fun h_47_3 => ?_) (fun h_47_3 => ?_)
          · skip
            refine gw_ldc C (x := (-2000000000)) dX5_smallAngleFor_92 kX5_46 (by decide) ?_
            exact gw_iret C (Nat.le_of_ble_eq_true rfl) (Nat.le_of_ble_eq_true rfl) dX5_smallAngleFor_94 (⟨congrArg (fun q => some (vI q)) (by rw [if_pos hg, hres, show w = 3601 by omega]; rfl), rfl, rfl⟩)
          · skip
            refine gw_iload C dX5_smallAngleFor_50 rfl ?_
            refine gw_aload_n C 2 dX5_smallAngleFor_52 rfl rfl ?_
            refine gw_iload C dX5_smallAngleFor_53 rfl ?_
            refine gw_callVm C (as := [vI w]) (st := [vI 1]) (ci := 1) (T0 := TX1) (N := 12) (c_X1_startWith hl0 G I J hq hj h11 w (by omega)) dX5_smallAngleFor_55 kX5_148 qX1_startWith hdX1_startWith ⟨Nat.le_of_ble_eq_true rfl, Nat.le_of_ble_eq_true rfl⟩ ⟨Nat.le_of_ble_eq_true rfl, Nat.le_of_ble_eq_true rfl⟩ (Nat.le_of_ble_eq_true rfl) rfl (jq_s hq) (jq_n hq) rfl (fun z_55_3 => ?_)
            have hsB_55 := sB_b I q w
            have hsb := sB_b I q w
            refine gw_aload_n C 2 dX5_smallAngleFor_58 rfl rfl ?_
            refine gw_getI (ci := 1) (Cn := RX1) (T0 := TX1) (N := 12) C 7 kX5_94 fX1 rfl (by decide) rfl rfl dX5_smallAngleFor_59 (jq_s hq) (jq_n hq) (fun hI_59_3 => ?_)
            refine gw_isub C dX5_smallAngleFor_62 ?_
            refine gw_imul C dX5_smallAngleFor_63 ?_
            refine gw_istore C (lo1 := [some (vR r), some (vI x), some (vR q), some (vI y), some (vI 1), some (vI w), some (vI (1 * ((sB I q w) - (I q 7))))]) dX5_smallAngleFor_64 (by decide) rfl ?_
            refine gw_aload_n C 0 dX5_smallAngleFor_66 rfl rfl ?_
            refine gw_getI (ci := 4) (Cn := RX5) (T0 := TX5) (N := 15) C 5 kX5_61 fX5 rfl (by decide) rfl rfl dX5_smallAngleFor_67 (tq_s hr) (tq_n hr) (fun hI_67_3 => ?_)
            refine gw_iload C dX5_smallAngleFor_70 rfl ?_
            refine gw_iadd C dX5_smallAngleFor_72 ?_
            refine gw_callSm C (as := [vI ((I r 5) + (1 * ((sB I q w) - (I q 7))))]) (st := []) (c_X3_centre hl0 G ((I r 5) + (1 * ((sB I q w) - (I q 7)))) (by omega)) dX5_smallAngleFor_73 kX5_97 qX3_centre hdX3_centre ⟨Nat.le_of_ble_eq_true rfl, Nat.le_of_ble_eq_true rfl⟩ ⟨Nat.le_of_ble_eq_true rfl, Nat.le_of_ble_eq_true rfl⟩ (Nat.le_of_ble_eq_true rfl) rfl (fun z_73_3 => ?_)
            have hr_73_3 := centZ_b ((I r 5) + (1 * ((sB I q w) - (I q 7))))
            refine gw_iabs C dX5_smallAngleFor_76 kX5_74 (by omega) (by omega) (Nat.le_of_ble_eq_true rfl) (Nat.le_of_ble_eq_true rfl) (Nat.le_of_ble_eq_true rfl) (Nat.le_of_ble_eq_true rfl) ?_
            refine gw_iload_n C 3 dX5_smallAngleFor_79 rfl rfl ?_
            refine gw_icmp_gt C (tgt := 86) dX5_smallAngleFor_80 (by decide) (by omega) (by omega) (fun h_80_3 => ?_) (fun h_80_3 => ?_)
            · skip
              refine gw_iinc C (lo1 := [some (vR r), some (vI x), some (vR q), some (vI y), some (vI 1), some (vI (w + 1)), some (vI (1 * ((sB I q w) - (I q 7))))]) dX5_smallAngleFor_86 rfl (by decide) rfl ?_
              refine gw_goto C (tgt := 42) dX5_smallAngleFor_89 (by decide) ?_
              exact gw_weak (lo' := [some (vR r), some (vI x), some (vR q), some (vI y), some (vI 1), some (vI (w + 1)), none]) ⟨rfl, rfl, rfl, rfl, rfl, rfl, trivial⟩ (ih_42 (w + 1) z_73_3 (by omega) (by rw [hres]; exact fs_f (by omega) (by unfold aP; rw [hsg]; intro hh; have hk := of_decide_eq_true hh; omega)) (by omega))
            · skip
              refine gw_iload C dX5_smallAngleFor_83 rfl ?_
              exact gw_iret C (Nat.le_of_ble_eq_true rfl) (Nat.le_of_ble_eq_true rfl) dX5_smallAngleFor_85 (⟨congrArg (fun q => some (vI q)) (by rw [if_pos hg, hres]; exact (fs_t (by omega) (by unfold aP; rw [hsg]; exact decide_eq_true (by omega))).symm), rfl, rfl⟩)
      exact gw_weak (lo' := [some (vR r), some (vI x), some (vR q), some (vI y), some (vI 1), some (vI (-3600)), none]) ⟨rfl, rfl, rfl, rfl, rfl, rfl, trivial⟩ (loop_42 _ (-3600) z_1 (by decide) (by rfl) (Nat.lt_succ_self _))
  · skip
    refine gw_if_ne C (tgt := 10) dX5_smallAngleFor_4 (by decide) ⟨by decide, by decide⟩ (fun h => absurd h (by decide)) (fun _ => ?_)
    refine gw_ldc C (x := (-2000000000)) dX5_smallAngleFor_7 kX5_46 (by decide) ?_
    exact gw_iret C (Nat.le_of_ble_eq_true rfl) (Nat.le_of_ble_eq_true rfl) dX5_smallAngleFor_9 (⟨congrArg (fun q => some (vI q)) (by rw [if_neg (by unfold gpd; omega)]), rfl, rfl⟩)
