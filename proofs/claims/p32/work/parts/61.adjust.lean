set_option maxHeartbeats 4000000 in
set_option maxRecDepth 100000 in
theorem c_L_adjust {l : Launch} (hl0 : l.stackTraces = false) (G : GG) (I J : GI) {z : Nat} {S : Nat → Int} (hR : rowL I = S) (ho : Oks S) (t : Nat) (htt : (t : Int) < S 5) (hc : 0 ≤ S (104 + 28 * t)) : GM l yL_adjust (.code yL_adjust cL_adjust 16 (some .int)) 4 105 0 0 G N0 SH RR [vR 233, vR 234, vR 235, vR 236, vR 237, vR 238, vI (t : Int)] z I J (adQ S t I J) gNo := by
  refine gm_of (lo0 := [some (vR 233), some (vR 234), some (vR 235), some (vR 236), some (vR 237), some (vR 238), some (vI (t : Int)), none, none, none, none, none, none, none, none, none]) hl0 (by decide) rfl (Nat.le_of_ble_eq_true rfl) ?_
  intro p e s m args below meth c C ht hgi
  have C : gC G p l s m args meth c cL_adjust 16 RL (some .int) "adjust" := C
  have h0 := ho.1
  have h3 := ho.2.1
  have ht9 := okT ho htt
  have hf9 := ho.2.2.2.1 (S (102 + 28 * t)).toNat (by omega)
  have hlg := ht9.2.1 hc
  refine gw_aload_n C 0 dL_adjust_0 rfl rfl ?_
  refine gw_aload_n C 1 dL_adjust_1 rfl rfl ?_
  refine gw_aload_n C 2 dL_adjust_2 rfl rfl ?_
  refine gw_aload_n C 3 dL_adjust_3 rfl rfl ?_
  refine gw_aload C dL_adjust_4 rfl ?_
  refine gw_iload C dL_adjust_6 rfl ?_
  refine gw_callSm C (as := [vR 233, vR 234, vR 235, vR 236, vR 237, vI (t : Int)]) (st := []) (c_L_gap hl0 G I J hR ho t (by omega) (by omega)) dL_adjust_8 kL_108 qL_gap hdL_gap ⟨Nat.le_of_ble_eq_true rfl, Nat.le_of_ble_eq_true rfl⟩ ⟨Nat.le_of_ble_eq_true rfl, Nat.le_of_ble_eq_true rfl⟩ (Nat.le_of_ble_eq_true rfl) rfl (fun z_8 => ?_)
  have hr_8 := sG_b S t
  refine gw_istore C (lo1 := [some (vR 233), some (vR 234), some (vR 235), some (vR 236), some (vR 237), some (vR 238), some (vI (t : Int)), some (vI (sG S t)), none, none, none, none, none, none, none, none]) dL_adjust_11 (by decide) rfl ?_
  refine gw_aload_n C 3 dL_adjust_13 rfl rfl ?_
  refine gw_iconst C dL_adjust_14 ?_
  refine gw_iload C dL_adjust_15 rfl ?_
  refine gw_imul C dL_adjust_17 ?_
  refine gw_iconst C dL_adjust_18 ?_
  refine gw_iadd C dL_adjust_19 ?_
  refine gw_iald C ((4 * t) + 1) dL_adjust_20 xs_236 xn_236 (by omega) (by omega) (by decide) (fun hI_20 => ?_)
  rw [show (I 236 ((4 * t) + 1)) = (((S (103 + 28 * t)).toNat : Nat) : Int) from by have e9 := lr_h1 (I := I) (t := t) (by omega); rw [hR] at e9; omega] at hI_20 ⊢
  refine gw_istore C (lo1 := [some (vR 233), some (vR 234), some (vR 235), some (vR 236), some (vR 237), some (vR 238), some (vI (t : Int)), some (vI (sG S t)), some (vI (((S (103 + 28 * t)).toNat : Nat) : Int)), none, none, none, none, none, none, none]) dL_adjust_21 (by decide) rfl ?_
  refine gw_iload C dL_adjust_23 rfl ?_
  refine gw_iload C dL_adjust_25 rfl ?_
  refine gw_iconst C dL_adjust_27 ?_
  refine gw_iadd C dL_adjust_28 ?_
  refine gw_idiv C dL_adjust_29 (by first | omega | assumption | exact hgi _ _) (by first | omega | assumption | exact hgi _ _) (by omega) ?_
  rw [show ((sG S t)).tdiv ((((S (103 + 28 * t)).toNat : Nat) : Int) + 1) = shZ S t from by unfold shZ; congr 1; omega]
  have hsh : -648000 ≤ shZ S t ∧ shZ S t ≤ 648000 := by have := tdiv_b (sG S t) (c := S (103 + 28 * t) + 1) (by omega); unfold shZ; omega
  refine gw_istore C (lo1 := [some (vR 233), some (vR 234), some (vR 235), some (vR 236), some (vR 237), some (vR 238), some (vI (t : Int)), some (vI (sG S t)), some (vI (((S (103 + 28 * t)).toNat : Nat) : Int)), some (vI (shZ S t)), none, none, none, none, none, none]) dL_adjust_30 (by decide) rfl ?_
  refine gw_iload C dL_adjust_32 rfl ?_
  refine gw_iload C dL_adjust_34 rfl ?_
  refine gw_iconst C dL_adjust_36 ?_
  refine gw_iadd C dL_adjust_37 ?_
  refine gw_irem C dL_adjust_38 (by first | omega | assumption | exact hgi _ _) (by first | omega | assumption | exact hgi _ _) (by omega) ?_
  have hlf9 := lf_b (sG S t) (c := S (103 + 28 * t) + 1) (by omega)
  have hlf : lfZ S t = sG S t - (S (103 + 28 * t) + 1) * (sG S t).tdiv (S (103 + 28 * t) + 1) := by unfold lfZ shZ; rw [Int.mul_comm]
  rw [show ((sG S t)).tmod ((((S (103 + 28 * t)).toNat : Nat) : Int) + 1) = lfZ S t from by have h := Int.tmod_add_mul_tdiv (sG S t) (S (103 + 28 * t) + 1); rw [show (((S (103 + 28 * t)).toNat : Nat) : Int) = S (103 + 28 * t) by omega, hlf]; omega]
  refine gw_istore C (lo1 := [some (vR 233), some (vR 234), some (vR 235), some (vR 236), some (vR 237), some (vR 238), some (vI (t : Int)), some (vI (sG S t)), some (vI (((S (103 + 28 * t)).toNat : Nat) : Int)), some (vI (shZ S t)), some (vI (lfZ S t)), none, none, none, none, none]) dL_adjust_39 (by decide) rfl ?_
  refine gw_aload_n C 3 dL_adjust_41 rfl rfl ?_
  refine gw_iconst C dL_adjust_42 ?_
  refine gw_iload C dL_adjust_43 rfl ?_
  refine gw_imul C dL_adjust_45 ?_
  refine gw_iconst C dL_adjust_46 ?_
  refine gw_iadd C dL_adjust_47 ?_
  refine gw_aload_n C 3 dL_adjust_48 rfl rfl ?_
  refine gw_iconst C dL_adjust_49 ?_
  refine gw_iload C dL_adjust_50 rfl ?_
  refine gw_imul C dL_adjust_52 ?_
  refine gw_iconst C dL_adjust_53 ?_
  refine gw_iadd C dL_adjust_54 ?_
  refine gw_iald C ((4 * t) + 3) dL_adjust_55 xs_236 xn_236 (by omega) (by omega) (by decide) (fun hI_55 => ?_)
  rw [show (I 236 ((4 * t) + 3)) = (S (105 + 28 * t)) from by have e9 := lr_h3 (I := I) (t := t) (by omega); rw [hR] at e9; exact e9] at hI_55 ⊢
  refine gw_iload C dL_adjust_56 rfl ?_
  refine gw_isub C dL_adjust_58 ?_
  refine gw_i2l C dL_adjust_59 (by first | omega | assumption | exact hgi _ _) ?_
  refine gw_callSm C (as := [vL ((S (105 + 28 * t)) - (shZ S t))]) (st := [vI ((4 * (t : Int)) + 3), vR 236]) (c_L_norm hl0 G ((S (105 + 28 * t)) - (shZ S t)) (by omega)) dL_adjust_60 kL_61 qL_norm hdL_norm ⟨Nat.le_of_ble_eq_true rfl, Nat.le_of_ble_eq_true rfl⟩ ⟨Nat.le_of_ble_eq_true rfl, Nat.le_of_ble_eq_true rfl⟩ (Nat.le_of_ble_eq_true rfl) rfl (fun z_60 => ?_)
  have hr_60 := normZ_b ((S (105 + 28 * t)) - (shZ S t))
  refine gw_iast C ((4 * t) + 3) dL_adjust_63 xs_236 xn_236 (by omega) (by omega) (by decide) (by first | omega | assumption | exact hgi _ _) ?_
  refine gw_lconst C 0 dL_adjust_64 (by decide) ?_
  refine gw_lstore C (lo1 := [some (vR 233), some (vR 234), some (vR 235), some (vR 236), some (vR 237), some (vR 238), some (vI (t : Int)), some (vI (sG S t)), some (vI (((S (103 + 28 * t)).toNat : Nat) : Int)), some (vI (shZ S t)), some (vI (lfZ S t)), some (vL 0), none, none, none, none]) dL_adjust_65 (by decide) rfl ?_
  refine gw_iconst C dL_adjust_67 ?_
  refine gw_istore C (lo1 := [some (vR 233), some (vR 234), some (vR 235), some (vR 236), some (vR 237), some (vR 238), some (vI (t : Int)), some (vI (sG S t)), some (vI (((S (103 + 28 * t)).toNat : Nat) : Int)), some (vI (shZ S t)), some (vI (lfZ S t)), some (vL 0), none, some (vI 0), none, none]) dL_adjust_68 (by decide) rfl ?_
  have loop_70 : ∀ (fuel : Nat) (dm : Nat) (n : Nat) (K : GI) (zz : Nat), (n ≤ (S (103 + 28 * t)).toNat) → (dm < 4096) → (∀ k : Nat, k < (S (103 + 28 * t)).toNat → (dm / 2 ^ k % 2 = 1 ↔ rkF (sLe S t) k (S (103 + 28 * t)).toNat < (n : Int))) → (ctF (dnF (sLe S t) (S (103 + 28 * t)).toNat (n : Int)) (S (103 + 28 * t)).toNat = n) → (rowL K = adN S t n) → (∀ q f, q ≠ 236 → q ≠ 237 → K q f = I q f) → (S (103 + 28 * t)).toNat + 1 - n < fuel → GW G p l e ({ frames := 4, cells := 0, slots := 0, locals := 105 } : Room) s m args below meth c 16 zz N0 SH RR K J 0 0 (vx_MQ below (GQ G N0 SH RR (adQ S t I J)) (GX G N0 SH RR gNo) args s 0 0 (ge G)) 70 [some (vR 233), some (vR 234), some (vR 235), some (vR 236), some (vR 237), some (vR 238), some (vI (t : Int)), some (vI (sG S t)), some (vI (((S (103 + 28 * t)).toNat : Nat) : Int)), some (vI (shZ S t)), some (vI (lfZ S t)), some (vL (dm : Int)), none, some (vI (n : Int)), none, none] [] := by
    intro fuel
    induction fuel with
    | zero => intro dm n K zz hn hdm hD hC hRK hfr hf_70; exact absurd hf_70 (Nat.not_lt_zero _)
    | succ fuel ih_70 =>
      intro dm n K zz hn hdm hD hC hRK hfr hf_70
      refine gw_iload C dL_adjust_70 rfl ?_
      refine gw_iload C dL_adjust_72 rfl ?_
      refine gw_icmp_ge C (tgt := 218) dL_adjust_74 (by decide) (by first | omega | assumption | exact hgi _ _) hI_20 (fun h_74 => ?_) (fun h_74 => ?_)
      · skip
        refine gw_iload C dL_adjust_218 rfl ?_
        exact gw_iret C (Nat.le_of_ble_eq_true rfl) (Nat.le_of_ble_eq_true rfl) dL_adjust_220 (⟨rfl, ⟨by rw [hRK, show n = (S (103 + 28 * t)).toNat by omega]; exact adN_e (by omega), hfr⟩, rfl⟩)
      · skip
        refine gw_iconst C dL_adjust_77 ?_
        refine gw_istore C (lo1 := [some (vR 233), some (vR 234), some (vR 235), some (vR 236), some (vR 237), some (vR 238), some (vI (t : Int)), some (vI (sG S t)), some (vI (((S (103 + 28 * t)).toNat : Nat) : Int)), some (vI (shZ S t)), some (vI (lfZ S t)), some (vL (dm : Int)), none, some (vI (n : Int)), some (vI (-1)), none]) dL_adjust_78 (by decide) rfl ?_
        refine gw_iconst C dL_adjust_80 ?_
        refine gw_istore C (lo1 := [some (vR 233), some (vR 234), some (vR 235), some (vR 236), some (vR 237), some (vR 238), some (vI (t : Int)), some (vI (sG S t)), some (vI (((S (103 + 28 * t)).toNat : Nat) : Int)), some (vI (shZ S t)), some (vI (lfZ S t)), some (vL (dm : Int)), none, some (vI (n : Int)), some (vI (-1)), some (vI 0)]) dL_adjust_81 (by decide) rfl ?_
        have loop_83 : ∀ (fuel : Nat) (f : Int) (k : Nat) (zy : Nat), (k ≤ (S (103 + 28 * t)).toNat) → ((f = -1 ∧ ∀ i, i < k → rkF (sLe S t) i (S (103 + 28 * t)).toNat < (n : Int)) ∨ ∃ j : Nat, f = (j : Int) ∧ j < k ∧ (n : Int) ≤ rkF (sLe S t) j (S (103 + 28 * t)).toNat ∧ ∀ i, i < k → (n : Int) ≤ rkF (sLe S t) i (S (103 + 28 * t)).toNat → rkF (sLe S t) j (S (103 + 28 * t)).toNat ≤ rkF (sLe S t) i (S (103 + 28 * t)).toNat) → (S (103 + 28 * t)).toNat + 1 - k < fuel → GW G p l e ({ frames := 4, cells := 0, slots := 0, locals := 105 } : Room) s m args below meth c 16 zy N0 SH RR K J 0 0 (vx_MQ below (GQ G N0 SH RR (adQ S t I J)) (GX G N0 SH RR gNo) args s 0 0 (ge G)) 83 [some (vR 233), some (vR 234), some (vR 235), some (vR 236), some (vR 237), some (vR 238), some (vI (t : Int)), some (vI (sG S t)), some (vI (((S (103 + 28 * t)).toNat : Nat) : Int)), some (vI (shZ S t)), some (vI (lfZ S t)), some (vL (dm : Int)), none, some (vI (n : Int)), some (vI f), some (vI (k : Int))] [] := by
          intro fuel
          induction fuel with
          | zero => intro f k zy hk hf hf_83; exact absurd hf_83 (Nat.not_lt_zero _)
          | succ fuel ih_83 =>
            intro f k zy hk hf hf_83
            refine gw_iload C dL_adjust_83 rfl ?_
            refine gw_iload C dL_adjust_85 rfl ?_
            refine gw_icmp_ge C (tgt := 147) dL_adjust_87 (by decide) (by first | omega | assumption | exact hgi _ _) hI_20 (fun h_87 => ?_) (fun h_87 => ?_)
            · skip
              obtain ⟨j, e9, hj, hjr⟩ := rk_pick (l := sLe S t) (m := (S (103 + 28 * t)).toNat) (n := n) (f := f) (by omega) hC (by have e8 : k = (S (103 + 28 * t)).toNat := (by omega); rw [e8] at hf; exact hf)
              subst e9
              have hj9 := ht9.2.2 j (by omega)
              refine gw_lload C dL_adjust_147 rfl ?_
              refine gw_lconst C 1 dL_adjust_149 (by decide) ?_
              refine gw_iload C dL_adjust_150 rfl ?_
              refine gw_lshl1 C ((2 ^ j : Nat) : Int) dL_adjust_152 (shl_pw j (by omega)) ?_
              refine gw_lorY C ((dm ||| 2 ^ j : Nat) : Int) dL_adjust_153 (or_e dm (2 ^ j)) ?_
              refine gw_lstore C (lo1 := [some (vR 233), some (vR 234), some (vR 235), some (vR 236), some (vR 237), some (vR 238), some (vI (t : Int)), some (vI (sG S t)), some (vI (((S (103 + 28 * t)).toNat : Nat) : Int)), some (vI (shZ S t)), some (vI (lfZ S t)), some (vL ((dm ||| 2 ^ j : Nat) : Int)), none, some (vI (n : Int)), some (vI (j : Int)), some (vI (k : Int))]) dL_adjust_154 (by decide) rfl ?_
              refine gw_aload C dL_adjust_156 rfl ?_
              refine gw_bipush C dL_adjust_158 rfl ?_
              refine gw_iload C dL_adjust_160 rfl ?_
              refine gw_imul C dL_adjust_162 ?_
              refine gw_iload C dL_adjust_163 rfl ?_
              refine gw_iadd C dL_adjust_165 ?_
              refine gw_aload C dL_adjust_166 rfl ?_
              refine gw_bipush C dL_adjust_168 rfl ?_
              refine gw_iload C dL_adjust_170 rfl ?_
              refine gw_imul C dL_adjust_172 ?_
              refine gw_iload C dL_adjust_173 rfl ?_
              refine gw_iadd C dL_adjust_175 ?_
              refine gw_iald C ((12 * t) + j) dL_adjust_176 xs_237 xn_237 (by omega) (by omega) (by decide) (fun hI_176 => ?_)
              rw [show (K 237 ((12 * t) + j)) = (S (106 + 28 * t + 2 * j)) from by have e9 := lr_a (I := K) (t := t) (k := j) (by omega) (by omega); rw [hRK, adN_a (by omega)] at e9; exact e9] at hI_176 ⊢
              refine gw_i2l C dL_adjust_177 hI_176 ?_
              refine gw_iload C dL_adjust_178 rfl ?_
              refine gw_i2l C dL_adjust_180 (by first | omega | assumption | exact hgi _ _) ?_
              refine gw_lsub C dL_adjust_181 ?_
              refine gw_iload C dL_adjust_182 rfl ?_
              refine gw_iload C dL_adjust_184 rfl ?_
              refine gw_icmp_ge C (tgt := 193) dL_adjust_186 (by decide) (by first | omega | assumption | exact hgi _ _) (by first | omega | assumption | exact hgi _ _) (fun h_186 => ?_) (fun h_186 => ?_)
              · skip
                refine gw_iload C dL_adjust_193 rfl ?_
                refine gw_iload C dL_adjust_195 rfl ?_
                refine gw_ineg C dL_adjust_197 ?_
                refine gw_icmp_ge C (tgt := 205) dL_adjust_198 (by decide) (by first | omega | assumption | exact hgi _ _) (by first | omega | assumption | exact hgi _ _) (fun h_198 => ?_) (fun h_198 => ?_)
                · skip
                  refine gw_iconst C dL_adjust_205 ?_
                  refine gw_i2l C dL_adjust_206 ⟨by decide, by decide⟩ ?_
                  refine gw_lsub C dL_adjust_207 ?_
                  refine gw_callSm C (as := [vL (((S (106 + 28 * t + 2 * j)) - (shZ S t)) - 0)]) (st := [vI ((12 * (t : Int)) + (j : Int)), vR 237]) (c_L_norm hl0 G (((S (106 + 28 * t + 2 * j)) - (shZ S t)) - 0) (by omega)) dL_adjust_208 kL_61 qL_norm hdL_norm ⟨Nat.le_of_ble_eq_true rfl, Nat.le_of_ble_eq_true rfl⟩ ⟨Nat.le_of_ble_eq_true rfl, Nat.le_of_ble_eq_true rfl⟩ (Nat.le_of_ble_eq_true rfl) rfl (fun z_208 => ?_)
                  have hr_208 := normZ_b (((S (106 + 28 * t + 2 * j)) - (shZ S t)) - 0)
                  refine gw_iast C ((12 * t) + j) dL_adjust_211 xs_237 xn_237 (by omega) (by omega) (by decide) (by first | omega | assumption | exact hgi _ _) ?_
                  refine gw_iinc C (lo1 := [some (vR 233), some (vR 234), some (vR 235), some (vR 236), some (vR 237), some (vR 238), some (vI (t : Int)), some (vI (sG S t)), some (vI (((S (103 + 28 * t)).toNat : Nat) : Int)), some (vI (shZ S t)), some (vI (lfZ S t)), some (vL ((dm ||| 2 ^ j : Nat) : Int)), none, some (vI ((n : Int) + 1)), some (vI (j : Int)), some (vI (k : Int))]) dL_adjust_212 rfl (by decide) rfl ?_
                  refine gw_goto C (tgt := 70) dL_adjust_215 (by decide) ?_
                  exact gw_weak (lo' := [some (vR 233), some (vR 234), some (vR 235), some (vR 236), some (vR 237), some (vR 238), some (vI (t : Int)), some (vI (sG S t)), some (vI (((S (103 + 28 * t)).toNat : Nat) : Int)), some (vI (shZ S t)), some (vI (lfZ S t)), some (vL (((dm ||| 2 ^ j) : Nat) : Int)), none, some (vI (((n + 1) : Nat) : Int)), none, none]) ⟨rfl, rfl, rfl, rfl, rfl, rfl, rfl, rfl, rfl, rfl, rfl, congrArg (fun q => some (vL q)) (by omega), congrArg (fun q => some (vI q)) (by omega), trivial⟩ (ih_70 (dm ||| 2 ^ j) (n + 1) (up K 237 ((12 * t) + j) (normZ (((S (106 + 28 * t + 2 * j)) - (shZ S t)) - 0))) z_208 (by omega) (by exact or_lt hdm (by omega)) (fun k9 hk9 => by rw [bit_or]; have a := hD k9 hk9; have b := rk_inj (l := sLe S t) (i := j) (k := k9) (m := (S (103 + 28 * t)).toNat) (by omega) hk9; constructor; intro q; rcases q with q | q; have := a.mp q; omega; subst q; omega; intro q; rcases Int.lt_or_le (rkF (sLe S t) k9 (S (103 + 28 * t)).toNat) (n : Int) with w | w; exact Or.inl (a.mpr w); exact Or.inr (b (by omega))) (by exact ct_next hC (by omega) hjr) (by rw [lu_a (by omega) (by omega), hRK]; exact adN_s (by omega) hjr (by congr 1; unfold moF; (repeat' split) <;> omega)) (fun q f h1 h2 => (up_nn (by omega)).trans (hfr q f h1 h2)) (by omega))
                · skip
                  refine gw_iconst C dL_adjust_201 ?_
                  refine gw_goto C (tgt := 206) dL_adjust_202 (by decide) ?_
                  refine gw_i2l C dL_adjust_206 ⟨by decide, by decide⟩ ?_
                  refine gw_lsub C dL_adjust_207 ?_
                  refine gw_callSm C (as := [vL (((S (106 + 28 * t + 2 * j)) - (shZ S t)) - (-1))]) (st := [vI ((12 * (t : Int)) + (j : Int)), vR 237]) (c_L_norm hl0 G (((S (106 + 28 * t + 2 * j)) - (shZ S t)) - (-1)) (by omega)) dL_adjust_208 kL_61 qL_norm hdL_norm ⟨Nat.le_of_ble_eq_true rfl, Nat.le_of_ble_eq_true rfl⟩ ⟨Nat.le_of_ble_eq_true rfl, Nat.le_of_ble_eq_true rfl⟩ (Nat.le_of_ble_eq_true rfl) rfl (fun z_208_2 => ?_)
                  have hr_208_2 := normZ_b (((S (106 + 28 * t + 2 * j)) - (shZ S t)) - (-1))
                  refine gw_iast C ((12 * t) + j) dL_adjust_211 xs_237 xn_237 (by omega) (by omega) (by decide) (by first | omega | assumption | exact hgi _ _) ?_
                  refine gw_iinc C (lo1 := [some (vR 233), some (vR 234), some (vR 235), some (vR 236), some (vR 237), some (vR 238), some (vI (t : Int)), some (vI (sG S t)), some (vI (((S (103 + 28 * t)).toNat : Nat) : Int)), some (vI (shZ S t)), some (vI (lfZ S t)), some (vL ((dm ||| 2 ^ j : Nat) : Int)), none, some (vI ((n : Int) + 1)), some (vI (j : Int)), some (vI (k : Int))]) dL_adjust_212 rfl (by decide) rfl ?_
                  refine gw_goto C (tgt := 70) dL_adjust_215 (by decide) ?_
                  exact gw_weak (lo' := [some (vR 233), some (vR 234), some (vR 235), some (vR 236), some (vR 237), some (vR 238), some (vI (t : Int)), some (vI (sG S t)), some (vI (((S (103 + 28 * t)).toNat : Nat) : Int)), some (vI (shZ S t)), some (vI (lfZ S t)), some (vL (((dm ||| 2 ^ j) : Nat) : Int)), none, some (vI (((n + 1) : Nat) : Int)), none, none]) ⟨rfl, rfl, rfl, rfl, rfl, rfl, rfl, rfl, rfl, rfl, rfl, congrArg (fun q => some (vL q)) (by omega), congrArg (fun q => some (vI q)) (by omega), trivial⟩ (ih_70 (dm ||| 2 ^ j) (n + 1) (up K 237 ((12 * t) + j) (normZ (((S (106 + 28 * t + 2 * j)) - (shZ S t)) - (-1)))) z_208_2 (by omega) (by exact or_lt hdm (by omega)) (fun k9 hk9 => by rw [bit_or]; have a := hD k9 hk9; have b := rk_inj (l := sLe S t) (i := j) (k := k9) (m := (S (103 + 28 * t)).toNat) (by omega) hk9; constructor; intro q; rcases q with q | q; have := a.mp q; omega; subst q; omega; intro q; rcases Int.lt_or_le (rkF (sLe S t) k9 (S (103 + 28 * t)).toNat) (n : Int) with w | w; exact Or.inl (a.mpr w); exact Or.inr (b (by omega))) (by exact ct_next hC (by omega) hjr) (by rw [lu_a (by omega) (by omega), hRK]; exact adN_s (by omega) hjr (by congr 1; unfold moF; (repeat' split) <;> omega)) (fun q f h1 h2 => (up_nn (by omega)).trans (hfr q f h1 h2)) (by omega))
              · skip
                refine gw_iconst C dL_adjust_189 ?_
                refine gw_goto C (tgt := 206) dL_adjust_190 (by decide) ?_
                refine gw_i2l C dL_adjust_206 ⟨by decide, by decide⟩ ?_
                refine gw_lsub C dL_adjust_207 ?_
                refine gw_callSm C (as := [vL (((S (106 + 28 * t + 2 * j)) - (shZ S t)) - 1)]) (st := [vI ((12 * (t : Int)) + (j : Int)), vR 237]) (c_L_norm hl0 G (((S (106 + 28 * t + 2 * j)) - (shZ S t)) - 1) (by omega)) dL_adjust_208 kL_61 qL_norm hdL_norm ⟨Nat.le_of_ble_eq_true rfl, Nat.le_of_ble_eq_true rfl⟩ ⟨Nat.le_of_ble_eq_true rfl, Nat.le_of_ble_eq_true rfl⟩ (Nat.le_of_ble_eq_true rfl) rfl (fun z_208_3 => ?_)
                have hr_208_3 := normZ_b (((S (106 + 28 * t + 2 * j)) - (shZ S t)) - 1)
                refine gw_iast C ((12 * t) + j) dL_adjust_211 xs_237 xn_237 (by omega) (by omega) (by decide) (by first | omega | assumption | exact hgi _ _) ?_
                refine gw_iinc C (lo1 := [some (vR 233), some (vR 234), some (vR 235), some (vR 236), some (vR 237), some (vR 238), some (vI (t : Int)), some (vI (sG S t)), some (vI (((S (103 + 28 * t)).toNat : Nat) : Int)), some (vI (shZ S t)), some (vI (lfZ S t)), some (vL ((dm ||| 2 ^ j : Nat) : Int)), none, some (vI ((n : Int) + 1)), some (vI (j : Int)), some (vI (k : Int))]) dL_adjust_212 rfl (by decide) rfl ?_
                refine gw_goto C (tgt := 70) dL_adjust_215 (by decide) ?_
                exact gw_weak (lo' := [some (vR 233), some (vR 234), some (vR 235), some (vR 236), some (vR 237), some (vR 238), some (vI (t : Int)), some (vI (sG S t)), some (vI (((S (103 + 28 * t)).toNat : Nat) : Int)), some (vI (shZ S t)), some (vI (lfZ S t)), some (vL (((dm ||| 2 ^ j) : Nat) : Int)), none, some (vI (((n + 1) : Nat) : Int)), none, none]) ⟨rfl, rfl, rfl, rfl, rfl, rfl, rfl, rfl, rfl, rfl, rfl, congrArg (fun q => some (vL q)) (by omega), congrArg (fun q => some (vI q)) (by omega), trivial⟩ (ih_70 (dm ||| 2 ^ j) (n + 1) (up K 237 ((12 * t) + j) (normZ (((S (106 + 28 * t + 2 * j)) - (shZ S t)) - 1))) z_208_3 (by omega) (by exact or_lt hdm (by omega)) (fun k9 hk9 => by rw [bit_or]; have a := hD k9 hk9; have b := rk_inj (l := sLe S t) (i := j) (k := k9) (m := (S (103 + 28 * t)).toNat) (by omega) hk9; constructor; intro q; rcases q with q | q; have := a.mp q; omega; subst q; omega; intro q; rcases Int.lt_or_le (rkF (sLe S t) k9 (S (103 + 28 * t)).toNat) (n : Int) with w | w; exact Or.inl (a.mpr w); exact Or.inr (b (by omega))) (by exact ct_next hC (by omega) hjr) (by rw [lu_a (by omega) (by omega), hRK]; exact adN_s (by omega) hjr (by congr 1; unfold moF; (repeat' split) <;> omega)) (fun q f h1 h2 => (up_nn (by omega)).trans (hfr q f h1 h2)) (by omega))
            · skip
              rcases hf with ⟨e9, hall⟩ | ⟨j, e9, hj, hjr, hall⟩
              · skip
                subst e9
                refine gw_lload C dL_adjust_90 rfl ?_
                refine gw_iload C dL_adjust_92 rfl ?_
                refine gw_lshrY C ((dm / 2 ^ k : Nat) : Int) dL_adjust_94 (shr_e hdm (by omega)) ?_
                refine gw_lconst C 1 dL_adjust_95 (by decide) ?_
                refine gw_landY C ((dm / 2 ^ k % 2 : Nat) : Int) dL_adjust_96 (and1_e (Nat.lt_of_le_of_lt (Nat.div_le_self _ _) hdm)) ?_
                have hbt := hD k (by omega)
                have hb2 : dm / 2 ^ k % 2 < 2 := Nat.mod_lt _ (by decide)
                generalize dm / 2 ^ k % 2 = w9 at hbt hb2 ⊢
                refine gw_lconst C 0 dL_adjust_97 (by decide) ?_
                refine gw_lcmp C dL_adjust_98 (by omega) ⟨by decide, by decide⟩ (fun h_98 => ?_) (fun h_98 => ?_) (fun h_98 => ?_)
                · skip
                  refine gw_if_ne C (tgt := 137) dL_adjust_99 (by decide) ⟨by decide, by decide⟩ (fun _ => ?_) (fun h => absurd h (by decide))
                  refine gw_iload C dL_adjust_137 rfl ?_
                  refine gw_istore C (lo1 := [some (vR 233), some (vR 234), some (vR 235), some (vR 236), some (vR 237), some (vR 238), some (vI (t : Int)), some (vI (sG S t)), some (vI (((S (103 + 28 * t)).toNat : Nat) : Int)), some (vI (shZ S t)), some (vI (lfZ S t)), some (vL (dm : Int)), none, some (vI (n : Int)), some (vI (-1)), some (vI (k : Int))]) dL_adjust_139 (by decide) rfl ?_
                  refine gw_iinc C (lo1 := [some (vR 233), some (vR 234), some (vR 235), some (vR 236), some (vR 237), some (vR 238), some (vI (t : Int)), some (vI (sG S t)), some (vI (((S (103 + 28 * t)).toNat : Nat) : Int)), some (vI (shZ S t)), some (vI (lfZ S t)), some (vL (dm : Int)), none, some (vI (n : Int)), some (vI (-1)), some (vI ((k : Int) + 1))]) dL_adjust_141 rfl (by decide) rfl ?_
                  refine gw_goto C (tgt := 83) dL_adjust_144 (by decide) ?_
                  exact gw_weak (lo' := [some (vR 233), some (vR 234), some (vR 235), some (vR 236), some (vR 237), some (vR 238), some (vI (t : Int)), some (vI (sG S t)), some (vI (((S (103 + 28 * t)).toNat : Nat) : Int)), some (vI (shZ S t)), some (vI (lfZ S t)), some (vL (dm : Int)), none, some (vI (n : Int)), some (vI (-1)), some (vI (((k + 1) : Nat) : Int))]) ⟨rfl, rfl, rfl, rfl, rfl, rfl, rfl, rfl, rfl, rfl, rfl, rfl, rfl, rfl, congrArg (fun q => some (vI q)) (by omega), trivial⟩ (ih_83 (-1) (k + 1) zy (by omega) (by first | exact Or.inl ⟨rfl, fun i hi => by rcases (show i < k ∨ i = k by omega) with q | q; exact hall i q; subst q; omega⟩ | exact Or.inr ⟨k, rfl, by omega, by omega, fun i hi hr => by rcases (show i < k ∨ i = k by omega) with q | q; have := hall i q; omega; subst q; omega⟩ | (have hbet : btF (sLe S t) j k = true := bt_iff.mpr (Or.inl (by show S (107 + 28 * t + 2 * j) < S (107 + 28 * t + 2 * k); omega)); have hmo := rk_mono (m := (S (103 + 28 * t)).toNat) (by omega) hbet; exact Or.inr ⟨k, rfl, by omega, by omega, fun i hi hr => by rcases (show i < k ∨ i = k by omega) with q | q; have := hall i q hr; omega; subst q; omega⟩) | exact Or.inr ⟨j, rfl, by omega, hjr, fun i hi hr => by rcases (show i < k ∨ i = k by omega) with q | q; exact hall i q hr; subst q; omega⟩ | (have hbet : btF (sLe S t) k j = true := bt_iff.mpr (by show S (107 + 28 * t + 2 * k) < S (107 + 28 * t + 2 * j) ∨ (S (107 + 28 * t + 2 * j) = S (107 + 28 * t + 2 * k) ∧ j < k); omega); have hmo := rk_mono (m := (S (103 + 28 * t)).toNat) (by omega) hbet; exact Or.inr ⟨j, rfl, by omega, hjr, fun i hi hr => by rcases (show i < k ∨ i = k by omega) with q | q; exact hall i q hr; subst q; omega⟩)) (by omega))
                · skip
                  refine gw_if_ne C (tgt := 137) dL_adjust_99 (by decide) ⟨by decide, by decide⟩ (fun h => absurd h (by decide)) (fun _ => ?_)
                  refine gw_iload C dL_adjust_102 rfl ?_
                  refine gw_if_lt C (tgt := 132) dL_adjust_104 (by decide) ⟨by decide, by decide⟩ (fun _ => ?_) (fun h => absurd h (by decide))
                  refine gw_iload C dL_adjust_132 rfl ?_
                  refine gw_goto C (tgt := 139) dL_adjust_134 (by decide) ?_
                  refine gw_istore C (lo1 := [some (vR 233), some (vR 234), some (vR 235), some (vR 236), some (vR 237), some (vR 238), some (vI (t : Int)), some (vI (sG S t)), some (vI (((S (103 + 28 * t)).toNat : Nat) : Int)), some (vI (shZ S t)), some (vI (lfZ S t)), some (vL (dm : Int)), none, some (vI (n : Int)), some (vI (k : Int)), some (vI (k : Int))]) dL_adjust_139 (by decide) rfl ?_
                  refine gw_iinc C (lo1 := [some (vR 233), some (vR 234), some (vR 235), some (vR 236), some (vR 237), some (vR 238), some (vI (t : Int)), some (vI (sG S t)), some (vI (((S (103 + 28 * t)).toNat : Nat) : Int)), some (vI (shZ S t)), some (vI (lfZ S t)), some (vL (dm : Int)), none, some (vI (n : Int)), some (vI (k : Int)), some (vI ((k : Int) + 1))]) dL_adjust_141 rfl (by decide) rfl ?_
                  refine gw_goto C (tgt := 83) dL_adjust_144 (by decide) ?_
                  exact gw_weak (lo' := [some (vR 233), some (vR 234), some (vR 235), some (vR 236), some (vR 237), some (vR 238), some (vI (t : Int)), some (vI (sG S t)), some (vI (((S (103 + 28 * t)).toNat : Nat) : Int)), some (vI (shZ S t)), some (vI (lfZ S t)), some (vL (dm : Int)), none, some (vI (n : Int)), some (vI (k : Int)), some (vI (((k + 1) : Nat) : Int))]) ⟨rfl, rfl, rfl, rfl, rfl, rfl, rfl, rfl, rfl, rfl, rfl, rfl, rfl, rfl, congrArg (fun q => some (vI q)) (by omega), trivial⟩ (ih_83 (k : Int) (k + 1) zy (by omega) (by first | exact Or.inl ⟨rfl, fun i hi => by rcases (show i < k ∨ i = k by omega) with q | q; exact hall i q; subst q; omega⟩ | exact Or.inr ⟨k, rfl, by omega, by omega, fun i hi hr => by rcases (show i < k ∨ i = k by omega) with q | q; have := hall i q; omega; subst q; omega⟩ | (have hbet : btF (sLe S t) j k = true := bt_iff.mpr (Or.inl (by show S (107 + 28 * t + 2 * j) < S (107 + 28 * t + 2 * k); omega)); have hmo := rk_mono (m := (S (103 + 28 * t)).toNat) (by omega) hbet; exact Or.inr ⟨k, rfl, by omega, by omega, fun i hi hr => by rcases (show i < k ∨ i = k by omega) with q | q; have := hall i q hr; omega; subst q; omega⟩) | exact Or.inr ⟨j, rfl, by omega, hjr, fun i hi hr => by rcases (show i < k ∨ i = k by omega) with q | q; exact hall i q hr; subst q; omega⟩ | (have hbet : btF (sLe S t) k j = true := bt_iff.mpr (by show S (107 + 28 * t + 2 * k) < S (107 + 28 * t + 2 * j) ∨ (S (107 + 28 * t + 2 * j) = S (107 + 28 * t + 2 * k) ∧ j < k); omega); have hmo := rk_mono (m := (S (103 + 28 * t)).toNat) (by omega) hbet; exact Or.inr ⟨j, rfl, by omega, hjr, fun i hi hr => by rcases (show i < k ∨ i = k by omega) with q | q; exact hall i q hr; subst q; omega⟩)) (by omega))
                · skip
                  refine gw_if_ne C (tgt := 137) dL_adjust_99 (by decide) ⟨by decide, by decide⟩ (fun _ => ?_) (fun h => absurd h (by decide))
                  refine gw_iload C dL_adjust_137 rfl ?_
                  refine gw_istore C (lo1 := [some (vR 233), some (vR 234), some (vR 235), some (vR 236), some (vR 237), some (vR 238), some (vI (t : Int)), some (vI (sG S t)), some (vI (((S (103 + 28 * t)).toNat : Nat) : Int)), some (vI (shZ S t)), some (vI (lfZ S t)), some (vL (dm : Int)), none, some (vI (n : Int)), some (vI (-1)), some (vI (k : Int))]) dL_adjust_139 (by decide) rfl ?_
                  refine gw_iinc C (lo1 := [some (vR 233), some (vR 234), some (vR 235), some (vR 236), some (vR 237), some (vR 238), some (vI (t : Int)), some (vI (sG S t)), some (vI (((S (103 + 28 * t)).toNat : Nat) : Int)), some (vI (shZ S t)), some (vI (lfZ S t)), some (vL (dm : Int)), none, some (vI (n : Int)), some (vI (-1)), some (vI ((k : Int) + 1))]) dL_adjust_141 rfl (by decide) rfl ?_
                  refine gw_goto C (tgt := 83) dL_adjust_144 (by decide) ?_
                  exact gw_weak (lo' := [some (vR 233), some (vR 234), some (vR 235), some (vR 236), some (vR 237), some (vR 238), some (vI (t : Int)), some (vI (sG S t)), some (vI (((S (103 + 28 * t)).toNat : Nat) : Int)), some (vI (shZ S t)), some (vI (lfZ S t)), some (vL (dm : Int)), none, some (vI (n : Int)), some (vI (-1)), some (vI (((k + 1) : Nat) : Int))]) ⟨rfl, rfl, rfl, rfl, rfl, rfl, rfl, rfl, rfl, rfl, rfl, rfl, rfl, rfl, congrArg (fun q => some (vI q)) (by omega), trivial⟩ (ih_83 (-1) (k + 1) zy (by omega) (by first | exact Or.inl ⟨rfl, fun i hi => by rcases (show i < k ∨ i = k by omega) with q | q; exact hall i q; subst q; omega⟩ | exact Or.inr ⟨k, rfl, by omega, by omega, fun i hi hr => by rcases (show i < k ∨ i = k by omega) with q | q; have := hall i q; omega; subst q; omega⟩ | (have hbet : btF (sLe S t) j k = true := bt_iff.mpr (Or.inl (by show S (107 + 28 * t + 2 * j) < S (107 + 28 * t + 2 * k); omega)); have hmo := rk_mono (m := (S (103 + 28 * t)).toNat) (by omega) hbet; exact Or.inr ⟨k, rfl, by omega, by omega, fun i hi hr => by rcases (show i < k ∨ i = k by omega) with q | q; have := hall i q hr; omega; subst q; omega⟩) | exact Or.inr ⟨j, rfl, by omega, hjr, fun i hi hr => by rcases (show i < k ∨ i = k by omega) with q | q; exact hall i q hr; subst q; omega⟩ | (have hbet : btF (sLe S t) k j = true := bt_iff.mpr (by show S (107 + 28 * t + 2 * k) < S (107 + 28 * t + 2 * j) ∨ (S (107 + 28 * t + 2 * j) = S (107 + 28 * t + 2 * k) ∧ j < k); omega); have hmo := rk_mono (m := (S (103 + 28 * t)).toNat) (by omega) hbet; exact Or.inr ⟨j, rfl, by omega, hjr, fun i hi hr => by rcases (show i < k ∨ i = k by omega) with q | q; exact hall i q hr; subst q; omega⟩)) (by omega))
              · skip
                subst e9
                refine gw_lload C dL_adjust_90 rfl ?_
                refine gw_iload C dL_adjust_92 rfl ?_
                refine gw_lshrY C ((dm / 2 ^ k : Nat) : Int) dL_adjust_94 (shr_e hdm (by omega)) ?_
                refine gw_lconst C 1 dL_adjust_95 (by decide) ?_
                refine gw_landY C ((dm / 2 ^ k % 2 : Nat) : Int) dL_adjust_96 (and1_e (Nat.lt_of_le_of_lt (Nat.div_le_self _ _) hdm)) ?_
                have hbt := hD k (by omega)
                have hb2 : dm / 2 ^ k % 2 < 2 := Nat.mod_lt _ (by decide)
                generalize dm / 2 ^ k % 2 = w9 at hbt hb2 ⊢
                refine gw_lconst C 0 dL_adjust_97 (by decide) ?_
                refine gw_lcmp C dL_adjust_98 (by omega) ⟨by decide, by decide⟩ (fun h_98_2 => ?_) (fun h_98_2 => ?_) (fun h_98_2 => ?_)
                · skip
                  refine gw_if_ne C (tgt := 137) dL_adjust_99 (by decide) ⟨by decide, by decide⟩ (fun _ => ?_) (fun h => absurd h (by decide))
                  refine gw_iload C dL_adjust_137 rfl ?_
                  refine gw_istore C (lo1 := [some (vR 233), some (vR 234), some (vR 235), some (vR 236), some (vR 237), some (vR 238), some (vI (t : Int)), some (vI (sG S t)), some (vI (((S (103 + 28 * t)).toNat : Nat) : Int)), some (vI (shZ S t)), some (vI (lfZ S t)), some (vL (dm : Int)), none, some (vI (n : Int)), some (vI (j : Int)), some (vI (k : Int))]) dL_adjust_139 (by decide) rfl ?_
                  refine gw_iinc C (lo1 := [some (vR 233), some (vR 234), some (vR 235), some (vR 236), some (vR 237), some (vR 238), some (vI (t : Int)), some (vI (sG S t)), some (vI (((S (103 + 28 * t)).toNat : Nat) : Int)), some (vI (shZ S t)), some (vI (lfZ S t)), some (vL (dm : Int)), none, some (vI (n : Int)), some (vI (j : Int)), some (vI ((k : Int) + 1))]) dL_adjust_141 rfl (by decide) rfl ?_
                  refine gw_goto C (tgt := 83) dL_adjust_144 (by decide) ?_
                  exact gw_weak (lo' := [some (vR 233), some (vR 234), some (vR 235), some (vR 236), some (vR 237), some (vR 238), some (vI (t : Int)), some (vI (sG S t)), some (vI (((S (103 + 28 * t)).toNat : Nat) : Int)), some (vI (shZ S t)), some (vI (lfZ S t)), some (vL (dm : Int)), none, some (vI (n : Int)), some (vI (j : Int)), some (vI (((k + 1) : Nat) : Int))]) ⟨rfl, rfl, rfl, rfl, rfl, rfl, rfl, rfl, rfl, rfl, rfl, rfl, rfl, rfl, congrArg (fun q => some (vI q)) (by omega), trivial⟩ (ih_83 (j : Int) (k + 1) zy (by omega) (by first | exact Or.inl ⟨rfl, fun i hi => by rcases (show i < k ∨ i = k by omega) with q | q; exact hall i q; subst q; omega⟩ | exact Or.inr ⟨k, rfl, by omega, by omega, fun i hi hr => by rcases (show i < k ∨ i = k by omega) with q | q; have := hall i q; omega; subst q; omega⟩ | (have hbet : btF (sLe S t) j k = true := bt_iff.mpr (Or.inl (by show S (107 + 28 * t + 2 * j) < S (107 + 28 * t + 2 * k); omega)); have hmo := rk_mono (m := (S (103 + 28 * t)).toNat) (by omega) hbet; exact Or.inr ⟨k, rfl, by omega, by omega, fun i hi hr => by rcases (show i < k ∨ i = k by omega) with q | q; have := hall i q hr; omega; subst q; omega⟩) | exact Or.inr ⟨j, rfl, by omega, hjr, fun i hi hr => by rcases (show i < k ∨ i = k by omega) with q | q; exact hall i q hr; subst q; omega⟩ | (have hbet : btF (sLe S t) k j = true := bt_iff.mpr (by show S (107 + 28 * t + 2 * k) < S (107 + 28 * t + 2 * j) ∨ (S (107 + 28 * t + 2 * j) = S (107 + 28 * t + 2 * k) ∧ j < k); omega); have hmo := rk_mono (m := (S (103 + 28 * t)).toNat) (by omega) hbet; exact Or.inr ⟨j, rfl, by omega, hjr, fun i hi hr => by rcases (show i < k ∨ i = k by omega) with q | q; exact hall i q hr; subst q; omega⟩)) (by omega))
                · skip
                  refine gw_if_ne C (tgt := 137) dL_adjust_99 (by decide) ⟨by decide, by decide⟩ (fun h => absurd h (by decide)) (fun _ => ?_)
                  refine gw_iload C dL_adjust_102 rfl ?_
                  refine gw_if_lt C (tgt := 132) dL_adjust_104 (by decide) (by first | omega | assumption | exact hgi _ _) (fun h_104 => ?_) (fun h_104 => ?_)
                  · skip
                    refine gw_iload C dL_adjust_132 rfl ?_
                    refine gw_goto C (tgt := 139) dL_adjust_134 (by decide) ?_
                    refine gw_istore C (lo1 := [some (vR 233), some (vR 234), some (vR 235), some (vR 236), some (vR 237), some (vR 238), some (vI (t : Int)), some (vI (sG S t)), some (vI (((S (103 + 28 * t)).toNat : Nat) : Int)), some (vI (shZ S t)), some (vI (lfZ S t)), some (vL (dm : Int)), none, some (vI (n : Int)), some (vI (k : Int)), some (vI (k : Int))]) dL_adjust_139 (by decide) rfl ?_
                    refine gw_iinc C (lo1 := [some (vR 233), some (vR 234), some (vR 235), some (vR 236), some (vR 237), some (vR 238), some (vI (t : Int)), some (vI (sG S t)), some (vI (((S (103 + 28 * t)).toNat : Nat) : Int)), some (vI (shZ S t)), some (vI (lfZ S t)), some (vL (dm : Int)), none, some (vI (n : Int)), some (vI (k : Int)), some (vI ((k : Int) + 1))]) dL_adjust_141 rfl (by decide) rfl ?_
                    refine gw_goto C (tgt := 83) dL_adjust_144 (by decide) ?_
                    exact gw_weak (lo' := [some (vR 233), some (vR 234), some (vR 235), some (vR 236), some (vR 237), some (vR 238), some (vI (t : Int)), some (vI (sG S t)), some (vI (((S (103 + 28 * t)).toNat : Nat) : Int)), some (vI (shZ S t)), some (vI (lfZ S t)), some (vL (dm : Int)), none, some (vI (n : Int)), some (vI (k : Int)), some (vI (((k + 1) : Nat) : Int))]) ⟨rfl, rfl, rfl, rfl, rfl, rfl, rfl, rfl, rfl, rfl, rfl, rfl, rfl, rfl, congrArg (fun q => some (vI q)) (by omega), trivial⟩ (ih_83 (k : Int) (k + 1) zy (by omega) (by first | exact Or.inl ⟨rfl, fun i hi => by rcases (show i < k ∨ i = k by omega) with q | q; exact hall i q; subst q; omega⟩ | exact Or.inr ⟨k, rfl, by omega, by omega, fun i hi hr => by rcases (show i < k ∨ i = k by omega) with q | q; have := hall i q; omega; subst q; omega⟩ | (have hbet : btF (sLe S t) j k = true := bt_iff.mpr (Or.inl (by show S (107 + 28 * t + 2 * j) < S (107 + 28 * t + 2 * k); omega)); have hmo := rk_mono (m := (S (103 + 28 * t)).toNat) (by omega) hbet; exact Or.inr ⟨k, rfl, by omega, by omega, fun i hi hr => by rcases (show i < k ∨ i = k by omega) with q | q; have := hall i q hr; omega; subst q; omega⟩) | exact Or.inr ⟨j, rfl, by omega, hjr, fun i hi hr => by rcases (show i < k ∨ i = k by omega) with q | q; exact hall i q hr; subst q; omega⟩ | (have hbet : btF (sLe S t) k j = true := bt_iff.mpr (by show S (107 + 28 * t + 2 * k) < S (107 + 28 * t + 2 * j) ∨ (S (107 + 28 * t + 2 * j) = S (107 + 28 * t + 2 * k) ∧ j < k); omega); have hmo := rk_mono (m := (S (103 + 28 * t)).toNat) (by omega) hbet; exact Or.inr ⟨j, rfl, by omega, hjr, fun i hi hr => by rcases (show i < k ∨ i = k by omega) with q | q; exact hall i q hr; subst q; omega⟩)) (by omega))
                  · skip
                    refine gw_aload C dL_adjust_107 rfl ?_
                    refine gw_bipush C dL_adjust_109 rfl ?_
                    refine gw_iload C dL_adjust_111 rfl ?_
                    refine gw_imul C dL_adjust_113 ?_
                    refine gw_iload C dL_adjust_114 rfl ?_
                    refine gw_iadd C dL_adjust_116 ?_
                    refine gw_iald C ((12 * t) + k) dL_adjust_117 xs_238 xn_238 (by omega) (by omega) (by decide) (fun hI_117 => ?_)
                    rw [show (K 238 ((12 * t) + k)) = (S (107 + 28 * t + 2 * k)) from by have e9 := lr_b (I := K) (t := t) (k := k) (by omega) (by omega); rw [hRK, adN_b] at e9; exact e9] at hI_117 ⊢
                    refine gw_aload C dL_adjust_118 rfl ?_
                    refine gw_bipush C dL_adjust_120 rfl ?_
                    refine gw_iload C dL_adjust_122 rfl ?_
                    refine gw_imul C dL_adjust_124 ?_
                    refine gw_iload C dL_adjust_125 rfl ?_
                    refine gw_iadd C dL_adjust_127 ?_
                    refine gw_iald C ((12 * t) + j) dL_adjust_128 xs_238 xn_238 (by omega) (by omega) (by decide) (fun hI_128 => ?_)
                    rw [show (K 238 ((12 * t) + j)) = (S (107 + 28 * t + 2 * j)) from by have e9 := lr_b (I := K) (t := t) (k := j) (by omega) (by omega); rw [hRK, adN_b] at e9; exact e9] at hI_128 ⊢
                    refine gw_icmp_le C (tgt := 137) dL_adjust_129 (by decide) hI_117 hI_128 (fun h_129 => ?_) (fun h_129 => ?_)
                    · skip
                      refine gw_iload C dL_adjust_137 rfl ?_
                      refine gw_istore C (lo1 := [some (vR 233), some (vR 234), some (vR 235), some (vR 236), some (vR 237), some (vR 238), some (vI (t : Int)), some (vI (sG S t)), some (vI (((S (103 + 28 * t)).toNat : Nat) : Int)), some (vI (shZ S t)), some (vI (lfZ S t)), some (vL (dm : Int)), none, some (vI (n : Int)), some (vI (j : Int)), some (vI (k : Int))]) dL_adjust_139 (by decide) rfl ?_
                      refine gw_iinc C (lo1 := [some (vR 233), some (vR 234), some (vR 235), some (vR 236), some (vR 237), some (vR 238), some (vI (t : Int)), some (vI (sG S t)), some (vI (((S (103 + 28 * t)).toNat : Nat) : Int)), some (vI (shZ S t)), some (vI (lfZ S t)), some (vL (dm : Int)), none, some (vI (n : Int)), some (vI (j : Int)), some (vI ((k : Int) + 1))]) dL_adjust_141 rfl (by decide) rfl ?_
                      refine gw_goto C (tgt := 83) dL_adjust_144 (by decide) ?_
                      exact gw_weak (lo' := [some (vR 233), some (vR 234), some (vR 235), some (vR 236), some (vR 237), some (vR 238), some (vI (t : Int)), some (vI (sG S t)), some (vI (((S (103 + 28 * t)).toNat : Nat) : Int)), some (vI (shZ S t)), some (vI (lfZ S t)), some (vL (dm : Int)), none, some (vI (n : Int)), some (vI (j : Int)), some (vI (((k + 1) : Nat) : Int))]) ⟨rfl, rfl, rfl, rfl, rfl, rfl, rfl, rfl, rfl, rfl, rfl, rfl, rfl, rfl, congrArg (fun q => some (vI q)) (by omega), trivial⟩ (ih_83 (j : Int) (k + 1) zy (by omega) (by first | exact Or.inl ⟨rfl, fun i hi => by rcases (show i < k ∨ i = k by omega) with q | q; exact hall i q; subst q; omega⟩ | exact Or.inr ⟨k, rfl, by omega, by omega, fun i hi hr => by rcases (show i < k ∨ i = k by omega) with q | q; have := hall i q; omega; subst q; omega⟩ | (have hbet : btF (sLe S t) j k = true := bt_iff.mpr (Or.inl (by show S (107 + 28 * t + 2 * j) < S (107 + 28 * t + 2 * k); omega)); have hmo := rk_mono (m := (S (103 + 28 * t)).toNat) (by omega) hbet; exact Or.inr ⟨k, rfl, by omega, by omega, fun i hi hr => by rcases (show i < k ∨ i = k by omega) with q | q; have := hall i q hr; omega; subst q; omega⟩) | exact Or.inr ⟨j, rfl, by omega, hjr, fun i hi hr => by rcases (show i < k ∨ i = k by omega) with q | q; exact hall i q hr; subst q; omega⟩ | (have hbet : btF (sLe S t) k j = true := bt_iff.mpr (by show S (107 + 28 * t + 2 * k) < S (107 + 28 * t + 2 * j) ∨ (S (107 + 28 * t + 2 * j) = S (107 + 28 * t + 2 * k) ∧ j < k); omega); have hmo := rk_mono (m := (S (103 + 28 * t)).toNat) (by omega) hbet; exact Or.inr ⟨j, rfl, by omega, hjr, fun i hi hr => by rcases (show i < k ∨ i = k by omega) with q | q; exact hall i q hr; subst q; omega⟩)) (by omega))
                    · skip
                      refine gw_iload C dL_adjust_132 rfl ?_
                      refine gw_goto C (tgt := 139) dL_adjust_134 (by decide) ?_
                      refine gw_istore C (lo1 := [some (vR 233), some (vR 234), some (vR 235), some (vR 236), some (vR 237), some (vR 238), some (vI (t : Int)), some (vI (sG S t)), some (vI (((S (103 + 28 * t)).toNat : Nat) : Int)), some (vI (shZ S t)), some (vI (lfZ S t)), some (vL (dm : Int)), none, some (vI (n : Int)), some (vI (k : Int)), some (vI (k : Int))]) dL_adjust_139 (by decide) rfl ?_
                      refine gw_iinc C (lo1 := [some (vR 233), some (vR 234), some (vR 235), some (vR 236), some (vR 237), some (vR 238), some (vI (t : Int)), some (vI (sG S t)), some (vI (((S (103 + 28 * t)).toNat : Nat) : Int)), some (vI (shZ S t)), some (vI (lfZ S t)), some (vL (dm : Int)), none, some (vI (n : Int)), some (vI (k : Int)), some (vI ((k : Int) + 1))]) dL_adjust_141 rfl (by decide) rfl ?_
                      refine gw_goto C (tgt := 83) dL_adjust_144 (by decide) ?_
                      exact gw_weak (lo' := [some (vR 233), some (vR 234), some (vR 235), some (vR 236), some (vR 237), some (vR 238), some (vI (t : Int)), some (vI (sG S t)), some (vI (((S (103 + 28 * t)).toNat : Nat) : Int)), some (vI (shZ S t)), some (vI (lfZ S t)), some (vL (dm : Int)), none, some (vI (n : Int)), some (vI (k : Int)), some (vI (((k + 1) : Nat) : Int))]) ⟨rfl, rfl, rfl, rfl, rfl, rfl, rfl, rfl, rfl, rfl, rfl, rfl, rfl, rfl, congrArg (fun q => some (vI q)) (by omega), trivial⟩ (ih_83 (k : Int) (k + 1) zy (by omega) (by first | exact Or.inl ⟨rfl, fun i hi => by rcases (show i < k ∨ i = k by omega) with q | q; exact hall i q; subst q; omega⟩ | exact Or.inr ⟨k, rfl, by omega, by omega, fun i hi hr => by rcases (show i < k ∨ i = k by omega) with q | q; have := hall i q; omega; subst q; omega⟩ | (have hbet : btF (sLe S t) j k = true := bt_iff.mpr (Or.inl (by show S (107 + 28 * t + 2 * j) < S (107 + 28 * t + 2 * k); omega)); have hmo := rk_mono (m := (S (103 + 28 * t)).toNat) (by omega) hbet; exact Or.inr ⟨k, rfl, by omega, by omega, fun i hi hr => by rcases (show i < k ∨ i = k by omega) with q | q; have := hall i q hr; omega; subst q; omega⟩) | exact Or.inr ⟨j, rfl, by omega, hjr, fun i hi hr => by rcases (show i < k ∨ i = k by omega) with q | q; exact hall i q hr; subst q; omega⟩ | (have hbet : btF (sLe S t) k j = true := bt_iff.mpr (by show S (107 + 28 * t + 2 * k) < S (107 + 28 * t + 2 * j) ∨ (S (107 + 28 * t + 2 * j) = S (107 + 28 * t + 2 * k) ∧ j < k); omega); have hmo := rk_mono (m := (S (103 + 28 * t)).toNat) (by omega) hbet; exact Or.inr ⟨j, rfl, by omega, hjr, fun i hi hr => by rcases (show i < k ∨ i = k by omega) with q | q; exact hall i q hr; subst q; omega⟩)) (by omega))
                · skip
                  refine gw_if_ne C (tgt := 137) dL_adjust_99 (by decide) ⟨by decide, by decide⟩ (fun _ => ?_) (fun h => absurd h (by decide))
                  refine gw_iload C dL_adjust_137 rfl ?_
                  refine gw_istore C (lo1 := [some (vR 233), some (vR 234), some (vR 235), some (vR 236), some (vR 237), some (vR 238), some (vI (t : Int)), some (vI (sG S t)), some (vI (((S (103 + 28 * t)).toNat : Nat) : Int)), some (vI (shZ S t)), some (vI (lfZ S t)), some (vL (dm : Int)), none, some (vI (n : Int)), some (vI (j : Int)), some (vI (k : Int))]) dL_adjust_139 (by decide) rfl ?_
                  refine gw_iinc C (lo1 := [some (vR 233), some (vR 234), some (vR 235), some (vR 236), some (vR 237), some (vR 238), some (vI (t : Int)), some (vI (sG S t)), some (vI (((S (103 + 28 * t)).toNat : Nat) : Int)), some (vI (shZ S t)), some (vI (lfZ S t)), some (vL (dm : Int)), none, some (vI (n : Int)), some (vI (j : Int)), some (vI ((k : Int) + 1))]) dL_adjust_141 rfl (by decide) rfl ?_
                  refine gw_goto C (tgt := 83) dL_adjust_144 (by decide) ?_
                  exact gw_weak (lo' := [some (vR 233), some (vR 234), some (vR 235), some (vR 236), some (vR 237), some (vR 238), some (vI (t : Int)), some (vI (sG S t)), some (vI (((S (103 + 28 * t)).toNat : Nat) : Int)), some (vI (shZ S t)), some (vI (lfZ S t)), some (vL (dm : Int)), none, some (vI (n : Int)), some (vI (j : Int)), some (vI (((k + 1) : Nat) : Int))]) ⟨rfl, rfl, rfl, rfl, rfl, rfl, rfl, rfl, rfl, rfl, rfl, rfl, rfl, rfl, congrArg (fun q => some (vI q)) (by omega), trivial⟩ (ih_83 (j : Int) (k + 1) zy (by omega) (by first | exact Or.inl ⟨rfl, fun i hi => by rcases (show i < k ∨ i = k by omega) with q | q; exact hall i q; subst q; omega⟩ | exact Or.inr ⟨k, rfl, by omega, by omega, fun i hi hr => by rcases (show i < k ∨ i = k by omega) with q | q; have := hall i q; omega; subst q; omega⟩ | (have hbet : btF (sLe S t) j k = true := bt_iff.mpr (Or.inl (by show S (107 + 28 * t + 2 * j) < S (107 + 28 * t + 2 * k); omega)); have hmo := rk_mono (m := (S (103 + 28 * t)).toNat) (by omega) hbet; exact Or.inr ⟨k, rfl, by omega, by omega, fun i hi hr => by rcases (show i < k ∨ i = k by omega) with q | q; have := hall i q hr; omega; subst q; omega⟩) | exact Or.inr ⟨j, rfl, by omega, hjr, fun i hi hr => by rcases (show i < k ∨ i = k by omega) with q | q; exact hall i q hr; subst q; omega⟩ | (have hbet : btF (sLe S t) k j = true := bt_iff.mpr (by show S (107 + 28 * t + 2 * k) < S (107 + 28 * t + 2 * j) ∨ (S (107 + 28 * t + 2 * j) = S (107 + 28 * t + 2 * k) ∧ j < k); omega); have hmo := rk_mono (m := (S (103 + 28 * t)).toNat) (by omega) hbet; exact Or.inr ⟨j, rfl, by omega, hjr, fun i hi hr => by rcases (show i < k ∨ i = k by omega) with q | q; exact hall i q hr; subst q; omega⟩)) (by omega))
        exact gw_weak (lo' := [some (vR 233), some (vR 234), some (vR 235), some (vR 236), some (vR 237), some (vR 238), some (vI (t : Int)), some (vI (sG S t)), some (vI (((S (103 + 28 * t)).toNat : Nat) : Int)), some (vI (shZ S t)), some (vI (lfZ S t)), some (vL (dm : Int)), none, some (vI (n : Int)), some (vI (-1)), some (vI (0 : Int))]) ⟨rfl, rfl, rfl, rfl, rfl, rfl, rfl, rfl, rfl, rfl, rfl, rfl, rfl, rfl, congrArg (fun q => some (vI q)) (by omega), trivial⟩ (loop_83 _ (-1) 0 zz (by omega) (by exact Or.inl ⟨rfl, fun i hi => absurd hi (Nat.not_lt_zero _)⟩) (Nat.lt_succ_self _))
  exact gw_weak (lo' := [some (vR 233), some (vR 234), some (vR 235), some (vR 236), some (vR 237), some (vR 238), some (vI (t : Int)), some (vI (sG S t)), some (vI (((S (103 + 28 * t)).toNat : Nat) : Int)), some (vI (shZ S t)), some (vI (lfZ S t)), some (vL (0 : Int)), none, some (vI (0 : Int)), none, none]) ⟨rfl, rfl, rfl, rfl, rfl, rfl, rfl, rfl, rfl, rfl, rfl, congrArg (fun q => some (vL q)) (by omega), congrArg (fun q => some (vI q)) (by omega), trivial⟩ (loop_70 _ 0 0 (up I 236 ((4 * t) + 3) (normZ ((S (105 + 28 * t)) - (shZ S t)))) z_60 (by omega) (by decide) (fun k _ => by have := rk_nn (l := sLe S t) (k := k) (m := (S (103 + 28 * t)).toNat); rw [Nat.zero_div]; constructor <;> intro q <;> omega) (by exact ct_zero) (by rw [lu_h3 (by omega), hR]; exact adN_0) (fun q f h1 h2 => up_nn (by omega)) (Nat.lt_succ_self _))
