set_option maxHeartbeats 4000000 in
set_option maxRecDepth 100000 in
theorem c_L_isLeg {l : Launch} (hl0 : l.stackTraces = false) (G : GG) (I J : GI) {z : Nat} {S : Nat → Int} {D9 : Nat → Nat → Int} {c9 : Nat} (hCI : CI I S D9 c9) (hR : rowL I = S) (t : Nat) (htt : (t : Int) < S 5) (k : Nat) (hk : (k : Int) < S (103 + 28 * t)) : GM l yL_isLeg (.code yL_isLeg cL_isLeg 12 (some .boolean)) 8 138 6 36 G N0 SH RR [vR 0, vR 231, vR 232, vR 233, vR 234, vR 235, vR 236, vR 237, vR 238, vI (t : Int), vI (k : Int)] z I J (memQ (some (vI 1)) I J) gNo := by
  refine gm_of (lo0 := [some (vR 0), some (vR 231), some (vR 232), some (vR 233), some (vR 234), some (vR 235), some (vR 236), some (vR 237), some (vR 238), some (vI (t : Int)), some (vI (k : Int)), none]) hl0 (by decide) rfl (Nat.le_of_ble_eq_true rfl) ?_
  intro p e s m args below meth c C ht hgi
  have C : gC G p l s m args meth c cL_isLeg 12 RL (some .boolean) "isLeg" := C
  have ho := hCI.1.1.2.1
  have h0 := ho.1
  have h3 := ho.2.1
  have ht9 := okT ho htt
  have hf9 := ho.2.2.2.1 (S (102 + 28 * t)).toNat (by omega)
  have hk9 := ht9.2.2 k hk
  refine gw_aload_n C 0 dL_isLeg_0 rfl rfl ?_
  refine gw_iload C dL_isLeg_1 rfl ?_
  refine gw_iload C dL_isLeg_3 rfl ?_
  refine gw_iconst C dL_isLeg_5 ?_
  refine gw_callSHm C (as := [vR 0, vI (t : Int), vI (k : Int), vI 0]) (st := []) (c_L_legOf hl0 G I J hCI (t : Int) (k : Int) 0 (by first | omega | assumption | exact hgi _ _) (by first | omega | assumption | exact hgi _ _) ⟨by decide, by decide⟩) dL_isLeg_6 kL_205 qL_legOf hdL_legOf ⟨Nat.le_of_ble_eq_true rfl, Nat.le_of_ble_eq_true rfl⟩ ⟨Nat.le_of_ble_eq_true rfl, Nat.le_of_ble_eq_true rfl⟩ (Nat.le_of_ble_eq_true rfl) rfl (fun z_6 => ?_)
  rw [show cdV (kLeg S (t : Int) (k : Int) 0) (rLeg S (t : Int).toNat (k : Int).toNat 0) (-2000001) (-2000002) 0 = (S (106 + 28 * t + 2 * k)) from (w_lg htt hk (by decide))]
  refine gw_aload C dL_isLeg_9 rfl ?_
  refine gw_bipush C dL_isLeg_11 rfl ?_
  refine gw_iload C dL_isLeg_13 rfl ?_
  refine gw_imul C dL_isLeg_15 ?_
  refine gw_iload C dL_isLeg_16 rfl ?_
  refine gw_iadd C dL_isLeg_18 ?_
  refine gw_iald C ((12 * t) + k) dL_isLeg_19 xs_237 xn_237 (by omega) (by omega) (by decide) (fun hI_19 => ?_)
  rw [show (I 237 ((12 * t) + k)) = (S (106 + 28 * t + 2 * k)) from by have e9 := lr_a (I := I) (t := t) (k := k) (by omega) (by omega); rw [hR] at e9; exact e9] at hI_19 ⊢
  refine gw_icmp_ne C (tgt := 64) dL_isLeg_20 (by decide) (by first | omega | assumption | exact hgi _ _) hI_19 (fun h => absurd h (by exact fun q => q rfl)) (fun _ => ?_)
  refine gw_aload_n C 0 dL_isLeg_23 rfl rfl ?_
  refine gw_iload C dL_isLeg_24 rfl ?_
  refine gw_iload C dL_isLeg_26 rfl ?_
  refine gw_iconst C dL_isLeg_28 ?_
  refine gw_callSHm C (as := [vR 0, vI (t : Int), vI (k : Int), vI 1]) (st := []) (c_L_legOf hl0 G I J hCI (t : Int) (k : Int) 1 (by first | omega | assumption | exact hgi _ _) (by first | omega | assumption | exact hgi _ _) ⟨by decide, by decide⟩) dL_isLeg_29 kL_205 qL_legOf hdL_legOf ⟨Nat.le_of_ble_eq_true rfl, Nat.le_of_ble_eq_true rfl⟩ ⟨Nat.le_of_ble_eq_true rfl, Nat.le_of_ble_eq_true rfl⟩ (Nat.le_of_ble_eq_true rfl) rfl (fun z_29 => ?_)
  rw [show cdV (kLeg S (t : Int) (k : Int) 1) (rLeg S (t : Int).toNat (k : Int).toNat 1) (-2000001) (-2000002) 0 = (S (107 + 28 * t + 2 * k)) from (w_lg htt hk (by decide))]
  refine gw_aload C dL_isLeg_32 rfl ?_
  refine gw_bipush C dL_isLeg_34 rfl ?_
  refine gw_iload C dL_isLeg_36 rfl ?_
  refine gw_imul C dL_isLeg_38 ?_
  refine gw_iload C dL_isLeg_39 rfl ?_
  refine gw_iadd C dL_isLeg_41 ?_
  refine gw_iald C ((12 * t) + k) dL_isLeg_42 xs_238 xn_238 (by omega) (by omega) (by decide) (fun hI_42 => ?_)
  rw [show (I 238 ((12 * t) + k)) = (S (107 + 28 * t + 2 * k)) from by have e9 := lr_b (I := I) (t := t) (k := k) (by omega) (by omega); rw [hR] at e9; exact e9] at hI_42 ⊢
  refine gw_icmp_ne C (tgt := 64) dL_isLeg_43 (by decide) (by first | omega | assumption | exact hgi _ _) hI_42 (fun h => absurd h (by exact fun q => q rfl)) (fun _ => ?_)
  refine gw_aload_n C 0 dL_isLeg_46 rfl rfl ?_
  refine gw_iload C dL_isLeg_47 rfl ?_
  refine gw_iload C dL_isLeg_49 rfl ?_
  refine gw_iconst C dL_isLeg_51 ?_
  refine gw_callSHm C (as := [vR 0, vI (t : Int), vI (k : Int), vI 5]) (st := []) (c_L_legOf hl0 G I J hCI (t : Int) (k : Int) 5 (by first | omega | assumption | exact hgi _ _) (by first | omega | assumption | exact hgi _ _) ⟨by decide, by decide⟩) dL_isLeg_52 kL_205 qL_legOf hdL_legOf ⟨Nat.le_of_ble_eq_true rfl, Nat.le_of_ble_eq_true rfl⟩ ⟨Nat.le_of_ble_eq_true rfl, Nat.le_of_ble_eq_true rfl⟩ (Nat.le_of_ble_eq_true rfl) rfl (fun z_52 => ?_)
  rw [show cdV (kLeg S (t : Int) (k : Int) 5) (rLeg S (t : Int).toNat (k : Int).toNat 5) (-2000001) (-2000002) 0 = (-2000002) from w_lg2 htt hk rfl]
  refine gw_ldc C (x := (-2000002)) dL_isLeg_55 kL_17 (by decide) ?_
  refine gw_icmp_ne C (tgt := 64) dL_isLeg_57 (by decide) ⟨by decide, by decide⟩ ⟨by decide, by decide⟩ (fun h => absurd h (by decide)) (fun _ => ?_)
  refine gw_iconst C dL_isLeg_60 ?_
  refine gw_goto C (tgt := 65) dL_isLeg_61 (by decide) ?_
  refine gw_istore C (lo1 := [some (vR 0), some (vR 231), some (vR 232), some (vR 233), some (vR 234), some (vR 235), some (vR 236), some (vR 237), some (vR 238), some (vI (t : Int)), some (vI (k : Int)), some (vI 1)]) dL_isLeg_65 (by decide) rfl ?_
  refine gw_aload_n C 1 dL_isLeg_67 rfl rfl ?_
  refine gw_aload_n C 3 dL_isLeg_68 rfl rfl ?_
  refine gw_aload C dL_isLeg_69 rfl ?_
  refine gw_aload C dL_isLeg_71 rfl ?_
  refine gw_aload C dL_isLeg_73 rfl ?_
  refine gw_iconst C dL_isLeg_75 ?_
  refine gw_iload C dL_isLeg_76 rfl ?_
  refine gw_imul C dL_isLeg_78 ?_
  refine gw_iald C (4 * t) dL_isLeg_79 xs_236 xn_236 (by omega) (by omega) (by decide) (fun hI_79 => ?_)
  rw [show (I 236 (4 * t)) = (((S (102 + 28 * t)).toNat : Nat) : Int) from by have e9 := lr_h0 (I := I) (t := t) (by omega); rw [hR] at e9; omega] at hI_79 ⊢
  refine gw_callSm C (as := [vR 231, vR 233, vR 234, vR 235, vI (((S (102 + 28 * t)).toNat : Nat) : Int)]) (st := []) (c_L_joint hl0 G I J hR ho ((S (102 + 28 * t)).toNat) (by omega)) dL_isLeg_80 kL_105 qL_joint hdL_joint ⟨Nat.le_of_ble_eq_true rfl, Nat.le_of_ble_eq_true rfl⟩ ⟨Nat.le_of_ble_eq_true rfl, Nat.le_of_ble_eq_true rfl⟩ (Nat.le_of_ble_eq_true rfl) rfl (fun z_80 => ?_)
  have hr_80 := sJ_v S ((S (102 + 28 * t)).toNat)
  refine gw_if_le C (tgt := 139) dL_isLeg_83 (by decide) (by first | omega | assumption | exact hgi _ _) (fun h_83 => ?_) (fun h_83 => ?_)
  · skip
    refine gw_iload C dL_isLeg_139 rfl ?_
    refine gw_if_eq C (tgt := 240) dL_isLeg_141 (by decide) ⟨by decide, by decide⟩ (fun h => absurd h (by decide)) (fun _ => ?_)
    have hbr := sBr_b S t k
    have hea := sEa_b ho (t := t) (by omega) (k + 1) (by omega)
    refine gw_aload_n C 0 dL_isLeg_144 rfl rfl ?_
    refine gw_iload C dL_isLeg_145 rfl ?_
    refine gw_iload C dL_isLeg_147 rfl ?_
    refine gw_iconst C dL_isLeg_149 ?_
    refine gw_callSHm C (as := [vR 0, vI (t : Int), vI (k : Int), vI 2]) (st := []) (c_L_legOf hl0 G I J hCI (t : Int) (k : Int) 2 (by first | omega | assumption | exact hgi _ _) (by first | omega | assumption | exact hgi _ _) ⟨by decide, by decide⟩) dL_isLeg_150 kL_205 qL_legOf hdL_legOf ⟨Nat.le_of_ble_eq_true rfl, Nat.le_of_ble_eq_true rfl⟩ ⟨Nat.le_of_ble_eq_true rfl, Nat.le_of_ble_eq_true rfl⟩ (Nat.le_of_ble_eq_true rfl) rfl (fun z_150 => ?_)
    rw [show cdV (kLeg S (t : Int) (k : Int) 2) (rLeg S (t : Int).toNat (k : Int).toNat 2) (-2000001) (-2000002) 0 = (sBr S t (k + 1)) from (w_lg htt hk (by decide)).trans (rLeg_y hk (by omega)).1]
    refine gw_aload_n C 3 dL_isLeg_153 rfl rfl ?_
    refine gw_aload C dL_isLeg_154 rfl ?_
    refine gw_aload C dL_isLeg_156 rfl ?_
    refine gw_aload C dL_isLeg_158 rfl ?_
    refine gw_aload C dL_isLeg_160 rfl ?_
    refine gw_iload C dL_isLeg_162 rfl ?_
    refine gw_iload C dL_isLeg_164 rfl ?_
    refine gw_callSm C (as := [vR 233, vR 234, vR 235, vR 236, vR 237, vI (t : Int), vI (k : Int)]) (st := [vI (sBr S t (k + 1))]) (c_L_bearing hl0 G I J hR ho t k (by omega) (by omega)) dL_isLeg_166 kL_98 qL_bearing hdL_bearing ⟨Nat.le_of_ble_eq_true rfl, Nat.le_of_ble_eq_true rfl⟩ ⟨Nat.le_of_ble_eq_true rfl, Nat.le_of_ble_eq_true rfl⟩ (Nat.le_of_ble_eq_true rfl) rfl (fun z_166 => ?_)
    rw [show bgF S t k = (sBr S t (k + 1)) from by exact bg_1 (by omega)]
    have hr_166 := bgF_b S t k
    refine gw_icmp_ne C (tgt := 240) dL_isLeg_169 (by decide) (by first | omega | assumption | exact hgi _ _) (by first | omega | assumption | exact hgi _ _) (fun h => absurd h (by exact fun q => q rfl)) (fun _ => ?_)
    refine gw_aload_n C 0 dL_isLeg_172 rfl rfl ?_
    refine gw_iload C dL_isLeg_173 rfl ?_
    refine gw_iload C dL_isLeg_175 rfl ?_
    refine gw_iconst C dL_isLeg_177 ?_
    refine gw_callSHm C (as := [vR 0, vI (t : Int), vI (k : Int), vI 3]) (st := []) (c_L_legOf hl0 G I J hCI (t : Int) (k : Int) 3 (by first | omega | assumption | exact hgi _ _) (by first | omega | assumption | exact hgi _ _) ⟨by decide, by decide⟩) dL_isLeg_178 kL_205 qL_legOf hdL_legOf ⟨Nat.le_of_ble_eq_true rfl, Nat.le_of_ble_eq_true rfl⟩ ⟨Nat.le_of_ble_eq_true rfl, Nat.le_of_ble_eq_true rfl⟩ (Nat.le_of_ble_eq_true rfl) rfl (fun z_178 => ?_)
    rw [show cdV (kLeg S (t : Int) (k : Int) 3) (rLeg S (t : Int).toNat (k : Int).toNat 3) (-2000001) (-2000002) 0 = (sEa S t (k + 1)) from (w_lg htt hk (by decide)).trans (rLeg_y hk (by omega)).2.1]
    refine gw_aload_n C 2 dL_isLeg_181 rfl rfl ?_
    refine gw_aload_n C 3 dL_isLeg_182 rfl rfl ?_
    refine gw_aload C dL_isLeg_183 rfl ?_
    refine gw_aload C dL_isLeg_185 rfl ?_
    refine gw_aload C dL_isLeg_187 rfl ?_
    refine gw_aload C dL_isLeg_189 rfl ?_
    refine gw_aload C dL_isLeg_191 rfl ?_
    refine gw_iload C dL_isLeg_193 rfl ?_
    refine gw_iload C dL_isLeg_195 rfl ?_
    refine gw_iconst C dL_isLeg_197 ?_
    refine gw_callSm C (as := [vR 232, vR 233, vR 234, vR 235, vR 236, vR 237, vR 238, vI (t : Int), vI (k : Int), vI 0]) (st := [vI (sEa S t (k + 1))]) (c_L_end0 hl0 G I J hR ho t k (by omega) (by omega)) dL_isLeg_198 kL_127 qL_end hdL_end ⟨Nat.le_of_ble_eq_true rfl, Nat.le_of_ble_eq_true rfl⟩ ⟨Nat.le_of_ble_eq_true rfl, Nat.le_of_ble_eq_true rfl⟩ (Nat.le_of_ble_eq_true rfl) rfl (fun z_198 => ?_)
    have hr_198 := sEa_b ho (t := t) (by omega) (k + 1) (by omega)
    refine gw_icmp_ne C (tgt := 240) dL_isLeg_201 (by decide) (by first | omega | assumption | exact hgi _ _) (by first | omega | assumption | exact hgi _ _) (fun h => absurd h (by exact fun q => q rfl)) (fun _ => ?_)
    refine gw_aload_n C 0 dL_isLeg_204 rfl rfl ?_
    refine gw_iload C dL_isLeg_205 rfl ?_
    refine gw_iload C dL_isLeg_207 rfl ?_
    refine gw_iconst C dL_isLeg_209 ?_
    refine gw_callSHm C (as := [vR 0, vI (t : Int), vI (k : Int), vI 4]) (st := []) (c_L_legOf hl0 G I J hCI (t : Int) (k : Int) 4 (by first | omega | assumption | exact hgi _ _) (by first | omega | assumption | exact hgi _ _) ⟨by decide, by decide⟩) dL_isLeg_210 kL_205 qL_legOf hdL_legOf ⟨Nat.le_of_ble_eq_true rfl, Nat.le_of_ble_eq_true rfl⟩ ⟨Nat.le_of_ble_eq_true rfl, Nat.le_of_ble_eq_true rfl⟩ (Nat.le_of_ble_eq_true rfl) rfl (fun z_210 => ?_)
    rw [show cdV (kLeg S (t : Int) (k : Int) 4) (rLeg S (t : Int).toNat (k : Int).toNat 4) (-2000001) (-2000002) 0 = (sNo S t (k + 1)) from (w_lg htt hk (by decide)).trans (rLeg_y hk (by omega)).2.2]
    refine gw_aload_n C 2 dL_isLeg_213 rfl rfl ?_
    refine gw_aload_n C 3 dL_isLeg_214 rfl rfl ?_
    refine gw_aload C dL_isLeg_215 rfl ?_
    refine gw_aload C dL_isLeg_217 rfl ?_
    refine gw_aload C dL_isLeg_219 rfl ?_
    refine gw_aload C dL_isLeg_221 rfl ?_
    refine gw_aload C dL_isLeg_223 rfl ?_
    refine gw_iload C dL_isLeg_225 rfl ?_
    refine gw_iload C dL_isLeg_227 rfl ?_
    refine gw_iconst C dL_isLeg_229 ?_
    refine gw_callSm C (as := [vR 232, vR 233, vR 234, vR 235, vR 236, vR 237, vR 238, vI (t : Int), vI (k : Int), vI 1]) (st := [vI (sNo S t (k + 1))]) (c_L_end1 hl0 G I J hR ho t k (by omega) (by omega)) dL_isLeg_230 kL_127 qL_end hdL_end ⟨Nat.le_of_ble_eq_true rfl, Nat.le_of_ble_eq_true rfl⟩ ⟨Nat.le_of_ble_eq_true rfl, Nat.le_of_ble_eq_true rfl⟩ (Nat.le_of_ble_eq_true rfl) rfl (fun z_230 => ?_)
    have hr_230 := sEa_b ho (t := t) (by omega) (k + 1) (by omega)
    refine gw_icmp_ne C (tgt := 240) dL_isLeg_233 (by decide) (by first | omega | assumption | exact hgi _ _) (by first | omega | assumption | exact hgi _ _) (fun h => absurd h (by exact fun q => q rfl)) (fun _ => ?_)
    refine gw_iconst C dL_isLeg_236 ?_
    refine gw_goto C (tgt := 241) dL_isLeg_237 (by decide) ?_
    exact gw_zret C (Nat.le_of_ble_eq_true rfl) (Nat.le_of_ble_eq_true rfl) dL_isLeg_241 (Or.inr rfl) (⟨rfl, rfl, rfl⟩)
  · skip
    refine gw_iload C dL_isLeg_86 rfl ?_
    refine gw_if_eq C (tgt := 137) dL_isLeg_88 (by decide) ⟨by decide, by decide⟩ (fun h => absurd h (by decide)) (fun _ => ?_)
    refine gw_aload_n C 0 dL_isLeg_91 rfl rfl ?_
    refine gw_iload C dL_isLeg_92 rfl ?_
    refine gw_iload C dL_isLeg_94 rfl ?_
    refine gw_iconst C dL_isLeg_96 ?_
    refine gw_callSHm C (as := [vR 0, vI (t : Int), vI (k : Int), vI 2]) (st := []) (c_L_legOf hl0 G I J hCI (t : Int) (k : Int) 2 (by first | omega | assumption | exact hgi _ _) (by first | omega | assumption | exact hgi _ _) ⟨by decide, by decide⟩) dL_isLeg_97 kL_205 qL_legOf hdL_legOf ⟨Nat.le_of_ble_eq_true rfl, Nat.le_of_ble_eq_true rfl⟩ ⟨Nat.le_of_ble_eq_true rfl, Nat.le_of_ble_eq_true rfl⟩ (Nat.le_of_ble_eq_true rfl) rfl (fun z_97 => ?_)
    rw [show cdV (kLeg S (t : Int) (k : Int) 2) (rLeg S (t : Int).toNat (k : Int).toNat 2) (-2000001) (-2000002) 0 = (-2000000000) from (w_lg htt hk (by decide)).trans (rLeg_n (by decide) (by omega))]
    refine gw_ldc C (x := (-2000000000)) dL_isLeg_100 kL_81 (by decide) ?_
    refine gw_icmp_ne C (tgt := 137) dL_isLeg_102 (by decide) ⟨by decide, by decide⟩ ⟨by decide, by decide⟩ (fun h => absurd h (by decide)) (fun _ => ?_)
    refine gw_aload_n C 0 dL_isLeg_105 rfl rfl ?_
    refine gw_iload C dL_isLeg_106 rfl ?_
    refine gw_iload C dL_isLeg_108 rfl ?_
    refine gw_iconst C dL_isLeg_110 ?_
    refine gw_callSHm C (as := [vR 0, vI (t : Int), vI (k : Int), vI 3]) (st := []) (c_L_legOf hl0 G I J hCI (t : Int) (k : Int) 3 (by first | omega | assumption | exact hgi _ _) (by first | omega | assumption | exact hgi _ _) ⟨by decide, by decide⟩) dL_isLeg_111 kL_205 qL_legOf hdL_legOf ⟨Nat.le_of_ble_eq_true rfl, Nat.le_of_ble_eq_true rfl⟩ ⟨Nat.le_of_ble_eq_true rfl, Nat.le_of_ble_eq_true rfl⟩ (Nat.le_of_ble_eq_true rfl) rfl (fun z_111 => ?_)
    rw [show cdV (kLeg S (t : Int) (k : Int) 3) (rLeg S (t : Int).toNat (k : Int).toNat 3) (-2000001) (-2000002) 0 = (-2000000000) from (w_lg htt hk (by decide)).trans (rLeg_n (by decide) (by omega))]
    refine gw_ldc C (x := (-2000000000)) dL_isLeg_114 kL_81 (by decide) ?_
    refine gw_icmp_ne C (tgt := 137) dL_isLeg_116 (by decide) ⟨by decide, by decide⟩ ⟨by decide, by decide⟩ (fun h => absurd h (by decide)) (fun _ => ?_)
    refine gw_aload_n C 0 dL_isLeg_119 rfl rfl ?_
    refine gw_iload C dL_isLeg_120 rfl ?_
    refine gw_iload C dL_isLeg_122 rfl ?_
    refine gw_iconst C dL_isLeg_124 ?_
    refine gw_callSHm C (as := [vR 0, vI (t : Int), vI (k : Int), vI 4]) (st := []) (c_L_legOf hl0 G I J hCI (t : Int) (k : Int) 4 (by first | omega | assumption | exact hgi _ _) (by first | omega | assumption | exact hgi _ _) ⟨by decide, by decide⟩) dL_isLeg_125 kL_205 qL_legOf hdL_legOf ⟨Nat.le_of_ble_eq_true rfl, Nat.le_of_ble_eq_true rfl⟩ ⟨Nat.le_of_ble_eq_true rfl, Nat.le_of_ble_eq_true rfl⟩ (Nat.le_of_ble_eq_true rfl) rfl (fun z_125 => ?_)
    rw [show cdV (kLeg S (t : Int) (k : Int) 4) (rLeg S (t : Int).toNat (k : Int).toNat 4) (-2000001) (-2000002) 0 = (-2000000000) from (w_lg htt hk (by decide)).trans (rLeg_n (by decide) (by omega))]
    refine gw_ldc C (x := (-2000000000)) dL_isLeg_128 kL_81 (by decide) ?_
    refine gw_icmp_ne C (tgt := 137) dL_isLeg_130 (by decide) ⟨by decide, by decide⟩ ⟨by decide, by decide⟩ (fun h => absurd h (by decide)) (fun _ => ?_)
    refine gw_iconst C dL_isLeg_133 ?_
    refine gw_goto C (tgt := 138) dL_isLeg_134 (by decide) ?_
    exact gw_zret C (Nat.le_of_ble_eq_true rfl) (Nat.le_of_ble_eq_true rfl) dL_isLeg_138 (Or.inr rfl) (⟨rfl, rfl, rfl⟩)
