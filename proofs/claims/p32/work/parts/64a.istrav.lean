theorem rTr_2 {S : Nat → Int} {t : Nat} : (0 ≤ S (104 + 28 * t) → rTrav S t 2 = S (104 + 28 * t) ∧ rTrav S t 3 = S (105 + 28 * t)) ∧ (S (104 + 28 * t) < 0 → rTrav S t 2 = -2000000000 ∧ rTrav S t 3 = -2000000000) := by
  have e2 : rTrav S t 2 = if 0 ≤ S (104 + 28 * t) then S (104 + 28 * t) else -2000000000 := by unfold rTrav; rw [if_neg (by decide), if_neg (by decide), if_pos rfl]
  have e3 : rTrav S t 3 = if 0 ≤ S (104 + 28 * t) then S (105 + 28 * t) else -2000000000 := by unfold rTrav; rw [if_neg (by decide), if_neg (by decide), if_neg (by decide), if_pos rfl]
  rw [e2, e3]
  exact ⟨fun h => by rw [if_pos h, if_pos h]; exact ⟨rfl, rfl⟩, fun h => by rw [if_neg (by omega), if_neg (by omega)]; exact ⟨rfl, rfl⟩⟩
set_option maxHeartbeats 4000000 in
set_option maxRecDepth 100000 in
theorem isT_c0 {l : Launch} (hl0 : l.stackTraces = false) (G : GG) (I J : GI) {S : Nat → Int} {D9 : Nat → Nat → Int} {c9 : Nat} (hCI : CI I S D9 c9) (hR : rowL I = S) (t : Nat) (htt : (t : Int) < S 5) {p : Program} {e : Env} {s : State} {m : MethodId} {args : Array Value} {below : List Frame} {meth : Method} {c : Code} (C : gC G p l s m args meth c cL_isTraverse 23 RL (some .boolean) "isTraverse") (ht : ∀ x ∈ c.exceptionTable.toList, False) (hgi : gIn I) (u : Int) (k z9 a1 a2 : Nat) (hk : k = (S (103 + 28 * t)).toNat) (hu : u = smF k (sLe S t)) (hub : 0 ≤ smF k (sLe S t) ∧ smF k (sLe S t) ≤ 200000 * (k : Int)) (ha : a1 ≤ 72 ∧ a2 ≤ 432) (hT : sTT S t = 5) (hcl : S (104 + 28 * t) < 0)  : GW G p l e ({ frames := 9, cells := 89, slots := 534, locals := 171 } : Room) s m args below meth c 23 z9 N0 SH RR I J a1 a2 (vx_MQ below (GQ G N0 SH RR (memQ (some (vI 1)) I J)) (GX G N0 SH RR gNo) args s 89 534 (ge G)) 92 [some (vR 0), some (vR 231), some (vR 232), some (vR 233), some (vR 234), some (vR 235), some (vR 236), some (vR 237), some (vR 238), some (vI (t : Int)), some (vI (-2000000000)), some (vI u), some (vI 1), some (vI (k : Int)), none, none, none, none, none, none, none, none, none] [vI 5] := by
  have ho := hCI.1.1.2.1
  have h0 := ho.1
  have h3 := ho.2.1
  have ht9 := okT ho htt
  have hf9 := ho.2.2.2.1 (S (102 + 28 * t)).toNat (by omega)
  have hwh : ¬ whl S t := fun q => by have q1 := q.1; have q2 := q.2; omega
  refine gw_istore C (lo1 := [some (vR 0), some (vR 231), some (vR 232), some (vR 233), some (vR 234), some (vR 235), some (vR 236), some (vR 237), some (vR 238), some (vI (t : Int)), some (vI (-2000000000)), some (vI u), some (vI 1), some (vI 5), none, none, none, none, none, none, none, none, none]) dL_isTraverse_92 (by decide) rfl ?_
  refine gw_aload C dL_isTraverse_94 rfl ?_
  refine gw_iconst C dL_isTraverse_96 ?_
  refine gw_iload C dL_isTraverse_97 rfl ?_
  refine gw_imul C dL_isTraverse_99 ?_
  refine gw_iconst C dL_isTraverse_100 ?_
  refine gw_iadd C dL_isTraverse_101 ?_
  refine gw_iald C ((4 * t) + 2) dL_isTraverse_102 xs_236 xn_236 (by omega) (by omega) (by decide) (fun hI_102 => ?_)
  rw [show (I 236 ((4 * t) + 2)) = (S (104 + 28 * t)) from by have e9 := lr_h2 (I := I) (t := t) (by omega); rw [hR] at e9; exact e9] at hI_102 ⊢
  refine gw_if_lt C (tgt := 110) dL_isTraverse_103 (by decide) hI_102 (fun _ => ?_) (fun h => absurd h (by omega))
  refine gw_iconst C dL_isTraverse_110 ?_
  refine gw_istore C (lo1 := [some (vR 0), some (vR 231), some (vR 232), some (vR 233), some (vR 234), some (vR 235), some (vR 236), some (vR 237), some (vR 238), some (vI (t : Int)), some (vI (-2000000000)), some (vI u), some (vI 1), some (vI 5), some (vI 0), none, none, none, none, none, none, none, none]) dL_isTraverse_111 (by decide) rfl ?_
  refine gw_aload_n C 1 dL_isTraverse_113 rfl rfl ?_
  refine gw_aload_n C 3 dL_isTraverse_114 rfl rfl ?_
  refine gw_aload C dL_isTraverse_115 rfl ?_
  refine gw_aload C dL_isTraverse_117 rfl ?_
  refine gw_aload C dL_isTraverse_119 rfl ?_
  refine gw_aload C dL_isTraverse_121 rfl ?_
  refine gw_iload C dL_isTraverse_123 rfl ?_
  refine gw_callSb C (as := [vR 231, vR 233, vR 234, vR 235, vR 236, vR 237, vI (t : Int)]) (st := []) (c_L_whole hl0 G I J hR ho t (by omega)) dL_isTraverse_125 kL_212 qL_whole hdL_whole ⟨Nat.le_of_ble_eq_true rfl, Nat.le_of_ble_eq_true rfl⟩ ⟨(show _ ≤ 89 from by omega), (show _ ≤ 534 from by omega)⟩ (Nat.le_of_ble_eq_true rfl) rfl (fun h_125 z_125 => ?_) (fun h_125 z_125 => ?_)
  · exact absurd True.intro (by exact fun _ => hwh h_125)
  · skip
    refine gw_istore C (lo1 := [some (vR 0), some (vR 231), some (vR 232), some (vR 233), some (vR 234), some (vR 235), some (vR 236), some (vR 237), some (vR 238), some (vI (t : Int)), some (vI (-2000000000)), some (vI u), some (vI 1), some (vI 5), some (vI 0), some (vI 0), none, none, none, none, none, none, none]) dL_isTraverse_128 (by decide) rfl ?_
    refine gw_iload C dL_isTraverse_130 rfl ?_
    refine gw_bipush C dL_isTraverse_132 rfl ?_
    refine gw_icmp_ne C (tgt := 147) dL_isTraverse_134 (by decide) ⟨by decide, by decide⟩ ⟨by decide, by decide⟩ (fun _ => ?_) (fun h => absurd h (by decide))
    refine gw_aload C dL_isTraverse_147 rfl ?_
    refine gw_iconst C dL_isTraverse_149 ?_
    refine gw_iload C dL_isTraverse_150 rfl ?_
    refine gw_imul C dL_isTraverse_152 ?_
    refine gw_iconst C dL_isTraverse_153 ?_
    refine gw_iadd C dL_isTraverse_154 ?_
    refine gw_iald C ((4 * t) + 2) dL_isTraverse_155 xs_236 xn_236 (by omega) (by omega) (by decide) (fun hI_155 => ?_)
    rw [show (I 236 ((4 * t) + 2)) = (S (104 + 28 * t)) from by have e9 := lr_h2 (I := I) (t := t) (by omega); rw [hR] at e9; exact e9] at hI_155 ⊢
    refine gw_istore C (lo1 := [some (vR 0), some (vR 231), some (vR 232), some (vR 233), some (vR 234), some (vR 235), some (vR 236), some (vR 237), some (vR 238), some (vI (t : Int)), some (vI (-2000000000)), some (vI u), some (vI 1), some (vI 5), some (vI 0), some (vI 0), some (vI (S (104 + 28 * t))), none, none, none, none, none, none]) dL_isTraverse_156 (by decide) rfl ?_
    refine gw_iload C dL_isTraverse_158 rfl ?_
    refine gw_bipush C dL_isTraverse_160 rfl ?_
    refine gw_icmp_eq C (tgt := 172) dL_isTraverse_162 (by decide) ⟨by decide, by decide⟩ ⟨by decide, by decide⟩ (fun h => absurd h (by decide)) (fun _ => ?_)
    refine gw_iload C dL_isTraverse_165 rfl ?_
    refine gw_bipush C dL_isTraverse_167 rfl ?_
    refine gw_icmp_ne C (tgt := 186) dL_isTraverse_169 (by decide) ⟨by decide, by decide⟩ ⟨by decide, by decide⟩ (fun _ => ?_) (fun h => absurd h (by decide))
    refine gw_iload C dL_isTraverse_186 rfl ?_
    refine gw_istore C (lo1 := [some (vR 0), some (vR 231), some (vR 232), some (vR 233), some (vR 234), some (vR 235), some (vR 236), some (vR 237), some (vR 238), some (vI (t : Int)), some (vI (-2000000000)), some (vI u), some (vI 1), some (vI 5), some (vI 0), some (vI 0), some (vI (S (104 + 28 * t))), some (vI (-2000000000)), none, none, none, none, none]) dL_isTraverse_188 (by decide) rfl ?_
    refine gw_iload C dL_isTraverse_190 rfl ?_
    refine gw_iconst C dL_isTraverse_192 ?_
    refine gw_icmp_ne C (tgt := 210) dL_isTraverse_193 (by decide) ⟨by decide, by decide⟩ ⟨by decide, by decide⟩ (fun _ => ?_) (fun h => absurd h (by decide))
    refine gw_iload C dL_isTraverse_210 rfl ?_
    refine gw_istore C (lo1 := [some (vR 0), some (vR 231), some (vR 232), some (vR 233), some (vR 234), some (vR 235), some (vR 236), some (vR 237), some (vR 238), some (vI (t : Int)), some (vI (-2000000000)), some (vI u), some (vI 1), some (vI 5), some (vI 0), some (vI 0), some (vI (S (104 + 28 * t))), some (vI (-2000000000)), some (vI (-2000000000)), none, none, none, none]) dL_isTraverse_212 (by decide) rfl ?_
    refine gw_iload C dL_isTraverse_214 rfl ?_
    refine gw_if_eq C (tgt := 397) dL_isTraverse_216 (by decide) ⟨by decide, by decide⟩ (fun h => absurd h (by decide)) (fun _ => ?_)
    refine gw_aload_n C 0 dL_isTraverse_219 rfl rfl ?_
    refine gw_iload C dL_isTraverse_220 rfl ?_
    refine gw_aload C dL_isTraverse_222 rfl ?_
    refine gw_iconst C dL_isTraverse_224 ?_
    refine gw_iload C dL_isTraverse_225 rfl ?_
    refine gw_imul C dL_isTraverse_227 ?_
    refine gw_iconst C dL_isTraverse_228 ?_
    refine gw_iadd C dL_isTraverse_229 ?_
    refine gw_iald C ((4 * t) + 1) dL_isTraverse_230 xs_236 xn_236 (by omega) (by omega) (by decide) (fun hI_230 => ?_)
    rw [show (I 236 ((4 * t) + 1)) = (((S (103 + 28 * t)).toNat : Nat) : Int) from by have e9 := lr_h1 (I := I) (t := t) (by omega); rw [hR] at e9; omega] at hI_230 ⊢
    refine gw_iconst C dL_isTraverse_231 ?_
    refine gw_callSHm C (as := [vR 0, vI (t : Int), vI (((S (103 + 28 * t)).toNat : Nat) : Int), vI 0]) (st := []) (c_L_legOf hl0 G I J hCI (t : Int) (((S (103 + 28 * t)).toNat : Nat) : Int) 0 (by first | omega | assumption | exact hgi _ _) hI_230 ⟨by decide, by decide⟩) dL_isTraverse_232 kL_205 qL_legOf hdL_legOf ⟨Nat.le_of_ble_eq_true rfl, Nat.le_of_ble_eq_true rfl⟩ ⟨(show _ ≤ 89 from by omega), (show _ ≤ 534 from by omega)⟩ (Nat.le_of_ble_eq_true rfl) rfl (fun z_232 => ?_)
    rw [show cdV (kLeg S (t : Int) (((S (103 + 28 * t)).toNat : Nat) : Int) 0) (rLeg S (t : Int).toNat (((S (103 + 28 * t)).toNat : Nat) : Int).toNat 0) (-2000001) (-2000002) 0 = (-2000001) from w_lg1 (by rw [show ((t : Nat) : Int).toNat = t from rfl]; omega)]
    refine gw_ldc C (x := (-2000001)) dL_isTraverse_235 kL_29 (by decide) ?_
    refine gw_icmp_ne C (tgt := 397) dL_isTraverse_237 (by decide) ⟨by decide, by decide⟩ ⟨by decide, by decide⟩ (fun h => absurd h (by decide)) (fun _ => ?_)
    refine gw_aload_n C 0 dL_isTraverse_240 rfl rfl ?_
    refine gw_iload C dL_isTraverse_241 rfl ?_
    refine gw_iconst C dL_isTraverse_243 ?_
    refine gw_callSHm C (as := [vR 0, vI (t : Int), vI 0]) (st := []) (c_L_traverseOf hl0 G I J hCI (t : Int) 0 (by first | omega | assumption | exact hgi _ _) ⟨by decide, by decide⟩) dL_isTraverse_244 kL_216 qL_traverseOf hdL_traverseOf ⟨Nat.le_of_ble_eq_true rfl, Nat.le_of_ble_eq_true rfl⟩ ⟨(show _ ≤ 89 from by omega), (show _ ≤ 534 from by omega)⟩ (Nat.le_of_ble_eq_true rfl) rfl (fun z_244 => ?_)
    rw [show cdV (kTrav S (t : Int) 0) (rTrav S (t : Int).toNat 0) (-2000001) (-2000002) 0 = (((S (102 + 28 * t)).toNat : Nat) : Int) from (w_tr htt (by decide)).trans (by show S (102 + 28 * t) = _; omega)]
    refine gw_aload C dL_isTraverse_247 rfl ?_
    refine gw_iconst C dL_isTraverse_249 ?_
    refine gw_iload C dL_isTraverse_250 rfl ?_
    refine gw_imul C dL_isTraverse_252 ?_
    refine gw_iald C (4 * t) dL_isTraverse_253 xs_236 xn_236 (by omega) (by omega) (by decide) (fun hI_253 => ?_)
    rw [show (I 236 (4 * t)) = (((S (102 + 28 * t)).toNat : Nat) : Int) from by have e9 := lr_h0 (I := I) (t := t) (by omega); rw [hR] at e9; omega] at hI_253 ⊢
    refine gw_icmp_ne C (tgt := 397) dL_isTraverse_254 (by decide) (by first | omega | assumption | exact hgi _ _) hI_253 (fun h => absurd h (by exact fun q => q rfl)) (fun _ => ?_)
    refine gw_aload_n C 0 dL_isTraverse_257 rfl rfl ?_
    refine gw_iload C dL_isTraverse_258 rfl ?_
    refine gw_iconst C dL_isTraverse_260 ?_
    refine gw_callSHm C (as := [vR 0, vI (t : Int), vI 1]) (st := []) (c_L_traverseOf hl0 G I J hCI (t : Int) 1 (by first | omega | assumption | exact hgi _ _) ⟨by decide, by decide⟩) dL_isTraverse_261 kL_216 qL_traverseOf hdL_traverseOf ⟨Nat.le_of_ble_eq_true rfl, Nat.le_of_ble_eq_true rfl⟩ ⟨(show _ ≤ 89 from by omega), (show _ ≤ 534 from by omega)⟩ (Nat.le_of_ble_eq_true rfl) rfl (fun z_261 => ?_)
    rw [show cdV (kTrav S (t : Int) 1) (rTrav S (t : Int).toNat 1) (-2000001) (-2000002) 0 = (((S (103 + 28 * t)).toNat : Nat) : Int) from (w_tr htt (by decide)).trans (by show S (103 + 28 * t) = _; omega)]
    refine gw_aload C dL_isTraverse_264 rfl ?_
    refine gw_iconst C dL_isTraverse_266 ?_
    refine gw_iload C dL_isTraverse_267 rfl ?_
    refine gw_imul C dL_isTraverse_269 ?_
    refine gw_iconst C dL_isTraverse_270 ?_
    refine gw_iadd C dL_isTraverse_271 ?_
    refine gw_iald C ((4 * t) + 1) dL_isTraverse_272 xs_236 xn_236 (by omega) (by omega) (by decide) (fun hI_272 => ?_)
    rw [show (I 236 ((4 * t) + 1)) = (((S (103 + 28 * t)).toNat : Nat) : Int) from by have e9 := lr_h1 (I := I) (t := t) (by omega); rw [hR] at e9; omega] at hI_272 ⊢
    refine gw_icmp_ne C (tgt := 397) dL_isTraverse_273 (by decide) (by first | omega | assumption | exact hgi _ _) hI_272 (fun h => absurd h (by exact fun q => q rfl)) (fun _ => ?_)
    refine gw_aload_n C 0 dL_isTraverse_276 rfl rfl ?_
    refine gw_iload C dL_isTraverse_277 rfl ?_
    refine gw_iconst C dL_isTraverse_279 ?_
    refine gw_callSHm C (as := [vR 0, vI (t : Int), vI 2]) (st := []) (c_L_traverseOf hl0 G I J hCI (t : Int) 2 (by first | omega | assumption | exact hgi _ _) ⟨by decide, by decide⟩) dL_isTraverse_280 kL_216 qL_traverseOf hdL_traverseOf ⟨Nat.le_of_ble_eq_true rfl, Nat.le_of_ble_eq_true rfl⟩ ⟨(show _ ≤ 89 from by omega), (show _ ≤ 534 from by omega)⟩ (Nat.le_of_ble_eq_true rfl) rfl (fun z_280 => ?_)
    rw [show cdV (kTrav S (t : Int) 2) (rTrav S (t : Int).toNat 2) (-2000001) (-2000002) 0 = (-2000000000) from (w_tr htt (by decide)).trans (rTr_2.2 hcl).1]
    refine gw_iload C dL_isTraverse_283 rfl ?_
    refine gw_if_eq C (tgt := 300) dL_isTraverse_285 (by decide) ⟨by decide, by decide⟩ (fun _ => ?_) (fun h => absurd h (by decide))
    refine gw_iload C dL_isTraverse_300 rfl ?_
    refine gw_icmp_ne C (tgt := 397) dL_isTraverse_302 (by decide) ⟨by decide, by decide⟩ ⟨by decide, by decide⟩ (fun h => absurd h (by decide)) (fun _ => ?_)
    refine gw_aload_n C 0 dL_isTraverse_305 rfl rfl ?_
    refine gw_iload C dL_isTraverse_306 rfl ?_
    refine gw_iconst C dL_isTraverse_308 ?_
    refine gw_callSHm C (as := [vR 0, vI (t : Int), vI 3]) (st := []) (c_L_traverseOf hl0 G I J hCI (t : Int) 3 (by first | omega | assumption | exact hgi _ _) ⟨by decide, by decide⟩) dL_isTraverse_309 kL_216 qL_traverseOf hdL_traverseOf ⟨Nat.le_of_ble_eq_true rfl, Nat.le_of_ble_eq_true rfl⟩ ⟨(show _ ≤ 89 from by omega), (show _ ≤ 534 from by omega)⟩ (Nat.le_of_ble_eq_true rfl) rfl (fun z_309 => ?_)
    rw [show cdV (kTrav S (t : Int) 3) (rTrav S (t : Int).toNat 3) (-2000001) (-2000002) 0 = (-2000000000) from (w_tr htt (by decide)).trans (rTr_2.2 hcl).2]
    refine gw_iload C dL_isTraverse_312 rfl ?_
    refine gw_if_eq C (tgt := 329) dL_isTraverse_314 (by decide) ⟨by decide, by decide⟩ (fun _ => ?_) (fun h => absurd h (by decide))
    refine gw_iload C dL_isTraverse_329 rfl ?_
    refine gw_icmp_ne C (tgt := 397) dL_isTraverse_331 (by decide) ⟨by decide, by decide⟩ ⟨by decide, by decide⟩ (fun h => absurd h (by decide)) (fun _ => ?_)
    refine gw_aload_n C 0 dL_isTraverse_334 rfl rfl ?_
    refine gw_iload C dL_isTraverse_335 rfl ?_
    refine gw_iconst C dL_isTraverse_337 ?_
    refine gw_callSHm C (as := [vR 0, vI (t : Int), vI 4]) (st := []) (c_L_traverseOf hl0 G I J hCI (t : Int) 4 (by first | omega | assumption | exact hgi _ _) ⟨by decide, by decide⟩) dL_isTraverse_338 kL_216 qL_traverseOf hdL_traverseOf ⟨Nat.le_of_ble_eq_true rfl, Nat.le_of_ble_eq_true rfl⟩ ⟨(show _ ≤ 89 from by omega), (show _ ≤ 534 from by omega)⟩ (Nat.le_of_ble_eq_true rfl) rfl (fun z_338 => ?_)
    rw [show cdV (kTrav S (t : Int) 4) (rTrav S (t : Int).toNat 4) (-2000001) (-2000002) 0 = 5 from (w_tr htt (by decide)).trans hT]
    refine gw_iload C dL_isTraverse_341 rfl ?_
    refine gw_icmp_ne C (tgt := 397) dL_isTraverse_343 (by decide) ⟨by decide, by decide⟩ ⟨by decide, by decide⟩ (fun h => absurd h (by decide)) (fun _ => ?_)
    refine gw_aload_n C 0 dL_isTraverse_346 rfl rfl ?_
    refine gw_iload C dL_isTraverse_347 rfl ?_
    refine gw_iconst C dL_isTraverse_349 ?_
    refine gw_callSHm C (as := [vR 0, vI (t : Int), vI 5]) (st := []) (c_L_traverseOf hl0 G I J hCI (t : Int) 5 (by first | omega | assumption | exact hgi _ _) ⟨by decide, by decide⟩) dL_isTraverse_350 kL_216 qL_traverseOf hdL_traverseOf ⟨Nat.le_of_ble_eq_true rfl, Nat.le_of_ble_eq_true rfl⟩ ⟨(show _ ≤ 89 from by omega), (show _ ≤ 534 from by omega)⟩ (Nat.le_of_ble_eq_true rfl) rfl (fun z_350 => ?_)
    rw [show cdV (kTrav S (t : Int) 5) (rTrav S (t : Int).toNat 5) (-2000001) (-2000002) 0 = (-2000000000) from (w_tr htt (by decide)).trans (rTr_n hwh (by decide))]
    refine gw_iload C dL_isTraverse_353 rfl ?_
    refine gw_if_eq C (tgt := 375) dL_isTraverse_355 (by decide) ⟨by decide, by decide⟩ (fun _ => ?_) (fun h => absurd h (by decide))
    refine gw_iload C dL_isTraverse_375 rfl ?_
    refine gw_icmp_ne C (tgt := 397) dL_isTraverse_377 (by decide) ⟨by decide, by decide⟩ ⟨by decide, by decide⟩ (fun h => absurd h (by decide)) (fun _ => ?_)
    refine gw_aload_n C 0 dL_isTraverse_380 rfl rfl ?_
    refine gw_iload C dL_isTraverse_381 rfl ?_
    refine gw_bipush C dL_isTraverse_383 rfl ?_
    refine gw_callSHm C (as := [vR 0, vI (t : Int), vI 6]) (st := []) (c_L_traverseOf hl0 G I J hCI (t : Int) 6 (by first | omega | assumption | exact hgi _ _) ⟨by decide, by decide⟩) dL_isTraverse_385 kL_216 qL_traverseOf hdL_traverseOf ⟨Nat.le_of_ble_eq_true rfl, Nat.le_of_ble_eq_true rfl⟩ ⟨(show _ ≤ 89 from by omega), (show _ ≤ 534 from by omega)⟩ (Nat.le_of_ble_eq_true rfl) rfl (fun z_385 => ?_)
    rw [show cdV (kTrav S (t : Int) 6) (rTrav S (t : Int).toNat 6) (-2000001) (-2000002) 0 = u from (w_tr htt (by decide)).trans (by show smF (S (103 + 28 * t)).toNat (sLe S t) = u; rw [hu, show (S (103 + 28 * t)).toNat = k by omega])]
    refine gw_iload C dL_isTraverse_388 rfl ?_
    refine gw_icmp_ne C (tgt := 397) dL_isTraverse_390 (by decide) (by first | omega | assumption | exact hgi _ _) (by first | omega | assumption | exact hgi _ _) (fun h => absurd h (by exact fun q => q rfl)) (fun _ => ?_)
    refine gw_iconst C dL_isTraverse_393 ?_
    refine gw_goto C (tgt := 398) dL_isTraverse_394 (by decide) ?_
    refine gw_istore C (lo1 := [some (vR 0), some (vR 231), some (vR 232), some (vR 233), some (vR 234), some (vR 235), some (vR 236), some (vR 237), some (vR 238), some (vI (t : Int)), some (vI (-2000000000)), some (vI u), some (vI 1), some (vI 5), some (vI 0), some (vI 0), some (vI (S (104 + 28 * t))), some (vI (-2000000000)), some (vI (-2000000000)), none, none, none, none]) dL_isTraverse_398 (by decide) rfl ?_
    refine gw_iload C dL_isTraverse_400 rfl ?_
    refine gw_if_eq C (tgt := 427) dL_isTraverse_402 (by decide) ⟨by decide, by decide⟩ (fun _ => ?_) (fun h => absurd h (by decide))
    refine gw_iload C dL_isTraverse_427 rfl ?_
    refine gw_i2l C dL_isTraverse_429 ⟨by decide, by decide⟩ ?_
    refine gw_lstore C (lo1 := [some (vR 0), some (vR 231), some (vR 232), some (vR 233), some (vR 234), some (vR 235), some (vR 236), some (vR 237), some (vR 238), some (vI (t : Int)), some (vI (-2000000000)), some (vI u), some (vI 1), some (vI 5), some (vI 0), some (vI 0), some (vI (S (104 + 28 * t))), some (vI (-2000000000)), some (vI (-2000000000)), some (vL (-2000000000)), none, none, none]) dL_isTraverse_430 (by decide) rfl ?_
    refine gw_iload C dL_isTraverse_432 rfl ?_
    refine gw_if_eq C (tgt := 459) dL_isTraverse_434 (by decide) ⟨by decide, by decide⟩ (fun _ => ?_) (fun h => absurd h (by decide))
    refine gw_iload C dL_isTraverse_459 rfl ?_
    refine gw_i2l C dL_isTraverse_461 ⟨by decide, by decide⟩ ?_
    refine gw_lstore C (lo1 := [some (vR 0), some (vR 231), some (vR 232), some (vR 233), some (vR 234), some (vR 235), some (vR 236), some (vR 237), some (vR 238), some (vI (t : Int)), some (vI (-2000000000)), some (vI u), some (vI 1), some (vI 5), some (vI 0), some (vI 0), some (vI (S (104 + 28 * t))), some (vI (-2000000000)), some (vI (-2000000000)), some (vL (-2000000000)), none, some (vL (-2000000000)), none]) dL_isTraverse_462 (by decide) rfl ?_
    refine gw_iload C dL_isTraverse_464 rfl ?_
    refine gw_if_eq C (tgt := 551) dL_isTraverse_466 (by decide) ⟨by decide, by decide⟩ (fun h => absurd h (by decide)) (fun _ => ?_)
    refine gw_aload_n C 0 dL_isTraverse_469 rfl rfl ?_
    refine gw_iload C dL_isTraverse_470 rfl ?_
    refine gw_bipush C dL_isTraverse_472 rfl ?_
    refine gw_callSHm C (as := [vR 0, vI (t : Int), vI 7]) (st := []) (c_L_traverseOf hl0 G I J hCI (t : Int) 7 (by first | omega | assumption | exact hgi _ _) ⟨by decide, by decide⟩) dL_isTraverse_474 kL_216 qL_traverseOf hdL_traverseOf ⟨Nat.le_of_ble_eq_true rfl, Nat.le_of_ble_eq_true rfl⟩ ⟨(show _ ≤ 89 from by omega), (show _ ≤ 534 from by omega)⟩ (Nat.le_of_ble_eq_true rfl) rfl (fun z_474 => ?_)
    rw [show cdV (kTrav S (t : Int) 7) (rTrav S (t : Int).toNat 7) (-2000001) (-2000002) 0 = (-2000000000) from (w_tr htt (by decide)).trans (rTr_n hwh (by decide))]
    refine gw_i2l C dL_isTraverse_477 ⟨by decide, by decide⟩ ?_
    refine gw_lload C dL_isTraverse_478 rfl ?_
    refine gw_lcmpE C dL_isTraverse_480 (by rfl) ?_
    refine gw_if_ne C (tgt := 551) dL_isTraverse_481 (by decide) ⟨by decide, by decide⟩ (fun h => absurd h (by decide)) (fun _ => ?_)
    refine gw_aload_n C 0 dL_isTraverse_484 rfl rfl ?_
    refine gw_iload C dL_isTraverse_485 rfl ?_
    refine gw_bipush C dL_isTraverse_487 rfl ?_
    refine gw_callSHm C (as := [vR 0, vI (t : Int), vI 8]) (st := []) (c_L_traverseOf hl0 G I J hCI (t : Int) 8 (by first | omega | assumption | exact hgi _ _) ⟨by decide, by decide⟩) dL_isTraverse_489 kL_216 qL_traverseOf hdL_traverseOf ⟨Nat.le_of_ble_eq_true rfl, Nat.le_of_ble_eq_true rfl⟩ ⟨(show _ ≤ 89 from by omega), (show _ ≤ 534 from by omega)⟩ (Nat.le_of_ble_eq_true rfl) rfl (fun z_489 => ?_)
    rw [show cdV (kTrav S (t : Int) 8) (rTrav S (t : Int).toNat 8) (-2000001) (-2000002) 0 = (-2000000000) from (w_tr htt (by decide)).trans (rTr_n hwh (by decide))]
    refine gw_i2l C dL_isTraverse_492 ⟨by decide, by decide⟩ ?_
    refine gw_lload C dL_isTraverse_493 rfl ?_
    refine gw_lcmpE C dL_isTraverse_495 (by rfl) ?_
    refine gw_if_ne C (tgt := 551) dL_isTraverse_496 (by decide) ⟨by decide, by decide⟩ (fun h => absurd h (by decide)) (fun _ => ?_)
    refine gw_aload_n C 0 dL_isTraverse_499 rfl rfl ?_
    refine gw_iload C dL_isTraverse_500 rfl ?_
    refine gw_bipush C dL_isTraverse_502 rfl ?_
    refine gw_callSHm C (as := [vR 0, vI (t : Int), vI 9]) (st := []) (c_L_traverseOf hl0 G I J hCI (t : Int) 9 (by first | omega | assumption | exact hgi _ _) ⟨by decide, by decide⟩) dL_isTraverse_504 kL_216 qL_traverseOf hdL_traverseOf ⟨Nat.le_of_ble_eq_true rfl, Nat.le_of_ble_eq_true rfl⟩ ⟨(show _ ≤ 89 from by omega), (show _ ≤ 534 from by omega)⟩ (Nat.le_of_ble_eq_true rfl) rfl (fun z_504 => ?_)
    rw [show cdV (kTrav S (t : Int) 9) (rTrav S (t : Int).toNat 9) (-2000001) (-2000002) 0 = (-2000000000) from (w_tr htt (by decide)).trans (rTr_n hwh (by decide))]
    refine gw_iload C dL_isTraverse_507 rfl ?_
    refine gw_if_eq C (tgt := 529) dL_isTraverse_509 (by decide) ⟨by decide, by decide⟩ (fun _ => ?_) (fun h => absurd h (by decide))
    refine gw_iload C dL_isTraverse_529 rfl ?_
    refine gw_icmp_ne C (tgt := 551) dL_isTraverse_531 (by decide) ⟨by decide, by decide⟩ ⟨by decide, by decide⟩ (fun h => absurd h (by decide)) (fun _ => ?_)
    refine gw_aload_n C 0 dL_isTraverse_534 rfl rfl ?_
    refine gw_iload C dL_isTraverse_535 rfl ?_
    refine gw_bipush C dL_isTraverse_537 rfl ?_
    refine gw_callSHm C (as := [vR 0, vI (t : Int), vI 10]) (st := []) (c_L_traverseOf hl0 G I J hCI (t : Int) 10 (by first | omega | assumption | exact hgi _ _) ⟨by decide, by decide⟩) dL_isTraverse_539 kL_216 qL_traverseOf hdL_traverseOf ⟨Nat.le_of_ble_eq_true rfl, Nat.le_of_ble_eq_true rfl⟩ ⟨(show _ ≤ 89 from by omega), (show _ ≤ 534 from by omega)⟩ (Nat.le_of_ble_eq_true rfl) rfl (fun z_539 => ?_)
    rw [show cdV (kTrav S (t : Int) 10) (rTrav S (t : Int).toNat 10) (-2000001) (-2000002) 0 = (-2000002) from w_tr2 htt rfl]
    refine gw_ldc C (x := (-2000002)) dL_isTraverse_542 kL_17 (by decide) ?_
    refine gw_icmp_ne C (tgt := 551) dL_isTraverse_544 (by decide) ⟨by decide, by decide⟩ ⟨by decide, by decide⟩ (fun h => absurd h (by decide)) (fun _ => ?_)
    refine gw_iconst C dL_isTraverse_547 ?_
    refine gw_goto C (tgt := 552) dL_isTraverse_548 (by decide) ?_
    refine gw_istore C (lo1 := [some (vR 0), some (vR 231), some (vR 232), some (vR 233), some (vR 234), some (vR 235), some (vR 236), some (vR 237), some (vR 238), some (vI (t : Int)), some (vI (-2000000000)), some (vI u), some (vI 1), some (vI 5), some (vI 0), some (vI 0), some (vI (S (104 + 28 * t))), some (vI (-2000000000)), some (vI (-2000000000)), some (vL (-2000000000)), none, some (vL (-2000000000)), none]) dL_isTraverse_552 (by decide) rfl ?_
    refine gw_iload C dL_isTraverse_554 rfl ?_
    refine gw_if_eq C (tgt := 633) dL_isTraverse_556 (by decide) ⟨by decide, by decide⟩ (fun h => absurd h (by decide)) (fun _ => ?_)
    refine gw_aload_n C 0 dL_isTraverse_559 rfl rfl ?_
    refine gw_iload C dL_isTraverse_560 rfl ?_
    refine gw_iconst C dL_isTraverse_562 ?_
    refine gw_callSHm C (as := [vR 0, vI (t : Int), vI 0]) (st := []) (c_L_troubleOf hl0 G I J hCI (t : Int) 0 (by first | omega | assumption | exact hgi _ _) ⟨by decide, by decide⟩) dL_isTraverse_563 kL_223 qL_troubleOf hdL_troubleOf ⟨Nat.le_of_ble_eq_true rfl, Nat.le_of_ble_eq_true rfl⟩ ⟨(show _ ≤ 89 from by omega), (show _ ≤ 534 from by omega)⟩ (Nat.le_of_ble_eq_true rfl) rfl (fun z_563 => ?_)
    rw [show cdV (kTrb S (t : Int)) (rTrb S (t : Int).toNat 0) (-2000001) 0 0 = 5 from (w_tb htt).trans ((rTrb_z.2 (by omega)).trans hT)]
    refine gw_iload C dL_isTraverse_566 rfl ?_
    refine gw_if_le C (tgt := 576) dL_isTraverse_568 (by decide) ⟨by decide, by decide⟩ (fun h => absurd h (by decide)) (fun _ => ?_)
    refine gw_iload C dL_isTraverse_571 rfl ?_
    refine gw_goto C (tgt := 578) dL_isTraverse_573 (by decide) ?_
    refine gw_icmp_ne C (tgt := 633) dL_isTraverse_578 (by decide) ⟨by decide, by decide⟩ ⟨by decide, by decide⟩ (fun h => absurd h (by decide)) (fun _ => ?_)
    refine gw_aload_n C 0 dL_isTraverse_581 rfl rfl ?_
    refine gw_iload C dL_isTraverse_582 rfl ?_
    refine gw_iconst C dL_isTraverse_584 ?_
    refine gw_callSHm C (as := [vR 0, vI (t : Int), vI 1]) (st := []) (c_L_troubleOf hl0 G I J hCI (t : Int) 1 (by first | omega | assumption | exact hgi _ _) ⟨by decide, by decide⟩) dL_isTraverse_585 kL_223 qL_troubleOf hdL_troubleOf ⟨Nat.le_of_ble_eq_true rfl, Nat.le_of_ble_eq_true rfl⟩ ⟨(show _ ≤ 89 from by omega), (show _ ≤ 534 from by omega)⟩ (Nat.le_of_ble_eq_true rfl) rfl (fun z_585 => ?_)
    rw [show cdV (kTrb S (t : Int)) (rTrb S (t : Int).toNat 1) (-2000001) 0 0 = (-2000000000) from (w_tb htt).trans (rTrb_o (by omega) (by decide))]
    refine gw_iload C dL_isTraverse_588 rfl ?_
    refine gw_icmp_ne C (tgt := 633) dL_isTraverse_590 (by decide) ⟨by decide, by decide⟩ ⟨by decide, by decide⟩ (fun h => absurd h (by decide)) (fun _ => ?_)
    refine gw_aload_n C 0 dL_isTraverse_593 rfl rfl ?_
    refine gw_iload C dL_isTraverse_594 rfl ?_
    refine gw_iconst C dL_isTraverse_596 ?_
    refine gw_callSHm C (as := [vR 0, vI (t : Int), vI 2]) (st := []) (c_L_troubleOf hl0 G I J hCI (t : Int) 2 (by first | omega | assumption | exact hgi _ _) ⟨by decide, by decide⟩) dL_isTraverse_597 kL_223 qL_troubleOf hdL_troubleOf ⟨Nat.le_of_ble_eq_true rfl, Nat.le_of_ble_eq_true rfl⟩ ⟨(show _ ≤ 89 from by omega), (show _ ≤ 534 from by omega)⟩ (Nat.le_of_ble_eq_true rfl) rfl (fun z_597 => ?_)
    rw [show cdV (kTrb S (t : Int)) (rTrb S (t : Int).toNat 2) (-2000001) 0 0 = (-2000000000) from (w_tb htt).trans (rTrb_o (by omega) (by decide))]
    refine gw_iload C dL_isTraverse_600 rfl ?_
    refine gw_icmp_ne C (tgt := 633) dL_isTraverse_602 (by decide) ⟨by decide, by decide⟩ ⟨by decide, by decide⟩ (fun h => absurd h (by decide)) (fun _ => ?_)
    refine gw_aload_n C 0 dL_isTraverse_605 rfl rfl ?_
    refine gw_iload C dL_isTraverse_606 rfl ?_
    refine gw_iconst C dL_isTraverse_608 ?_
    refine gw_callSHm C (as := [vR 0, vI (t : Int), vI 3]) (st := []) (c_L_troubleOf hl0 G I J hCI (t : Int) 3 (by first | omega | assumption | exact hgi _ _) ⟨by decide, by decide⟩) dL_isTraverse_609 kL_223 qL_troubleOf hdL_troubleOf ⟨Nat.le_of_ble_eq_true rfl, Nat.le_of_ble_eq_true rfl⟩ ⟨(show _ ≤ 89 from by omega), (show _ ≤ 534 from by omega)⟩ (Nat.le_of_ble_eq_true rfl) rfl (fun z_609 => ?_)
    rw [show cdV (kTrb S (t : Int)) (rTrb S (t : Int).toNat 3) (-2000001) 0 0 = (-2000000000) from (w_tb htt).trans (rTrb_o (by omega) (by decide))]
    refine gw_iload C dL_isTraverse_612 rfl ?_
    refine gw_icmp_ne C (tgt := 633) dL_isTraverse_614 (by decide) ⟨by decide, by decide⟩ ⟨by decide, by decide⟩ (fun h => absurd h (by decide)) (fun _ => ?_)
    refine gw_aload_n C 0 dL_isTraverse_617 rfl rfl ?_
    refine gw_iload C dL_isTraverse_618 rfl ?_
    refine gw_iconst C dL_isTraverse_620 ?_
    refine gw_callSHm C (as := [vR 0, vI (t : Int), vI (-1)]) (st := []) (c_L_troubleOf hl0 G I J hCI (t : Int) (-1) (by first | omega | assumption | exact hgi _ _) ⟨by decide, by decide⟩) dL_isTraverse_621 kL_223 qL_troubleOf hdL_troubleOf ⟨Nat.le_of_ble_eq_true rfl, Nat.le_of_ble_eq_true rfl⟩ ⟨(show _ ≤ 89 from by omega), (show _ ≤ 534 from by omega)⟩ (Nat.le_of_ble_eq_true rfl) rfl (fun z_621 => ?_)
    rw [show cdV (kTrb S (t : Int)) (rTrb S (t : Int).toNat (-1)) (-2000001) 0 0 = (-2000000000) from (w_tb htt).trans (rTrb_o (by omega) (by decide))]
    refine gw_iload C dL_isTraverse_624 rfl ?_
    refine gw_icmp_ne C (tgt := 633) dL_isTraverse_626 (by decide) ⟨by decide, by decide⟩ ⟨by decide, by decide⟩ (fun h => absurd h (by decide)) (fun _ => ?_)
    refine gw_iconst C dL_isTraverse_629 ?_
    refine gw_goto C (tgt := 634) dL_isTraverse_630 (by decide) ?_
    exact gw_zret C (by omega) (by omega) dL_isTraverse_634 (Or.inr rfl) (⟨rfl, rfl, rfl⟩)
set_option maxHeartbeats 4000000 in
set_option maxRecDepth 100000 in
theorem isT_c1 {l : Launch} (hl0 : l.stackTraces = false) (G : GG) (I J : GI) {S : Nat → Int} {D9 : Nat → Nat → Int} {c9 : Nat} (hCI : CI I S D9 c9) (hR : rowL I = S) (t : Nat) (htt : (t : Int) < S 5) {p : Program} {e : Env} {s : State} {m : MethodId} {args : Array Value} {below : List Frame} {meth : Method} {c : Code} (C : gC G p l s m args meth c cL_isTraverse 23 RL (some .boolean) "isTraverse") (ht : ∀ x ∈ c.exceptionTable.toList, False) (hgi : gIn I) (u : Int) (k z9 a1 a2 : Nat) (hk : k = (S (103 + 28 * t)).toNat) (hu : u = smF k (sLe S t)) (hub : 0 ≤ smF k (sLe S t) ∧ smF k (sLe S t) ≤ 200000 * (k : Int)) (ha : a1 ≤ 72 ∧ a2 ≤ 432) (hT : sTT S t = 6) (hcl : S (104 + 28 * t) < 0) (hjx : sJ S (S (102 + 28 * t)).toNat ≠ 0) : GW G p l e ({ frames := 9, cells := 89, slots := 534, locals := 171 } : Room) s m args below meth c 23 z9 N0 SH RR I J a1 a2 (vx_MQ below (GQ G N0 SH RR (memQ (some (vI 1)) I J)) (GX G N0 SH RR gNo) args s 89 534 (ge G)) 92 [some (vR 0), some (vR 231), some (vR 232), some (vR 233), some (vR 234), some (vR 235), some (vR 236), some (vR 237), some (vR 238), some (vI (t : Int)), some (vI (-2000000000)), some (vI u), some (vI 1), some (vI (k : Int)), none, none, none, none, none, none, none, none, none] [vI 6] := by
  have ho := hCI.1.1.2.1
  have h0 := ho.1
  have h3 := ho.2.1
  have ht9 := okT ho htt
  have hf9 := ho.2.2.2.1 (S (102 + 28 * t)).toNat (by omega)
  have hwh : ¬ whl S t := fun q => by have q1 := q.1; have q2 := q.2; omega
  refine gw_istore C (lo1 := [some (vR 0), some (vR 231), some (vR 232), some (vR 233), some (vR 234), some (vR 235), some (vR 236), some (vR 237), some (vR 238), some (vI (t : Int)), some (vI (-2000000000)), some (vI u), some (vI 1), some (vI 6), none, none, none, none, none, none, none, none, none]) dL_isTraverse_92 (by decide) rfl ?_
  refine gw_aload C dL_isTraverse_94 rfl ?_
  refine gw_iconst C dL_isTraverse_96 ?_
  refine gw_iload C dL_isTraverse_97 rfl ?_
  refine gw_imul C dL_isTraverse_99 ?_
  refine gw_iconst C dL_isTraverse_100 ?_
  refine gw_iadd C dL_isTraverse_101 ?_
  refine gw_iald C ((4 * t) + 2) dL_isTraverse_102 xs_236 xn_236 (by omega) (by omega) (by decide) (fun hI_102_2 => ?_)
  rw [show (I 236 ((4 * t) + 2)) = (S (104 + 28 * t)) from by have e9 := lr_h2 (I := I) (t := t) (by omega); rw [hR] at e9; exact e9] at hI_102_2 ⊢
  refine gw_if_lt C (tgt := 110) dL_isTraverse_103 (by decide) hI_102_2 (fun _ => ?_) (fun h => absurd h (by omega))
  refine gw_iconst C dL_isTraverse_110 ?_
  refine gw_istore C (lo1 := [some (vR 0), some (vR 231), some (vR 232), some (vR 233), some (vR 234), some (vR 235), some (vR 236), some (vR 237), some (vR 238), some (vI (t : Int)), some (vI (-2000000000)), some (vI u), some (vI 1), some (vI 6), some (vI 0), none, none, none, none, none, none, none, none]) dL_isTraverse_111 (by decide) rfl ?_
  refine gw_aload_n C 1 dL_isTraverse_113 rfl rfl ?_
  refine gw_aload_n C 3 dL_isTraverse_114 rfl rfl ?_
  refine gw_aload C dL_isTraverse_115 rfl ?_
  refine gw_aload C dL_isTraverse_117 rfl ?_
  refine gw_aload C dL_isTraverse_119 rfl ?_
  refine gw_aload C dL_isTraverse_121 rfl ?_
  refine gw_iload C dL_isTraverse_123 rfl ?_
  refine gw_callSb C (as := [vR 231, vR 233, vR 234, vR 235, vR 236, vR 237, vI (t : Int)]) (st := []) (c_L_whole hl0 G I J hR ho t (by omega)) dL_isTraverse_125 kL_212 qL_whole hdL_whole ⟨Nat.le_of_ble_eq_true rfl, Nat.le_of_ble_eq_true rfl⟩ ⟨(show _ ≤ 89 from by omega), (show _ ≤ 534 from by omega)⟩ (Nat.le_of_ble_eq_true rfl) rfl (fun h_125_2 z_125_2 => ?_) (fun h_125_2 z_125_2 => ?_)
  · exact absurd True.intro (by exact fun _ => hwh h_125_2)
  · skip
    refine gw_istore C (lo1 := [some (vR 0), some (vR 231), some (vR 232), some (vR 233), some (vR 234), some (vR 235), some (vR 236), some (vR 237), some (vR 238), some (vI (t : Int)), some (vI (-2000000000)), some (vI u), some (vI 1), some (vI 6), some (vI 0), some (vI 0), none, none, none, none, none, none, none]) dL_isTraverse_128 (by decide) rfl ?_
    refine gw_iload C dL_isTraverse_130 rfl ?_
    refine gw_bipush C dL_isTraverse_132 rfl ?_
    refine gw_icmp_ne C (tgt := 147) dL_isTraverse_134 (by decide) ⟨by decide, by decide⟩ ⟨by decide, by decide⟩ (fun h => absurd h (by decide)) (fun _ => ?_)
    refine gw_aload C dL_isTraverse_137 rfl ?_
    refine gw_iconst C dL_isTraverse_139 ?_
    refine gw_iload C dL_isTraverse_140 rfl ?_
    refine gw_imul C dL_isTraverse_142 ?_
    refine gw_iald C (4 * t) dL_isTraverse_143 xs_236 xn_236 (by omega) (by omega) (by decide) (fun hI_143 => ?_)
    rw [show (I 236 (4 * t)) = (((S (102 + 28 * t)).toNat : Nat) : Int) from by have e9 := lr_h0 (I := I) (t := t) (by omega); rw [hR] at e9; omega] at hI_143 ⊢
    refine gw_goto C (tgt := 156) dL_isTraverse_144 (by decide) ?_
    refine gw_istore C (lo1 := [some (vR 0), some (vR 231), some (vR 232), some (vR 233), some (vR 234), some (vR 235), some (vR 236), some (vR 237), some (vR 238), some (vI (t : Int)), some (vI (-2000000000)), some (vI u), some (vI 1), some (vI 6), some (vI 0), some (vI 0), some (vI (((S (102 + 28 * t)).toNat : Nat) : Int)), none, none, none, none, none, none]) dL_isTraverse_156 (by decide) rfl ?_
    refine gw_iload C dL_isTraverse_158 rfl ?_
    refine gw_bipush C dL_isTraverse_160 rfl ?_
    refine gw_icmp_eq C (tgt := 172) dL_isTraverse_162 (by decide) ⟨by decide, by decide⟩ ⟨by decide, by decide⟩ (fun _ => ?_) (fun h => absurd h (by decide))
    refine gw_aload_n C 1 dL_isTraverse_172 rfl rfl ?_
    refine gw_aload_n C 3 dL_isTraverse_173 rfl rfl ?_
    refine gw_aload C dL_isTraverse_174 rfl ?_
    refine gw_aload C dL_isTraverse_176 rfl ?_
    refine gw_iload C dL_isTraverse_178 rfl ?_
    refine gw_callSm C (as := [vR 231, vR 233, vR 234, vR 235, vI (((S (102 + 28 * t)).toNat : Nat) : Int)]) (st := []) (c_L_joint hl0 G I J hR ho ((S (102 + 28 * t)).toNat) (by omega)) dL_isTraverse_180 kL_105 qL_joint hdL_joint ⟨Nat.le_of_ble_eq_true rfl, Nat.le_of_ble_eq_true rfl⟩ ⟨(show _ ≤ 89 from by omega), (show _ ≤ 534 from by omega)⟩ (Nat.le_of_ble_eq_true rfl) rfl (fun z_180 => ?_)
    have hr_180 := sJ_v S ((S (102 + 28 * t)).toNat)
    refine gw_goto C (tgt := 188) dL_isTraverse_183 (by decide) ?_
    refine gw_istore C (lo1 := [some (vR 0), some (vR 231), some (vR 232), some (vR 233), some (vR 234), some (vR 235), some (vR 236), some (vR 237), some (vR 238), some (vI (t : Int)), some (vI (-2000000000)), some (vI u), some (vI 1), some (vI 6), some (vI 0), some (vI 0), some (vI (((S (102 + 28 * t)).toNat : Nat) : Int)), some (vI (sJ S ((S (102 + 28 * t)).toNat))), none, none, none, none, none]) dL_isTraverse_188 (by decide) rfl ?_
    refine gw_iload C dL_isTraverse_190 rfl ?_
    refine gw_iconst C dL_isTraverse_192 ?_
    refine gw_icmp_ne C (tgt := 210) dL_isTraverse_193 (by decide) (by first | omega | assumption | exact hgi _ _) ⟨by decide, by decide⟩ (fun h_193 => ?_) (fun h_193 => ?_)
    · skip
      refine gw_iload C dL_isTraverse_210 rfl ?_
      refine gw_istore C (lo1 := [some (vR 0), some (vR 231), some (vR 232), some (vR 233), some (vR 234), some (vR 235), some (vR 236), some (vR 237), some (vR 238), some (vI (t : Int)), some (vI (-2000000000)), some (vI u), some (vI 1), some (vI 6), some (vI 0), some (vI 0), some (vI (((S (102 + 28 * t)).toNat : Nat) : Int)), some (vI (sJ S ((S (102 + 28 * t)).toNat))), some (vI (-2000000000)), none, none, none, none]) dL_isTraverse_212 (by decide) rfl ?_
      refine gw_iload C dL_isTraverse_214 rfl ?_
      refine gw_if_eq C (tgt := 397) dL_isTraverse_216 (by decide) ⟨by decide, by decide⟩ (fun h => absurd h (by decide)) (fun _ => ?_)
      refine gw_aload_n C 0 dL_isTraverse_219 rfl rfl ?_
      refine gw_iload C dL_isTraverse_220 rfl ?_
      refine gw_aload C dL_isTraverse_222 rfl ?_
      refine gw_iconst C dL_isTraverse_224 ?_
      refine gw_iload C dL_isTraverse_225 rfl ?_
      refine gw_imul C dL_isTraverse_227 ?_
      refine gw_iconst C dL_isTraverse_228 ?_
      refine gw_iadd C dL_isTraverse_229 ?_
      refine gw_iald C ((4 * t) + 1) dL_isTraverse_230 xs_236 xn_236 (by omega) (by omega) (by decide) (fun hI_230_2 => ?_)
      rw [show (I 236 ((4 * t) + 1)) = (((S (103 + 28 * t)).toNat : Nat) : Int) from by have e9 := lr_h1 (I := I) (t := t) (by omega); rw [hR] at e9; omega] at hI_230_2 ⊢
      refine gw_iconst C dL_isTraverse_231 ?_
      refine gw_callSHm C (as := [vR 0, vI (t : Int), vI (((S (103 + 28 * t)).toNat : Nat) : Int), vI 0]) (st := []) (c_L_legOf hl0 G I J hCI (t : Int) (((S (103 + 28 * t)).toNat : Nat) : Int) 0 (by first | omega | assumption | exact hgi _ _) hI_230_2 ⟨by decide, by decide⟩) dL_isTraverse_232 kL_205 qL_legOf hdL_legOf ⟨Nat.le_of_ble_eq_true rfl, Nat.le_of_ble_eq_true rfl⟩ ⟨(show _ ≤ 89 from by omega), (show _ ≤ 534 from by omega)⟩ (Nat.le_of_ble_eq_true rfl) rfl (fun z_232_2 => ?_)
      rw [show cdV (kLeg S (t : Int) (((S (103 + 28 * t)).toNat : Nat) : Int) 0) (rLeg S (t : Int).toNat (((S (103 + 28 * t)).toNat : Nat) : Int).toNat 0) (-2000001) (-2000002) 0 = (-2000001) from w_lg1 (by rw [show ((t : Nat) : Int).toNat = t from rfl]; omega)]
      refine gw_ldc C (x := (-2000001)) dL_isTraverse_235 kL_29 (by decide) ?_
      refine gw_icmp_ne C (tgt := 397) dL_isTraverse_237 (by decide) ⟨by decide, by decide⟩ ⟨by decide, by decide⟩ (fun h => absurd h (by decide)) (fun _ => ?_)
      refine gw_aload_n C 0 dL_isTraverse_240 rfl rfl ?_
      refine gw_iload C dL_isTraverse_241 rfl ?_
      refine gw_iconst C dL_isTraverse_243 ?_
      refine gw_callSHm C (as := [vR 0, vI (t : Int), vI 0]) (st := []) (c_L_traverseOf hl0 G I J hCI (t : Int) 0 (by first | omega | assumption | exact hgi _ _) ⟨by decide, by decide⟩) dL_isTraverse_244 kL_216 qL_traverseOf hdL_traverseOf ⟨Nat.le_of_ble_eq_true rfl, Nat.le_of_ble_eq_true rfl⟩ ⟨(show _ ≤ 89 from by omega), (show _ ≤ 534 from by omega)⟩ (Nat.le_of_ble_eq_true rfl) rfl (fun z_244_2 => ?_)
      rw [show cdV (kTrav S (t : Int) 0) (rTrav S (t : Int).toNat 0) (-2000001) (-2000002) 0 = (((S (102 + 28 * t)).toNat : Nat) : Int) from (w_tr htt (by decide)).trans (by show S (102 + 28 * t) = _; omega)]
      refine gw_aload C dL_isTraverse_247 rfl ?_
      refine gw_iconst C dL_isTraverse_249 ?_
      refine gw_iload C dL_isTraverse_250 rfl ?_
      refine gw_imul C dL_isTraverse_252 ?_
      refine gw_iald C (4 * t) dL_isTraverse_253 xs_236 xn_236 (by omega) (by omega) (by decide) (fun hI_253_2 => ?_)
      rw [show (I 236 (4 * t)) = (((S (102 + 28 * t)).toNat : Nat) : Int) from by have e9 := lr_h0 (I := I) (t := t) (by omega); rw [hR] at e9; omega] at hI_253_2 ⊢
      refine gw_icmp_ne C (tgt := 397) dL_isTraverse_254 (by decide) (by first | omega | assumption | exact hgi _ _) hI_253_2 (fun h => absurd h (by exact fun q => q rfl)) (fun _ => ?_)
      refine gw_aload_n C 0 dL_isTraverse_257 rfl rfl ?_
      refine gw_iload C dL_isTraverse_258 rfl ?_
      refine gw_iconst C dL_isTraverse_260 ?_
      refine gw_callSHm C (as := [vR 0, vI (t : Int), vI 1]) (st := []) (c_L_traverseOf hl0 G I J hCI (t : Int) 1 (by first | omega | assumption | exact hgi _ _) ⟨by decide, by decide⟩) dL_isTraverse_261 kL_216 qL_traverseOf hdL_traverseOf ⟨Nat.le_of_ble_eq_true rfl, Nat.le_of_ble_eq_true rfl⟩ ⟨(show _ ≤ 89 from by omega), (show _ ≤ 534 from by omega)⟩ (Nat.le_of_ble_eq_true rfl) rfl (fun z_261_2 => ?_)
      rw [show cdV (kTrav S (t : Int) 1) (rTrav S (t : Int).toNat 1) (-2000001) (-2000002) 0 = (((S (103 + 28 * t)).toNat : Nat) : Int) from (w_tr htt (by decide)).trans (by show S (103 + 28 * t) = _; omega)]
      refine gw_aload C dL_isTraverse_264 rfl ?_
      refine gw_iconst C dL_isTraverse_266 ?_
      refine gw_iload C dL_isTraverse_267 rfl ?_
      refine gw_imul C dL_isTraverse_269 ?_
      refine gw_iconst C dL_isTraverse_270 ?_
      refine gw_iadd C dL_isTraverse_271 ?_
      refine gw_iald C ((4 * t) + 1) dL_isTraverse_272 xs_236 xn_236 (by omega) (by omega) (by decide) (fun hI_272_2 => ?_)
      rw [show (I 236 ((4 * t) + 1)) = (((S (103 + 28 * t)).toNat : Nat) : Int) from by have e9 := lr_h1 (I := I) (t := t) (by omega); rw [hR] at e9; omega] at hI_272_2 ⊢
      refine gw_icmp_ne C (tgt := 397) dL_isTraverse_273 (by decide) (by first | omega | assumption | exact hgi _ _) hI_272_2 (fun h => absurd h (by exact fun q => q rfl)) (fun _ => ?_)
      refine gw_aload_n C 0 dL_isTraverse_276 rfl rfl ?_
      refine gw_iload C dL_isTraverse_277 rfl ?_
      refine gw_iconst C dL_isTraverse_279 ?_
      refine gw_callSHm C (as := [vR 0, vI (t : Int), vI 2]) (st := []) (c_L_traverseOf hl0 G I J hCI (t : Int) 2 (by first | omega | assumption | exact hgi _ _) ⟨by decide, by decide⟩) dL_isTraverse_280 kL_216 qL_traverseOf hdL_traverseOf ⟨Nat.le_of_ble_eq_true rfl, Nat.le_of_ble_eq_true rfl⟩ ⟨(show _ ≤ 89 from by omega), (show _ ≤ 534 from by omega)⟩ (Nat.le_of_ble_eq_true rfl) rfl (fun z_280_2 => ?_)
      rw [show cdV (kTrav S (t : Int) 2) (rTrav S (t : Int).toNat 2) (-2000001) (-2000002) 0 = (-2000000000) from (w_tr htt (by decide)).trans (rTr_2.2 hcl).1]
      refine gw_iload C dL_isTraverse_283 rfl ?_
      refine gw_if_eq C (tgt := 300) dL_isTraverse_285 (by decide) ⟨by decide, by decide⟩ (fun _ => ?_) (fun h => absurd h (by decide))
      refine gw_iload C dL_isTraverse_300 rfl ?_
      refine gw_icmp_ne C (tgt := 397) dL_isTraverse_302 (by decide) ⟨by decide, by decide⟩ ⟨by decide, by decide⟩ (fun h => absurd h (by decide)) (fun _ => ?_)
      refine gw_aload_n C 0 dL_isTraverse_305 rfl rfl ?_
      refine gw_iload C dL_isTraverse_306 rfl ?_
      refine gw_iconst C dL_isTraverse_308 ?_
      refine gw_callSHm C (as := [vR 0, vI (t : Int), vI 3]) (st := []) (c_L_traverseOf hl0 G I J hCI (t : Int) 3 (by first | omega | assumption | exact hgi _ _) ⟨by decide, by decide⟩) dL_isTraverse_309 kL_216 qL_traverseOf hdL_traverseOf ⟨Nat.le_of_ble_eq_true rfl, Nat.le_of_ble_eq_true rfl⟩ ⟨(show _ ≤ 89 from by omega), (show _ ≤ 534 from by omega)⟩ (Nat.le_of_ble_eq_true rfl) rfl (fun z_309_2 => ?_)
      rw [show cdV (kTrav S (t : Int) 3) (rTrav S (t : Int).toNat 3) (-2000001) (-2000002) 0 = (-2000000000) from (w_tr htt (by decide)).trans (rTr_2.2 hcl).2]
      refine gw_iload C dL_isTraverse_312 rfl ?_
      refine gw_if_eq C (tgt := 329) dL_isTraverse_314 (by decide) ⟨by decide, by decide⟩ (fun _ => ?_) (fun h => absurd h (by decide))
      refine gw_iload C dL_isTraverse_329 rfl ?_
      refine gw_icmp_ne C (tgt := 397) dL_isTraverse_331 (by decide) ⟨by decide, by decide⟩ ⟨by decide, by decide⟩ (fun h => absurd h (by decide)) (fun _ => ?_)
      refine gw_aload_n C 0 dL_isTraverse_334 rfl rfl ?_
      refine gw_iload C dL_isTraverse_335 rfl ?_
      refine gw_iconst C dL_isTraverse_337 ?_
      refine gw_callSHm C (as := [vR 0, vI (t : Int), vI 4]) (st := []) (c_L_traverseOf hl0 G I J hCI (t : Int) 4 (by first | omega | assumption | exact hgi _ _) ⟨by decide, by decide⟩) dL_isTraverse_338 kL_216 qL_traverseOf hdL_traverseOf ⟨Nat.le_of_ble_eq_true rfl, Nat.le_of_ble_eq_true rfl⟩ ⟨(show _ ≤ 89 from by omega), (show _ ≤ 534 from by omega)⟩ (Nat.le_of_ble_eq_true rfl) rfl (fun z_338_2 => ?_)
      rw [show cdV (kTrav S (t : Int) 4) (rTrav S (t : Int).toNat 4) (-2000001) (-2000002) 0 = 6 from (w_tr htt (by decide)).trans hT]
      refine gw_iload C dL_isTraverse_341 rfl ?_
      refine gw_icmp_ne C (tgt := 397) dL_isTraverse_343 (by decide) ⟨by decide, by decide⟩ ⟨by decide, by decide⟩ (fun h => absurd h (by decide)) (fun _ => ?_)
      refine gw_aload_n C 0 dL_isTraverse_346 rfl rfl ?_
      refine gw_iload C dL_isTraverse_347 rfl ?_
      refine gw_iconst C dL_isTraverse_349 ?_
      refine gw_callSHm C (as := [vR 0, vI (t : Int), vI 5]) (st := []) (c_L_traverseOf hl0 G I J hCI (t : Int) 5 (by first | omega | assumption | exact hgi _ _) ⟨by decide, by decide⟩) dL_isTraverse_350 kL_216 qL_traverseOf hdL_traverseOf ⟨Nat.le_of_ble_eq_true rfl, Nat.le_of_ble_eq_true rfl⟩ ⟨(show _ ≤ 89 from by omega), (show _ ≤ 534 from by omega)⟩ (Nat.le_of_ble_eq_true rfl) rfl (fun z_350_2 => ?_)
      rw [show cdV (kTrav S (t : Int) 5) (rTrav S (t : Int).toNat 5) (-2000001) (-2000002) 0 = (-2000000000) from (w_tr htt (by decide)).trans (rTr_n hwh (by decide))]
      refine gw_iload C dL_isTraverse_353 rfl ?_
      refine gw_if_eq C (tgt := 375) dL_isTraverse_355 (by decide) ⟨by decide, by decide⟩ (fun _ => ?_) (fun h => absurd h (by decide))
      refine gw_iload C dL_isTraverse_375 rfl ?_
      refine gw_icmp_ne C (tgt := 397) dL_isTraverse_377 (by decide) ⟨by decide, by decide⟩ ⟨by decide, by decide⟩ (fun h => absurd h (by decide)) (fun _ => ?_)
      refine gw_aload_n C 0 dL_isTraverse_380 rfl rfl ?_
      refine gw_iload C dL_isTraverse_381 rfl ?_
      refine gw_bipush C dL_isTraverse_383 rfl ?_
      refine gw_callSHm C (as := [vR 0, vI (t : Int), vI 6]) (st := []) (c_L_traverseOf hl0 G I J hCI (t : Int) 6 (by first | omega | assumption | exact hgi _ _) ⟨by decide, by decide⟩) dL_isTraverse_385 kL_216 qL_traverseOf hdL_traverseOf ⟨Nat.le_of_ble_eq_true rfl, Nat.le_of_ble_eq_true rfl⟩ ⟨(show _ ≤ 89 from by omega), (show _ ≤ 534 from by omega)⟩ (Nat.le_of_ble_eq_true rfl) rfl (fun z_385_2 => ?_)
      rw [show cdV (kTrav S (t : Int) 6) (rTrav S (t : Int).toNat 6) (-2000001) (-2000002) 0 = u from (w_tr htt (by decide)).trans (by show smF (S (103 + 28 * t)).toNat (sLe S t) = u; rw [hu, show (S (103 + 28 * t)).toNat = k by omega])]
      refine gw_iload C dL_isTraverse_388 rfl ?_
      refine gw_icmp_ne C (tgt := 397) dL_isTraverse_390 (by decide) (by first | omega | assumption | exact hgi _ _) (by first | omega | assumption | exact hgi _ _) (fun h => absurd h (by exact fun q => q rfl)) (fun _ => ?_)
      refine gw_iconst C dL_isTraverse_393 ?_
      refine gw_goto C (tgt := 398) dL_isTraverse_394 (by decide) ?_
      refine gw_istore C (lo1 := [some (vR 0), some (vR 231), some (vR 232), some (vR 233), some (vR 234), some (vR 235), some (vR 236), some (vR 237), some (vR 238), some (vI (t : Int)), some (vI (-2000000000)), some (vI u), some (vI 1), some (vI 6), some (vI 0), some (vI 0), some (vI (((S (102 + 28 * t)).toNat : Nat) : Int)), some (vI (sJ S ((S (102 + 28 * t)).toNat))), some (vI (-2000000000)), none, none, none, none]) dL_isTraverse_398 (by decide) rfl ?_
      refine gw_iload C dL_isTraverse_400 rfl ?_
      refine gw_if_eq C (tgt := 427) dL_isTraverse_402 (by decide) ⟨by decide, by decide⟩ (fun _ => ?_) (fun h => absurd h (by decide))
      refine gw_iload C dL_isTraverse_427 rfl ?_
      refine gw_i2l C dL_isTraverse_429 ⟨by decide, by decide⟩ ?_
      refine gw_lstore C (lo1 := [some (vR 0), some (vR 231), some (vR 232), some (vR 233), some (vR 234), some (vR 235), some (vR 236), some (vR 237), some (vR 238), some (vI (t : Int)), some (vI (-2000000000)), some (vI u), some (vI 1), some (vI 6), some (vI 0), some (vI 0), some (vI (((S (102 + 28 * t)).toNat : Nat) : Int)), some (vI (sJ S ((S (102 + 28 * t)).toNat))), some (vI (-2000000000)), some (vL (-2000000000)), none, none, none]) dL_isTraverse_430 (by decide) rfl ?_
      refine gw_iload C dL_isTraverse_432 rfl ?_
      refine gw_if_eq C (tgt := 459) dL_isTraverse_434 (by decide) ⟨by decide, by decide⟩ (fun _ => ?_) (fun h => absurd h (by decide))
      refine gw_iload C dL_isTraverse_459 rfl ?_
      refine gw_i2l C dL_isTraverse_461 ⟨by decide, by decide⟩ ?_
      refine gw_lstore C (lo1 := [some (vR 0), some (vR 231), some (vR 232), some (vR 233), some (vR 234), some (vR 235), some (vR 236), some (vR 237), some (vR 238), some (vI (t : Int)), some (vI (-2000000000)), some (vI u), some (vI 1), some (vI 6), some (vI 0), some (vI 0), some (vI (((S (102 + 28 * t)).toNat : Nat) : Int)), some (vI (sJ S ((S (102 + 28 * t)).toNat))), some (vI (-2000000000)), some (vL (-2000000000)), none, some (vL (-2000000000)), none]) dL_isTraverse_462 (by decide) rfl ?_
      refine gw_iload C dL_isTraverse_464 rfl ?_
      refine gw_if_eq C (tgt := 551) dL_isTraverse_466 (by decide) ⟨by decide, by decide⟩ (fun h => absurd h (by decide)) (fun _ => ?_)
      refine gw_aload_n C 0 dL_isTraverse_469 rfl rfl ?_
      refine gw_iload C dL_isTraverse_470 rfl ?_
      refine gw_bipush C dL_isTraverse_472 rfl ?_
      refine gw_callSHm C (as := [vR 0, vI (t : Int), vI 7]) (st := []) (c_L_traverseOf hl0 G I J hCI (t : Int) 7 (by first | omega | assumption | exact hgi _ _) ⟨by decide, by decide⟩) dL_isTraverse_474 kL_216 qL_traverseOf hdL_traverseOf ⟨Nat.le_of_ble_eq_true rfl, Nat.le_of_ble_eq_true rfl⟩ ⟨(show _ ≤ 89 from by omega), (show _ ≤ 534 from by omega)⟩ (Nat.le_of_ble_eq_true rfl) rfl (fun z_474_2 => ?_)
      rw [show cdV (kTrav S (t : Int) 7) (rTrav S (t : Int).toNat 7) (-2000001) (-2000002) 0 = (-2000000000) from (w_tr htt (by decide)).trans (rTr_n hwh (by decide))]
      refine gw_i2l C dL_isTraverse_477 ⟨by decide, by decide⟩ ?_
      refine gw_lload C dL_isTraverse_478 rfl ?_
      refine gw_lcmpE C dL_isTraverse_480 (by rfl) ?_
      refine gw_if_ne C (tgt := 551) dL_isTraverse_481 (by decide) ⟨by decide, by decide⟩ (fun h => absurd h (by decide)) (fun _ => ?_)
      refine gw_aload_n C 0 dL_isTraverse_484 rfl rfl ?_
      refine gw_iload C dL_isTraverse_485 rfl ?_
      refine gw_bipush C dL_isTraverse_487 rfl ?_
      refine gw_callSHm C (as := [vR 0, vI (t : Int), vI 8]) (st := []) (c_L_traverseOf hl0 G I J hCI (t : Int) 8 (by first | omega | assumption | exact hgi _ _) ⟨by decide, by decide⟩) dL_isTraverse_489 kL_216 qL_traverseOf hdL_traverseOf ⟨Nat.le_of_ble_eq_true rfl, Nat.le_of_ble_eq_true rfl⟩ ⟨(show _ ≤ 89 from by omega), (show _ ≤ 534 from by omega)⟩ (Nat.le_of_ble_eq_true rfl) rfl (fun z_489_2 => ?_)
      rw [show cdV (kTrav S (t : Int) 8) (rTrav S (t : Int).toNat 8) (-2000001) (-2000002) 0 = (-2000000000) from (w_tr htt (by decide)).trans (rTr_n hwh (by decide))]
      refine gw_i2l C dL_isTraverse_492 ⟨by decide, by decide⟩ ?_
      refine gw_lload C dL_isTraverse_493 rfl ?_
      refine gw_lcmpE C dL_isTraverse_495 (by rfl) ?_
      refine gw_if_ne C (tgt := 551) dL_isTraverse_496 (by decide) ⟨by decide, by decide⟩ (fun h => absurd h (by decide)) (fun _ => ?_)
      refine gw_aload_n C 0 dL_isTraverse_499 rfl rfl ?_
      refine gw_iload C dL_isTraverse_500 rfl ?_
      refine gw_bipush C dL_isTraverse_502 rfl ?_
      refine gw_callSHm C (as := [vR 0, vI (t : Int), vI 9]) (st := []) (c_L_traverseOf hl0 G I J hCI (t : Int) 9 (by first | omega | assumption | exact hgi _ _) ⟨by decide, by decide⟩) dL_isTraverse_504 kL_216 qL_traverseOf hdL_traverseOf ⟨Nat.le_of_ble_eq_true rfl, Nat.le_of_ble_eq_true rfl⟩ ⟨(show _ ≤ 89 from by omega), (show _ ≤ 534 from by omega)⟩ (Nat.le_of_ble_eq_true rfl) rfl (fun z_504_2 => ?_)
      rw [show cdV (kTrav S (t : Int) 9) (rTrav S (t : Int).toNat 9) (-2000001) (-2000002) 0 = (-2000000000) from (w_tr htt (by decide)).trans (rTr_n hwh (by decide))]
      refine gw_iload C dL_isTraverse_507 rfl ?_
      refine gw_if_eq C (tgt := 529) dL_isTraverse_509 (by decide) ⟨by decide, by decide⟩ (fun _ => ?_) (fun h => absurd h (by decide))
      refine gw_iload C dL_isTraverse_529 rfl ?_
      refine gw_icmp_ne C (tgt := 551) dL_isTraverse_531 (by decide) ⟨by decide, by decide⟩ ⟨by decide, by decide⟩ (fun h => absurd h (by decide)) (fun _ => ?_)
      refine gw_aload_n C 0 dL_isTraverse_534 rfl rfl ?_
      refine gw_iload C dL_isTraverse_535 rfl ?_
      refine gw_bipush C dL_isTraverse_537 rfl ?_
      refine gw_callSHm C (as := [vR 0, vI (t : Int), vI 10]) (st := []) (c_L_traverseOf hl0 G I J hCI (t : Int) 10 (by first | omega | assumption | exact hgi _ _) ⟨by decide, by decide⟩) dL_isTraverse_539 kL_216 qL_traverseOf hdL_traverseOf ⟨Nat.le_of_ble_eq_true rfl, Nat.le_of_ble_eq_true rfl⟩ ⟨(show _ ≤ 89 from by omega), (show _ ≤ 534 from by omega)⟩ (Nat.le_of_ble_eq_true rfl) rfl (fun z_539_2 => ?_)
      rw [show cdV (kTrav S (t : Int) 10) (rTrav S (t : Int).toNat 10) (-2000001) (-2000002) 0 = (-2000002) from w_tr2 htt rfl]
      refine gw_ldc C (x := (-2000002)) dL_isTraverse_542 kL_17 (by decide) ?_
      refine gw_icmp_ne C (tgt := 551) dL_isTraverse_544 (by decide) ⟨by decide, by decide⟩ ⟨by decide, by decide⟩ (fun h => absurd h (by decide)) (fun _ => ?_)
      refine gw_iconst C dL_isTraverse_547 ?_
      refine gw_goto C (tgt := 552) dL_isTraverse_548 (by decide) ?_
      refine gw_istore C (lo1 := [some (vR 0), some (vR 231), some (vR 232), some (vR 233), some (vR 234), some (vR 235), some (vR 236), some (vR 237), some (vR 238), some (vI (t : Int)), some (vI (-2000000000)), some (vI u), some (vI 1), some (vI 6), some (vI 0), some (vI 0), some (vI (((S (102 + 28 * t)).toNat : Nat) : Int)), some (vI (sJ S ((S (102 + 28 * t)).toNat))), some (vI (-2000000000)), some (vL (-2000000000)), none, some (vL (-2000000000)), none]) dL_isTraverse_552 (by decide) rfl ?_
      refine gw_iload C dL_isTraverse_554 rfl ?_
      refine gw_if_eq C (tgt := 633) dL_isTraverse_556 (by decide) ⟨by decide, by decide⟩ (fun h => absurd h (by decide)) (fun _ => ?_)
      refine gw_aload_n C 0 dL_isTraverse_559 rfl rfl ?_
      refine gw_iload C dL_isTraverse_560 rfl ?_
      refine gw_iconst C dL_isTraverse_562 ?_
      refine gw_callSHm C (as := [vR 0, vI (t : Int), vI 0]) (st := []) (c_L_troubleOf hl0 G I J hCI (t : Int) 0 (by first | omega | assumption | exact hgi _ _) ⟨by decide, by decide⟩) dL_isTraverse_563 kL_223 qL_troubleOf hdL_troubleOf ⟨Nat.le_of_ble_eq_true rfl, Nat.le_of_ble_eq_true rfl⟩ ⟨(show _ ≤ 89 from by omega), (show _ ≤ 534 from by omega)⟩ (Nat.le_of_ble_eq_true rfl) rfl (fun z_563_2 => ?_)
      rw [show cdV (kTrb S (t : Int)) (rTrb S (t : Int).toNat 0) (-2000001) 0 0 = 6 from (w_tb htt).trans ((rTrb_z.2 (by omega)).trans hT)]
      refine gw_iload C dL_isTraverse_566 rfl ?_
      refine gw_if_le C (tgt := 576) dL_isTraverse_568 (by decide) ⟨by decide, by decide⟩ (fun h => absurd h (by decide)) (fun _ => ?_)
      refine gw_iload C dL_isTraverse_571 rfl ?_
      refine gw_goto C (tgt := 578) dL_isTraverse_573 (by decide) ?_
      refine gw_icmp_ne C (tgt := 633) dL_isTraverse_578 (by decide) ⟨by decide, by decide⟩ ⟨by decide, by decide⟩ (fun h => absurd h (by decide)) (fun _ => ?_)
      refine gw_aload_n C 0 dL_isTraverse_581 rfl rfl ?_
      refine gw_iload C dL_isTraverse_582 rfl ?_
      refine gw_iconst C dL_isTraverse_584 ?_
      refine gw_callSHm C (as := [vR 0, vI (t : Int), vI 1]) (st := []) (c_L_troubleOf hl0 G I J hCI (t : Int) 1 (by first | omega | assumption | exact hgi _ _) ⟨by decide, by decide⟩) dL_isTraverse_585 kL_223 qL_troubleOf hdL_troubleOf ⟨Nat.le_of_ble_eq_true rfl, Nat.le_of_ble_eq_true rfl⟩ ⟨(show _ ≤ 89 from by omega), (show _ ≤ 534 from by omega)⟩ (Nat.le_of_ble_eq_true rfl) rfl (fun z_585_2 => ?_)
      rw [show cdV (kTrb S (t : Int)) (rTrb S (t : Int).toNat 1) (-2000001) 0 0 = (sJ S (S (102 + 28 * t)).toNat) from (w_tb htt).trans ((rTrb_6 hT (by decide)).trans (if_pos rfl))]
      refine gw_iload C dL_isTraverse_588 rfl ?_
      refine gw_icmp_ne C (tgt := 633) dL_isTraverse_590 (by decide) (by first | omega | assumption | exact hgi _ _) (by first | omega | assumption | exact hgi _ _) (fun h => absurd h (by exact fun q => q rfl)) (fun _ => ?_)
      refine gw_aload_n C 0 dL_isTraverse_593 rfl rfl ?_
      refine gw_iload C dL_isTraverse_594 rfl ?_
      refine gw_iconst C dL_isTraverse_596 ?_
      refine gw_callSHm C (as := [vR 0, vI (t : Int), vI 2]) (st := []) (c_L_troubleOf hl0 G I J hCI (t : Int) 2 (by first | omega | assumption | exact hgi _ _) ⟨by decide, by decide⟩) dL_isTraverse_597 kL_223 qL_troubleOf hdL_troubleOf ⟨Nat.le_of_ble_eq_true rfl, Nat.le_of_ble_eq_true rfl⟩ ⟨(show _ ≤ 89 from by omega), (show _ ≤ 534 from by omega)⟩ (Nat.le_of_ble_eq_true rfl) rfl (fun z_597_2 => ?_)
      rw [show cdV (kTrb S (t : Int)) (rTrb S (t : Int).toNat 2) (-2000001) 0 0 = (-2000000000) from (w_tb htt).trans ((rTrb_6 hT (by decide)).trans (jlS_n (by omega)))]
      refine gw_iload C dL_isTraverse_600 rfl ?_
      refine gw_icmp_ne C (tgt := 633) dL_isTraverse_602 (by decide) ⟨by decide, by decide⟩ ⟨by decide, by decide⟩ (fun h => absurd h (by decide)) (fun _ => ?_)
      refine gw_aload_n C 0 dL_isTraverse_605 rfl rfl ?_
      refine gw_iload C dL_isTraverse_606 rfl ?_
      refine gw_iconst C dL_isTraverse_608 ?_
      refine gw_callSHm C (as := [vR 0, vI (t : Int), vI 3]) (st := []) (c_L_troubleOf hl0 G I J hCI (t : Int) 3 (by first | omega | assumption | exact hgi _ _) ⟨by decide, by decide⟩) dL_isTraverse_609 kL_223 qL_troubleOf hdL_troubleOf ⟨Nat.le_of_ble_eq_true rfl, Nat.le_of_ble_eq_true rfl⟩ ⟨(show _ ≤ 89 from by omega), (show _ ≤ 534 from by omega)⟩ (Nat.le_of_ble_eq_true rfl) rfl (fun z_609_2 => ?_)
      rw [show cdV (kTrb S (t : Int)) (rTrb S (t : Int).toNat 3) (-2000001) 0 0 = (-2000000000) from (w_tb htt).trans ((rTrb_6 hT (by decide)).trans (jlS_o (by decide)))]
      refine gw_iload C dL_isTraverse_612 rfl ?_
      refine gw_icmp_ne C (tgt := 633) dL_isTraverse_614 (by decide) ⟨by decide, by decide⟩ ⟨by decide, by decide⟩ (fun h => absurd h (by decide)) (fun _ => ?_)
      refine gw_aload_n C 0 dL_isTraverse_617 rfl rfl ?_
      refine gw_iload C dL_isTraverse_618 rfl ?_
      refine gw_iconst C dL_isTraverse_620 ?_
      refine gw_callSHm C (as := [vR 0, vI (t : Int), vI (-1)]) (st := []) (c_L_troubleOf hl0 G I J hCI (t : Int) (-1) (by first | omega | assumption | exact hgi _ _) ⟨by decide, by decide⟩) dL_isTraverse_621 kL_223 qL_troubleOf hdL_troubleOf ⟨Nat.le_of_ble_eq_true rfl, Nat.le_of_ble_eq_true rfl⟩ ⟨(show _ ≤ 89 from by omega), (show _ ≤ 534 from by omega)⟩ (Nat.le_of_ble_eq_true rfl) rfl (fun z_621_2 => ?_)
      rw [show cdV (kTrb S (t : Int)) (rTrb S (t : Int).toNat (-1)) (-2000001) 0 0 = (-2000000000) from (w_tb htt).trans ((rTrb_6 hT (by decide)).trans (jlS_o (by decide)))]
      refine gw_iload C dL_isTraverse_624 rfl ?_
      refine gw_icmp_ne C (tgt := 633) dL_isTraverse_626 (by decide) ⟨by decide, by decide⟩ ⟨by decide, by decide⟩ (fun h => absurd h (by decide)) (fun _ => ?_)
      refine gw_iconst C dL_isTraverse_629 ?_
      refine gw_goto C (tgt := 634) dL_isTraverse_630 (by decide) ?_
      exact gw_zret C (by omega) (by omega) dL_isTraverse_634 (Or.inr rfl) (⟨rfl, rfl, rfl⟩)
    · skip
      refine gw_aload_n C 1 dL_isTraverse_196 rfl rfl ?_
      refine gw_aload_n C 3 dL_isTraverse_197 rfl rfl ?_
      refine gw_aload C dL_isTraverse_198 rfl ?_
      refine gw_aload C dL_isTraverse_200 rfl ?_
      refine gw_iload C dL_isTraverse_202 rfl ?_
      refine gw_callSm C (as := [vR 231, vR 233, vR 234, vR 235, vI (((S (102 + 28 * t)).toNat : Nat) : Int)]) (st := []) (c_L_wires hl0 G I J hR ho ((S (102 + 28 * t)).toNat) (by omega)) dL_isTraverse_204 kL_86 qL_wires hdL_wires ⟨Nat.le_of_ble_eq_true rfl, Nat.le_of_ble_eq_true rfl⟩ ⟨(show _ ≤ 89 from by omega), (show _ ≤ 534 from by omega)⟩ (Nat.le_of_ble_eq_true rfl) rfl (fun z_204 => ?_)
      have hr_204 := sC_v S ((S (102 + 28 * t)).toNat)
      refine gw_goto C (tgt := 212) dL_isTraverse_207 (by decide) ?_
      refine gw_istore C (lo1 := [some (vR 0), some (vR 231), some (vR 232), some (vR 233), some (vR 234), some (vR 235), some (vR 236), some (vR 237), some (vR 238), some (vI (t : Int)), some (vI (-2000000000)), some (vI u), some (vI 1), some (vI 6), some (vI 0), some (vI 0), some (vI (((S (102 + 28 * t)).toNat : Nat) : Int)), some (vI (sJ S ((S (102 + 28 * t)).toNat))), some (vI (sC S ((S (102 + 28 * t)).toNat))), none, none, none, none]) dL_isTraverse_212 (by decide) rfl ?_
      refine gw_iload C dL_isTraverse_214 rfl ?_
      refine gw_if_eq C (tgt := 397) dL_isTraverse_216 (by decide) ⟨by decide, by decide⟩ (fun h => absurd h (by decide)) (fun _ => ?_)
      refine gw_aload_n C 0 dL_isTraverse_219 rfl rfl ?_
      refine gw_iload C dL_isTraverse_220 rfl ?_
      refine gw_aload C dL_isTraverse_222 rfl ?_
      refine gw_iconst C dL_isTraverse_224 ?_
      refine gw_iload C dL_isTraverse_225 rfl ?_
      refine gw_imul C dL_isTraverse_227 ?_
      refine gw_iconst C dL_isTraverse_228 ?_
      refine gw_iadd C dL_isTraverse_229 ?_
      refine gw_iald C ((4 * t) + 1) dL_isTraverse_230 xs_236 xn_236 (by omega) (by omega) (by decide) (fun hI_230_3 => ?_)
      rw [show (I 236 ((4 * t) + 1)) = (((S (103 + 28 * t)).toNat : Nat) : Int) from by have e9 := lr_h1 (I := I) (t := t) (by omega); rw [hR] at e9; omega] at hI_230_3 ⊢
      refine gw_iconst C dL_isTraverse_231 ?_
      refine gw_callSHm C (as := [vR 0, vI (t : Int), vI (((S (103 + 28 * t)).toNat : Nat) : Int), vI 0]) (st := []) (c_L_legOf hl0 G I J hCI (t : Int) (((S (103 + 28 * t)).toNat : Nat) : Int) 0 (by first | omega | assumption | exact hgi _ _) hI_230_3 ⟨by decide, by decide⟩) dL_isTraverse_232 kL_205 qL_legOf hdL_legOf ⟨Nat.le_of_ble_eq_true rfl, Nat.le_of_ble_eq_true rfl⟩ ⟨(show _ ≤ 89 from by omega), (show _ ≤ 534 from by omega)⟩ (Nat.le_of_ble_eq_true rfl) rfl (fun z_232_3 => ?_)
      rw [show cdV (kLeg S (t : Int) (((S (103 + 28 * t)).toNat : Nat) : Int) 0) (rLeg S (t : Int).toNat (((S (103 + 28 * t)).toNat : Nat) : Int).toNat 0) (-2000001) (-2000002) 0 = (-2000001) from w_lg1 (by rw [show ((t : Nat) : Int).toNat = t from rfl]; omega)]
      refine gw_ldc C (x := (-2000001)) dL_isTraverse_235 kL_29 (by decide) ?_
      refine gw_icmp_ne C (tgt := 397) dL_isTraverse_237 (by decide) ⟨by decide, by decide⟩ ⟨by decide, by decide⟩ (fun h => absurd h (by decide)) (fun _ => ?_)
      refine gw_aload_n C 0 dL_isTraverse_240 rfl rfl ?_
      refine gw_iload C dL_isTraverse_241 rfl ?_
      refine gw_iconst C dL_isTraverse_243 ?_
      refine gw_callSHm C (as := [vR 0, vI (t : Int), vI 0]) (st := []) (c_L_traverseOf hl0 G I J hCI (t : Int) 0 (by first | omega | assumption | exact hgi _ _) ⟨by decide, by decide⟩) dL_isTraverse_244 kL_216 qL_traverseOf hdL_traverseOf ⟨Nat.le_of_ble_eq_true rfl, Nat.le_of_ble_eq_true rfl⟩ ⟨(show _ ≤ 89 from by omega), (show _ ≤ 534 from by omega)⟩ (Nat.le_of_ble_eq_true rfl) rfl (fun z_244_3 => ?_)
      rw [show cdV (kTrav S (t : Int) 0) (rTrav S (t : Int).toNat 0) (-2000001) (-2000002) 0 = (((S (102 + 28 * t)).toNat : Nat) : Int) from (w_tr htt (by decide)).trans (by show S (102 + 28 * t) = _; omega)]
      refine gw_aload C dL_isTraverse_247 rfl ?_
      refine gw_iconst C dL_isTraverse_249 ?_
      refine gw_iload C dL_isTraverse_250 rfl ?_
      refine gw_imul C dL_isTraverse_252 ?_
      refine gw_iald C (4 * t) dL_isTraverse_253 xs_236 xn_236 (by omega) (by omega) (by decide) (fun hI_253_3 => ?_)
      rw [show (I 236 (4 * t)) = (((S (102 + 28 * t)).toNat : Nat) : Int) from by have e9 := lr_h0 (I := I) (t := t) (by omega); rw [hR] at e9; omega] at hI_253_3 ⊢
      refine gw_icmp_ne C (tgt := 397) dL_isTraverse_254 (by decide) (by first | omega | assumption | exact hgi _ _) hI_253_3 (fun h => absurd h (by exact fun q => q rfl)) (fun _ => ?_)
      refine gw_aload_n C 0 dL_isTraverse_257 rfl rfl ?_
      refine gw_iload C dL_isTraverse_258 rfl ?_
      refine gw_iconst C dL_isTraverse_260 ?_
      refine gw_callSHm C (as := [vR 0, vI (t : Int), vI 1]) (st := []) (c_L_traverseOf hl0 G I J hCI (t : Int) 1 (by first | omega | assumption | exact hgi _ _) ⟨by decide, by decide⟩) dL_isTraverse_261 kL_216 qL_traverseOf hdL_traverseOf ⟨Nat.le_of_ble_eq_true rfl, Nat.le_of_ble_eq_true rfl⟩ ⟨(show _ ≤ 89 from by omega), (show _ ≤ 534 from by omega)⟩ (Nat.le_of_ble_eq_true rfl) rfl (fun z_261_3 => ?_)
      rw [show cdV (kTrav S (t : Int) 1) (rTrav S (t : Int).toNat 1) (-2000001) (-2000002) 0 = (((S (103 + 28 * t)).toNat : Nat) : Int) from (w_tr htt (by decide)).trans (by show S (103 + 28 * t) = _; omega)]
      refine gw_aload C dL_isTraverse_264 rfl ?_
      refine gw_iconst C dL_isTraverse_266 ?_
      refine gw_iload C dL_isTraverse_267 rfl ?_
      refine gw_imul C dL_isTraverse_269 ?_
      refine gw_iconst C dL_isTraverse_270 ?_
      refine gw_iadd C dL_isTraverse_271 ?_
      refine gw_iald C ((4 * t) + 1) dL_isTraverse_272 xs_236 xn_236 (by omega) (by omega) (by decide) (fun hI_272_3 => ?_)
      rw [show (I 236 ((4 * t) + 1)) = (((S (103 + 28 * t)).toNat : Nat) : Int) from by have e9 := lr_h1 (I := I) (t := t) (by omega); rw [hR] at e9; omega] at hI_272_3 ⊢
      refine gw_icmp_ne C (tgt := 397) dL_isTraverse_273 (by decide) (by first | omega | assumption | exact hgi _ _) hI_272_3 (fun h => absurd h (by exact fun q => q rfl)) (fun _ => ?_)
      refine gw_aload_n C 0 dL_isTraverse_276 rfl rfl ?_
      refine gw_iload C dL_isTraverse_277 rfl ?_
      refine gw_iconst C dL_isTraverse_279 ?_
      refine gw_callSHm C (as := [vR 0, vI (t : Int), vI 2]) (st := []) (c_L_traverseOf hl0 G I J hCI (t : Int) 2 (by first | omega | assumption | exact hgi _ _) ⟨by decide, by decide⟩) dL_isTraverse_280 kL_216 qL_traverseOf hdL_traverseOf ⟨Nat.le_of_ble_eq_true rfl, Nat.le_of_ble_eq_true rfl⟩ ⟨(show _ ≤ 89 from by omega), (show _ ≤ 534 from by omega)⟩ (Nat.le_of_ble_eq_true rfl) rfl (fun z_280_3 => ?_)
      rw [show cdV (kTrav S (t : Int) 2) (rTrav S (t : Int).toNat 2) (-2000001) (-2000002) 0 = (-2000000000) from (w_tr htt (by decide)).trans (rTr_2.2 hcl).1]
      refine gw_iload C dL_isTraverse_283 rfl ?_
      refine gw_if_eq C (tgt := 300) dL_isTraverse_285 (by decide) ⟨by decide, by decide⟩ (fun _ => ?_) (fun h => absurd h (by decide))
      refine gw_iload C dL_isTraverse_300 rfl ?_
      refine gw_icmp_ne C (tgt := 397) dL_isTraverse_302 (by decide) ⟨by decide, by decide⟩ ⟨by decide, by decide⟩ (fun h => absurd h (by decide)) (fun _ => ?_)
      refine gw_aload_n C 0 dL_isTraverse_305 rfl rfl ?_
      refine gw_iload C dL_isTraverse_306 rfl ?_
      refine gw_iconst C dL_isTraverse_308 ?_
      refine gw_callSHm C (as := [vR 0, vI (t : Int), vI 3]) (st := []) (c_L_traverseOf hl0 G I J hCI (t : Int) 3 (by first | omega | assumption | exact hgi _ _) ⟨by decide, by decide⟩) dL_isTraverse_309 kL_216 qL_traverseOf hdL_traverseOf ⟨Nat.le_of_ble_eq_true rfl, Nat.le_of_ble_eq_true rfl⟩ ⟨(show _ ≤ 89 from by omega), (show _ ≤ 534 from by omega)⟩ (Nat.le_of_ble_eq_true rfl) rfl (fun z_309_3 => ?_)
      rw [show cdV (kTrav S (t : Int) 3) (rTrav S (t : Int).toNat 3) (-2000001) (-2000002) 0 = (-2000000000) from (w_tr htt (by decide)).trans (rTr_2.2 hcl).2]
      refine gw_iload C dL_isTraverse_312 rfl ?_
      refine gw_if_eq C (tgt := 329) dL_isTraverse_314 (by decide) ⟨by decide, by decide⟩ (fun _ => ?_) (fun h => absurd h (by decide))
      refine gw_iload C dL_isTraverse_329 rfl ?_
      refine gw_icmp_ne C (tgt := 397) dL_isTraverse_331 (by decide) ⟨by decide, by decide⟩ ⟨by decide, by decide⟩ (fun h => absurd h (by decide)) (fun _ => ?_)
      refine gw_aload_n C 0 dL_isTraverse_334 rfl rfl ?_
      refine gw_iload C dL_isTraverse_335 rfl ?_
      refine gw_iconst C dL_isTraverse_337 ?_
      refine gw_callSHm C (as := [vR 0, vI (t : Int), vI 4]) (st := []) (c_L_traverseOf hl0 G I J hCI (t : Int) 4 (by first | omega | assumption | exact hgi _ _) ⟨by decide, by decide⟩) dL_isTraverse_338 kL_216 qL_traverseOf hdL_traverseOf ⟨Nat.le_of_ble_eq_true rfl, Nat.le_of_ble_eq_true rfl⟩ ⟨(show _ ≤ 89 from by omega), (show _ ≤ 534 from by omega)⟩ (Nat.le_of_ble_eq_true rfl) rfl (fun z_338_3 => ?_)
      rw [show cdV (kTrav S (t : Int) 4) (rTrav S (t : Int).toNat 4) (-2000001) (-2000002) 0 = 6 from (w_tr htt (by decide)).trans hT]
      refine gw_iload C dL_isTraverse_341 rfl ?_
      refine gw_icmp_ne C (tgt := 397) dL_isTraverse_343 (by decide) ⟨by decide, by decide⟩ ⟨by decide, by decide⟩ (fun h => absurd h (by decide)) (fun _ => ?_)
      refine gw_aload_n C 0 dL_isTraverse_346 rfl rfl ?_
      refine gw_iload C dL_isTraverse_347 rfl ?_
      refine gw_iconst C dL_isTraverse_349 ?_
      refine gw_callSHm C (as := [vR 0, vI (t : Int), vI 5]) (st := []) (c_L_traverseOf hl0 G I J hCI (t : Int) 5 (by first | omega | assumption | exact hgi _ _) ⟨by decide, by decide⟩) dL_isTraverse_350 kL_216 qL_traverseOf hdL_traverseOf ⟨Nat.le_of_ble_eq_true rfl, Nat.le_of_ble_eq_true rfl⟩ ⟨(show _ ≤ 89 from by omega), (show _ ≤ 534 from by omega)⟩ (Nat.le_of_ble_eq_true rfl) rfl (fun z_350_3 => ?_)
      rw [show cdV (kTrav S (t : Int) 5) (rTrav S (t : Int).toNat 5) (-2000001) (-2000002) 0 = (-2000000000) from (w_tr htt (by decide)).trans (rTr_n hwh (by decide))]
      refine gw_iload C dL_isTraverse_353 rfl ?_
      refine gw_if_eq C (tgt := 375) dL_isTraverse_355 (by decide) ⟨by decide, by decide⟩ (fun _ => ?_) (fun h => absurd h (by decide))
      refine gw_iload C dL_isTraverse_375 rfl ?_
      refine gw_icmp_ne C (tgt := 397) dL_isTraverse_377 (by decide) ⟨by decide, by decide⟩ ⟨by decide, by decide⟩ (fun h => absurd h (by decide)) (fun _ => ?_)
      refine gw_aload_n C 0 dL_isTraverse_380 rfl rfl ?_
      refine gw_iload C dL_isTraverse_381 rfl ?_
      refine gw_bipush C dL_isTraverse_383 rfl ?_
      refine gw_callSHm C (as := [vR 0, vI (t : Int), vI 6]) (st := []) (c_L_traverseOf hl0 G I J hCI (t : Int) 6 (by first | omega | assumption | exact hgi _ _) ⟨by decide, by decide⟩) dL_isTraverse_385 kL_216 qL_traverseOf hdL_traverseOf ⟨Nat.le_of_ble_eq_true rfl, Nat.le_of_ble_eq_true rfl⟩ ⟨(show _ ≤ 89 from by omega), (show _ ≤ 534 from by omega)⟩ (Nat.le_of_ble_eq_true rfl) rfl (fun z_385_3 => ?_)
      rw [show cdV (kTrav S (t : Int) 6) (rTrav S (t : Int).toNat 6) (-2000001) (-2000002) 0 = u from (w_tr htt (by decide)).trans (by show smF (S (103 + 28 * t)).toNat (sLe S t) = u; rw [hu, show (S (103 + 28 * t)).toNat = k by omega])]
      refine gw_iload C dL_isTraverse_388 rfl ?_
      refine gw_icmp_ne C (tgt := 397) dL_isTraverse_390 (by decide) (by first | omega | assumption | exact hgi _ _) (by first | omega | assumption | exact hgi _ _) (fun h => absurd h (by exact fun q => q rfl)) (fun _ => ?_)
      refine gw_iconst C dL_isTraverse_393 ?_
      refine gw_goto C (tgt := 398) dL_isTraverse_394 (by decide) ?_
      refine gw_istore C (lo1 := [some (vR 0), some (vR 231), some (vR 232), some (vR 233), some (vR 234), some (vR 235), some (vR 236), some (vR 237), some (vR 238), some (vI (t : Int)), some (vI (-2000000000)), some (vI u), some (vI 1), some (vI 6), some (vI 0), some (vI 0), some (vI (((S (102 + 28 * t)).toNat : Nat) : Int)), some (vI (sJ S ((S (102 + 28 * t)).toNat))), some (vI (sC S ((S (102 + 28 * t)).toNat))), none, none, none, none]) dL_isTraverse_398 (by decide) rfl ?_
      refine gw_iload C dL_isTraverse_400 rfl ?_
      refine gw_if_eq C (tgt := 427) dL_isTraverse_402 (by decide) ⟨by decide, by decide⟩ (fun _ => ?_) (fun h => absurd h (by decide))
      refine gw_iload C dL_isTraverse_427 rfl ?_
      refine gw_i2l C dL_isTraverse_429 ⟨by decide, by decide⟩ ?_
      refine gw_lstore C (lo1 := [some (vR 0), some (vR 231), some (vR 232), some (vR 233), some (vR 234), some (vR 235), some (vR 236), some (vR 237), some (vR 238), some (vI (t : Int)), some (vI (-2000000000)), some (vI u), some (vI 1), some (vI 6), some (vI 0), some (vI 0), some (vI (((S (102 + 28 * t)).toNat : Nat) : Int)), some (vI (sJ S ((S (102 + 28 * t)).toNat))), some (vI (sC S ((S (102 + 28 * t)).toNat))), some (vL (-2000000000)), none, none, none]) dL_isTraverse_430 (by decide) rfl ?_
      refine gw_iload C dL_isTraverse_432 rfl ?_
      refine gw_if_eq C (tgt := 459) dL_isTraverse_434 (by decide) ⟨by decide, by decide⟩ (fun _ => ?_) (fun h => absurd h (by decide))
      refine gw_iload C dL_isTraverse_459 rfl ?_
      refine gw_i2l C dL_isTraverse_461 ⟨by decide, by decide⟩ ?_
      refine gw_lstore C (lo1 := [some (vR 0), some (vR 231), some (vR 232), some (vR 233), some (vR 234), some (vR 235), some (vR 236), some (vR 237), some (vR 238), some (vI (t : Int)), some (vI (-2000000000)), some (vI u), some (vI 1), some (vI 6), some (vI 0), some (vI 0), some (vI (((S (102 + 28 * t)).toNat : Nat) : Int)), some (vI (sJ S ((S (102 + 28 * t)).toNat))), some (vI (sC S ((S (102 + 28 * t)).toNat))), some (vL (-2000000000)), none, some (vL (-2000000000)), none]) dL_isTraverse_462 (by decide) rfl ?_
      refine gw_iload C dL_isTraverse_464 rfl ?_
      refine gw_if_eq C (tgt := 551) dL_isTraverse_466 (by decide) ⟨by decide, by decide⟩ (fun h => absurd h (by decide)) (fun _ => ?_)
      refine gw_aload_n C 0 dL_isTraverse_469 rfl rfl ?_
      refine gw_iload C dL_isTraverse_470 rfl ?_
      refine gw_bipush C dL_isTraverse_472 rfl ?_
      refine gw_callSHm C (as := [vR 0, vI (t : Int), vI 7]) (st := []) (c_L_traverseOf hl0 G I J hCI (t : Int) 7 (by first | omega | assumption | exact hgi _ _) ⟨by decide, by decide⟩) dL_isTraverse_474 kL_216 qL_traverseOf hdL_traverseOf ⟨Nat.le_of_ble_eq_true rfl, Nat.le_of_ble_eq_true rfl⟩ ⟨(show _ ≤ 89 from by omega), (show _ ≤ 534 from by omega)⟩ (Nat.le_of_ble_eq_true rfl) rfl (fun z_474_3 => ?_)
      rw [show cdV (kTrav S (t : Int) 7) (rTrav S (t : Int).toNat 7) (-2000001) (-2000002) 0 = (-2000000000) from (w_tr htt (by decide)).trans (rTr_n hwh (by decide))]
      refine gw_i2l C dL_isTraverse_477 ⟨by decide, by decide⟩ ?_
      refine gw_lload C dL_isTraverse_478 rfl ?_
      refine gw_lcmpE C dL_isTraverse_480 (by rfl) ?_
      refine gw_if_ne C (tgt := 551) dL_isTraverse_481 (by decide) ⟨by decide, by decide⟩ (fun h => absurd h (by decide)) (fun _ => ?_)
      refine gw_aload_n C 0 dL_isTraverse_484 rfl rfl ?_
      refine gw_iload C dL_isTraverse_485 rfl ?_
      refine gw_bipush C dL_isTraverse_487 rfl ?_
      refine gw_callSHm C (as := [vR 0, vI (t : Int), vI 8]) (st := []) (c_L_traverseOf hl0 G I J hCI (t : Int) 8 (by first | omega | assumption | exact hgi _ _) ⟨by decide, by decide⟩) dL_isTraverse_489 kL_216 qL_traverseOf hdL_traverseOf ⟨Nat.le_of_ble_eq_true rfl, Nat.le_of_ble_eq_true rfl⟩ ⟨(show _ ≤ 89 from by omega), (show _ ≤ 534 from by omega)⟩ (Nat.le_of_ble_eq_true rfl) rfl (fun z_489_3 => ?_)
      rw [show cdV (kTrav S (t : Int) 8) (rTrav S (t : Int).toNat 8) (-2000001) (-2000002) 0 = (-2000000000) from (w_tr htt (by decide)).trans (rTr_n hwh (by decide))]
      refine gw_i2l C dL_isTraverse_492 ⟨by decide, by decide⟩ ?_
      refine gw_lload C dL_isTraverse_493 rfl ?_
      refine gw_lcmpE C dL_isTraverse_495 (by rfl) ?_
      refine gw_if_ne C (tgt := 551) dL_isTraverse_496 (by decide) ⟨by decide, by decide⟩ (fun h => absurd h (by decide)) (fun _ => ?_)
      refine gw_aload_n C 0 dL_isTraverse_499 rfl rfl ?_
      refine gw_iload C dL_isTraverse_500 rfl ?_
      refine gw_bipush C dL_isTraverse_502 rfl ?_
      refine gw_callSHm C (as := [vR 0, vI (t : Int), vI 9]) (st := []) (c_L_traverseOf hl0 G I J hCI (t : Int) 9 (by first | omega | assumption | exact hgi _ _) ⟨by decide, by decide⟩) dL_isTraverse_504 kL_216 qL_traverseOf hdL_traverseOf ⟨Nat.le_of_ble_eq_true rfl, Nat.le_of_ble_eq_true rfl⟩ ⟨(show _ ≤ 89 from by omega), (show _ ≤ 534 from by omega)⟩ (Nat.le_of_ble_eq_true rfl) rfl (fun z_504_3 => ?_)
      rw [show cdV (kTrav S (t : Int) 9) (rTrav S (t : Int).toNat 9) (-2000001) (-2000002) 0 = (-2000000000) from (w_tr htt (by decide)).trans (rTr_n hwh (by decide))]
      refine gw_iload C dL_isTraverse_507 rfl ?_
      refine gw_if_eq C (tgt := 529) dL_isTraverse_509 (by decide) ⟨by decide, by decide⟩ (fun _ => ?_) (fun h => absurd h (by decide))
      refine gw_iload C dL_isTraverse_529 rfl ?_
      refine gw_icmp_ne C (tgt := 551) dL_isTraverse_531 (by decide) ⟨by decide, by decide⟩ ⟨by decide, by decide⟩ (fun h => absurd h (by decide)) (fun _ => ?_)
      refine gw_aload_n C 0 dL_isTraverse_534 rfl rfl ?_
      refine gw_iload C dL_isTraverse_535 rfl ?_
      refine gw_bipush C dL_isTraverse_537 rfl ?_
      refine gw_callSHm C (as := [vR 0, vI (t : Int), vI 10]) (st := []) (c_L_traverseOf hl0 G I J hCI (t : Int) 10 (by first | omega | assumption | exact hgi _ _) ⟨by decide, by decide⟩) dL_isTraverse_539 kL_216 qL_traverseOf hdL_traverseOf ⟨Nat.le_of_ble_eq_true rfl, Nat.le_of_ble_eq_true rfl⟩ ⟨(show _ ≤ 89 from by omega), (show _ ≤ 534 from by omega)⟩ (Nat.le_of_ble_eq_true rfl) rfl (fun z_539_3 => ?_)
      rw [show cdV (kTrav S (t : Int) 10) (rTrav S (t : Int).toNat 10) (-2000001) (-2000002) 0 = (-2000002) from w_tr2 htt rfl]
      refine gw_ldc C (x := (-2000002)) dL_isTraverse_542 kL_17 (by decide) ?_
      refine gw_icmp_ne C (tgt := 551) dL_isTraverse_544 (by decide) ⟨by decide, by decide⟩ ⟨by decide, by decide⟩ (fun h => absurd h (by decide)) (fun _ => ?_)
      refine gw_iconst C dL_isTraverse_547 ?_
      refine gw_goto C (tgt := 552) dL_isTraverse_548 (by decide) ?_
      refine gw_istore C (lo1 := [some (vR 0), some (vR 231), some (vR 232), some (vR 233), some (vR 234), some (vR 235), some (vR 236), some (vR 237), some (vR 238), some (vI (t : Int)), some (vI (-2000000000)), some (vI u), some (vI 1), some (vI 6), some (vI 0), some (vI 0), some (vI (((S (102 + 28 * t)).toNat : Nat) : Int)), some (vI (sJ S ((S (102 + 28 * t)).toNat))), some (vI (sC S ((S (102 + 28 * t)).toNat))), some (vL (-2000000000)), none, some (vL (-2000000000)), none]) dL_isTraverse_552 (by decide) rfl ?_
      refine gw_iload C dL_isTraverse_554 rfl ?_
      refine gw_if_eq C (tgt := 633) dL_isTraverse_556 (by decide) ⟨by decide, by decide⟩ (fun h => absurd h (by decide)) (fun _ => ?_)
      refine gw_aload_n C 0 dL_isTraverse_559 rfl rfl ?_
      refine gw_iload C dL_isTraverse_560 rfl ?_
      refine gw_iconst C dL_isTraverse_562 ?_
      refine gw_callSHm C (as := [vR 0, vI (t : Int), vI 0]) (st := []) (c_L_troubleOf hl0 G I J hCI (t : Int) 0 (by first | omega | assumption | exact hgi _ _) ⟨by decide, by decide⟩) dL_isTraverse_563 kL_223 qL_troubleOf hdL_troubleOf ⟨Nat.le_of_ble_eq_true rfl, Nat.le_of_ble_eq_true rfl⟩ ⟨(show _ ≤ 89 from by omega), (show _ ≤ 534 from by omega)⟩ (Nat.le_of_ble_eq_true rfl) rfl (fun z_563_3 => ?_)
      rw [show cdV (kTrb S (t : Int)) (rTrb S (t : Int).toNat 0) (-2000001) 0 0 = 6 from (w_tb htt).trans ((rTrb_z.2 (by omega)).trans hT)]
      refine gw_iload C dL_isTraverse_566 rfl ?_
      refine gw_if_le C (tgt := 576) dL_isTraverse_568 (by decide) ⟨by decide, by decide⟩ (fun h => absurd h (by decide)) (fun _ => ?_)
      refine gw_iload C dL_isTraverse_571 rfl ?_
      refine gw_goto C (tgt := 578) dL_isTraverse_573 (by decide) ?_
      refine gw_icmp_ne C (tgt := 633) dL_isTraverse_578 (by decide) ⟨by decide, by decide⟩ ⟨by decide, by decide⟩ (fun h => absurd h (by decide)) (fun _ => ?_)
      refine gw_aload_n C 0 dL_isTraverse_581 rfl rfl ?_
      refine gw_iload C dL_isTraverse_582 rfl ?_
      refine gw_iconst C dL_isTraverse_584 ?_
      refine gw_callSHm C (as := [vR 0, vI (t : Int), vI 1]) (st := []) (c_L_troubleOf hl0 G I J hCI (t : Int) 1 (by first | omega | assumption | exact hgi _ _) ⟨by decide, by decide⟩) dL_isTraverse_585 kL_223 qL_troubleOf hdL_troubleOf ⟨Nat.le_of_ble_eq_true rfl, Nat.le_of_ble_eq_true rfl⟩ ⟨(show _ ≤ 89 from by omega), (show _ ≤ 534 from by omega)⟩ (Nat.le_of_ble_eq_true rfl) rfl (fun z_585_3 => ?_)
      rw [show cdV (kTrb S (t : Int)) (rTrb S (t : Int).toNat 1) (-2000001) 0 0 = (sJ S (S (102 + 28 * t)).toNat) from (w_tb htt).trans ((rTrb_6 hT (by decide)).trans (if_pos rfl))]
      refine gw_iload C dL_isTraverse_588 rfl ?_
      refine gw_icmp_ne C (tgt := 633) dL_isTraverse_590 (by decide) (by first | omega | assumption | exact hgi _ _) (by first | omega | assumption | exact hgi _ _) (fun h => absurd h (by exact fun q => q rfl)) (fun _ => ?_)
      refine gw_aload_n C 0 dL_isTraverse_593 rfl rfl ?_
      refine gw_iload C dL_isTraverse_594 rfl ?_
      refine gw_iconst C dL_isTraverse_596 ?_
      refine gw_callSHm C (as := [vR 0, vI (t : Int), vI 2]) (st := []) (c_L_troubleOf hl0 G I J hCI (t : Int) 2 (by first | omega | assumption | exact hgi _ _) ⟨by decide, by decide⟩) dL_isTraverse_597 kL_223 qL_troubleOf hdL_troubleOf ⟨Nat.le_of_ble_eq_true rfl, Nat.le_of_ble_eq_true rfl⟩ ⟨(show _ ≤ 89 from by omega), (show _ ≤ 534 from by omega)⟩ (Nat.le_of_ble_eq_true rfl) rfl (fun z_597_3 => ?_)
      rw [show cdV (kTrb S (t : Int)) (rTrb S (t : Int).toNat 2) (-2000001) 0 0 = (sC S (S (102 + 28 * t)).toNat) from (w_tb htt).trans ((rTrb_6 hT (by decide)).trans (jlS_2 (by omega)))]
      refine gw_iload C dL_isTraverse_600 rfl ?_
      refine gw_icmp_ne C (tgt := 633) dL_isTraverse_602 (by decide) (by first | omega | assumption | exact hgi _ _) (by first | omega | assumption | exact hgi _ _) (fun h => absurd h (by exact fun q => q rfl)) (fun _ => ?_)
      refine gw_aload_n C 0 dL_isTraverse_605 rfl rfl ?_
      refine gw_iload C dL_isTraverse_606 rfl ?_
      refine gw_iconst C dL_isTraverse_608 ?_
      refine gw_callSHm C (as := [vR 0, vI (t : Int), vI 3]) (st := []) (c_L_troubleOf hl0 G I J hCI (t : Int) 3 (by first | omega | assumption | exact hgi _ _) ⟨by decide, by decide⟩) dL_isTraverse_609 kL_223 qL_troubleOf hdL_troubleOf ⟨Nat.le_of_ble_eq_true rfl, Nat.le_of_ble_eq_true rfl⟩ ⟨(show _ ≤ 89 from by omega), (show _ ≤ 534 from by omega)⟩ (Nat.le_of_ble_eq_true rfl) rfl (fun z_609_3 => ?_)
      rw [show cdV (kTrb S (t : Int)) (rTrb S (t : Int).toNat 3) (-2000001) 0 0 = (-2000000000) from (w_tb htt).trans ((rTrb_6 hT (by decide)).trans (jlS_o (by decide)))]
      refine gw_iload C dL_isTraverse_612 rfl ?_
      refine gw_icmp_ne C (tgt := 633) dL_isTraverse_614 (by decide) ⟨by decide, by decide⟩ ⟨by decide, by decide⟩ (fun h => absurd h (by decide)) (fun _ => ?_)
      refine gw_aload_n C 0 dL_isTraverse_617 rfl rfl ?_
      refine gw_iload C dL_isTraverse_618 rfl ?_
      refine gw_iconst C dL_isTraverse_620 ?_
      refine gw_callSHm C (as := [vR 0, vI (t : Int), vI (-1)]) (st := []) (c_L_troubleOf hl0 G I J hCI (t : Int) (-1) (by first | omega | assumption | exact hgi _ _) ⟨by decide, by decide⟩) dL_isTraverse_621 kL_223 qL_troubleOf hdL_troubleOf ⟨Nat.le_of_ble_eq_true rfl, Nat.le_of_ble_eq_true rfl⟩ ⟨(show _ ≤ 89 from by omega), (show _ ≤ 534 from by omega)⟩ (Nat.le_of_ble_eq_true rfl) rfl (fun z_621_3 => ?_)
      rw [show cdV (kTrb S (t : Int)) (rTrb S (t : Int).toNat (-1)) (-2000001) 0 0 = (-2000000000) from (w_tb htt).trans ((rTrb_6 hT (by decide)).trans (jlS_o (by decide)))]
      refine gw_iload C dL_isTraverse_624 rfl ?_
      refine gw_icmp_ne C (tgt := 633) dL_isTraverse_626 (by decide) ⟨by decide, by decide⟩ ⟨by decide, by decide⟩ (fun h => absurd h (by decide)) (fun _ => ?_)
      refine gw_iconst C dL_isTraverse_629 ?_
      refine gw_goto C (tgt := 634) dL_isTraverse_630 (by decide) ?_
      exact gw_zret C (by omega) (by omega) dL_isTraverse_634 (Or.inr rfl) (⟨rfl, rfl, rfl⟩)
set_option maxHeartbeats 4000000 in
set_option maxRecDepth 100000 in
theorem isT_c2 {l : Launch} (hl0 : l.stackTraces = false) (G : GG) (I J : GI) {S : Nat → Int} {D9 : Nat → Nat → Int} {c9 : Nat} (hCI : CI I S D9 c9) (hR : rowL I = S) (t : Nat) (htt : (t : Int) < S 5) {p : Program} {e : Env} {s : State} {m : MethodId} {args : Array Value} {below : List Frame} {meth : Method} {c : Code} (C : gC G p l s m args meth c cL_isTraverse 23 RL (some .boolean) "isTraverse") (ht : ∀ x ∈ c.exceptionTable.toList, False) (hgi : gIn I) (u : Int) (k z9 a1 a2 : Nat) (hk : k = (S (103 + 28 * t)).toNat) (hu : u = smF k (sLe S t)) (hub : 0 ≤ smF k (sLe S t) ∧ smF k (sLe S t) ≤ 200000 * (k : Int)) (ha : a1 ≤ 72 ∧ a2 ≤ 432) (hT : sTT S t = 6) (hcl : 0 ≤ S (104 + 28 * t)) (hjx : sJ S (S (102 + 28 * t)).toNat ≠ 0) : GW G p l e ({ frames := 9, cells := 89, slots := 534, locals := 171 } : Room) s m args below meth c 23 z9 N0 SH RR I J a1 a2 (vx_MQ below (GQ G N0 SH RR (memQ (some (vI 1)) I J)) (GX G N0 SH RR gNo) args s 89 534 (ge G)) 92 [some (vR 0), some (vR 231), some (vR 232), some (vR 233), some (vR 234), some (vR 235), some (vR 236), some (vR 237), some (vR 238), some (vI (t : Int)), some (vI (-2000000000)), some (vI u), some (vI 1), some (vI (k : Int)), none, none, none, none, none, none, none, none, none] [vI 6] := by
  have ho := hCI.1.1.2.1
  have h0 := ho.1
  have h3 := ho.2.1
  have ht9 := okT ho htt
  have hf9 := ho.2.2.2.1 (S (102 + 28 * t)).toNat (by omega)
  have hwh : ¬ whl S t := fun q => by have q1 := q.1; have q2 := q.2; omega
  refine gw_istore C (lo1 := [some (vR 0), some (vR 231), some (vR 232), some (vR 233), some (vR 234), some (vR 235), some (vR 236), some (vR 237), some (vR 238), some (vI (t : Int)), some (vI (-2000000000)), some (vI u), some (vI 1), some (vI 6), none, none, none, none, none, none, none, none, none]) dL_isTraverse_92 (by decide) rfl ?_
  refine gw_aload C dL_isTraverse_94 rfl ?_
  refine gw_iconst C dL_isTraverse_96 ?_
  refine gw_iload C dL_isTraverse_97 rfl ?_
  refine gw_imul C dL_isTraverse_99 ?_
  refine gw_iconst C dL_isTraverse_100 ?_
  refine gw_iadd C dL_isTraverse_101 ?_
  refine gw_iald C ((4 * t) + 2) dL_isTraverse_102 xs_236 xn_236 (by omega) (by omega) (by decide) (fun hI_102_3 => ?_)
  rw [show (I 236 ((4 * t) + 2)) = (S (104 + 28 * t)) from by have e9 := lr_h2 (I := I) (t := t) (by omega); rw [hR] at e9; exact e9] at hI_102_3 ⊢
  refine gw_if_lt C (tgt := 110) dL_isTraverse_103 (by decide) hI_102_3 (fun h => absurd h (by omega)) (fun _ => ?_)
  refine gw_iconst C dL_isTraverse_106 ?_
  refine gw_goto C (tgt := 111) dL_isTraverse_107 (by decide) ?_
  refine gw_istore C (lo1 := [some (vR 0), some (vR 231), some (vR 232), some (vR 233), some (vR 234), some (vR 235), some (vR 236), some (vR 237), some (vR 238), some (vI (t : Int)), some (vI (-2000000000)), some (vI u), some (vI 1), some (vI 6), some (vI 1), none, none, none, none, none, none, none, none]) dL_isTraverse_111 (by decide) rfl ?_
  refine gw_aload_n C 1 dL_isTraverse_113 rfl rfl ?_
  refine gw_aload_n C 3 dL_isTraverse_114 rfl rfl ?_
  refine gw_aload C dL_isTraverse_115 rfl ?_
  refine gw_aload C dL_isTraverse_117 rfl ?_
  refine gw_aload C dL_isTraverse_119 rfl ?_
  refine gw_aload C dL_isTraverse_121 rfl ?_
  refine gw_iload C dL_isTraverse_123 rfl ?_
  refine gw_callSb C (as := [vR 231, vR 233, vR 234, vR 235, vR 236, vR 237, vI (t : Int)]) (st := []) (c_L_whole hl0 G I J hR ho t (by omega)) dL_isTraverse_125 kL_212 qL_whole hdL_whole ⟨Nat.le_of_ble_eq_true rfl, Nat.le_of_ble_eq_true rfl⟩ ⟨(show _ ≤ 89 from by omega), (show _ ≤ 534 from by omega)⟩ (Nat.le_of_ble_eq_true rfl) rfl (fun h_125_3 z_125_3 => ?_) (fun h_125_3 z_125_3 => ?_)
  · exact absurd True.intro (by exact fun _ => hwh h_125_3)
  · skip
    refine gw_istore C (lo1 := [some (vR 0), some (vR 231), some (vR 232), some (vR 233), some (vR 234), some (vR 235), some (vR 236), some (vR 237), some (vR 238), some (vI (t : Int)), some (vI (-2000000000)), some (vI u), some (vI 1), some (vI 6), some (vI 1), some (vI 0), none, none, none, none, none, none, none]) dL_isTraverse_128 (by decide) rfl ?_
    refine gw_iload C dL_isTraverse_130 rfl ?_
    refine gw_bipush C dL_isTraverse_132 rfl ?_
    refine gw_icmp_ne C (tgt := 147) dL_isTraverse_134 (by decide) ⟨by decide, by decide⟩ ⟨by decide, by decide⟩ (fun h => absurd h (by decide)) (fun _ => ?_)
    refine gw_aload C dL_isTraverse_137 rfl ?_
    refine gw_iconst C dL_isTraverse_139 ?_
    refine gw_iload C dL_isTraverse_140 rfl ?_
    refine gw_imul C dL_isTraverse_142 ?_
    refine gw_iald C (4 * t) dL_isTraverse_143 xs_236 xn_236 (by omega) (by omega) (by decide) (fun hI_143_2 => ?_)
    rw [show (I 236 (4 * t)) = (((S (102 + 28 * t)).toNat : Nat) : Int) from by have e9 := lr_h0 (I := I) (t := t) (by omega); rw [hR] at e9; omega] at hI_143_2 ⊢
    refine gw_goto C (tgt := 156) dL_isTraverse_144 (by decide) ?_
    refine gw_istore C (lo1 := [some (vR 0), some (vR 231), some (vR 232), some (vR 233), some (vR 234), some (vR 235), some (vR 236), some (vR 237), some (vR 238), some (vI (t : Int)), some (vI (-2000000000)), some (vI u), some (vI 1), some (vI 6), some (vI 1), some (vI 0), some (vI (((S (102 + 28 * t)).toNat : Nat) : Int)), none, none, none, none, none, none]) dL_isTraverse_156 (by decide) rfl ?_
    refine gw_iload C dL_isTraverse_158 rfl ?_
    refine gw_bipush C dL_isTraverse_160 rfl ?_
    refine gw_icmp_eq C (tgt := 172) dL_isTraverse_162 (by decide) ⟨by decide, by decide⟩ ⟨by decide, by decide⟩ (fun _ => ?_) (fun h => absurd h (by decide))
    refine gw_aload_n C 1 dL_isTraverse_172 rfl rfl ?_
    refine gw_aload_n C 3 dL_isTraverse_173 rfl rfl ?_
    refine gw_aload C dL_isTraverse_174 rfl ?_
    refine gw_aload C dL_isTraverse_176 rfl ?_
    refine gw_iload C dL_isTraverse_178 rfl ?_
    refine gw_callSm C (as := [vR 231, vR 233, vR 234, vR 235, vI (((S (102 + 28 * t)).toNat : Nat) : Int)]) (st := []) (c_L_joint hl0 G I J hR ho ((S (102 + 28 * t)).toNat) (by omega)) dL_isTraverse_180 kL_105 qL_joint hdL_joint ⟨Nat.le_of_ble_eq_true rfl, Nat.le_of_ble_eq_true rfl⟩ ⟨(show _ ≤ 89 from by omega), (show _ ≤ 534 from by omega)⟩ (Nat.le_of_ble_eq_true rfl) rfl (fun z_180_2 => ?_)
    have hr_180_2 := sJ_v S ((S (102 + 28 * t)).toNat)
    refine gw_goto C (tgt := 188) dL_isTraverse_183 (by decide) ?_
    refine gw_istore C (lo1 := [some (vR 0), some (vR 231), some (vR 232), some (vR 233), some (vR 234), some (vR 235), some (vR 236), some (vR 237), some (vR 238), some (vI (t : Int)), some (vI (-2000000000)), some (vI u), some (vI 1), some (vI 6), some (vI 1), some (vI 0), some (vI (((S (102 + 28 * t)).toNat : Nat) : Int)), some (vI (sJ S ((S (102 + 28 * t)).toNat))), none, none, none, none, none]) dL_isTraverse_188 (by decide) rfl ?_
    refine gw_iload C dL_isTraverse_190 rfl ?_
    refine gw_iconst C dL_isTraverse_192 ?_
    refine gw_icmp_ne C (tgt := 210) dL_isTraverse_193 (by decide) (by first | omega | assumption | exact hgi _ _) ⟨by decide, by decide⟩ (fun h_193_2 => ?_) (fun h_193_2 => ?_)
    · skip
      refine gw_iload C dL_isTraverse_210 rfl ?_
      refine gw_istore C (lo1 := [some (vR 0), some (vR 231), some (vR 232), some (vR 233), some (vR 234), some (vR 235), some (vR 236), some (vR 237), some (vR 238), some (vI (t : Int)), some (vI (-2000000000)), some (vI u), some (vI 1), some (vI 6), some (vI 1), some (vI 0), some (vI (((S (102 + 28 * t)).toNat : Nat) : Int)), some (vI (sJ S ((S (102 + 28 * t)).toNat))), some (vI (-2000000000)), none, none, none, none]) dL_isTraverse_212 (by decide) rfl ?_
      refine gw_iload C dL_isTraverse_214 rfl ?_
      refine gw_if_eq C (tgt := 397) dL_isTraverse_216 (by decide) ⟨by decide, by decide⟩ (fun h => absurd h (by decide)) (fun _ => ?_)
      refine gw_aload_n C 0 dL_isTraverse_219 rfl rfl ?_
      refine gw_iload C dL_isTraverse_220 rfl ?_
      refine gw_aload C dL_isTraverse_222 rfl ?_
      refine gw_iconst C dL_isTraverse_224 ?_
      refine gw_iload C dL_isTraverse_225 rfl ?_
      refine gw_imul C dL_isTraverse_227 ?_
      refine gw_iconst C dL_isTraverse_228 ?_
      refine gw_iadd C dL_isTraverse_229 ?_
      refine gw_iald C ((4 * t) + 1) dL_isTraverse_230 xs_236 xn_236 (by omega) (by omega) (by decide) (fun hI_230_4 => ?_)
      rw [show (I 236 ((4 * t) + 1)) = (((S (103 + 28 * t)).toNat : Nat) : Int) from by have e9 := lr_h1 (I := I) (t := t) (by omega); rw [hR] at e9; omega] at hI_230_4 ⊢
      refine gw_iconst C dL_isTraverse_231 ?_
      refine gw_callSHm C (as := [vR 0, vI (t : Int), vI (((S (103 + 28 * t)).toNat : Nat) : Int), vI 0]) (st := []) (c_L_legOf hl0 G I J hCI (t : Int) (((S (103 + 28 * t)).toNat : Nat) : Int) 0 (by first | omega | assumption | exact hgi _ _) hI_230_4 ⟨by decide, by decide⟩) dL_isTraverse_232 kL_205 qL_legOf hdL_legOf ⟨Nat.le_of_ble_eq_true rfl, Nat.le_of_ble_eq_true rfl⟩ ⟨(show _ ≤ 89 from by omega), (show _ ≤ 534 from by omega)⟩ (Nat.le_of_ble_eq_true rfl) rfl (fun z_232_4 => ?_)
      rw [show cdV (kLeg S (t : Int) (((S (103 + 28 * t)).toNat : Nat) : Int) 0) (rLeg S (t : Int).toNat (((S (103 + 28 * t)).toNat : Nat) : Int).toNat 0) (-2000001) (-2000002) 0 = (-2000001) from w_lg1 (by rw [show ((t : Nat) : Int).toNat = t from rfl]; omega)]
      refine gw_ldc C (x := (-2000001)) dL_isTraverse_235 kL_29 (by decide) ?_
      refine gw_icmp_ne C (tgt := 397) dL_isTraverse_237 (by decide) ⟨by decide, by decide⟩ ⟨by decide, by decide⟩ (fun h => absurd h (by decide)) (fun _ => ?_)
      refine gw_aload_n C 0 dL_isTraverse_240 rfl rfl ?_
      refine gw_iload C dL_isTraverse_241 rfl ?_
      refine gw_iconst C dL_isTraverse_243 ?_
      refine gw_callSHm C (as := [vR 0, vI (t : Int), vI 0]) (st := []) (c_L_traverseOf hl0 G I J hCI (t : Int) 0 (by first | omega | assumption | exact hgi _ _) ⟨by decide, by decide⟩) dL_isTraverse_244 kL_216 qL_traverseOf hdL_traverseOf ⟨Nat.le_of_ble_eq_true rfl, Nat.le_of_ble_eq_true rfl⟩ ⟨(show _ ≤ 89 from by omega), (show _ ≤ 534 from by omega)⟩ (Nat.le_of_ble_eq_true rfl) rfl (fun z_244_4 => ?_)
      rw [show cdV (kTrav S (t : Int) 0) (rTrav S (t : Int).toNat 0) (-2000001) (-2000002) 0 = (((S (102 + 28 * t)).toNat : Nat) : Int) from (w_tr htt (by decide)).trans (by show S (102 + 28 * t) = _; omega)]
      refine gw_aload C dL_isTraverse_247 rfl ?_
      refine gw_iconst C dL_isTraverse_249 ?_
      refine gw_iload C dL_isTraverse_250 rfl ?_
      refine gw_imul C dL_isTraverse_252 ?_
      refine gw_iald C (4 * t) dL_isTraverse_253 xs_236 xn_236 (by omega) (by omega) (by decide) (fun hI_253_4 => ?_)
      rw [show (I 236 (4 * t)) = (((S (102 + 28 * t)).toNat : Nat) : Int) from by have e9 := lr_h0 (I := I) (t := t) (by omega); rw [hR] at e9; omega] at hI_253_4 ⊢
      refine gw_icmp_ne C (tgt := 397) dL_isTraverse_254 (by decide) (by first | omega | assumption | exact hgi _ _) hI_253_4 (fun h => absurd h (by exact fun q => q rfl)) (fun _ => ?_)
      refine gw_aload_n C 0 dL_isTraverse_257 rfl rfl ?_
      refine gw_iload C dL_isTraverse_258 rfl ?_
      refine gw_iconst C dL_isTraverse_260 ?_
      refine gw_callSHm C (as := [vR 0, vI (t : Int), vI 1]) (st := []) (c_L_traverseOf hl0 G I J hCI (t : Int) 1 (by first | omega | assumption | exact hgi _ _) ⟨by decide, by decide⟩) dL_isTraverse_261 kL_216 qL_traverseOf hdL_traverseOf ⟨Nat.le_of_ble_eq_true rfl, Nat.le_of_ble_eq_true rfl⟩ ⟨(show _ ≤ 89 from by omega), (show _ ≤ 534 from by omega)⟩ (Nat.le_of_ble_eq_true rfl) rfl (fun z_261_4 => ?_)
      rw [show cdV (kTrav S (t : Int) 1) (rTrav S (t : Int).toNat 1) (-2000001) (-2000002) 0 = (((S (103 + 28 * t)).toNat : Nat) : Int) from (w_tr htt (by decide)).trans (by show S (103 + 28 * t) = _; omega)]
      refine gw_aload C dL_isTraverse_264 rfl ?_
      refine gw_iconst C dL_isTraverse_266 ?_
      refine gw_iload C dL_isTraverse_267 rfl ?_
      refine gw_imul C dL_isTraverse_269 ?_
      refine gw_iconst C dL_isTraverse_270 ?_
      refine gw_iadd C dL_isTraverse_271 ?_
      refine gw_iald C ((4 * t) + 1) dL_isTraverse_272 xs_236 xn_236 (by omega) (by omega) (by decide) (fun hI_272_4 => ?_)
      rw [show (I 236 ((4 * t) + 1)) = (((S (103 + 28 * t)).toNat : Nat) : Int) from by have e9 := lr_h1 (I := I) (t := t) (by omega); rw [hR] at e9; omega] at hI_272_4 ⊢
      refine gw_icmp_ne C (tgt := 397) dL_isTraverse_273 (by decide) (by first | omega | assumption | exact hgi _ _) hI_272_4 (fun h => absurd h (by exact fun q => q rfl)) (fun _ => ?_)
      refine gw_aload_n C 0 dL_isTraverse_276 rfl rfl ?_
      refine gw_iload C dL_isTraverse_277 rfl ?_
      refine gw_iconst C dL_isTraverse_279 ?_
      refine gw_callSHm C (as := [vR 0, vI (t : Int), vI 2]) (st := []) (c_L_traverseOf hl0 G I J hCI (t : Int) 2 (by first | omega | assumption | exact hgi _ _) ⟨by decide, by decide⟩) dL_isTraverse_280 kL_216 qL_traverseOf hdL_traverseOf ⟨Nat.le_of_ble_eq_true rfl, Nat.le_of_ble_eq_true rfl⟩ ⟨(show _ ≤ 89 from by omega), (show _ ≤ 534 from by omega)⟩ (Nat.le_of_ble_eq_true rfl) rfl (fun z_280_4 => ?_)
      rw [show cdV (kTrav S (t : Int) 2) (rTrav S (t : Int).toNat 2) (-2000001) (-2000002) 0 = (S (104 + 28 * t)) from (w_tr htt (by decide)).trans (rTr_2.1 hcl).1]
      refine gw_iload C dL_isTraverse_283 rfl ?_
      refine gw_if_eq C (tgt := 300) dL_isTraverse_285 (by decide) ⟨by decide, by decide⟩ (fun h => absurd h (by decide)) (fun _ => ?_)
      refine gw_aload C dL_isTraverse_288 rfl ?_
      refine gw_iconst C dL_isTraverse_290 ?_
      refine gw_iload C dL_isTraverse_291 rfl ?_
      refine gw_imul C dL_isTraverse_293 ?_
      refine gw_iconst C dL_isTraverse_294 ?_
      refine gw_iadd C dL_isTraverse_295 ?_
      refine gw_iald C ((4 * t) + 2) dL_isTraverse_296 xs_236 xn_236 (by omega) (by omega) (by decide) (fun hI_296 => ?_)
      rw [show (I 236 ((4 * t) + 2)) = (S (104 + 28 * t)) from by have e9 := lr_h2 (I := I) (t := t) (by omega); rw [hR] at e9; exact e9] at hI_296 ⊢
      refine gw_goto C (tgt := 302) dL_isTraverse_297 (by decide) ?_
      refine gw_icmp_ne C (tgt := 397) dL_isTraverse_302 (by decide) (by first | omega | assumption | exact hgi _ _) hI_296 (fun h => absurd h (by exact fun q => q rfl)) (fun _ => ?_)
      refine gw_aload_n C 0 dL_isTraverse_305 rfl rfl ?_
      refine gw_iload C dL_isTraverse_306 rfl ?_
      refine gw_iconst C dL_isTraverse_308 ?_
      refine gw_callSHm C (as := [vR 0, vI (t : Int), vI 3]) (st := []) (c_L_traverseOf hl0 G I J hCI (t : Int) 3 (by first | omega | assumption | exact hgi _ _) ⟨by decide, by decide⟩) dL_isTraverse_309 kL_216 qL_traverseOf hdL_traverseOf ⟨Nat.le_of_ble_eq_true rfl, Nat.le_of_ble_eq_true rfl⟩ ⟨(show _ ≤ 89 from by omega), (show _ ≤ 534 from by omega)⟩ (Nat.le_of_ble_eq_true rfl) rfl (fun z_309_4 => ?_)
      rw [show cdV (kTrav S (t : Int) 3) (rTrav S (t : Int).toNat 3) (-2000001) (-2000002) 0 = (S (105 + 28 * t)) from (w_tr htt (by decide)).trans (rTr_2.1 hcl).2]
      refine gw_iload C dL_isTraverse_312 rfl ?_
      refine gw_if_eq C (tgt := 329) dL_isTraverse_314 (by decide) ⟨by decide, by decide⟩ (fun h => absurd h (by decide)) (fun _ => ?_)
      refine gw_aload C dL_isTraverse_317 rfl ?_
      refine gw_iconst C dL_isTraverse_319 ?_
      refine gw_iload C dL_isTraverse_320 rfl ?_
      refine gw_imul C dL_isTraverse_322 ?_
      refine gw_iconst C dL_isTraverse_323 ?_
      refine gw_iadd C dL_isTraverse_324 ?_
      refine gw_iald C ((4 * t) + 3) dL_isTraverse_325 xs_236 xn_236 (by omega) (by omega) (by decide) (fun hI_325 => ?_)
      rw [show (I 236 ((4 * t) + 3)) = (S (105 + 28 * t)) from by have e9 := lr_h3 (I := I) (t := t) (by omega); rw [hR] at e9; exact e9] at hI_325 ⊢
      refine gw_goto C (tgt := 331) dL_isTraverse_326 (by decide) ?_
      refine gw_icmp_ne C (tgt := 397) dL_isTraverse_331 (by decide) (by first | omega | assumption | exact hgi _ _) hI_325 (fun h => absurd h (by exact fun q => q rfl)) (fun _ => ?_)
      refine gw_aload_n C 0 dL_isTraverse_334 rfl rfl ?_
      refine gw_iload C dL_isTraverse_335 rfl ?_
      refine gw_iconst C dL_isTraverse_337 ?_
      refine gw_callSHm C (as := [vR 0, vI (t : Int), vI 4]) (st := []) (c_L_traverseOf hl0 G I J hCI (t : Int) 4 (by first | omega | assumption | exact hgi _ _) ⟨by decide, by decide⟩) dL_isTraverse_338 kL_216 qL_traverseOf hdL_traverseOf ⟨Nat.le_of_ble_eq_true rfl, Nat.le_of_ble_eq_true rfl⟩ ⟨(show _ ≤ 89 from by omega), (show _ ≤ 534 from by omega)⟩ (Nat.le_of_ble_eq_true rfl) rfl (fun z_338_4 => ?_)
      rw [show cdV (kTrav S (t : Int) 4) (rTrav S (t : Int).toNat 4) (-2000001) (-2000002) 0 = 6 from (w_tr htt (by decide)).trans hT]
      refine gw_iload C dL_isTraverse_341 rfl ?_
      refine gw_icmp_ne C (tgt := 397) dL_isTraverse_343 (by decide) ⟨by decide, by decide⟩ ⟨by decide, by decide⟩ (fun h => absurd h (by decide)) (fun _ => ?_)
      refine gw_aload_n C 0 dL_isTraverse_346 rfl rfl ?_
      refine gw_iload C dL_isTraverse_347 rfl ?_
      refine gw_iconst C dL_isTraverse_349 ?_
      refine gw_callSHm C (as := [vR 0, vI (t : Int), vI 5]) (st := []) (c_L_traverseOf hl0 G I J hCI (t : Int) 5 (by first | omega | assumption | exact hgi _ _) ⟨by decide, by decide⟩) dL_isTraverse_350 kL_216 qL_traverseOf hdL_traverseOf ⟨Nat.le_of_ble_eq_true rfl, Nat.le_of_ble_eq_true rfl⟩ ⟨(show _ ≤ 89 from by omega), (show _ ≤ 534 from by omega)⟩ (Nat.le_of_ble_eq_true rfl) rfl (fun z_350_4 => ?_)
      rw [show cdV (kTrav S (t : Int) 5) (rTrav S (t : Int).toNat 5) (-2000001) (-2000002) 0 = (-2000000000) from (w_tr htt (by decide)).trans (rTr_n hwh (by decide))]
      refine gw_iload C dL_isTraverse_353 rfl ?_
      refine gw_if_eq C (tgt := 375) dL_isTraverse_355 (by decide) ⟨by decide, by decide⟩ (fun _ => ?_) (fun h => absurd h (by decide))
      refine gw_iload C dL_isTraverse_375 rfl ?_
      refine gw_icmp_ne C (tgt := 397) dL_isTraverse_377 (by decide) ⟨by decide, by decide⟩ ⟨by decide, by decide⟩ (fun h => absurd h (by decide)) (fun _ => ?_)
      refine gw_aload_n C 0 dL_isTraverse_380 rfl rfl ?_
      refine gw_iload C dL_isTraverse_381 rfl ?_
      refine gw_bipush C dL_isTraverse_383 rfl ?_
      refine gw_callSHm C (as := [vR 0, vI (t : Int), vI 6]) (st := []) (c_L_traverseOf hl0 G I J hCI (t : Int) 6 (by first | omega | assumption | exact hgi _ _) ⟨by decide, by decide⟩) dL_isTraverse_385 kL_216 qL_traverseOf hdL_traverseOf ⟨Nat.le_of_ble_eq_true rfl, Nat.le_of_ble_eq_true rfl⟩ ⟨(show _ ≤ 89 from by omega), (show _ ≤ 534 from by omega)⟩ (Nat.le_of_ble_eq_true rfl) rfl (fun z_385_4 => ?_)
      rw [show cdV (kTrav S (t : Int) 6) (rTrav S (t : Int).toNat 6) (-2000001) (-2000002) 0 = u from (w_tr htt (by decide)).trans (by show smF (S (103 + 28 * t)).toNat (sLe S t) = u; rw [hu, show (S (103 + 28 * t)).toNat = k by omega])]
      refine gw_iload C dL_isTraverse_388 rfl ?_
      refine gw_icmp_ne C (tgt := 397) dL_isTraverse_390 (by decide) (by first | omega | assumption | exact hgi _ _) (by first | omega | assumption | exact hgi _ _) (fun h => absurd h (by exact fun q => q rfl)) (fun _ => ?_)
      refine gw_iconst C dL_isTraverse_393 ?_
      refine gw_goto C (tgt := 398) dL_isTraverse_394 (by decide) ?_
      refine gw_istore C (lo1 := [some (vR 0), some (vR 231), some (vR 232), some (vR 233), some (vR 234), some (vR 235), some (vR 236), some (vR 237), some (vR 238), some (vI (t : Int)), some (vI (-2000000000)), some (vI u), some (vI 1), some (vI 6), some (vI 1), some (vI 0), some (vI (((S (102 + 28 * t)).toNat : Nat) : Int)), some (vI (sJ S ((S (102 + 28 * t)).toNat))), some (vI (-2000000000)), none, none, none, none]) dL_isTraverse_398 (by decide) rfl ?_
      refine gw_iload C dL_isTraverse_400 rfl ?_
      refine gw_if_eq C (tgt := 427) dL_isTraverse_402 (by decide) ⟨by decide, by decide⟩ (fun _ => ?_) (fun h => absurd h (by decide))
      refine gw_iload C dL_isTraverse_427 rfl ?_
      refine gw_i2l C dL_isTraverse_429 ⟨by decide, by decide⟩ ?_
      refine gw_lstore C (lo1 := [some (vR 0), some (vR 231), some (vR 232), some (vR 233), some (vR 234), some (vR 235), some (vR 236), some (vR 237), some (vR 238), some (vI (t : Int)), some (vI (-2000000000)), some (vI u), some (vI 1), some (vI 6), some (vI 1), some (vI 0), some (vI (((S (102 + 28 * t)).toNat : Nat) : Int)), some (vI (sJ S ((S (102 + 28 * t)).toNat))), some (vI (-2000000000)), some (vL (-2000000000)), none, none, none]) dL_isTraverse_430 (by decide) rfl ?_
      refine gw_iload C dL_isTraverse_432 rfl ?_
      refine gw_if_eq C (tgt := 459) dL_isTraverse_434 (by decide) ⟨by decide, by decide⟩ (fun _ => ?_) (fun h => absurd h (by decide))
      refine gw_iload C dL_isTraverse_459 rfl ?_
      refine gw_i2l C dL_isTraverse_461 ⟨by decide, by decide⟩ ?_
      refine gw_lstore C (lo1 := [some (vR 0), some (vR 231), some (vR 232), some (vR 233), some (vR 234), some (vR 235), some (vR 236), some (vR 237), some (vR 238), some (vI (t : Int)), some (vI (-2000000000)), some (vI u), some (vI 1), some (vI 6), some (vI 1), some (vI 0), some (vI (((S (102 + 28 * t)).toNat : Nat) : Int)), some (vI (sJ S ((S (102 + 28 * t)).toNat))), some (vI (-2000000000)), some (vL (-2000000000)), none, some (vL (-2000000000)), none]) dL_isTraverse_462 (by decide) rfl ?_
      refine gw_iload C dL_isTraverse_464 rfl ?_
      refine gw_if_eq C (tgt := 551) dL_isTraverse_466 (by decide) ⟨by decide, by decide⟩ (fun h => absurd h (by decide)) (fun _ => ?_)
      refine gw_aload_n C 0 dL_isTraverse_469 rfl rfl ?_
      refine gw_iload C dL_isTraverse_470 rfl ?_
      refine gw_bipush C dL_isTraverse_472 rfl ?_
      refine gw_callSHm C (as := [vR 0, vI (t : Int), vI 7]) (st := []) (c_L_traverseOf hl0 G I J hCI (t : Int) 7 (by first | omega | assumption | exact hgi _ _) ⟨by decide, by decide⟩) dL_isTraverse_474 kL_216 qL_traverseOf hdL_traverseOf ⟨Nat.le_of_ble_eq_true rfl, Nat.le_of_ble_eq_true rfl⟩ ⟨(show _ ≤ 89 from by omega), (show _ ≤ 534 from by omega)⟩ (Nat.le_of_ble_eq_true rfl) rfl (fun z_474_4 => ?_)
      rw [show cdV (kTrav S (t : Int) 7) (rTrav S (t : Int).toNat 7) (-2000001) (-2000002) 0 = (-2000000000) from (w_tr htt (by decide)).trans (rTr_n hwh (by decide))]
      refine gw_i2l C dL_isTraverse_477 ⟨by decide, by decide⟩ ?_
      refine gw_lload C dL_isTraverse_478 rfl ?_
      refine gw_lcmpE C dL_isTraverse_480 (by rfl) ?_
      refine gw_if_ne C (tgt := 551) dL_isTraverse_481 (by decide) ⟨by decide, by decide⟩ (fun h => absurd h (by decide)) (fun _ => ?_)
      refine gw_aload_n C 0 dL_isTraverse_484 rfl rfl ?_
      refine gw_iload C dL_isTraverse_485 rfl ?_
      refine gw_bipush C dL_isTraverse_487 rfl ?_
      refine gw_callSHm C (as := [vR 0, vI (t : Int), vI 8]) (st := []) (c_L_traverseOf hl0 G I J hCI (t : Int) 8 (by first | omega | assumption | exact hgi _ _) ⟨by decide, by decide⟩) dL_isTraverse_489 kL_216 qL_traverseOf hdL_traverseOf ⟨Nat.le_of_ble_eq_true rfl, Nat.le_of_ble_eq_true rfl⟩ ⟨(show _ ≤ 89 from by omega), (show _ ≤ 534 from by omega)⟩ (Nat.le_of_ble_eq_true rfl) rfl (fun z_489_4 => ?_)
      rw [show cdV (kTrav S (t : Int) 8) (rTrav S (t : Int).toNat 8) (-2000001) (-2000002) 0 = (-2000000000) from (w_tr htt (by decide)).trans (rTr_n hwh (by decide))]
      refine gw_i2l C dL_isTraverse_492 ⟨by decide, by decide⟩ ?_
      refine gw_lload C dL_isTraverse_493 rfl ?_
      refine gw_lcmpE C dL_isTraverse_495 (by rfl) ?_
      refine gw_if_ne C (tgt := 551) dL_isTraverse_496 (by decide) ⟨by decide, by decide⟩ (fun h => absurd h (by decide)) (fun _ => ?_)
      refine gw_aload_n C 0 dL_isTraverse_499 rfl rfl ?_
      refine gw_iload C dL_isTraverse_500 rfl ?_
      refine gw_bipush C dL_isTraverse_502 rfl ?_
      refine gw_callSHm C (as := [vR 0, vI (t : Int), vI 9]) (st := []) (c_L_traverseOf hl0 G I J hCI (t : Int) 9 (by first | omega | assumption | exact hgi _ _) ⟨by decide, by decide⟩) dL_isTraverse_504 kL_216 qL_traverseOf hdL_traverseOf ⟨Nat.le_of_ble_eq_true rfl, Nat.le_of_ble_eq_true rfl⟩ ⟨(show _ ≤ 89 from by omega), (show _ ≤ 534 from by omega)⟩ (Nat.le_of_ble_eq_true rfl) rfl (fun z_504_4 => ?_)
      rw [show cdV (kTrav S (t : Int) 9) (rTrav S (t : Int).toNat 9) (-2000001) (-2000002) 0 = (-2000000000) from (w_tr htt (by decide)).trans (rTr_n hwh (by decide))]
      refine gw_iload C dL_isTraverse_507 rfl ?_
      refine gw_if_eq C (tgt := 529) dL_isTraverse_509 (by decide) ⟨by decide, by decide⟩ (fun _ => ?_) (fun h => absurd h (by decide))
      refine gw_iload C dL_isTraverse_529 rfl ?_
      refine gw_icmp_ne C (tgt := 551) dL_isTraverse_531 (by decide) ⟨by decide, by decide⟩ ⟨by decide, by decide⟩ (fun h => absurd h (by decide)) (fun _ => ?_)
      refine gw_aload_n C 0 dL_isTraverse_534 rfl rfl ?_
      refine gw_iload C dL_isTraverse_535 rfl ?_
      refine gw_bipush C dL_isTraverse_537 rfl ?_
      refine gw_callSHm C (as := [vR 0, vI (t : Int), vI 10]) (st := []) (c_L_traverseOf hl0 G I J hCI (t : Int) 10 (by first | omega | assumption | exact hgi _ _) ⟨by decide, by decide⟩) dL_isTraverse_539 kL_216 qL_traverseOf hdL_traverseOf ⟨Nat.le_of_ble_eq_true rfl, Nat.le_of_ble_eq_true rfl⟩ ⟨(show _ ≤ 89 from by omega), (show _ ≤ 534 from by omega)⟩ (Nat.le_of_ble_eq_true rfl) rfl (fun z_539_4 => ?_)
      rw [show cdV (kTrav S (t : Int) 10) (rTrav S (t : Int).toNat 10) (-2000001) (-2000002) 0 = (-2000002) from w_tr2 htt rfl]
      refine gw_ldc C (x := (-2000002)) dL_isTraverse_542 kL_17 (by decide) ?_
      refine gw_icmp_ne C (tgt := 551) dL_isTraverse_544 (by decide) ⟨by decide, by decide⟩ ⟨by decide, by decide⟩ (fun h => absurd h (by decide)) (fun _ => ?_)
      refine gw_iconst C dL_isTraverse_547 ?_
      refine gw_goto C (tgt := 552) dL_isTraverse_548 (by decide) ?_
      refine gw_istore C (lo1 := [some (vR 0), some (vR 231), some (vR 232), some (vR 233), some (vR 234), some (vR 235), some (vR 236), some (vR 237), some (vR 238), some (vI (t : Int)), some (vI (-2000000000)), some (vI u), some (vI 1), some (vI 6), some (vI 1), some (vI 0), some (vI (((S (102 + 28 * t)).toNat : Nat) : Int)), some (vI (sJ S ((S (102 + 28 * t)).toNat))), some (vI (-2000000000)), some (vL (-2000000000)), none, some (vL (-2000000000)), none]) dL_isTraverse_552 (by decide) rfl ?_
      refine gw_iload C dL_isTraverse_554 rfl ?_
      refine gw_if_eq C (tgt := 633) dL_isTraverse_556 (by decide) ⟨by decide, by decide⟩ (fun h => absurd h (by decide)) (fun _ => ?_)
      refine gw_aload_n C 0 dL_isTraverse_559 rfl rfl ?_
      refine gw_iload C dL_isTraverse_560 rfl ?_
      refine gw_iconst C dL_isTraverse_562 ?_
      refine gw_callSHm C (as := [vR 0, vI (t : Int), vI 0]) (st := []) (c_L_troubleOf hl0 G I J hCI (t : Int) 0 (by first | omega | assumption | exact hgi _ _) ⟨by decide, by decide⟩) dL_isTraverse_563 kL_223 qL_troubleOf hdL_troubleOf ⟨Nat.le_of_ble_eq_true rfl, Nat.le_of_ble_eq_true rfl⟩ ⟨(show _ ≤ 89 from by omega), (show _ ≤ 534 from by omega)⟩ (Nat.le_of_ble_eq_true rfl) rfl (fun z_563_4 => ?_)
      rw [show cdV (kTrb S (t : Int)) (rTrb S (t : Int).toNat 0) (-2000001) 0 0 = 6 from (w_tb htt).trans ((rTrb_z.2 (by omega)).trans hT)]
      refine gw_iload C dL_isTraverse_566 rfl ?_
      refine gw_if_le C (tgt := 576) dL_isTraverse_568 (by decide) ⟨by decide, by decide⟩ (fun h => absurd h (by decide)) (fun _ => ?_)
      refine gw_iload C dL_isTraverse_571 rfl ?_
      refine gw_goto C (tgt := 578) dL_isTraverse_573 (by decide) ?_
      refine gw_icmp_ne C (tgt := 633) dL_isTraverse_578 (by decide) ⟨by decide, by decide⟩ ⟨by decide, by decide⟩ (fun h => absurd h (by decide)) (fun _ => ?_)
      refine gw_aload_n C 0 dL_isTraverse_581 rfl rfl ?_
      refine gw_iload C dL_isTraverse_582 rfl ?_
      refine gw_iconst C dL_isTraverse_584 ?_
      refine gw_callSHm C (as := [vR 0, vI (t : Int), vI 1]) (st := []) (c_L_troubleOf hl0 G I J hCI (t : Int) 1 (by first | omega | assumption | exact hgi _ _) ⟨by decide, by decide⟩) dL_isTraverse_585 kL_223 qL_troubleOf hdL_troubleOf ⟨Nat.le_of_ble_eq_true rfl, Nat.le_of_ble_eq_true rfl⟩ ⟨(show _ ≤ 89 from by omega), (show _ ≤ 534 from by omega)⟩ (Nat.le_of_ble_eq_true rfl) rfl (fun z_585_4 => ?_)
      rw [show cdV (kTrb S (t : Int)) (rTrb S (t : Int).toNat 1) (-2000001) 0 0 = (sJ S (S (102 + 28 * t)).toNat) from (w_tb htt).trans ((rTrb_6 hT (by decide)).trans (if_pos rfl))]
      refine gw_iload C dL_isTraverse_588 rfl ?_
      refine gw_icmp_ne C (tgt := 633) dL_isTraverse_590 (by decide) (by first | omega | assumption | exact hgi _ _) (by first | omega | assumption | exact hgi _ _) (fun h => absurd h (by exact fun q => q rfl)) (fun _ => ?_)
      refine gw_aload_n C 0 dL_isTraverse_593 rfl rfl ?_
      refine gw_iload C dL_isTraverse_594 rfl ?_
      refine gw_iconst C dL_isTraverse_596 ?_
      refine gw_callSHm C (as := [vR 0, vI (t : Int), vI 2]) (st := []) (c_L_troubleOf hl0 G I J hCI (t : Int) 2 (by first | omega | assumption | exact hgi _ _) ⟨by decide, by decide⟩) dL_isTraverse_597 kL_223 qL_troubleOf hdL_troubleOf ⟨Nat.le_of_ble_eq_true rfl, Nat.le_of_ble_eq_true rfl⟩ ⟨(show _ ≤ 89 from by omega), (show _ ≤ 534 from by omega)⟩ (Nat.le_of_ble_eq_true rfl) rfl (fun z_597_4 => ?_)
      rw [show cdV (kTrb S (t : Int)) (rTrb S (t : Int).toNat 2) (-2000001) 0 0 = (-2000000000) from (w_tb htt).trans ((rTrb_6 hT (by decide)).trans (jlS_n (by omega)))]
      refine gw_iload C dL_isTraverse_600 rfl ?_
      refine gw_icmp_ne C (tgt := 633) dL_isTraverse_602 (by decide) ⟨by decide, by decide⟩ ⟨by decide, by decide⟩ (fun h => absurd h (by decide)) (fun _ => ?_)
      refine gw_aload_n C 0 dL_isTraverse_605 rfl rfl ?_
      refine gw_iload C dL_isTraverse_606 rfl ?_
      refine gw_iconst C dL_isTraverse_608 ?_
      refine gw_callSHm C (as := [vR 0, vI (t : Int), vI 3]) (st := []) (c_L_troubleOf hl0 G I J hCI (t : Int) 3 (by first | omega | assumption | exact hgi _ _) ⟨by decide, by decide⟩) dL_isTraverse_609 kL_223 qL_troubleOf hdL_troubleOf ⟨Nat.le_of_ble_eq_true rfl, Nat.le_of_ble_eq_true rfl⟩ ⟨(show _ ≤ 89 from by omega), (show _ ≤ 534 from by omega)⟩ (Nat.le_of_ble_eq_true rfl) rfl (fun z_609_4 => ?_)
      rw [show cdV (kTrb S (t : Int)) (rTrb S (t : Int).toNat 3) (-2000001) 0 0 = (-2000000000) from (w_tb htt).trans ((rTrb_6 hT (by decide)).trans (jlS_o (by decide)))]
      refine gw_iload C dL_isTraverse_612 rfl ?_
      refine gw_icmp_ne C (tgt := 633) dL_isTraverse_614 (by decide) ⟨by decide, by decide⟩ ⟨by decide, by decide⟩ (fun h => absurd h (by decide)) (fun _ => ?_)
      refine gw_aload_n C 0 dL_isTraverse_617 rfl rfl ?_
      refine gw_iload C dL_isTraverse_618 rfl ?_
      refine gw_iconst C dL_isTraverse_620 ?_
      refine gw_callSHm C (as := [vR 0, vI (t : Int), vI (-1)]) (st := []) (c_L_troubleOf hl0 G I J hCI (t : Int) (-1) (by first | omega | assumption | exact hgi _ _) ⟨by decide, by decide⟩) dL_isTraverse_621 kL_223 qL_troubleOf hdL_troubleOf ⟨Nat.le_of_ble_eq_true rfl, Nat.le_of_ble_eq_true rfl⟩ ⟨(show _ ≤ 89 from by omega), (show _ ≤ 534 from by omega)⟩ (Nat.le_of_ble_eq_true rfl) rfl (fun z_621_4 => ?_)
      rw [show cdV (kTrb S (t : Int)) (rTrb S (t : Int).toNat (-1)) (-2000001) 0 0 = (-2000000000) from (w_tb htt).trans ((rTrb_6 hT (by decide)).trans (jlS_o (by decide)))]
      refine gw_iload C dL_isTraverse_624 rfl ?_
      refine gw_icmp_ne C (tgt := 633) dL_isTraverse_626 (by decide) ⟨by decide, by decide⟩ ⟨by decide, by decide⟩ (fun h => absurd h (by decide)) (fun _ => ?_)
      refine gw_iconst C dL_isTraverse_629 ?_
      refine gw_goto C (tgt := 634) dL_isTraverse_630 (by decide) ?_
      exact gw_zret C (by omega) (by omega) dL_isTraverse_634 (Or.inr rfl) (⟨rfl, rfl, rfl⟩)
    · skip
      refine gw_aload_n C 1 dL_isTraverse_196 rfl rfl ?_
      refine gw_aload_n C 3 dL_isTraverse_197 rfl rfl ?_
      refine gw_aload C dL_isTraverse_198 rfl ?_
      refine gw_aload C dL_isTraverse_200 rfl ?_
      refine gw_iload C dL_isTraverse_202 rfl ?_
      refine gw_callSm C (as := [vR 231, vR 233, vR 234, vR 235, vI (((S (102 + 28 * t)).toNat : Nat) : Int)]) (st := []) (c_L_wires hl0 G I J hR ho ((S (102 + 28 * t)).toNat) (by omega)) dL_isTraverse_204 kL_86 qL_wires hdL_wires ⟨Nat.le_of_ble_eq_true rfl, Nat.le_of_ble_eq_true rfl⟩ ⟨(show _ ≤ 89 from by omega), (show _ ≤ 534 from by omega)⟩ (Nat.le_of_ble_eq_true rfl) rfl (fun z_204_2 => ?_)
      have hr_204_2 := sC_v S ((S (102 + 28 * t)).toNat)
      refine gw_goto C (tgt := 212) dL_isTraverse_207 (by decide) ?_
      refine gw_istore C (lo1 := [some (vR 0), some (vR 231), some (vR 232), some (vR 233), some (vR 234), some (vR 235), some (vR 236), some (vR 237), some (vR 238), some (vI (t : Int)), some (vI (-2000000000)), some (vI u), some (vI 1), some (vI 6), some (vI 1), some (vI 0), some (vI (((S (102 + 28 * t)).toNat : Nat) : Int)), some (vI (sJ S ((S (102 + 28 * t)).toNat))), some (vI (sC S ((S (102 + 28 * t)).toNat))), none, none, none, none]) dL_isTraverse_212 (by decide) rfl ?_
      refine gw_iload C dL_isTraverse_214 rfl ?_
      refine gw_if_eq C (tgt := 397) dL_isTraverse_216 (by decide) ⟨by decide, by decide⟩ (fun h => absurd h (by decide)) (fun _ => ?_)
      refine gw_aload_n C 0 dL_isTraverse_219 rfl rfl ?_
      refine gw_iload C dL_isTraverse_220 rfl ?_
      refine gw_aload C dL_isTraverse_222 rfl ?_
      refine gw_iconst C dL_isTraverse_224 ?_
      refine gw_iload C dL_isTraverse_225 rfl ?_
      refine gw_imul C dL_isTraverse_227 ?_
      refine gw_iconst C dL_isTraverse_228 ?_
      refine gw_iadd C dL_isTraverse_229 ?_
      refine gw_iald C ((4 * t) + 1) dL_isTraverse_230 xs_236 xn_236 (by omega) (by omega) (by decide) (fun hI_230_5 => ?_)
      rw [show (I 236 ((4 * t) + 1)) = (((S (103 + 28 * t)).toNat : Nat) : Int) from by have e9 := lr_h1 (I := I) (t := t) (by omega); rw [hR] at e9; omega] at hI_230_5 ⊢
      refine gw_iconst C dL_isTraverse_231 ?_
      refine gw_callSHm C (as := [vR 0, vI (t : Int), vI (((S (103 + 28 * t)).toNat : Nat) : Int), vI 0]) (st := []) (c_L_legOf hl0 G I J hCI (t : Int) (((S (103 + 28 * t)).toNat : Nat) : Int) 0 (by first | omega | assumption | exact hgi _ _) hI_230_5 ⟨by decide, by decide⟩) dL_isTraverse_232 kL_205 qL_legOf hdL_legOf ⟨Nat.le_of_ble_eq_true rfl, Nat.le_of_ble_eq_true rfl⟩ ⟨(show _ ≤ 89 from by omega), (show _ ≤ 534 from by omega)⟩ (Nat.le_of_ble_eq_true rfl) rfl (fun z_232_5 => ?_)
      rw [show cdV (kLeg S (t : Int) (((S (103 + 28 * t)).toNat : Nat) : Int) 0) (rLeg S (t : Int).toNat (((S (103 + 28 * t)).toNat : Nat) : Int).toNat 0) (-2000001) (-2000002) 0 = (-2000001) from w_lg1 (by rw [show ((t : Nat) : Int).toNat = t from rfl]; omega)]
      refine gw_ldc C (x := (-2000001)) dL_isTraverse_235 kL_29 (by decide) ?_
      refine gw_icmp_ne C (tgt := 397) dL_isTraverse_237 (by decide) ⟨by decide, by decide⟩ ⟨by decide, by decide⟩ (fun h => absurd h (by decide)) (fun _ => ?_)
      refine gw_aload_n C 0 dL_isTraverse_240 rfl rfl ?_
      refine gw_iload C dL_isTraverse_241 rfl ?_
      refine gw_iconst C dL_isTraverse_243 ?_
      refine gw_callSHm C (as := [vR 0, vI (t : Int), vI 0]) (st := []) (c_L_traverseOf hl0 G I J hCI (t : Int) 0 (by first | omega | assumption | exact hgi _ _) ⟨by decide, by decide⟩) dL_isTraverse_244 kL_216 qL_traverseOf hdL_traverseOf ⟨Nat.le_of_ble_eq_true rfl, Nat.le_of_ble_eq_true rfl⟩ ⟨(show _ ≤ 89 from by omega), (show _ ≤ 534 from by omega)⟩ (Nat.le_of_ble_eq_true rfl) rfl (fun z_244_5 => ?_)
      rw [show cdV (kTrav S (t : Int) 0) (rTrav S (t : Int).toNat 0) (-2000001) (-2000002) 0 = (((S (102 + 28 * t)).toNat : Nat) : Int) from (w_tr htt (by decide)).trans (by show S (102 + 28 * t) = _; omega)]
      refine gw_aload C dL_isTraverse_247 rfl ?_
      refine gw_iconst C dL_isTraverse_249 ?_
      refine gw_iload C dL_isTraverse_250 rfl ?_
      refine gw_imul C dL_isTraverse_252 ?_
      refine gw_iald C (4 * t) dL_isTraverse_253 xs_236 xn_236 (by omega) (by omega) (by decide) (fun hI_253_5 => ?_)
      rw [show (I 236 (4 * t)) = (((S (102 + 28 * t)).toNat : Nat) : Int) from by have e9 := lr_h0 (I := I) (t := t) (by omega); rw [hR] at e9; omega] at hI_253_5 ⊢
      refine gw_icmp_ne C (tgt := 397) dL_isTraverse_254 (by decide) (by first | omega | assumption | exact hgi _ _) hI_253_5 (fun h => absurd h (by exact fun q => q rfl)) (fun _ => ?_)
      refine gw_aload_n C 0 dL_isTraverse_257 rfl rfl ?_
      refine gw_iload C dL_isTraverse_258 rfl ?_
      refine gw_iconst C dL_isTraverse_260 ?_
      refine gw_callSHm C (as := [vR 0, vI (t : Int), vI 1]) (st := []) (c_L_traverseOf hl0 G I J hCI (t : Int) 1 (by first | omega | assumption | exact hgi _ _) ⟨by decide, by decide⟩) dL_isTraverse_261 kL_216 qL_traverseOf hdL_traverseOf ⟨Nat.le_of_ble_eq_true rfl, Nat.le_of_ble_eq_true rfl⟩ ⟨(show _ ≤ 89 from by omega), (show _ ≤ 534 from by omega)⟩ (Nat.le_of_ble_eq_true rfl) rfl (fun z_261_5 => ?_)
      rw [show cdV (kTrav S (t : Int) 1) (rTrav S (t : Int).toNat 1) (-2000001) (-2000002) 0 = (((S (103 + 28 * t)).toNat : Nat) : Int) from (w_tr htt (by decide)).trans (by show S (103 + 28 * t) = _; omega)]
      refine gw_aload C dL_isTraverse_264 rfl ?_
      refine gw_iconst C dL_isTraverse_266 ?_
      refine gw_iload C dL_isTraverse_267 rfl ?_
      refine gw_imul C dL_isTraverse_269 ?_
      refine gw_iconst C dL_isTraverse_270 ?_
      refine gw_iadd C dL_isTraverse_271 ?_
      refine gw_iald C ((4 * t) + 1) dL_isTraverse_272 xs_236 xn_236 (by omega) (by omega) (by decide) (fun hI_272_5 => ?_)
      rw [show (I 236 ((4 * t) + 1)) = (((S (103 + 28 * t)).toNat : Nat) : Int) from by have e9 := lr_h1 (I := I) (t := t) (by omega); rw [hR] at e9; omega] at hI_272_5 ⊢
      refine gw_icmp_ne C (tgt := 397) dL_isTraverse_273 (by decide) (by first | omega | assumption | exact hgi _ _) hI_272_5 (fun h => absurd h (by exact fun q => q rfl)) (fun _ => ?_)
      refine gw_aload_n C 0 dL_isTraverse_276 rfl rfl ?_
      refine gw_iload C dL_isTraverse_277 rfl ?_
      refine gw_iconst C dL_isTraverse_279 ?_
      refine gw_callSHm C (as := [vR 0, vI (t : Int), vI 2]) (st := []) (c_L_traverseOf hl0 G I J hCI (t : Int) 2 (by first | omega | assumption | exact hgi _ _) ⟨by decide, by decide⟩) dL_isTraverse_280 kL_216 qL_traverseOf hdL_traverseOf ⟨Nat.le_of_ble_eq_true rfl, Nat.le_of_ble_eq_true rfl⟩ ⟨(show _ ≤ 89 from by omega), (show _ ≤ 534 from by omega)⟩ (Nat.le_of_ble_eq_true rfl) rfl (fun z_280_5 => ?_)
      rw [show cdV (kTrav S (t : Int) 2) (rTrav S (t : Int).toNat 2) (-2000001) (-2000002) 0 = (S (104 + 28 * t)) from (w_tr htt (by decide)).trans (rTr_2.1 hcl).1]
      refine gw_iload C dL_isTraverse_283 rfl ?_
      refine gw_if_eq C (tgt := 300) dL_isTraverse_285 (by decide) ⟨by decide, by decide⟩ (fun h => absurd h (by decide)) (fun _ => ?_)
      refine gw_aload C dL_isTraverse_288 rfl ?_
      refine gw_iconst C dL_isTraverse_290 ?_
      refine gw_iload C dL_isTraverse_291 rfl ?_
      refine gw_imul C dL_isTraverse_293 ?_
      refine gw_iconst C dL_isTraverse_294 ?_
      refine gw_iadd C dL_isTraverse_295 ?_
      refine gw_iald C ((4 * t) + 2) dL_isTraverse_296 xs_236 xn_236 (by omega) (by omega) (by decide) (fun hI_296_2 => ?_)
      rw [show (I 236 ((4 * t) + 2)) = (S (104 + 28 * t)) from by have e9 := lr_h2 (I := I) (t := t) (by omega); rw [hR] at e9; exact e9] at hI_296_2 ⊢
      refine gw_goto C (tgt := 302) dL_isTraverse_297 (by decide) ?_
      refine gw_icmp_ne C (tgt := 397) dL_isTraverse_302 (by decide) (by first | omega | assumption | exact hgi _ _) hI_296_2 (fun h => absurd h (by exact fun q => q rfl)) (fun _ => ?_)
      refine gw_aload_n C 0 dL_isTraverse_305 rfl rfl ?_
      refine gw_iload C dL_isTraverse_306 rfl ?_
      refine gw_iconst C dL_isTraverse_308 ?_
      refine gw_callSHm C (as := [vR 0, vI (t : Int), vI 3]) (st := []) (c_L_traverseOf hl0 G I J hCI (t : Int) 3 (by first | omega | assumption | exact hgi _ _) ⟨by decide, by decide⟩) dL_isTraverse_309 kL_216 qL_traverseOf hdL_traverseOf ⟨Nat.le_of_ble_eq_true rfl, Nat.le_of_ble_eq_true rfl⟩ ⟨(show _ ≤ 89 from by omega), (show _ ≤ 534 from by omega)⟩ (Nat.le_of_ble_eq_true rfl) rfl (fun z_309_5 => ?_)
      rw [show cdV (kTrav S (t : Int) 3) (rTrav S (t : Int).toNat 3) (-2000001) (-2000002) 0 = (S (105 + 28 * t)) from (w_tr htt (by decide)).trans (rTr_2.1 hcl).2]
      refine gw_iload C dL_isTraverse_312 rfl ?_
      refine gw_if_eq C (tgt := 329) dL_isTraverse_314 (by decide) ⟨by decide, by decide⟩ (fun h => absurd h (by decide)) (fun _ => ?_)
      refine gw_aload C dL_isTraverse_317 rfl ?_
      refine gw_iconst C dL_isTraverse_319 ?_
      refine gw_iload C dL_isTraverse_320 rfl ?_
      refine gw_imul C dL_isTraverse_322 ?_
      refine gw_iconst C dL_isTraverse_323 ?_
      refine gw_iadd C dL_isTraverse_324 ?_
      refine gw_iald C ((4 * t) + 3) dL_isTraverse_325 xs_236 xn_236 (by omega) (by omega) (by decide) (fun hI_325_2 => ?_)
      rw [show (I 236 ((4 * t) + 3)) = (S (105 + 28 * t)) from by have e9 := lr_h3 (I := I) (t := t) (by omega); rw [hR] at e9; exact e9] at hI_325_2 ⊢
      refine gw_goto C (tgt := 331) dL_isTraverse_326 (by decide) ?_
      refine gw_icmp_ne C (tgt := 397) dL_isTraverse_331 (by decide) (by first | omega | assumption | exact hgi _ _) hI_325_2 (fun h => absurd h (by exact fun q => q rfl)) (fun _ => ?_)
      refine gw_aload_n C 0 dL_isTraverse_334 rfl rfl ?_
      refine gw_iload C dL_isTraverse_335 rfl ?_
      refine gw_iconst C dL_isTraverse_337 ?_
      refine gw_callSHm C (as := [vR 0, vI (t : Int), vI 4]) (st := []) (c_L_traverseOf hl0 G I J hCI (t : Int) 4 (by first | omega | assumption | exact hgi _ _) ⟨by decide, by decide⟩) dL_isTraverse_338 kL_216 qL_traverseOf hdL_traverseOf ⟨Nat.le_of_ble_eq_true rfl, Nat.le_of_ble_eq_true rfl⟩ ⟨(show _ ≤ 89 from by omega), (show _ ≤ 534 from by omega)⟩ (Nat.le_of_ble_eq_true rfl) rfl (fun z_338_5 => ?_)
      rw [show cdV (kTrav S (t : Int) 4) (rTrav S (t : Int).toNat 4) (-2000001) (-2000002) 0 = 6 from (w_tr htt (by decide)).trans hT]
      refine gw_iload C dL_isTraverse_341 rfl ?_
      refine gw_icmp_ne C (tgt := 397) dL_isTraverse_343 (by decide) ⟨by decide, by decide⟩ ⟨by decide, by decide⟩ (fun h => absurd h (by decide)) (fun _ => ?_)
      refine gw_aload_n C 0 dL_isTraverse_346 rfl rfl ?_
      refine gw_iload C dL_isTraverse_347 rfl ?_
      refine gw_iconst C dL_isTraverse_349 ?_
      refine gw_callSHm C (as := [vR 0, vI (t : Int), vI 5]) (st := []) (c_L_traverseOf hl0 G I J hCI (t : Int) 5 (by first | omega | assumption | exact hgi _ _) ⟨by decide, by decide⟩) dL_isTraverse_350 kL_216 qL_traverseOf hdL_traverseOf ⟨Nat.le_of_ble_eq_true rfl, Nat.le_of_ble_eq_true rfl⟩ ⟨(show _ ≤ 89 from by omega), (show _ ≤ 534 from by omega)⟩ (Nat.le_of_ble_eq_true rfl) rfl (fun z_350_5 => ?_)
      rw [show cdV (kTrav S (t : Int) 5) (rTrav S (t : Int).toNat 5) (-2000001) (-2000002) 0 = (-2000000000) from (w_tr htt (by decide)).trans (rTr_n hwh (by decide))]
      refine gw_iload C dL_isTraverse_353 rfl ?_
      refine gw_if_eq C (tgt := 375) dL_isTraverse_355 (by decide) ⟨by decide, by decide⟩ (fun _ => ?_) (fun h => absurd h (by decide))
      refine gw_iload C dL_isTraverse_375 rfl ?_
      refine gw_icmp_ne C (tgt := 397) dL_isTraverse_377 (by decide) ⟨by decide, by decide⟩ ⟨by decide, by decide⟩ (fun h => absurd h (by decide)) (fun _ => ?_)
      refine gw_aload_n C 0 dL_isTraverse_380 rfl rfl ?_
      refine gw_iload C dL_isTraverse_381 rfl ?_
      refine gw_bipush C dL_isTraverse_383 rfl ?_
      refine gw_callSHm C (as := [vR 0, vI (t : Int), vI 6]) (st := []) (c_L_traverseOf hl0 G I J hCI (t : Int) 6 (by first | omega | assumption | exact hgi _ _) ⟨by decide, by decide⟩) dL_isTraverse_385 kL_216 qL_traverseOf hdL_traverseOf ⟨Nat.le_of_ble_eq_true rfl, Nat.le_of_ble_eq_true rfl⟩ ⟨(show _ ≤ 89 from by omega), (show _ ≤ 534 from by omega)⟩ (Nat.le_of_ble_eq_true rfl) rfl (fun z_385_5 => ?_)
      rw [show cdV (kTrav S (t : Int) 6) (rTrav S (t : Int).toNat 6) (-2000001) (-2000002) 0 = u from (w_tr htt (by decide)).trans (by show smF (S (103 + 28 * t)).toNat (sLe S t) = u; rw [hu, show (S (103 + 28 * t)).toNat = k by omega])]
      refine gw_iload C dL_isTraverse_388 rfl ?_
      refine gw_icmp_ne C (tgt := 397) dL_isTraverse_390 (by decide) (by first | omega | assumption | exact hgi _ _) (by first | omega | assumption | exact hgi _ _) (fun h => absurd h (by exact fun q => q rfl)) (fun _ => ?_)
      refine gw_iconst C dL_isTraverse_393 ?_
      refine gw_goto C (tgt := 398) dL_isTraverse_394 (by decide) ?_
      refine gw_istore C (lo1 := [some (vR 0), some (vR 231), some (vR 232), some (vR 233), some (vR 234), some (vR 235), some (vR 236), some (vR 237), some (vR 238), some (vI (t : Int)), some (vI (-2000000000)), some (vI u), some (vI 1), some (vI 6), some (vI 1), some (vI 0), some (vI (((S (102 + 28 * t)).toNat : Nat) : Int)), some (vI (sJ S ((S (102 + 28 * t)).toNat))), some (vI (sC S ((S (102 + 28 * t)).toNat))), none, none, none, none]) dL_isTraverse_398 (by decide) rfl ?_
      refine gw_iload C dL_isTraverse_400 rfl ?_
      refine gw_if_eq C (tgt := 427) dL_isTraverse_402 (by decide) ⟨by decide, by decide⟩ (fun _ => ?_) (fun h => absurd h (by decide))
      refine gw_iload C dL_isTraverse_427 rfl ?_
      refine gw_i2l C dL_isTraverse_429 ⟨by decide, by decide⟩ ?_
      refine gw_lstore C (lo1 := [some (vR 0), some (vR 231), some (vR 232), some (vR 233), some (vR 234), some (vR 235), some (vR 236), some (vR 237), some (vR 238), some (vI (t : Int)), some (vI (-2000000000)), some (vI u), some (vI 1), some (vI 6), some (vI 1), some (vI 0), some (vI (((S (102 + 28 * t)).toNat : Nat) : Int)), some (vI (sJ S ((S (102 + 28 * t)).toNat))), some (vI (sC S ((S (102 + 28 * t)).toNat))), some (vL (-2000000000)), none, none, none]) dL_isTraverse_430 (by decide) rfl ?_
      refine gw_iload C dL_isTraverse_432 rfl ?_
      refine gw_if_eq C (tgt := 459) dL_isTraverse_434 (by decide) ⟨by decide, by decide⟩ (fun _ => ?_) (fun h => absurd h (by decide))
      refine gw_iload C dL_isTraverse_459 rfl ?_
      refine gw_i2l C dL_isTraverse_461 ⟨by decide, by decide⟩ ?_
      refine gw_lstore C (lo1 := [some (vR 0), some (vR 231), some (vR 232), some (vR 233), some (vR 234), some (vR 235), some (vR 236), some (vR 237), some (vR 238), some (vI (t : Int)), some (vI (-2000000000)), some (vI u), some (vI 1), some (vI 6), some (vI 1), some (vI 0), some (vI (((S (102 + 28 * t)).toNat : Nat) : Int)), some (vI (sJ S ((S (102 + 28 * t)).toNat))), some (vI (sC S ((S (102 + 28 * t)).toNat))), some (vL (-2000000000)), none, some (vL (-2000000000)), none]) dL_isTraverse_462 (by decide) rfl ?_
      refine gw_iload C dL_isTraverse_464 rfl ?_
      refine gw_if_eq C (tgt := 551) dL_isTraverse_466 (by decide) ⟨by decide, by decide⟩ (fun h => absurd h (by decide)) (fun _ => ?_)
      refine gw_aload_n C 0 dL_isTraverse_469 rfl rfl ?_
      refine gw_iload C dL_isTraverse_470 rfl ?_
      refine gw_bipush C dL_isTraverse_472 rfl ?_
      refine gw_callSHm C (as := [vR 0, vI (t : Int), vI 7]) (st := []) (c_L_traverseOf hl0 G I J hCI (t : Int) 7 (by first | omega | assumption | exact hgi _ _) ⟨by decide, by decide⟩) dL_isTraverse_474 kL_216 qL_traverseOf hdL_traverseOf ⟨Nat.le_of_ble_eq_true rfl, Nat.le_of_ble_eq_true rfl⟩ ⟨(show _ ≤ 89 from by omega), (show _ ≤ 534 from by omega)⟩ (Nat.le_of_ble_eq_true rfl) rfl (fun z_474_5 => ?_)
      rw [show cdV (kTrav S (t : Int) 7) (rTrav S (t : Int).toNat 7) (-2000001) (-2000002) 0 = (-2000000000) from (w_tr htt (by decide)).trans (rTr_n hwh (by decide))]
      refine gw_i2l C dL_isTraverse_477 ⟨by decide, by decide⟩ ?_
      refine gw_lload C dL_isTraverse_478 rfl ?_
      refine gw_lcmpE C dL_isTraverse_480 (by rfl) ?_
      refine gw_if_ne C (tgt := 551) dL_isTraverse_481 (by decide) ⟨by decide, by decide⟩ (fun h => absurd h (by decide)) (fun _ => ?_)
      refine gw_aload_n C 0 dL_isTraverse_484 rfl rfl ?_
      refine gw_iload C dL_isTraverse_485 rfl ?_
      refine gw_bipush C dL_isTraverse_487 rfl ?_
      refine gw_callSHm C (as := [vR 0, vI (t : Int), vI 8]) (st := []) (c_L_traverseOf hl0 G I J hCI (t : Int) 8 (by first | omega | assumption | exact hgi _ _) ⟨by decide, by decide⟩) dL_isTraverse_489 kL_216 qL_traverseOf hdL_traverseOf ⟨Nat.le_of_ble_eq_true rfl, Nat.le_of_ble_eq_true rfl⟩ ⟨(show _ ≤ 89 from by omega), (show _ ≤ 534 from by omega)⟩ (Nat.le_of_ble_eq_true rfl) rfl (fun z_489_5 => ?_)
      rw [show cdV (kTrav S (t : Int) 8) (rTrav S (t : Int).toNat 8) (-2000001) (-2000002) 0 = (-2000000000) from (w_tr htt (by decide)).trans (rTr_n hwh (by decide))]
      refine gw_i2l C dL_isTraverse_492 ⟨by decide, by decide⟩ ?_
      refine gw_lload C dL_isTraverse_493 rfl ?_
      refine gw_lcmpE C dL_isTraverse_495 (by rfl) ?_
      refine gw_if_ne C (tgt := 551) dL_isTraverse_496 (by decide) ⟨by decide, by decide⟩ (fun h => absurd h (by decide)) (fun _ => ?_)
      refine gw_aload_n C 0 dL_isTraverse_499 rfl rfl ?_
      refine gw_iload C dL_isTraverse_500 rfl ?_
      refine gw_bipush C dL_isTraverse_502 rfl ?_
      refine gw_callSHm C (as := [vR 0, vI (t : Int), vI 9]) (st := []) (c_L_traverseOf hl0 G I J hCI (t : Int) 9 (by first | omega | assumption | exact hgi _ _) ⟨by decide, by decide⟩) dL_isTraverse_504 kL_216 qL_traverseOf hdL_traverseOf ⟨Nat.le_of_ble_eq_true rfl, Nat.le_of_ble_eq_true rfl⟩ ⟨(show _ ≤ 89 from by omega), (show _ ≤ 534 from by omega)⟩ (Nat.le_of_ble_eq_true rfl) rfl (fun z_504_5 => ?_)
      rw [show cdV (kTrav S (t : Int) 9) (rTrav S (t : Int).toNat 9) (-2000001) (-2000002) 0 = (-2000000000) from (w_tr htt (by decide)).trans (rTr_n hwh (by decide))]
      refine gw_iload C dL_isTraverse_507 rfl ?_
      refine gw_if_eq C (tgt := 529) dL_isTraverse_509 (by decide) ⟨by decide, by decide⟩ (fun _ => ?_) (fun h => absurd h (by decide))
      refine gw_iload C dL_isTraverse_529 rfl ?_
      refine gw_icmp_ne C (tgt := 551) dL_isTraverse_531 (by decide) ⟨by decide, by decide⟩ ⟨by decide, by decide⟩ (fun h => absurd h (by decide)) (fun _ => ?_)
      refine gw_aload_n C 0 dL_isTraverse_534 rfl rfl ?_
      refine gw_iload C dL_isTraverse_535 rfl ?_
      refine gw_bipush C dL_isTraverse_537 rfl ?_
      refine gw_callSHm C (as := [vR 0, vI (t : Int), vI 10]) (st := []) (c_L_traverseOf hl0 G I J hCI (t : Int) 10 (by first | omega | assumption | exact hgi _ _) ⟨by decide, by decide⟩) dL_isTraverse_539 kL_216 qL_traverseOf hdL_traverseOf ⟨Nat.le_of_ble_eq_true rfl, Nat.le_of_ble_eq_true rfl⟩ ⟨(show _ ≤ 89 from by omega), (show _ ≤ 534 from by omega)⟩ (Nat.le_of_ble_eq_true rfl) rfl (fun z_539_5 => ?_)
      rw [show cdV (kTrav S (t : Int) 10) (rTrav S (t : Int).toNat 10) (-2000001) (-2000002) 0 = (-2000002) from w_tr2 htt rfl]
      refine gw_ldc C (x := (-2000002)) dL_isTraverse_542 kL_17 (by decide) ?_
      refine gw_icmp_ne C (tgt := 551) dL_isTraverse_544 (by decide) ⟨by decide, by decide⟩ ⟨by decide, by decide⟩ (fun h => absurd h (by decide)) (fun _ => ?_)
      refine gw_iconst C dL_isTraverse_547 ?_
      refine gw_goto C (tgt := 552) dL_isTraverse_548 (by decide) ?_
      refine gw_istore C (lo1 := [some (vR 0), some (vR 231), some (vR 232), some (vR 233), some (vR 234), some (vR 235), some (vR 236), some (vR 237), some (vR 238), some (vI (t : Int)), some (vI (-2000000000)), some (vI u), some (vI 1), some (vI 6), some (vI 1), some (vI 0), some (vI (((S (102 + 28 * t)).toNat : Nat) : Int)), some (vI (sJ S ((S (102 + 28 * t)).toNat))), some (vI (sC S ((S (102 + 28 * t)).toNat))), some (vL (-2000000000)), none, some (vL (-2000000000)), none]) dL_isTraverse_552 (by decide) rfl ?_
      refine gw_iload C dL_isTraverse_554 rfl ?_
      refine gw_if_eq C (tgt := 633) dL_isTraverse_556 (by decide) ⟨by decide, by decide⟩ (fun h => absurd h (by decide)) (fun _ => ?_)
      refine gw_aload_n C 0 dL_isTraverse_559 rfl rfl ?_
      refine gw_iload C dL_isTraverse_560 rfl ?_
      refine gw_iconst C dL_isTraverse_562 ?_
      refine gw_callSHm C (as := [vR 0, vI (t : Int), vI 0]) (st := []) (c_L_troubleOf hl0 G I J hCI (t : Int) 0 (by first | omega | assumption | exact hgi _ _) ⟨by decide, by decide⟩) dL_isTraverse_563 kL_223 qL_troubleOf hdL_troubleOf ⟨Nat.le_of_ble_eq_true rfl, Nat.le_of_ble_eq_true rfl⟩ ⟨(show _ ≤ 89 from by omega), (show _ ≤ 534 from by omega)⟩ (Nat.le_of_ble_eq_true rfl) rfl (fun z_563_5 => ?_)
      rw [show cdV (kTrb S (t : Int)) (rTrb S (t : Int).toNat 0) (-2000001) 0 0 = 6 from (w_tb htt).trans ((rTrb_z.2 (by omega)).trans hT)]
      refine gw_iload C dL_isTraverse_566 rfl ?_
      refine gw_if_le C (tgt := 576) dL_isTraverse_568 (by decide) ⟨by decide, by decide⟩ (fun h => absurd h (by decide)) (fun _ => ?_)
      refine gw_iload C dL_isTraverse_571 rfl ?_
      refine gw_goto C (tgt := 578) dL_isTraverse_573 (by decide) ?_
      refine gw_icmp_ne C (tgt := 633) dL_isTraverse_578 (by decide) ⟨by decide, by decide⟩ ⟨by decide, by decide⟩ (fun h => absurd h (by decide)) (fun _ => ?_)
      refine gw_aload_n C 0 dL_isTraverse_581 rfl rfl ?_
      refine gw_iload C dL_isTraverse_582 rfl ?_
      refine gw_iconst C dL_isTraverse_584 ?_
      refine gw_callSHm C (as := [vR 0, vI (t : Int), vI 1]) (st := []) (c_L_troubleOf hl0 G I J hCI (t : Int) 1 (by first | omega | assumption | exact hgi _ _) ⟨by decide, by decide⟩) dL_isTraverse_585 kL_223 qL_troubleOf hdL_troubleOf ⟨Nat.le_of_ble_eq_true rfl, Nat.le_of_ble_eq_true rfl⟩ ⟨(show _ ≤ 89 from by omega), (show _ ≤ 534 from by omega)⟩ (Nat.le_of_ble_eq_true rfl) rfl (fun z_585_5 => ?_)
      rw [show cdV (kTrb S (t : Int)) (rTrb S (t : Int).toNat 1) (-2000001) 0 0 = (sJ S (S (102 + 28 * t)).toNat) from (w_tb htt).trans ((rTrb_6 hT (by decide)).trans (if_pos rfl))]
      refine gw_iload C dL_isTraverse_588 rfl ?_
      refine gw_icmp_ne C (tgt := 633) dL_isTraverse_590 (by decide) (by first | omega | assumption | exact hgi _ _) (by first | omega | assumption | exact hgi _ _) (fun h => absurd h (by exact fun q => q rfl)) (fun _ => ?_)
      refine gw_aload_n C 0 dL_isTraverse_593 rfl rfl ?_
      refine gw_iload C dL_isTraverse_594 rfl ?_
      refine gw_iconst C dL_isTraverse_596 ?_
      refine gw_callSHm C (as := [vR 0, vI (t : Int), vI 2]) (st := []) (c_L_troubleOf hl0 G I J hCI (t : Int) 2 (by first | omega | assumption | exact hgi _ _) ⟨by decide, by decide⟩) dL_isTraverse_597 kL_223 qL_troubleOf hdL_troubleOf ⟨Nat.le_of_ble_eq_true rfl, Nat.le_of_ble_eq_true rfl⟩ ⟨(show _ ≤ 89 from by omega), (show _ ≤ 534 from by omega)⟩ (Nat.le_of_ble_eq_true rfl) rfl (fun z_597_5 => ?_)
      rw [show cdV (kTrb S (t : Int)) (rTrb S (t : Int).toNat 2) (-2000001) 0 0 = (sC S (S (102 + 28 * t)).toNat) from (w_tb htt).trans ((rTrb_6 hT (by decide)).trans (jlS_2 (by omega)))]
      refine gw_iload C dL_isTraverse_600 rfl ?_
      refine gw_icmp_ne C (tgt := 633) dL_isTraverse_602 (by decide) (by first | omega | assumption | exact hgi _ _) (by first | omega | assumption | exact hgi _ _) (fun h => absurd h (by exact fun q => q rfl)) (fun _ => ?_)
      refine gw_aload_n C 0 dL_isTraverse_605 rfl rfl ?_
      refine gw_iload C dL_isTraverse_606 rfl ?_
      refine gw_iconst C dL_isTraverse_608 ?_
      refine gw_callSHm C (as := [vR 0, vI (t : Int), vI 3]) (st := []) (c_L_troubleOf hl0 G I J hCI (t : Int) 3 (by first | omega | assumption | exact hgi _ _) ⟨by decide, by decide⟩) dL_isTraverse_609 kL_223 qL_troubleOf hdL_troubleOf ⟨Nat.le_of_ble_eq_true rfl, Nat.le_of_ble_eq_true rfl⟩ ⟨(show _ ≤ 89 from by omega), (show _ ≤ 534 from by omega)⟩ (Nat.le_of_ble_eq_true rfl) rfl (fun z_609_5 => ?_)
      rw [show cdV (kTrb S (t : Int)) (rTrb S (t : Int).toNat 3) (-2000001) 0 0 = (-2000000000) from (w_tb htt).trans ((rTrb_6 hT (by decide)).trans (jlS_o (by decide)))]
      refine gw_iload C dL_isTraverse_612 rfl ?_
      refine gw_icmp_ne C (tgt := 633) dL_isTraverse_614 (by decide) ⟨by decide, by decide⟩ ⟨by decide, by decide⟩ (fun h => absurd h (by decide)) (fun _ => ?_)
      refine gw_aload_n C 0 dL_isTraverse_617 rfl rfl ?_
      refine gw_iload C dL_isTraverse_618 rfl ?_
      refine gw_iconst C dL_isTraverse_620 ?_
      refine gw_callSHm C (as := [vR 0, vI (t : Int), vI (-1)]) (st := []) (c_L_troubleOf hl0 G I J hCI (t : Int) (-1) (by first | omega | assumption | exact hgi _ _) ⟨by decide, by decide⟩) dL_isTraverse_621 kL_223 qL_troubleOf hdL_troubleOf ⟨Nat.le_of_ble_eq_true rfl, Nat.le_of_ble_eq_true rfl⟩ ⟨(show _ ≤ 89 from by omega), (show _ ≤ 534 from by omega)⟩ (Nat.le_of_ble_eq_true rfl) rfl (fun z_621_5 => ?_)
      rw [show cdV (kTrb S (t : Int)) (rTrb S (t : Int).toNat (-1)) (-2000001) 0 0 = (-2000000000) from (w_tb htt).trans ((rTrb_6 hT (by decide)).trans (jlS_o (by decide)))]
      refine gw_iload C dL_isTraverse_624 rfl ?_
      refine gw_icmp_ne C (tgt := 633) dL_isTraverse_626 (by decide) ⟨by decide, by decide⟩ ⟨by decide, by decide⟩ (fun h => absurd h (by decide)) (fun _ => ?_)
      refine gw_iconst C dL_isTraverse_629 ?_
      refine gw_goto C (tgt := 634) dL_isTraverse_630 (by decide) ?_
      exact gw_zret C (by omega) (by omega) dL_isTraverse_634 (Or.inr rfl) (⟨rfl, rfl, rfl⟩)
set_option maxHeartbeats 4000000 in
set_option maxRecDepth 100000 in
theorem isT_c3 {l : Launch} (hl0 : l.stackTraces = false) (G : GG) (I J : GI) {S : Nat → Int} {D9 : Nat → Nat → Int} {c9 : Nat} (hCI : CI I S D9 c9) (hR : rowL I = S) (t : Nat) (htt : (t : Int) < S 5) {p : Program} {e : Env} {s : State} {m : MethodId} {args : Array Value} {below : List Frame} {meth : Method} {c : Code} (C : gC G p l s m args meth c cL_isTraverse 23 RL (some .boolean) "isTraverse") (ht : ∀ x ∈ c.exceptionTable.toList, False) (hgi : gIn I) (u : Int) (k z9 a1 a2 : Nat) (hk : k = (S (103 + 28 * t)).toNat) (hu : u = smF k (sLe S t)) (hub : 0 ≤ smF k (sLe S t) ∧ smF k (sLe S t) ≤ 200000 * (k : Int)) (ha : a1 ≤ 72 ∧ a2 ≤ 432) (hT : sTT S t = 7) (hcl : 0 ≤ S (104 + 28 * t)) (hjx : sJ S (S (104 + 28 * t)).toNat ≠ 0) : GW G p l e ({ frames := 9, cells := 89, slots := 534, locals := 171 } : Room) s m args below meth c 23 z9 N0 SH RR I J a1 a2 (vx_MQ below (GQ G N0 SH RR (memQ (some (vI 1)) I J)) (GX G N0 SH RR gNo) args s 89 534 (ge G)) 92 [some (vR 0), some (vR 231), some (vR 232), some (vR 233), some (vR 234), some (vR 235), some (vR 236), some (vR 237), some (vR 238), some (vI (t : Int)), some (vI (-2000000000)), some (vI u), some (vI 1), some (vI (k : Int)), none, none, none, none, none, none, none, none, none] [vI 7] := by
  have ho := hCI.1.1.2.1
  have h0 := ho.1
  have h3 := ho.2.1
  have ht9 := okT ho htt
  have hf9 := ho.2.2.2.1 (S (102 + 28 * t)).toNat (by omega)
  have hwh : ¬ whl S t := fun q => by have q1 := q.1; have q2 := q.2; omega
  refine gw_istore C (lo1 := [some (vR 0), some (vR 231), some (vR 232), some (vR 233), some (vR 234), some (vR 235), some (vR 236), some (vR 237), some (vR 238), some (vI (t : Int)), some (vI (-2000000000)), some (vI u), some (vI 1), some (vI 7), none, none, none, none, none, none, none, none, none]) dL_isTraverse_92 (by decide) rfl ?_
  refine gw_aload C dL_isTraverse_94 rfl ?_
  refine gw_iconst C dL_isTraverse_96 ?_
  refine gw_iload C dL_isTraverse_97 rfl ?_
  refine gw_imul C dL_isTraverse_99 ?_
  refine gw_iconst C dL_isTraverse_100 ?_
  refine gw_iadd C dL_isTraverse_101 ?_
  refine gw_iald C ((4 * t) + 2) dL_isTraverse_102 xs_236 xn_236 (by omega) (by omega) (by decide) (fun hI_102_4 => ?_)
  rw [show (I 236 ((4 * t) + 2)) = (S (104 + 28 * t)) from by have e9 := lr_h2 (I := I) (t := t) (by omega); rw [hR] at e9; exact e9] at hI_102_4 ⊢
  refine gw_if_lt C (tgt := 110) dL_isTraverse_103 (by decide) hI_102_4 (fun h => absurd h (by omega)) (fun _ => ?_)
  refine gw_iconst C dL_isTraverse_106 ?_
  refine gw_goto C (tgt := 111) dL_isTraverse_107 (by decide) ?_
  refine gw_istore C (lo1 := [some (vR 0), some (vR 231), some (vR 232), some (vR 233), some (vR 234), some (vR 235), some (vR 236), some (vR 237), some (vR 238), some (vI (t : Int)), some (vI (-2000000000)), some (vI u), some (vI 1), some (vI 7), some (vI 1), none, none, none, none, none, none, none, none]) dL_isTraverse_111 (by decide) rfl ?_
  refine gw_aload_n C 1 dL_isTraverse_113 rfl rfl ?_
  refine gw_aload_n C 3 dL_isTraverse_114 rfl rfl ?_
  refine gw_aload C dL_isTraverse_115 rfl ?_
  refine gw_aload C dL_isTraverse_117 rfl ?_
  refine gw_aload C dL_isTraverse_119 rfl ?_
  refine gw_aload C dL_isTraverse_121 rfl ?_
  refine gw_iload C dL_isTraverse_123 rfl ?_
  refine gw_callSb C (as := [vR 231, vR 233, vR 234, vR 235, vR 236, vR 237, vI (t : Int)]) (st := []) (c_L_whole hl0 G I J hR ho t (by omega)) dL_isTraverse_125 kL_212 qL_whole hdL_whole ⟨Nat.le_of_ble_eq_true rfl, Nat.le_of_ble_eq_true rfl⟩ ⟨(show _ ≤ 89 from by omega), (show _ ≤ 534 from by omega)⟩ (Nat.le_of_ble_eq_true rfl) rfl (fun h_125_4 z_125_4 => ?_) (fun h_125_4 z_125_4 => ?_)
  · exact absurd True.intro (by exact fun _ => hwh h_125_4)
  · skip
    refine gw_istore C (lo1 := [some (vR 0), some (vR 231), some (vR 232), some (vR 233), some (vR 234), some (vR 235), some (vR 236), some (vR 237), some (vR 238), some (vI (t : Int)), some (vI (-2000000000)), some (vI u), some (vI 1), some (vI 7), some (vI 1), some (vI 0), none, none, none, none, none, none, none]) dL_isTraverse_128 (by decide) rfl ?_
    refine gw_iload C dL_isTraverse_130 rfl ?_
    refine gw_bipush C dL_isTraverse_132 rfl ?_
    refine gw_icmp_ne C (tgt := 147) dL_isTraverse_134 (by decide) ⟨by decide, by decide⟩ ⟨by decide, by decide⟩ (fun _ => ?_) (fun h => absurd h (by decide))
    refine gw_aload C dL_isTraverse_147 rfl ?_
    refine gw_iconst C dL_isTraverse_149 ?_
    refine gw_iload C dL_isTraverse_150 rfl ?_
    refine gw_imul C dL_isTraverse_152 ?_
    refine gw_iconst C dL_isTraverse_153 ?_
    refine gw_iadd C dL_isTraverse_154 ?_
    refine gw_iald C ((4 * t) + 2) dL_isTraverse_155 xs_236 xn_236 (by omega) (by omega) (by decide) (fun hI_155_2 => ?_)
    rw [show (I 236 ((4 * t) + 2)) = (((S (104 + 28 * t)).toNat : Nat) : Int) from by have e9 := lr_h2 (I := I) (t := t) (by omega); rw [hR] at e9; omega] at hI_155_2 ⊢
    refine gw_istore C (lo1 := [some (vR 0), some (vR 231), some (vR 232), some (vR 233), some (vR 234), some (vR 235), some (vR 236), some (vR 237), some (vR 238), some (vI (t : Int)), some (vI (-2000000000)), some (vI u), some (vI 1), some (vI 7), some (vI 1), some (vI 0), some (vI (((S (104 + 28 * t)).toNat : Nat) : Int)), none, none, none, none, none, none]) dL_isTraverse_156 (by decide) rfl ?_
    refine gw_iload C dL_isTraverse_158 rfl ?_
    refine gw_bipush C dL_isTraverse_160 rfl ?_
    refine gw_icmp_eq C (tgt := 172) dL_isTraverse_162 (by decide) ⟨by decide, by decide⟩ ⟨by decide, by decide⟩ (fun h => absurd h (by decide)) (fun _ => ?_)
    refine gw_iload C dL_isTraverse_165 rfl ?_
    refine gw_bipush C dL_isTraverse_167 rfl ?_
    refine gw_icmp_ne C (tgt := 186) dL_isTraverse_169 (by decide) ⟨by decide, by decide⟩ ⟨by decide, by decide⟩ (fun h => absurd h (by decide)) (fun _ => ?_)
    refine gw_aload_n C 1 dL_isTraverse_172 rfl rfl ?_
    refine gw_aload_n C 3 dL_isTraverse_173 rfl rfl ?_
    refine gw_aload C dL_isTraverse_174 rfl ?_
    refine gw_aload C dL_isTraverse_176 rfl ?_
    refine gw_iload C dL_isTraverse_178 rfl ?_
    refine gw_callSm C (as := [vR 231, vR 233, vR 234, vR 235, vI (((S (104 + 28 * t)).toNat : Nat) : Int)]) (st := []) (c_L_joint hl0 G I J hR ho ((S (104 + 28 * t)).toNat) (by omega)) dL_isTraverse_180 kL_105 qL_joint hdL_joint ⟨Nat.le_of_ble_eq_true rfl, Nat.le_of_ble_eq_true rfl⟩ ⟨(show _ ≤ 89 from by omega), (show _ ≤ 534 from by omega)⟩ (Nat.le_of_ble_eq_true rfl) rfl (fun z_180_3 => ?_)
    have hr_180_3 := sJ_v S ((S (104 + 28 * t)).toNat)
    refine gw_goto C (tgt := 188) dL_isTraverse_183 (by decide) ?_
    refine gw_istore C (lo1 := [some (vR 0), some (vR 231), some (vR 232), some (vR 233), some (vR 234), some (vR 235), some (vR 236), some (vR 237), some (vR 238), some (vI (t : Int)), some (vI (-2000000000)), some (vI u), some (vI 1), some (vI 7), some (vI 1), some (vI 0), some (vI (((S (104 + 28 * t)).toNat : Nat) : Int)), some (vI (sJ S ((S (104 + 28 * t)).toNat))), none, none, none, none, none]) dL_isTraverse_188 (by decide) rfl ?_
    refine gw_iload C dL_isTraverse_190 rfl ?_
    refine gw_iconst C dL_isTraverse_192 ?_
    refine gw_icmp_ne C (tgt := 210) dL_isTraverse_193 (by decide) (by first | omega | assumption | exact hgi _ _) ⟨by decide, by decide⟩ (fun h_193_3 => ?_) (fun h_193_3 => ?_)
    · skip
      refine gw_iload C dL_isTraverse_210 rfl ?_
      refine gw_istore C (lo1 := [some (vR 0), some (vR 231), some (vR 232), some (vR 233), some (vR 234), some (vR 235), some (vR 236), some (vR 237), some (vR 238), some (vI (t : Int)), some (vI (-2000000000)), some (vI u), some (vI 1), some (vI 7), some (vI 1), some (vI 0), some (vI (((S (104 + 28 * t)).toNat : Nat) : Int)), some (vI (sJ S ((S (104 + 28 * t)).toNat))), some (vI (-2000000000)), none, none, none, none]) dL_isTraverse_212 (by decide) rfl ?_
      refine gw_iload C dL_isTraverse_214 rfl ?_
      refine gw_if_eq C (tgt := 397) dL_isTraverse_216 (by decide) ⟨by decide, by decide⟩ (fun h => absurd h (by decide)) (fun _ => ?_)
      refine gw_aload_n C 0 dL_isTraverse_219 rfl rfl ?_
      refine gw_iload C dL_isTraverse_220 rfl ?_
      refine gw_aload C dL_isTraverse_222 rfl ?_
      refine gw_iconst C dL_isTraverse_224 ?_
      refine gw_iload C dL_isTraverse_225 rfl ?_
      refine gw_imul C dL_isTraverse_227 ?_
      refine gw_iconst C dL_isTraverse_228 ?_
      refine gw_iadd C dL_isTraverse_229 ?_
      refine gw_iald C ((4 * t) + 1) dL_isTraverse_230 xs_236 xn_236 (by omega) (by omega) (by decide) (fun hI_230_6 => ?_)
      rw [show (I 236 ((4 * t) + 1)) = (((S (103 + 28 * t)).toNat : Nat) : Int) from by have e9 := lr_h1 (I := I) (t := t) (by omega); rw [hR] at e9; omega] at hI_230_6 ⊢
      refine gw_iconst C dL_isTraverse_231 ?_
      refine gw_callSHm C (as := [vR 0, vI (t : Int), vI (((S (103 + 28 * t)).toNat : Nat) : Int), vI 0]) (st := []) (c_L_legOf hl0 G I J hCI (t : Int) (((S (103 + 28 * t)).toNat : Nat) : Int) 0 (by first | omega | assumption | exact hgi _ _) hI_230_6 ⟨by decide, by decide⟩) dL_isTraverse_232 kL_205 qL_legOf hdL_legOf ⟨Nat.le_of_ble_eq_true rfl, Nat.le_of_ble_eq_true rfl⟩ ⟨(show _ ≤ 89 from by omega), (show _ ≤ 534 from by omega)⟩ (Nat.le_of_ble_eq_true rfl) rfl (fun z_232_6 => ?_)
      rw [show cdV (kLeg S (t : Int) (((S (103 + 28 * t)).toNat : Nat) : Int) 0) (rLeg S (t : Int).toNat (((S (103 + 28 * t)).toNat : Nat) : Int).toNat 0) (-2000001) (-2000002) 0 = (-2000001) from w_lg1 (by rw [show ((t : Nat) : Int).toNat = t from rfl]; omega)]
      refine gw_ldc C (x := (-2000001)) dL_isTraverse_235 kL_29 (by decide) ?_
      refine gw_icmp_ne C (tgt := 397) dL_isTraverse_237 (by decide) ⟨by decide, by decide⟩ ⟨by decide, by decide⟩ (fun h => absurd h (by decide)) (fun _ => ?_)
      refine gw_aload_n C 0 dL_isTraverse_240 rfl rfl ?_
      refine gw_iload C dL_isTraverse_241 rfl ?_
      refine gw_iconst C dL_isTraverse_243 ?_
      refine gw_callSHm C (as := [vR 0, vI (t : Int), vI 0]) (st := []) (c_L_traverseOf hl0 G I J hCI (t : Int) 0 (by first | omega | assumption | exact hgi _ _) ⟨by decide, by decide⟩) dL_isTraverse_244 kL_216 qL_traverseOf hdL_traverseOf ⟨Nat.le_of_ble_eq_true rfl, Nat.le_of_ble_eq_true rfl⟩ ⟨(show _ ≤ 89 from by omega), (show _ ≤ 534 from by omega)⟩ (Nat.le_of_ble_eq_true rfl) rfl (fun z_244_6 => ?_)
      rw [show cdV (kTrav S (t : Int) 0) (rTrav S (t : Int).toNat 0) (-2000001) (-2000002) 0 = (((S (102 + 28 * t)).toNat : Nat) : Int) from (w_tr htt (by decide)).trans (by show S (102 + 28 * t) = _; omega)]
      refine gw_aload C dL_isTraverse_247 rfl ?_
      refine gw_iconst C dL_isTraverse_249 ?_
      refine gw_iload C dL_isTraverse_250 rfl ?_
      refine gw_imul C dL_isTraverse_252 ?_
      refine gw_iald C (4 * t) dL_isTraverse_253 xs_236 xn_236 (by omega) (by omega) (by decide) (fun hI_253_6 => ?_)
      rw [show (I 236 (4 * t)) = (((S (102 + 28 * t)).toNat : Nat) : Int) from by have e9 := lr_h0 (I := I) (t := t) (by omega); rw [hR] at e9; omega] at hI_253_6 ⊢
      refine gw_icmp_ne C (tgt := 397) dL_isTraverse_254 (by decide) (by first | omega | assumption | exact hgi _ _) hI_253_6 (fun h => absurd h (by exact fun q => q rfl)) (fun _ => ?_)
      refine gw_aload_n C 0 dL_isTraverse_257 rfl rfl ?_
      refine gw_iload C dL_isTraverse_258 rfl ?_
      refine gw_iconst C dL_isTraverse_260 ?_
      refine gw_callSHm C (as := [vR 0, vI (t : Int), vI 1]) (st := []) (c_L_traverseOf hl0 G I J hCI (t : Int) 1 (by first | omega | assumption | exact hgi _ _) ⟨by decide, by decide⟩) dL_isTraverse_261 kL_216 qL_traverseOf hdL_traverseOf ⟨Nat.le_of_ble_eq_true rfl, Nat.le_of_ble_eq_true rfl⟩ ⟨(show _ ≤ 89 from by omega), (show _ ≤ 534 from by omega)⟩ (Nat.le_of_ble_eq_true rfl) rfl (fun z_261_6 => ?_)
      rw [show cdV (kTrav S (t : Int) 1) (rTrav S (t : Int).toNat 1) (-2000001) (-2000002) 0 = (((S (103 + 28 * t)).toNat : Nat) : Int) from (w_tr htt (by decide)).trans (by show S (103 + 28 * t) = _; omega)]
      refine gw_aload C dL_isTraverse_264 rfl ?_
      refine gw_iconst C dL_isTraverse_266 ?_
      refine gw_iload C dL_isTraverse_267 rfl ?_
      refine gw_imul C dL_isTraverse_269 ?_
      refine gw_iconst C dL_isTraverse_270 ?_
      refine gw_iadd C dL_isTraverse_271 ?_
      refine gw_iald C ((4 * t) + 1) dL_isTraverse_272 xs_236 xn_236 (by omega) (by omega) (by decide) (fun hI_272_6 => ?_)
      rw [show (I 236 ((4 * t) + 1)) = (((S (103 + 28 * t)).toNat : Nat) : Int) from by have e9 := lr_h1 (I := I) (t := t) (by omega); rw [hR] at e9; omega] at hI_272_6 ⊢
      refine gw_icmp_ne C (tgt := 397) dL_isTraverse_273 (by decide) (by first | omega | assumption | exact hgi _ _) hI_272_6 (fun h => absurd h (by exact fun q => q rfl)) (fun _ => ?_)
      refine gw_aload_n C 0 dL_isTraverse_276 rfl rfl ?_
      refine gw_iload C dL_isTraverse_277 rfl ?_
      refine gw_iconst C dL_isTraverse_279 ?_
      refine gw_callSHm C (as := [vR 0, vI (t : Int), vI 2]) (st := []) (c_L_traverseOf hl0 G I J hCI (t : Int) 2 (by first | omega | assumption | exact hgi _ _) ⟨by decide, by decide⟩) dL_isTraverse_280 kL_216 qL_traverseOf hdL_traverseOf ⟨Nat.le_of_ble_eq_true rfl, Nat.le_of_ble_eq_true rfl⟩ ⟨(show _ ≤ 89 from by omega), (show _ ≤ 534 from by omega)⟩ (Nat.le_of_ble_eq_true rfl) rfl (fun z_280_6 => ?_)
      rw [show cdV (kTrav S (t : Int) 2) (rTrav S (t : Int).toNat 2) (-2000001) (-2000002) 0 = (S (104 + 28 * t)) from (w_tr htt (by decide)).trans (rTr_2.1 hcl).1]
      refine gw_iload C dL_isTraverse_283 rfl ?_
      refine gw_if_eq C (tgt := 300) dL_isTraverse_285 (by decide) ⟨by decide, by decide⟩ (fun h => absurd h (by decide)) (fun _ => ?_)
      refine gw_aload C dL_isTraverse_288 rfl ?_
      refine gw_iconst C dL_isTraverse_290 ?_
      refine gw_iload C dL_isTraverse_291 rfl ?_
      refine gw_imul C dL_isTraverse_293 ?_
      refine gw_iconst C dL_isTraverse_294 ?_
      refine gw_iadd C dL_isTraverse_295 ?_
      refine gw_iald C ((4 * t) + 2) dL_isTraverse_296 xs_236 xn_236 (by omega) (by omega) (by decide) (fun hI_296_3 => ?_)
      rw [show (I 236 ((4 * t) + 2)) = (S (104 + 28 * t)) from by have e9 := lr_h2 (I := I) (t := t) (by omega); rw [hR] at e9; exact e9] at hI_296_3 ⊢
      refine gw_goto C (tgt := 302) dL_isTraverse_297 (by decide) ?_
      refine gw_icmp_ne C (tgt := 397) dL_isTraverse_302 (by decide) (by first | omega | assumption | exact hgi _ _) hI_296_3 (fun h => absurd h (by exact fun q => q rfl)) (fun _ => ?_)
      refine gw_aload_n C 0 dL_isTraverse_305 rfl rfl ?_
      refine gw_iload C dL_isTraverse_306 rfl ?_
      refine gw_iconst C dL_isTraverse_308 ?_
      refine gw_callSHm C (as := [vR 0, vI (t : Int), vI 3]) (st := []) (c_L_traverseOf hl0 G I J hCI (t : Int) 3 (by first | omega | assumption | exact hgi _ _) ⟨by decide, by decide⟩) dL_isTraverse_309 kL_216 qL_traverseOf hdL_traverseOf ⟨Nat.le_of_ble_eq_true rfl, Nat.le_of_ble_eq_true rfl⟩ ⟨(show _ ≤ 89 from by omega), (show _ ≤ 534 from by omega)⟩ (Nat.le_of_ble_eq_true rfl) rfl (fun z_309_6 => ?_)
      rw [show cdV (kTrav S (t : Int) 3) (rTrav S (t : Int).toNat 3) (-2000001) (-2000002) 0 = (S (105 + 28 * t)) from (w_tr htt (by decide)).trans (rTr_2.1 hcl).2]
      refine gw_iload C dL_isTraverse_312 rfl ?_
      refine gw_if_eq C (tgt := 329) dL_isTraverse_314 (by decide) ⟨by decide, by decide⟩ (fun h => absurd h (by decide)) (fun _ => ?_)
      refine gw_aload C dL_isTraverse_317 rfl ?_
      refine gw_iconst C dL_isTraverse_319 ?_
      refine gw_iload C dL_isTraverse_320 rfl ?_
      refine gw_imul C dL_isTraverse_322 ?_
      refine gw_iconst C dL_isTraverse_323 ?_
      refine gw_iadd C dL_isTraverse_324 ?_
      refine gw_iald C ((4 * t) + 3) dL_isTraverse_325 xs_236 xn_236 (by omega) (by omega) (by decide) (fun hI_325_3 => ?_)
      rw [show (I 236 ((4 * t) + 3)) = (S (105 + 28 * t)) from by have e9 := lr_h3 (I := I) (t := t) (by omega); rw [hR] at e9; exact e9] at hI_325_3 ⊢
      refine gw_goto C (tgt := 331) dL_isTraverse_326 (by decide) ?_
      refine gw_icmp_ne C (tgt := 397) dL_isTraverse_331 (by decide) (by first | omega | assumption | exact hgi _ _) hI_325_3 (fun h => absurd h (by exact fun q => q rfl)) (fun _ => ?_)
      refine gw_aload_n C 0 dL_isTraverse_334 rfl rfl ?_
      refine gw_iload C dL_isTraverse_335 rfl ?_
      refine gw_iconst C dL_isTraverse_337 ?_
      refine gw_callSHm C (as := [vR 0, vI (t : Int), vI 4]) (st := []) (c_L_traverseOf hl0 G I J hCI (t : Int) 4 (by first | omega | assumption | exact hgi _ _) ⟨by decide, by decide⟩) dL_isTraverse_338 kL_216 qL_traverseOf hdL_traverseOf ⟨Nat.le_of_ble_eq_true rfl, Nat.le_of_ble_eq_true rfl⟩ ⟨(show _ ≤ 89 from by omega), (show _ ≤ 534 from by omega)⟩ (Nat.le_of_ble_eq_true rfl) rfl (fun z_338_6 => ?_)
      rw [show cdV (kTrav S (t : Int) 4) (rTrav S (t : Int).toNat 4) (-2000001) (-2000002) 0 = 7 from (w_tr htt (by decide)).trans hT]
      refine gw_iload C dL_isTraverse_341 rfl ?_
      refine gw_icmp_ne C (tgt := 397) dL_isTraverse_343 (by decide) ⟨by decide, by decide⟩ ⟨by decide, by decide⟩ (fun h => absurd h (by decide)) (fun _ => ?_)
      refine gw_aload_n C 0 dL_isTraverse_346 rfl rfl ?_
      refine gw_iload C dL_isTraverse_347 rfl ?_
      refine gw_iconst C dL_isTraverse_349 ?_
      refine gw_callSHm C (as := [vR 0, vI (t : Int), vI 5]) (st := []) (c_L_traverseOf hl0 G I J hCI (t : Int) 5 (by first | omega | assumption | exact hgi _ _) ⟨by decide, by decide⟩) dL_isTraverse_350 kL_216 qL_traverseOf hdL_traverseOf ⟨Nat.le_of_ble_eq_true rfl, Nat.le_of_ble_eq_true rfl⟩ ⟨(show _ ≤ 89 from by omega), (show _ ≤ 534 from by omega)⟩ (Nat.le_of_ble_eq_true rfl) rfl (fun z_350_6 => ?_)
      rw [show cdV (kTrav S (t : Int) 5) (rTrav S (t : Int).toNat 5) (-2000001) (-2000002) 0 = (-2000000000) from (w_tr htt (by decide)).trans (rTr_n hwh (by decide))]
      refine gw_iload C dL_isTraverse_353 rfl ?_
      refine gw_if_eq C (tgt := 375) dL_isTraverse_355 (by decide) ⟨by decide, by decide⟩ (fun _ => ?_) (fun h => absurd h (by decide))
      refine gw_iload C dL_isTraverse_375 rfl ?_
      refine gw_icmp_ne C (tgt := 397) dL_isTraverse_377 (by decide) ⟨by decide, by decide⟩ ⟨by decide, by decide⟩ (fun h => absurd h (by decide)) (fun _ => ?_)
      refine gw_aload_n C 0 dL_isTraverse_380 rfl rfl ?_
      refine gw_iload C dL_isTraverse_381 rfl ?_
      refine gw_bipush C dL_isTraverse_383 rfl ?_
      refine gw_callSHm C (as := [vR 0, vI (t : Int), vI 6]) (st := []) (c_L_traverseOf hl0 G I J hCI (t : Int) 6 (by first | omega | assumption | exact hgi _ _) ⟨by decide, by decide⟩) dL_isTraverse_385 kL_216 qL_traverseOf hdL_traverseOf ⟨Nat.le_of_ble_eq_true rfl, Nat.le_of_ble_eq_true rfl⟩ ⟨(show _ ≤ 89 from by omega), (show _ ≤ 534 from by omega)⟩ (Nat.le_of_ble_eq_true rfl) rfl (fun z_385_6 => ?_)
      rw [show cdV (kTrav S (t : Int) 6) (rTrav S (t : Int).toNat 6) (-2000001) (-2000002) 0 = u from (w_tr htt (by decide)).trans (by show smF (S (103 + 28 * t)).toNat (sLe S t) = u; rw [hu, show (S (103 + 28 * t)).toNat = k by omega])]
      refine gw_iload C dL_isTraverse_388 rfl ?_
      refine gw_icmp_ne C (tgt := 397) dL_isTraverse_390 (by decide) (by first | omega | assumption | exact hgi _ _) (by first | omega | assumption | exact hgi _ _) (fun h => absurd h (by exact fun q => q rfl)) (fun _ => ?_)
      refine gw_iconst C dL_isTraverse_393 ?_
      refine gw_goto C (tgt := 398) dL_isTraverse_394 (by decide) ?_
      refine gw_istore C (lo1 := [some (vR 0), some (vR 231), some (vR 232), some (vR 233), some (vR 234), some (vR 235), some (vR 236), some (vR 237), some (vR 238), some (vI (t : Int)), some (vI (-2000000000)), some (vI u), some (vI 1), some (vI 7), some (vI 1), some (vI 0), some (vI (((S (104 + 28 * t)).toNat : Nat) : Int)), some (vI (sJ S ((S (104 + 28 * t)).toNat))), some (vI (-2000000000)), none, none, none, none]) dL_isTraverse_398 (by decide) rfl ?_
      refine gw_iload C dL_isTraverse_400 rfl ?_
      refine gw_if_eq C (tgt := 427) dL_isTraverse_402 (by decide) ⟨by decide, by decide⟩ (fun _ => ?_) (fun h => absurd h (by decide))
      refine gw_iload C dL_isTraverse_427 rfl ?_
      refine gw_i2l C dL_isTraverse_429 ⟨by decide, by decide⟩ ?_
      refine gw_lstore C (lo1 := [some (vR 0), some (vR 231), some (vR 232), some (vR 233), some (vR 234), some (vR 235), some (vR 236), some (vR 237), some (vR 238), some (vI (t : Int)), some (vI (-2000000000)), some (vI u), some (vI 1), some (vI 7), some (vI 1), some (vI 0), some (vI (((S (104 + 28 * t)).toNat : Nat) : Int)), some (vI (sJ S ((S (104 + 28 * t)).toNat))), some (vI (-2000000000)), some (vL (-2000000000)), none, none, none]) dL_isTraverse_430 (by decide) rfl ?_
      refine gw_iload C dL_isTraverse_432 rfl ?_
      refine gw_if_eq C (tgt := 459) dL_isTraverse_434 (by decide) ⟨by decide, by decide⟩ (fun _ => ?_) (fun h => absurd h (by decide))
      refine gw_iload C dL_isTraverse_459 rfl ?_
      refine gw_i2l C dL_isTraverse_461 ⟨by decide, by decide⟩ ?_
      refine gw_lstore C (lo1 := [some (vR 0), some (vR 231), some (vR 232), some (vR 233), some (vR 234), some (vR 235), some (vR 236), some (vR 237), some (vR 238), some (vI (t : Int)), some (vI (-2000000000)), some (vI u), some (vI 1), some (vI 7), some (vI 1), some (vI 0), some (vI (((S (104 + 28 * t)).toNat : Nat) : Int)), some (vI (sJ S ((S (104 + 28 * t)).toNat))), some (vI (-2000000000)), some (vL (-2000000000)), none, some (vL (-2000000000)), none]) dL_isTraverse_462 (by decide) rfl ?_
      refine gw_iload C dL_isTraverse_464 rfl ?_
      refine gw_if_eq C (tgt := 551) dL_isTraverse_466 (by decide) ⟨by decide, by decide⟩ (fun h => absurd h (by decide)) (fun _ => ?_)
      refine gw_aload_n C 0 dL_isTraverse_469 rfl rfl ?_
      refine gw_iload C dL_isTraverse_470 rfl ?_
      refine gw_bipush C dL_isTraverse_472 rfl ?_
      refine gw_callSHm C (as := [vR 0, vI (t : Int), vI 7]) (st := []) (c_L_traverseOf hl0 G I J hCI (t : Int) 7 (by first | omega | assumption | exact hgi _ _) ⟨by decide, by decide⟩) dL_isTraverse_474 kL_216 qL_traverseOf hdL_traverseOf ⟨Nat.le_of_ble_eq_true rfl, Nat.le_of_ble_eq_true rfl⟩ ⟨(show _ ≤ 89 from by omega), (show _ ≤ 534 from by omega)⟩ (Nat.le_of_ble_eq_true rfl) rfl (fun z_474_6 => ?_)
      rw [show cdV (kTrav S (t : Int) 7) (rTrav S (t : Int).toNat 7) (-2000001) (-2000002) 0 = (-2000000000) from (w_tr htt (by decide)).trans (rTr_n hwh (by decide))]
      refine gw_i2l C dL_isTraverse_477 ⟨by decide, by decide⟩ ?_
      refine gw_lload C dL_isTraverse_478 rfl ?_
      refine gw_lcmpE C dL_isTraverse_480 (by rfl) ?_
      refine gw_if_ne C (tgt := 551) dL_isTraverse_481 (by decide) ⟨by decide, by decide⟩ (fun h => absurd h (by decide)) (fun _ => ?_)
      refine gw_aload_n C 0 dL_isTraverse_484 rfl rfl ?_
      refine gw_iload C dL_isTraverse_485 rfl ?_
      refine gw_bipush C dL_isTraverse_487 rfl ?_
      refine gw_callSHm C (as := [vR 0, vI (t : Int), vI 8]) (st := []) (c_L_traverseOf hl0 G I J hCI (t : Int) 8 (by first | omega | assumption | exact hgi _ _) ⟨by decide, by decide⟩) dL_isTraverse_489 kL_216 qL_traverseOf hdL_traverseOf ⟨Nat.le_of_ble_eq_true rfl, Nat.le_of_ble_eq_true rfl⟩ ⟨(show _ ≤ 89 from by omega), (show _ ≤ 534 from by omega)⟩ (Nat.le_of_ble_eq_true rfl) rfl (fun z_489_6 => ?_)
      rw [show cdV (kTrav S (t : Int) 8) (rTrav S (t : Int).toNat 8) (-2000001) (-2000002) 0 = (-2000000000) from (w_tr htt (by decide)).trans (rTr_n hwh (by decide))]
      refine gw_i2l C dL_isTraverse_492 ⟨by decide, by decide⟩ ?_
      refine gw_lload C dL_isTraverse_493 rfl ?_
      refine gw_lcmpE C dL_isTraverse_495 (by rfl) ?_
      refine gw_if_ne C (tgt := 551) dL_isTraverse_496 (by decide) ⟨by decide, by decide⟩ (fun h => absurd h (by decide)) (fun _ => ?_)
      refine gw_aload_n C 0 dL_isTraverse_499 rfl rfl ?_
      refine gw_iload C dL_isTraverse_500 rfl ?_
      refine gw_bipush C dL_isTraverse_502 rfl ?_
      refine gw_callSHm C (as := [vR 0, vI (t : Int), vI 9]) (st := []) (c_L_traverseOf hl0 G I J hCI (t : Int) 9 (by first | omega | assumption | exact hgi _ _) ⟨by decide, by decide⟩) dL_isTraverse_504 kL_216 qL_traverseOf hdL_traverseOf ⟨Nat.le_of_ble_eq_true rfl, Nat.le_of_ble_eq_true rfl⟩ ⟨(show _ ≤ 89 from by omega), (show _ ≤ 534 from by omega)⟩ (Nat.le_of_ble_eq_true rfl) rfl (fun z_504_6 => ?_)
      rw [show cdV (kTrav S (t : Int) 9) (rTrav S (t : Int).toNat 9) (-2000001) (-2000002) 0 = (-2000000000) from (w_tr htt (by decide)).trans (rTr_n hwh (by decide))]
      refine gw_iload C dL_isTraverse_507 rfl ?_
      refine gw_if_eq C (tgt := 529) dL_isTraverse_509 (by decide) ⟨by decide, by decide⟩ (fun _ => ?_) (fun h => absurd h (by decide))
      refine gw_iload C dL_isTraverse_529 rfl ?_
      refine gw_icmp_ne C (tgt := 551) dL_isTraverse_531 (by decide) ⟨by decide, by decide⟩ ⟨by decide, by decide⟩ (fun h => absurd h (by decide)) (fun _ => ?_)
      refine gw_aload_n C 0 dL_isTraverse_534 rfl rfl ?_
      refine gw_iload C dL_isTraverse_535 rfl ?_
      refine gw_bipush C dL_isTraverse_537 rfl ?_
      refine gw_callSHm C (as := [vR 0, vI (t : Int), vI 10]) (st := []) (c_L_traverseOf hl0 G I J hCI (t : Int) 10 (by first | omega | assumption | exact hgi _ _) ⟨by decide, by decide⟩) dL_isTraverse_539 kL_216 qL_traverseOf hdL_traverseOf ⟨Nat.le_of_ble_eq_true rfl, Nat.le_of_ble_eq_true rfl⟩ ⟨(show _ ≤ 89 from by omega), (show _ ≤ 534 from by omega)⟩ (Nat.le_of_ble_eq_true rfl) rfl (fun z_539_6 => ?_)
      rw [show cdV (kTrav S (t : Int) 10) (rTrav S (t : Int).toNat 10) (-2000001) (-2000002) 0 = (-2000002) from w_tr2 htt rfl]
      refine gw_ldc C (x := (-2000002)) dL_isTraverse_542 kL_17 (by decide) ?_
      refine gw_icmp_ne C (tgt := 551) dL_isTraverse_544 (by decide) ⟨by decide, by decide⟩ ⟨by decide, by decide⟩ (fun h => absurd h (by decide)) (fun _ => ?_)
      refine gw_iconst C dL_isTraverse_547 ?_
      refine gw_goto C (tgt := 552) dL_isTraverse_548 (by decide) ?_
      refine gw_istore C (lo1 := [some (vR 0), some (vR 231), some (vR 232), some (vR 233), some (vR 234), some (vR 235), some (vR 236), some (vR 237), some (vR 238), some (vI (t : Int)), some (vI (-2000000000)), some (vI u), some (vI 1), some (vI 7), some (vI 1), some (vI 0), some (vI (((S (104 + 28 * t)).toNat : Nat) : Int)), some (vI (sJ S ((S (104 + 28 * t)).toNat))), some (vI (-2000000000)), some (vL (-2000000000)), none, some (vL (-2000000000)), none]) dL_isTraverse_552 (by decide) rfl ?_
      refine gw_iload C dL_isTraverse_554 rfl ?_
      refine gw_if_eq C (tgt := 633) dL_isTraverse_556 (by decide) ⟨by decide, by decide⟩ (fun h => absurd h (by decide)) (fun _ => ?_)
      refine gw_aload_n C 0 dL_isTraverse_559 rfl rfl ?_
      refine gw_iload C dL_isTraverse_560 rfl ?_
      refine gw_iconst C dL_isTraverse_562 ?_
      refine gw_callSHm C (as := [vR 0, vI (t : Int), vI 0]) (st := []) (c_L_troubleOf hl0 G I J hCI (t : Int) 0 (by first | omega | assumption | exact hgi _ _) ⟨by decide, by decide⟩) dL_isTraverse_563 kL_223 qL_troubleOf hdL_troubleOf ⟨Nat.le_of_ble_eq_true rfl, Nat.le_of_ble_eq_true rfl⟩ ⟨(show _ ≤ 89 from by omega), (show _ ≤ 534 from by omega)⟩ (Nat.le_of_ble_eq_true rfl) rfl (fun z_563_6 => ?_)
      rw [show cdV (kTrb S (t : Int)) (rTrb S (t : Int).toNat 0) (-2000001) 0 0 = 7 from (w_tb htt).trans ((rTrb_z.2 (by omega)).trans hT)]
      refine gw_iload C dL_isTraverse_566 rfl ?_
      refine gw_if_le C (tgt := 576) dL_isTraverse_568 (by decide) ⟨by decide, by decide⟩ (fun h => absurd h (by decide)) (fun _ => ?_)
      refine gw_iload C dL_isTraverse_571 rfl ?_
      refine gw_goto C (tgt := 578) dL_isTraverse_573 (by decide) ?_
      refine gw_icmp_ne C (tgt := 633) dL_isTraverse_578 (by decide) ⟨by decide, by decide⟩ ⟨by decide, by decide⟩ (fun h => absurd h (by decide)) (fun _ => ?_)
      refine gw_aload_n C 0 dL_isTraverse_581 rfl rfl ?_
      refine gw_iload C dL_isTraverse_582 rfl ?_
      refine gw_iconst C dL_isTraverse_584 ?_
      refine gw_callSHm C (as := [vR 0, vI (t : Int), vI 1]) (st := []) (c_L_troubleOf hl0 G I J hCI (t : Int) 1 (by first | omega | assumption | exact hgi _ _) ⟨by decide, by decide⟩) dL_isTraverse_585 kL_223 qL_troubleOf hdL_troubleOf ⟨Nat.le_of_ble_eq_true rfl, Nat.le_of_ble_eq_true rfl⟩ ⟨(show _ ≤ 89 from by omega), (show _ ≤ 534 from by omega)⟩ (Nat.le_of_ble_eq_true rfl) rfl (fun z_585_6 => ?_)
      rw [show cdV (kTrb S (t : Int)) (rTrb S (t : Int).toNat 1) (-2000001) 0 0 = (sJ S (S (104 + 28 * t)).toNat) from (w_tb htt).trans ((rTrb_7 hT (by decide)).trans (if_pos rfl))]
      refine gw_iload C dL_isTraverse_588 rfl ?_
      refine gw_icmp_ne C (tgt := 633) dL_isTraverse_590 (by decide) (by first | omega | assumption | exact hgi _ _) (by first | omega | assumption | exact hgi _ _) (fun h => absurd h (by exact fun q => q rfl)) (fun _ => ?_)
      refine gw_aload_n C 0 dL_isTraverse_593 rfl rfl ?_
      refine gw_iload C dL_isTraverse_594 rfl ?_
      refine gw_iconst C dL_isTraverse_596 ?_
      refine gw_callSHm C (as := [vR 0, vI (t : Int), vI 2]) (st := []) (c_L_troubleOf hl0 G I J hCI (t : Int) 2 (by first | omega | assumption | exact hgi _ _) ⟨by decide, by decide⟩) dL_isTraverse_597 kL_223 qL_troubleOf hdL_troubleOf ⟨Nat.le_of_ble_eq_true rfl, Nat.le_of_ble_eq_true rfl⟩ ⟨(show _ ≤ 89 from by omega), (show _ ≤ 534 from by omega)⟩ (Nat.le_of_ble_eq_true rfl) rfl (fun z_597_6 => ?_)
      rw [show cdV (kTrb S (t : Int)) (rTrb S (t : Int).toNat 2) (-2000001) 0 0 = (-2000000000) from (w_tb htt).trans ((rTrb_7 hT (by decide)).trans (jlS_n (by omega)))]
      refine gw_iload C dL_isTraverse_600 rfl ?_
      refine gw_icmp_ne C (tgt := 633) dL_isTraverse_602 (by decide) ⟨by decide, by decide⟩ ⟨by decide, by decide⟩ (fun h => absurd h (by decide)) (fun _ => ?_)
      refine gw_aload_n C 0 dL_isTraverse_605 rfl rfl ?_
      refine gw_iload C dL_isTraverse_606 rfl ?_
      refine gw_iconst C dL_isTraverse_608 ?_
      refine gw_callSHm C (as := [vR 0, vI (t : Int), vI 3]) (st := []) (c_L_troubleOf hl0 G I J hCI (t : Int) 3 (by first | omega | assumption | exact hgi _ _) ⟨by decide, by decide⟩) dL_isTraverse_609 kL_223 qL_troubleOf hdL_troubleOf ⟨Nat.le_of_ble_eq_true rfl, Nat.le_of_ble_eq_true rfl⟩ ⟨(show _ ≤ 89 from by omega), (show _ ≤ 534 from by omega)⟩ (Nat.le_of_ble_eq_true rfl) rfl (fun z_609_6 => ?_)
      rw [show cdV (kTrb S (t : Int)) (rTrb S (t : Int).toNat 3) (-2000001) 0 0 = (-2000000000) from (w_tb htt).trans ((rTrb_7 hT (by decide)).trans (jlS_o (by decide)))]
      refine gw_iload C dL_isTraverse_612 rfl ?_
      refine gw_icmp_ne C (tgt := 633) dL_isTraverse_614 (by decide) ⟨by decide, by decide⟩ ⟨by decide, by decide⟩ (fun h => absurd h (by decide)) (fun _ => ?_)
      refine gw_aload_n C 0 dL_isTraverse_617 rfl rfl ?_
      refine gw_iload C dL_isTraverse_618 rfl ?_
      refine gw_iconst C dL_isTraverse_620 ?_
      refine gw_callSHm C (as := [vR 0, vI (t : Int), vI (-1)]) (st := []) (c_L_troubleOf hl0 G I J hCI (t : Int) (-1) (by first | omega | assumption | exact hgi _ _) ⟨by decide, by decide⟩) dL_isTraverse_621 kL_223 qL_troubleOf hdL_troubleOf ⟨Nat.le_of_ble_eq_true rfl, Nat.le_of_ble_eq_true rfl⟩ ⟨(show _ ≤ 89 from by omega), (show _ ≤ 534 from by omega)⟩ (Nat.le_of_ble_eq_true rfl) rfl (fun z_621_6 => ?_)
      rw [show cdV (kTrb S (t : Int)) (rTrb S (t : Int).toNat (-1)) (-2000001) 0 0 = (-2000000000) from (w_tb htt).trans ((rTrb_7 hT (by decide)).trans (jlS_o (by decide)))]
      refine gw_iload C dL_isTraverse_624 rfl ?_
      refine gw_icmp_ne C (tgt := 633) dL_isTraverse_626 (by decide) ⟨by decide, by decide⟩ ⟨by decide, by decide⟩ (fun h => absurd h (by decide)) (fun _ => ?_)
      refine gw_iconst C dL_isTraverse_629 ?_
      refine gw_goto C (tgt := 634) dL_isTraverse_630 (by decide) ?_
      exact gw_zret C (by omega) (by omega) dL_isTraverse_634 (Or.inr rfl) (⟨rfl, rfl, rfl⟩)
    · skip
      refine gw_aload_n C 1 dL_isTraverse_196 rfl rfl ?_
      refine gw_aload_n C 3 dL_isTraverse_197 rfl rfl ?_
      refine gw_aload C dL_isTraverse_198 rfl ?_
      refine gw_aload C dL_isTraverse_200 rfl ?_
      refine gw_iload C dL_isTraverse_202 rfl ?_
      refine gw_callSm C (as := [vR 231, vR 233, vR 234, vR 235, vI (((S (104 + 28 * t)).toNat : Nat) : Int)]) (st := []) (c_L_wires hl0 G I J hR ho ((S (104 + 28 * t)).toNat) (by omega)) dL_isTraverse_204 kL_86 qL_wires hdL_wires ⟨Nat.le_of_ble_eq_true rfl, Nat.le_of_ble_eq_true rfl⟩ ⟨(show _ ≤ 89 from by omega), (show _ ≤ 534 from by omega)⟩ (Nat.le_of_ble_eq_true rfl) rfl (fun z_204_3 => ?_)
      have hr_204_3 := sC_v S ((S (104 + 28 * t)).toNat)
      refine gw_goto C (tgt := 212) dL_isTraverse_207 (by decide) ?_
      refine gw_istore C (lo1 := [some (vR 0), some (vR 231), some (vR 232), some (vR 233), some (vR 234), some (vR 235), some (vR 236), some (vR 237), some (vR 238), some (vI (t : Int)), some (vI (-2000000000)), some (vI u), some (vI 1), some (vI 7), some (vI 1), some (vI 0), some (vI (((S (104 + 28 * t)).toNat : Nat) : Int)), some (vI (sJ S ((S (104 + 28 * t)).toNat))), some (vI (sC S ((S (104 + 28 * t)).toNat))), none, none, none, none]) dL_isTraverse_212 (by decide) rfl ?_
      refine gw_iload C dL_isTraverse_214 rfl ?_
      refine gw_if_eq C (tgt := 397) dL_isTraverse_216 (by decide) ⟨by decide, by decide⟩ (fun h => absurd h (by decide)) (fun _ => ?_)
      refine gw_aload_n C 0 dL_isTraverse_219 rfl rfl ?_
      refine gw_iload C dL_isTraverse_220 rfl ?_
      refine gw_aload C dL_isTraverse_222 rfl ?_
      refine gw_iconst C dL_isTraverse_224 ?_
      refine gw_iload C dL_isTraverse_225 rfl ?_
      refine gw_imul C dL_isTraverse_227 ?_
      refine gw_iconst C dL_isTraverse_228 ?_
      refine gw_iadd C dL_isTraverse_229 ?_
      refine gw_iald C ((4 * t) + 1) dL_isTraverse_230 xs_236 xn_236 (by omega) (by omega) (by decide) (fun hI_230_7 => ?_)
      rw [show (I 236 ((4 * t) + 1)) = (((S (103 + 28 * t)).toNat : Nat) : Int) from by have e9 := lr_h1 (I := I) (t := t) (by omega); rw [hR] at e9; omega] at hI_230_7 ⊢
      refine gw_iconst C dL_isTraverse_231 ?_
      refine gw_callSHm C (as := [vR 0, vI (t : Int), vI (((S (103 + 28 * t)).toNat : Nat) : Int), vI 0]) (st := []) (c_L_legOf hl0 G I J hCI (t : Int) (((S (103 + 28 * t)).toNat : Nat) : Int) 0 (by first | omega | assumption | exact hgi _ _) hI_230_7 ⟨by decide, by decide⟩) dL_isTraverse_232 kL_205 qL_legOf hdL_legOf ⟨Nat.le_of_ble_eq_true rfl, Nat.le_of_ble_eq_true rfl⟩ ⟨(show _ ≤ 89 from by omega), (show _ ≤ 534 from by omega)⟩ (Nat.le_of_ble_eq_true rfl) rfl (fun z_232_7 => ?_)
      rw [show cdV (kLeg S (t : Int) (((S (103 + 28 * t)).toNat : Nat) : Int) 0) (rLeg S (t : Int).toNat (((S (103 + 28 * t)).toNat : Nat) : Int).toNat 0) (-2000001) (-2000002) 0 = (-2000001) from w_lg1 (by rw [show ((t : Nat) : Int).toNat = t from rfl]; omega)]
      refine gw_ldc C (x := (-2000001)) dL_isTraverse_235 kL_29 (by decide) ?_
      refine gw_icmp_ne C (tgt := 397) dL_isTraverse_237 (by decide) ⟨by decide, by decide⟩ ⟨by decide, by decide⟩ (fun h => absurd h (by decide)) (fun _ => ?_)
      refine gw_aload_n C 0 dL_isTraverse_240 rfl rfl ?_
      refine gw_iload C dL_isTraverse_241 rfl ?_
      refine gw_iconst C dL_isTraverse_243 ?_
      refine gw_callSHm C (as := [vR 0, vI (t : Int), vI 0]) (st := []) (c_L_traverseOf hl0 G I J hCI (t : Int) 0 (by first | omega | assumption | exact hgi _ _) ⟨by decide, by decide⟩) dL_isTraverse_244 kL_216 qL_traverseOf hdL_traverseOf ⟨Nat.le_of_ble_eq_true rfl, Nat.le_of_ble_eq_true rfl⟩ ⟨(show _ ≤ 89 from by omega), (show _ ≤ 534 from by omega)⟩ (Nat.le_of_ble_eq_true rfl) rfl (fun z_244_7 => ?_)
      rw [show cdV (kTrav S (t : Int) 0) (rTrav S (t : Int).toNat 0) (-2000001) (-2000002) 0 = (((S (102 + 28 * t)).toNat : Nat) : Int) from (w_tr htt (by decide)).trans (by show S (102 + 28 * t) = _; omega)]
      refine gw_aload C dL_isTraverse_247 rfl ?_
      refine gw_iconst C dL_isTraverse_249 ?_
      refine gw_iload C dL_isTraverse_250 rfl ?_
      refine gw_imul C dL_isTraverse_252 ?_
      refine gw_iald C (4 * t) dL_isTraverse_253 xs_236 xn_236 (by omega) (by omega) (by decide) (fun hI_253_7 => ?_)
      rw [show (I 236 (4 * t)) = (((S (102 + 28 * t)).toNat : Nat) : Int) from by have e9 := lr_h0 (I := I) (t := t) (by omega); rw [hR] at e9; omega] at hI_253_7 ⊢
      refine gw_icmp_ne C (tgt := 397) dL_isTraverse_254 (by decide) (by first | omega | assumption | exact hgi _ _) hI_253_7 (fun h => absurd h (by exact fun q => q rfl)) (fun _ => ?_)
      refine gw_aload_n C 0 dL_isTraverse_257 rfl rfl ?_
      refine gw_iload C dL_isTraverse_258 rfl ?_
      refine gw_iconst C dL_isTraverse_260 ?_
      refine gw_callSHm C (as := [vR 0, vI (t : Int), vI 1]) (st := []) (c_L_traverseOf hl0 G I J hCI (t : Int) 1 (by first | omega | assumption | exact hgi _ _) ⟨by decide, by decide⟩) dL_isTraverse_261 kL_216 qL_traverseOf hdL_traverseOf ⟨Nat.le_of_ble_eq_true rfl, Nat.le_of_ble_eq_true rfl⟩ ⟨(show _ ≤ 89 from by omega), (show _ ≤ 534 from by omega)⟩ (Nat.le_of_ble_eq_true rfl) rfl (fun z_261_7 => ?_)
      rw [show cdV (kTrav S (t : Int) 1) (rTrav S (t : Int).toNat 1) (-2000001) (-2000002) 0 = (((S (103 + 28 * t)).toNat : Nat) : Int) from (w_tr htt (by decide)).trans (by show S (103 + 28 * t) = _; omega)]
      refine gw_aload C dL_isTraverse_264 rfl ?_
      refine gw_iconst C dL_isTraverse_266 ?_
      refine gw_iload C dL_isTraverse_267 rfl ?_
      refine gw_imul C dL_isTraverse_269 ?_
      refine gw_iconst C dL_isTraverse_270 ?_
      refine gw_iadd C dL_isTraverse_271 ?_
      refine gw_iald C ((4 * t) + 1) dL_isTraverse_272 xs_236 xn_236 (by omega) (by omega) (by decide) (fun hI_272_7 => ?_)
      rw [show (I 236 ((4 * t) + 1)) = (((S (103 + 28 * t)).toNat : Nat) : Int) from by have e9 := lr_h1 (I := I) (t := t) (by omega); rw [hR] at e9; omega] at hI_272_7 ⊢
      refine gw_icmp_ne C (tgt := 397) dL_isTraverse_273 (by decide) (by first | omega | assumption | exact hgi _ _) hI_272_7 (fun h => absurd h (by exact fun q => q rfl)) (fun _ => ?_)
      refine gw_aload_n C 0 dL_isTraverse_276 rfl rfl ?_
      refine gw_iload C dL_isTraverse_277 rfl ?_
      refine gw_iconst C dL_isTraverse_279 ?_
      refine gw_callSHm C (as := [vR 0, vI (t : Int), vI 2]) (st := []) (c_L_traverseOf hl0 G I J hCI (t : Int) 2 (by first | omega | assumption | exact hgi _ _) ⟨by decide, by decide⟩) dL_isTraverse_280 kL_216 qL_traverseOf hdL_traverseOf ⟨Nat.le_of_ble_eq_true rfl, Nat.le_of_ble_eq_true rfl⟩ ⟨(show _ ≤ 89 from by omega), (show _ ≤ 534 from by omega)⟩ (Nat.le_of_ble_eq_true rfl) rfl (fun z_280_7 => ?_)
      rw [show cdV (kTrav S (t : Int) 2) (rTrav S (t : Int).toNat 2) (-2000001) (-2000002) 0 = (S (104 + 28 * t)) from (w_tr htt (by decide)).trans (rTr_2.1 hcl).1]
      refine gw_iload C dL_isTraverse_283 rfl ?_
      refine gw_if_eq C (tgt := 300) dL_isTraverse_285 (by decide) ⟨by decide, by decide⟩ (fun h => absurd h (by decide)) (fun _ => ?_)
      refine gw_aload C dL_isTraverse_288 rfl ?_
      refine gw_iconst C dL_isTraverse_290 ?_
      refine gw_iload C dL_isTraverse_291 rfl ?_
      refine gw_imul C dL_isTraverse_293 ?_
      refine gw_iconst C dL_isTraverse_294 ?_
      refine gw_iadd C dL_isTraverse_295 ?_
      refine gw_iald C ((4 * t) + 2) dL_isTraverse_296 xs_236 xn_236 (by omega) (by omega) (by decide) (fun hI_296_4 => ?_)
      rw [show (I 236 ((4 * t) + 2)) = (S (104 + 28 * t)) from by have e9 := lr_h2 (I := I) (t := t) (by omega); rw [hR] at e9; exact e9] at hI_296_4 ⊢
      refine gw_goto C (tgt := 302) dL_isTraverse_297 (by decide) ?_
      refine gw_icmp_ne C (tgt := 397) dL_isTraverse_302 (by decide) (by first | omega | assumption | exact hgi _ _) hI_296_4 (fun h => absurd h (by exact fun q => q rfl)) (fun _ => ?_)
      refine gw_aload_n C 0 dL_isTraverse_305 rfl rfl ?_
      refine gw_iload C dL_isTraverse_306 rfl ?_
      refine gw_iconst C dL_isTraverse_308 ?_
      refine gw_callSHm C (as := [vR 0, vI (t : Int), vI 3]) (st := []) (c_L_traverseOf hl0 G I J hCI (t : Int) 3 (by first | omega | assumption | exact hgi _ _) ⟨by decide, by decide⟩) dL_isTraverse_309 kL_216 qL_traverseOf hdL_traverseOf ⟨Nat.le_of_ble_eq_true rfl, Nat.le_of_ble_eq_true rfl⟩ ⟨(show _ ≤ 89 from by omega), (show _ ≤ 534 from by omega)⟩ (Nat.le_of_ble_eq_true rfl) rfl (fun z_309_7 => ?_)
      rw [show cdV (kTrav S (t : Int) 3) (rTrav S (t : Int).toNat 3) (-2000001) (-2000002) 0 = (S (105 + 28 * t)) from (w_tr htt (by decide)).trans (rTr_2.1 hcl).2]
      refine gw_iload C dL_isTraverse_312 rfl ?_
      refine gw_if_eq C (tgt := 329) dL_isTraverse_314 (by decide) ⟨by decide, by decide⟩ (fun h => absurd h (by decide)) (fun _ => ?_)
      refine gw_aload C dL_isTraverse_317 rfl ?_
      refine gw_iconst C dL_isTraverse_319 ?_
      refine gw_iload C dL_isTraverse_320 rfl ?_
      refine gw_imul C dL_isTraverse_322 ?_
      refine gw_iconst C dL_isTraverse_323 ?_
      refine gw_iadd C dL_isTraverse_324 ?_
      refine gw_iald C ((4 * t) + 3) dL_isTraverse_325 xs_236 xn_236 (by omega) (by omega) (by decide) (fun hI_325_4 => ?_)
      rw [show (I 236 ((4 * t) + 3)) = (S (105 + 28 * t)) from by have e9 := lr_h3 (I := I) (t := t) (by omega); rw [hR] at e9; exact e9] at hI_325_4 ⊢
      refine gw_goto C (tgt := 331) dL_isTraverse_326 (by decide) ?_
      refine gw_icmp_ne C (tgt := 397) dL_isTraverse_331 (by decide) (by first | omega | assumption | exact hgi _ _) hI_325_4 (fun h => absurd h (by exact fun q => q rfl)) (fun _ => ?_)
      refine gw_aload_n C 0 dL_isTraverse_334 rfl rfl ?_
      refine gw_iload C dL_isTraverse_335 rfl ?_
      refine gw_iconst C dL_isTraverse_337 ?_
      refine gw_callSHm C (as := [vR 0, vI (t : Int), vI 4]) (st := []) (c_L_traverseOf hl0 G I J hCI (t : Int) 4 (by first | omega | assumption | exact hgi _ _) ⟨by decide, by decide⟩) dL_isTraverse_338 kL_216 qL_traverseOf hdL_traverseOf ⟨Nat.le_of_ble_eq_true rfl, Nat.le_of_ble_eq_true rfl⟩ ⟨(show _ ≤ 89 from by omega), (show _ ≤ 534 from by omega)⟩ (Nat.le_of_ble_eq_true rfl) rfl (fun z_338_7 => ?_)
      rw [show cdV (kTrav S (t : Int) 4) (rTrav S (t : Int).toNat 4) (-2000001) (-2000002) 0 = 7 from (w_tr htt (by decide)).trans hT]
      refine gw_iload C dL_isTraverse_341 rfl ?_
      refine gw_icmp_ne C (tgt := 397) dL_isTraverse_343 (by decide) ⟨by decide, by decide⟩ ⟨by decide, by decide⟩ (fun h => absurd h (by decide)) (fun _ => ?_)
      refine gw_aload_n C 0 dL_isTraverse_346 rfl rfl ?_
      refine gw_iload C dL_isTraverse_347 rfl ?_
      refine gw_iconst C dL_isTraverse_349 ?_
      refine gw_callSHm C (as := [vR 0, vI (t : Int), vI 5]) (st := []) (c_L_traverseOf hl0 G I J hCI (t : Int) 5 (by first | omega | assumption | exact hgi _ _) ⟨by decide, by decide⟩) dL_isTraverse_350 kL_216 qL_traverseOf hdL_traverseOf ⟨Nat.le_of_ble_eq_true rfl, Nat.le_of_ble_eq_true rfl⟩ ⟨(show _ ≤ 89 from by omega), (show _ ≤ 534 from by omega)⟩ (Nat.le_of_ble_eq_true rfl) rfl (fun z_350_7 => ?_)
      rw [show cdV (kTrav S (t : Int) 5) (rTrav S (t : Int).toNat 5) (-2000001) (-2000002) 0 = (-2000000000) from (w_tr htt (by decide)).trans (rTr_n hwh (by decide))]
      refine gw_iload C dL_isTraverse_353 rfl ?_
      refine gw_if_eq C (tgt := 375) dL_isTraverse_355 (by decide) ⟨by decide, by decide⟩ (fun _ => ?_) (fun h => absurd h (by decide))
      refine gw_iload C dL_isTraverse_375 rfl ?_
      refine gw_icmp_ne C (tgt := 397) dL_isTraverse_377 (by decide) ⟨by decide, by decide⟩ ⟨by decide, by decide⟩ (fun h => absurd h (by decide)) (fun _ => ?_)
      refine gw_aload_n C 0 dL_isTraverse_380 rfl rfl ?_
      refine gw_iload C dL_isTraverse_381 rfl ?_
      refine gw_bipush C dL_isTraverse_383 rfl ?_
      refine gw_callSHm C (as := [vR 0, vI (t : Int), vI 6]) (st := []) (c_L_traverseOf hl0 G I J hCI (t : Int) 6 (by first | omega | assumption | exact hgi _ _) ⟨by decide, by decide⟩) dL_isTraverse_385 kL_216 qL_traverseOf hdL_traverseOf ⟨Nat.le_of_ble_eq_true rfl, Nat.le_of_ble_eq_true rfl⟩ ⟨(show _ ≤ 89 from by omega), (show _ ≤ 534 from by omega)⟩ (Nat.le_of_ble_eq_true rfl) rfl (fun z_385_7 => ?_)
      rw [show cdV (kTrav S (t : Int) 6) (rTrav S (t : Int).toNat 6) (-2000001) (-2000002) 0 = u from (w_tr htt (by decide)).trans (by show smF (S (103 + 28 * t)).toNat (sLe S t) = u; rw [hu, show (S (103 + 28 * t)).toNat = k by omega])]
      refine gw_iload C dL_isTraverse_388 rfl ?_
      refine gw_icmp_ne C (tgt := 397) dL_isTraverse_390 (by decide) (by first | omega | assumption | exact hgi _ _) (by first | omega | assumption | exact hgi _ _) (fun h => absurd h (by exact fun q => q rfl)) (fun _ => ?_)
      refine gw_iconst C dL_isTraverse_393 ?_
      refine gw_goto C (tgt := 398) dL_isTraverse_394 (by decide) ?_
      refine gw_istore C (lo1 := [some (vR 0), some (vR 231), some (vR 232), some (vR 233), some (vR 234), some (vR 235), some (vR 236), some (vR 237), some (vR 238), some (vI (t : Int)), some (vI (-2000000000)), some (vI u), some (vI 1), some (vI 7), some (vI 1), some (vI 0), some (vI (((S (104 + 28 * t)).toNat : Nat) : Int)), some (vI (sJ S ((S (104 + 28 * t)).toNat))), some (vI (sC S ((S (104 + 28 * t)).toNat))), none, none, none, none]) dL_isTraverse_398 (by decide) rfl ?_
      refine gw_iload C dL_isTraverse_400 rfl ?_
      refine gw_if_eq C (tgt := 427) dL_isTraverse_402 (by decide) ⟨by decide, by decide⟩ (fun _ => ?_) (fun h => absurd h (by decide))
      refine gw_iload C dL_isTraverse_427 rfl ?_
      refine gw_i2l C dL_isTraverse_429 ⟨by decide, by decide⟩ ?_
      refine gw_lstore C (lo1 := [some (vR 0), some (vR 231), some (vR 232), some (vR 233), some (vR 234), some (vR 235), some (vR 236), some (vR 237), some (vR 238), some (vI (t : Int)), some (vI (-2000000000)), some (vI u), some (vI 1), some (vI 7), some (vI 1), some (vI 0), some (vI (((S (104 + 28 * t)).toNat : Nat) : Int)), some (vI (sJ S ((S (104 + 28 * t)).toNat))), some (vI (sC S ((S (104 + 28 * t)).toNat))), some (vL (-2000000000)), none, none, none]) dL_isTraverse_430 (by decide) rfl ?_
      refine gw_iload C dL_isTraverse_432 rfl ?_
      refine gw_if_eq C (tgt := 459) dL_isTraverse_434 (by decide) ⟨by decide, by decide⟩ (fun _ => ?_) (fun h => absurd h (by decide))
      refine gw_iload C dL_isTraverse_459 rfl ?_
      refine gw_i2l C dL_isTraverse_461 ⟨by decide, by decide⟩ ?_
      refine gw_lstore C (lo1 := [some (vR 0), some (vR 231), some (vR 232), some (vR 233), some (vR 234), some (vR 235), some (vR 236), some (vR 237), some (vR 238), some (vI (t : Int)), some (vI (-2000000000)), some (vI u), some (vI 1), some (vI 7), some (vI 1), some (vI 0), some (vI (((S (104 + 28 * t)).toNat : Nat) : Int)), some (vI (sJ S ((S (104 + 28 * t)).toNat))), some (vI (sC S ((S (104 + 28 * t)).toNat))), some (vL (-2000000000)), none, some (vL (-2000000000)), none]) dL_isTraverse_462 (by decide) rfl ?_
      refine gw_iload C dL_isTraverse_464 rfl ?_
      refine gw_if_eq C (tgt := 551) dL_isTraverse_466 (by decide) ⟨by decide, by decide⟩ (fun h => absurd h (by decide)) (fun _ => ?_)
      refine gw_aload_n C 0 dL_isTraverse_469 rfl rfl ?_
      refine gw_iload C dL_isTraverse_470 rfl ?_
      refine gw_bipush C dL_isTraverse_472 rfl ?_
      refine gw_callSHm C (as := [vR 0, vI (t : Int), vI 7]) (st := []) (c_L_traverseOf hl0 G I J hCI (t : Int) 7 (by first | omega | assumption | exact hgi _ _) ⟨by decide, by decide⟩) dL_isTraverse_474 kL_216 qL_traverseOf hdL_traverseOf ⟨Nat.le_of_ble_eq_true rfl, Nat.le_of_ble_eq_true rfl⟩ ⟨(show _ ≤ 89 from by omega), (show _ ≤ 534 from by omega)⟩ (Nat.le_of_ble_eq_true rfl) rfl (fun z_474_7 => ?_)
      rw [show cdV (kTrav S (t : Int) 7) (rTrav S (t : Int).toNat 7) (-2000001) (-2000002) 0 = (-2000000000) from (w_tr htt (by decide)).trans (rTr_n hwh (by decide))]
      refine gw_i2l C dL_isTraverse_477 ⟨by decide, by decide⟩ ?_
      refine gw_lload C dL_isTraverse_478 rfl ?_
      refine gw_lcmpE C dL_isTraverse_480 (by rfl) ?_
      refine gw_if_ne C (tgt := 551) dL_isTraverse_481 (by decide) ⟨by decide, by decide⟩ (fun h => absurd h (by decide)) (fun _ => ?_)
      refine gw_aload_n C 0 dL_isTraverse_484 rfl rfl ?_
      refine gw_iload C dL_isTraverse_485 rfl ?_
      refine gw_bipush C dL_isTraverse_487 rfl ?_
      refine gw_callSHm C (as := [vR 0, vI (t : Int), vI 8]) (st := []) (c_L_traverseOf hl0 G I J hCI (t : Int) 8 (by first | omega | assumption | exact hgi _ _) ⟨by decide, by decide⟩) dL_isTraverse_489 kL_216 qL_traverseOf hdL_traverseOf ⟨Nat.le_of_ble_eq_true rfl, Nat.le_of_ble_eq_true rfl⟩ ⟨(show _ ≤ 89 from by omega), (show _ ≤ 534 from by omega)⟩ (Nat.le_of_ble_eq_true rfl) rfl (fun z_489_7 => ?_)
      rw [show cdV (kTrav S (t : Int) 8) (rTrav S (t : Int).toNat 8) (-2000001) (-2000002) 0 = (-2000000000) from (w_tr htt (by decide)).trans (rTr_n hwh (by decide))]
      refine gw_i2l C dL_isTraverse_492 ⟨by decide, by decide⟩ ?_
      refine gw_lload C dL_isTraverse_493 rfl ?_
      refine gw_lcmpE C dL_isTraverse_495 (by rfl) ?_
      refine gw_if_ne C (tgt := 551) dL_isTraverse_496 (by decide) ⟨by decide, by decide⟩ (fun h => absurd h (by decide)) (fun _ => ?_)
      refine gw_aload_n C 0 dL_isTraverse_499 rfl rfl ?_
      refine gw_iload C dL_isTraverse_500 rfl ?_
      refine gw_bipush C dL_isTraverse_502 rfl ?_
      refine gw_callSHm C (as := [vR 0, vI (t : Int), vI 9]) (st := []) (c_L_traverseOf hl0 G I J hCI (t : Int) 9 (by first | omega | assumption | exact hgi _ _) ⟨by decide, by decide⟩) dL_isTraverse_504 kL_216 qL_traverseOf hdL_traverseOf ⟨Nat.le_of_ble_eq_true rfl, Nat.le_of_ble_eq_true rfl⟩ ⟨(show _ ≤ 89 from by omega), (show _ ≤ 534 from by omega)⟩ (Nat.le_of_ble_eq_true rfl) rfl (fun z_504_7 => ?_)
      rw [show cdV (kTrav S (t : Int) 9) (rTrav S (t : Int).toNat 9) (-2000001) (-2000002) 0 = (-2000000000) from (w_tr htt (by decide)).trans (rTr_n hwh (by decide))]
      refine gw_iload C dL_isTraverse_507 rfl ?_
      refine gw_if_eq C (tgt := 529) dL_isTraverse_509 (by decide) ⟨by decide, by decide⟩ (fun _ => ?_) (fun h => absurd h (by decide))
      refine gw_iload C dL_isTraverse_529 rfl ?_
      refine gw_icmp_ne C (tgt := 551) dL_isTraverse_531 (by decide) ⟨by decide, by decide⟩ ⟨by decide, by decide⟩ (fun h => absurd h (by decide)) (fun _ => ?_)
      refine gw_aload_n C 0 dL_isTraverse_534 rfl rfl ?_
      refine gw_iload C dL_isTraverse_535 rfl ?_
      refine gw_bipush C dL_isTraverse_537 rfl ?_
      refine gw_callSHm C (as := [vR 0, vI (t : Int), vI 10]) (st := []) (c_L_traverseOf hl0 G I J hCI (t : Int) 10 (by first | omega | assumption | exact hgi _ _) ⟨by decide, by decide⟩) dL_isTraverse_539 kL_216 qL_traverseOf hdL_traverseOf ⟨Nat.le_of_ble_eq_true rfl, Nat.le_of_ble_eq_true rfl⟩ ⟨(show _ ≤ 89 from by omega), (show _ ≤ 534 from by omega)⟩ (Nat.le_of_ble_eq_true rfl) rfl (fun z_539_7 => ?_)
      rw [show cdV (kTrav S (t : Int) 10) (rTrav S (t : Int).toNat 10) (-2000001) (-2000002) 0 = (-2000002) from w_tr2 htt rfl]
      refine gw_ldc C (x := (-2000002)) dL_isTraverse_542 kL_17 (by decide) ?_
      refine gw_icmp_ne C (tgt := 551) dL_isTraverse_544 (by decide) ⟨by decide, by decide⟩ ⟨by decide, by decide⟩ (fun h => absurd h (by decide)) (fun _ => ?_)
      refine gw_iconst C dL_isTraverse_547 ?_
      refine gw_goto C (tgt := 552) dL_isTraverse_548 (by decide) ?_
      refine gw_istore C (lo1 := [some (vR 0), some (vR 231), some (vR 232), some (vR 233), some (vR 234), some (vR 235), some (vR 236), some (vR 237), some (vR 238), some (vI (t : Int)), some (vI (-2000000000)), some (vI u), some (vI 1), some (vI 7), some (vI 1), some (vI 0), some (vI (((S (104 + 28 * t)).toNat : Nat) : Int)), some (vI (sJ S ((S (104 + 28 * t)).toNat))), some (vI (sC S ((S (104 + 28 * t)).toNat))), some (vL (-2000000000)), none, some (vL (-2000000000)), none]) dL_isTraverse_552 (by decide) rfl ?_
      refine gw_iload C dL_isTraverse_554 rfl ?_
      refine gw_if_eq C (tgt := 633) dL_isTraverse_556 (by decide) ⟨by decide, by decide⟩ (fun h => absurd h (by decide)) (fun _ => ?_)
      refine gw_aload_n C 0 dL_isTraverse_559 rfl rfl ?_
      refine gw_iload C dL_isTraverse_560 rfl ?_
      refine gw_iconst C dL_isTraverse_562 ?_
      refine gw_callSHm C (as := [vR 0, vI (t : Int), vI 0]) (st := []) (c_L_troubleOf hl0 G I J hCI (t : Int) 0 (by first | omega | assumption | exact hgi _ _) ⟨by decide, by decide⟩) dL_isTraverse_563 kL_223 qL_troubleOf hdL_troubleOf ⟨Nat.le_of_ble_eq_true rfl, Nat.le_of_ble_eq_true rfl⟩ ⟨(show _ ≤ 89 from by omega), (show _ ≤ 534 from by omega)⟩ (Nat.le_of_ble_eq_true rfl) rfl (fun z_563_7 => ?_)
      rw [show cdV (kTrb S (t : Int)) (rTrb S (t : Int).toNat 0) (-2000001) 0 0 = 7 from (w_tb htt).trans ((rTrb_z.2 (by omega)).trans hT)]
      refine gw_iload C dL_isTraverse_566 rfl ?_
      refine gw_if_le C (tgt := 576) dL_isTraverse_568 (by decide) ⟨by decide, by decide⟩ (fun h => absurd h (by decide)) (fun _ => ?_)
      refine gw_iload C dL_isTraverse_571 rfl ?_
      refine gw_goto C (tgt := 578) dL_isTraverse_573 (by decide) ?_
      refine gw_icmp_ne C (tgt := 633) dL_isTraverse_578 (by decide) ⟨by decide, by decide⟩ ⟨by decide, by decide⟩ (fun h => absurd h (by decide)) (fun _ => ?_)
      refine gw_aload_n C 0 dL_isTraverse_581 rfl rfl ?_
      refine gw_iload C dL_isTraverse_582 rfl ?_
      refine gw_iconst C dL_isTraverse_584 ?_
      refine gw_callSHm C (as := [vR 0, vI (t : Int), vI 1]) (st := []) (c_L_troubleOf hl0 G I J hCI (t : Int) 1 (by first | omega | assumption | exact hgi _ _) ⟨by decide, by decide⟩) dL_isTraverse_585 kL_223 qL_troubleOf hdL_troubleOf ⟨Nat.le_of_ble_eq_true rfl, Nat.le_of_ble_eq_true rfl⟩ ⟨(show _ ≤ 89 from by omega), (show _ ≤ 534 from by omega)⟩ (Nat.le_of_ble_eq_true rfl) rfl (fun z_585_7 => ?_)
      rw [show cdV (kTrb S (t : Int)) (rTrb S (t : Int).toNat 1) (-2000001) 0 0 = (sJ S (S (104 + 28 * t)).toNat) from (w_tb htt).trans ((rTrb_7 hT (by decide)).trans (if_pos rfl))]
      refine gw_iload C dL_isTraverse_588 rfl ?_
      refine gw_icmp_ne C (tgt := 633) dL_isTraverse_590 (by decide) (by first | omega | assumption | exact hgi _ _) (by first | omega | assumption | exact hgi _ _) (fun h => absurd h (by exact fun q => q rfl)) (fun _ => ?_)
      refine gw_aload_n C 0 dL_isTraverse_593 rfl rfl ?_
      refine gw_iload C dL_isTraverse_594 rfl ?_
      refine gw_iconst C dL_isTraverse_596 ?_
      refine gw_callSHm C (as := [vR 0, vI (t : Int), vI 2]) (st := []) (c_L_troubleOf hl0 G I J hCI (t : Int) 2 (by first | omega | assumption | exact hgi _ _) ⟨by decide, by decide⟩) dL_isTraverse_597 kL_223 qL_troubleOf hdL_troubleOf ⟨Nat.le_of_ble_eq_true rfl, Nat.le_of_ble_eq_true rfl⟩ ⟨(show _ ≤ 89 from by omega), (show _ ≤ 534 from by omega)⟩ (Nat.le_of_ble_eq_true rfl) rfl (fun z_597_7 => ?_)
      rw [show cdV (kTrb S (t : Int)) (rTrb S (t : Int).toNat 2) (-2000001) 0 0 = (sC S (S (104 + 28 * t)).toNat) from (w_tb htt).trans ((rTrb_7 hT (by decide)).trans (jlS_2 (by omega)))]
      refine gw_iload C dL_isTraverse_600 rfl ?_
      refine gw_icmp_ne C (tgt := 633) dL_isTraverse_602 (by decide) (by first | omega | assumption | exact hgi _ _) (by first | omega | assumption | exact hgi _ _) (fun h => absurd h (by exact fun q => q rfl)) (fun _ => ?_)
      refine gw_aload_n C 0 dL_isTraverse_605 rfl rfl ?_
      refine gw_iload C dL_isTraverse_606 rfl ?_
      refine gw_iconst C dL_isTraverse_608 ?_
      refine gw_callSHm C (as := [vR 0, vI (t : Int), vI 3]) (st := []) (c_L_troubleOf hl0 G I J hCI (t : Int) 3 (by first | omega | assumption | exact hgi _ _) ⟨by decide, by decide⟩) dL_isTraverse_609 kL_223 qL_troubleOf hdL_troubleOf ⟨Nat.le_of_ble_eq_true rfl, Nat.le_of_ble_eq_true rfl⟩ ⟨(show _ ≤ 89 from by omega), (show _ ≤ 534 from by omega)⟩ (Nat.le_of_ble_eq_true rfl) rfl (fun z_609_7 => ?_)
      rw [show cdV (kTrb S (t : Int)) (rTrb S (t : Int).toNat 3) (-2000001) 0 0 = (-2000000000) from (w_tb htt).trans ((rTrb_7 hT (by decide)).trans (jlS_o (by decide)))]
      refine gw_iload C dL_isTraverse_612 rfl ?_
      refine gw_icmp_ne C (tgt := 633) dL_isTraverse_614 (by decide) ⟨by decide, by decide⟩ ⟨by decide, by decide⟩ (fun h => absurd h (by decide)) (fun _ => ?_)
      refine gw_aload_n C 0 dL_isTraverse_617 rfl rfl ?_
      refine gw_iload C dL_isTraverse_618 rfl ?_
      refine gw_iconst C dL_isTraverse_620 ?_
      refine gw_callSHm C (as := [vR 0, vI (t : Int), vI (-1)]) (st := []) (c_L_troubleOf hl0 G I J hCI (t : Int) (-1) (by first | omega | assumption | exact hgi _ _) ⟨by decide, by decide⟩) dL_isTraverse_621 kL_223 qL_troubleOf hdL_troubleOf ⟨Nat.le_of_ble_eq_true rfl, Nat.le_of_ble_eq_true rfl⟩ ⟨(show _ ≤ 89 from by omega), (show _ ≤ 534 from by omega)⟩ (Nat.le_of_ble_eq_true rfl) rfl (fun z_621_7 => ?_)
      rw [show cdV (kTrb S (t : Int)) (rTrb S (t : Int).toNat (-1)) (-2000001) 0 0 = (-2000000000) from (w_tb htt).trans ((rTrb_7 hT (by decide)).trans (jlS_o (by decide)))]
      refine gw_iload C dL_isTraverse_624 rfl ?_
      refine gw_icmp_ne C (tgt := 633) dL_isTraverse_626 (by decide) ⟨by decide, by decide⟩ ⟨by decide, by decide⟩ (fun h => absurd h (by decide)) (fun _ => ?_)
      refine gw_iconst C dL_isTraverse_629 ?_
      refine gw_goto C (tgt := 634) dL_isTraverse_630 (by decide) ?_
      exact gw_zret C (by omega) (by omega) dL_isTraverse_634 (Or.inr rfl) (⟨rfl, rfl, rfl⟩)
